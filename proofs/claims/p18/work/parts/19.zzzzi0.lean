section
def vbo (k : Nat) : Int := if k = 3 ∨ k = 4 ∨ k = 5 ∨ k = 6 then 1320 else if k = 7 ∨ k = 8 then 5280 else if k = 9 then 6 else 0
def vb (τ : MS) : MS := (τ.1, fun k j => if k = 14 then 1 else if k = 15 then j / 12 else if k = 16 then -1 else if k = 17 then 0 else if k = 18 then j % 144 else τ.2.1 k (vbo k + j), τ.2.2)
def bk2 (m : Int) (τ : MS) : MS := if m = 2 then vb τ else τ
def vmo (m : Int) (k : Nat) : Int := if k = 73 ∨ k = 75 ∨ k = 76 then m else if k = 77 then 200 * m else if k = 78 ∨ k = 79 ∨ k = 80 then 9 * m else if k = 81 then 108 * m else if k = 82 then 1728 * m else 0
def vm (m g : Int) (τ : MS) : MS := (fun n => if n = 67 then 1 else if n = 68 ∨ n = 69 then 0 else if n = 70 then g else τ.1 n, fun k j => τ.2.1 k (vmo m k + j), τ.2.2)
def vwm (m g : Int) (τ : MS) : MS := vm m g (bk2 m τ)
section VWS
variable {τ τ2 : MS} {m g t x c j v w u n r q f : Int} {k : Nat}
theorem vmo_0 (h : k ∉ GWK) : vmo m k = 0 := by
  simp only [List.mem_cons, List.not_mem_nil, or_false, not_or] at h
  unfold vmo
  rw [if_neg (by omega), if_neg (by omega), if_neg (by omega), if_neg (by omega), if_neg (by omega)]
theorem vbo_0 (h : 10 ≤ k ∨ k ≤ 2) : vbo k = 0 := by
  unfold vbo
  rw [if_neg (by omega), if_neg (by omega), if_neg (by omega)]
theorem vb_o (h : (10 ≤ k ∧ k ≤ 13) ∨ 19 ≤ k ∨ k ≤ 2) : (vb τ).2.1 k = τ.2.1 k := by
  funext j
  show (if k = 14 then (1 : Int) else if k = 15 then j / 12 else if k = 16 then -1 else if k = 17 then 0 else if k = 18 then j % 144 else τ.2.1 k (vbo k + j)) = _
  rw [if_neg (by omega), if_neg (by omega), if_neg (by omega), if_neg (by omega), if_neg (by omega), vbo_0 (by omega), Int.zero_add]
theorem vb_i (h : 3 ≤ k ∧ k ≤ 9) : (vb τ).2.1 k j = τ.2.1 k (vbo k + j) := by
  show (if k = 14 then (1 : Int) else if k = 15 then j / 12 else if k = 16 then -1 else if k = 17 then 0 else if k = 18 then j % 144 else τ.2.1 k (vbo k + j)) = _
  rw [if_neg (by omega), if_neg (by omega), if_neg (by omega), if_neg (by omega), if_neg (by omega)]
theorem vb_14 : (vb τ).2.1 14 j = 1 := rfl
theorem vb_15 : (vb τ).2.1 15 j = j / 12 := rfl
theorem vb_16 : (vb τ).2.1 16 j = -1 := rfl
theorem vb_17 : (vb τ).2.1 17 j = 0 := rfl
theorem vb_18 : (vb τ).2.1 18 j = j % 144 := rfl
theorem bk_o (h : (10 ≤ k ∧ k ≤ 13) ∨ 19 ≤ k ∨ k ≤ 2) : (bk2 m τ).2.1 k = τ.2.1 k := by
  unfold bk2
  by_cases e : m = 2
  · rw [if_pos e]; exact vb_o h
  · rw [if_neg e]
theorem bk_s : (bk2 m τ).1 = τ.1 := by
  unfold bk2
  by_cases e : m = 2
  · rw [if_pos e]; rfl
  · rw [if_neg e]
theorem vw_m : (vwm m g τ).2.1 k j = (bk2 m τ).2.1 k (vmo m k + j) := rfl
theorem vw_g (h : k ∈ GWK) : (vwm m g τ).2.1 k j = τ.2.1 k (vmo m k + j) := by
  rw [vw_m, bk_o (Or.inr (Or.inl (by simp only [List.mem_cons, List.not_mem_nil, or_false] at h; omega)))]
theorem vw_k (h : k ∉ GWK) : (vwm m g τ).2.1 k = (bk2 m τ).2.1 k := by
  funext j
  rw [vw_m, vmo_0 h, Int.zero_add]
theorem vwm_fr : Fr [67, 68, 69, 70] GWK [] (bk2 m τ) (vwm m g τ) := by
  refine ⟨fun n h => ?_, fun k h => vw_k h, fun _ _ => rfl⟩
  simp only [List.mem_cons, List.not_mem_nil, or_false, not_or] at h
  show (if n = 67 then (1 : Int) else if n = 68 ∨ n = 69 then 0 else if n = 70 then g else (bk2 m τ).1 n) = _
  rw [if_neg (by omega), if_neg (by omega), if_neg (by omega)]
theorem vw_67 : (vwm m g τ).1 67 = 1 ∧ (vwm m g τ).1 68 = 0 ∧ (vwm m g τ).1 69 = 0 ∧ (vwm m g τ).1 70 = g := ⟨rfl, rfl, rfl, rfl⟩
theorem vw_10 : (vwm m g τ).1 10 = τ.1 10 := by
  rw [vwm_fr.1 10 (by decide), bk_s]
theorem vw_73 : (vwm m g τ).2.1 73 0 = τ.2.1 73 m := by
  rw [vw_g (by decide)]
  show τ.2.1 73 (m + 0) = _
  rw [Int.add_zero]
theorem vw_75 : (vwm m g τ).2.1 75 0 = τ.2.1 75 m := by
  rw [vw_g (by decide)]
  show τ.2.1 75 (m + 0) = _
  rw [Int.add_zero]
theorem vw_76 : (vwm m g τ).2.1 76 0 = τ.2.1 76 m := by
  rw [vw_g (by decide)]
  show τ.2.1 76 (m + 0) = _
  rw [Int.add_zero]
theorem vw_77 : (vwm m g τ).2.1 77 j = τ.2.1 77 (200 * m + j) := vw_g (by decide)
theorem vw_78 : (vwm m g τ).2.1 78 j = τ.2.1 78 (9 * m + j) := vw_g (by decide)
theorem vw_79 : (vwm m g τ).2.1 79 j = τ.2.1 79 (9 * m + j) := vw_g (by decide)
theorem vw_80 : (vwm m g τ).2.1 80 j = τ.2.1 80 (9 * m + j) := vw_g (by decide)
theorem vw_81 : (vwm m g τ).2.1 81 j = τ.2.1 81 (108 * m + j) := vw_g (by decide)
theorem vw_82 : (vwm m g τ).2.1 82 j = τ.2.1 82 (1728 * m + j) := vw_g (by decide)
theorem vw_i (h : 3 ≤ k ∧ k ≤ 6) (e : x = 220 * bkm m + t) : (vwm m g τ).2.1 k t = τ.2.1 k x := by
  rw [vw_k (by simp only [List.mem_cons, List.not_mem_nil, or_false]; omega)]
  unfold bk2
  by_cases z : m = 2
  · have b : bkm m = 6 := if_pos z
    rw [if_pos z, vb_i (by omega), e, b]
    have o : vbo k = 1320 := if_pos (by omega)
    rw [o, show (220 : Int) * 6 + t = 1320 + t by omega]
  · have b : bkm m = 0 := if_neg z
    rw [if_neg z, e, b, show (220 : Int) * 0 + t = t by omega]
theorem vw_a (h : k = 7 ∨ k = 8) (e : x = 220 * bkm m + t) : (vwm m g τ).2.1 k (4 * t + j) = τ.2.1 k (4 * x + j) := by
  rw [vw_k (by simp only [List.mem_cons, List.not_mem_nil, or_false]; omega)]
  unfold bk2
  by_cases z : m = 2
  · have b : bkm m = 6 := if_pos z
    rw [if_pos z, vb_i (by omega), e, b]
    have o : vbo k = 5280 := by
      unfold vbo
      rw [if_neg (by omega), if_pos (by omega)]
    rw [o, show 4 * (220 * 6 + t) + j = 5280 + (4 * t + j) by omega]
  · have b : bkm m = 0 := if_neg z
    rw [if_neg z, e, b, show 4 * ((220 : Int) * 0 + t) + j = 4 * t + j by omega]
theorem vw_9 : (vwm m g τ).2.1 9 r = τ.2.1 9 (bkm m + r) := by
  rw [vw_k (by decide)]
  unfold bk2
  by_cases z : m = 2
  · have b : bkm m = 6 := if_pos z
    have o : vbo 9 = 6 := rfl
    rw [if_pos z, vb_i (by decide), b, o]
  · have b : bkm m = 0 := if_neg z
    rw [if_neg z, b, Int.zero_add]
theorem vw_12 (h : (10 ≤ k ∧ k ≤ 13) ∨ 19 ≤ k ∨ k ≤ 2) (h2 : k ∉ GWK) : (vwm m g τ).2.1 k = τ.2.1 k := (vw_k h2).trans (bk_o h)
theorem vw_16 : prm (vwm m g τ) 0 r f = prm τ m r f := by
  unfold prm
  rw [if_neg (by decide), vw_k (by decide)]
  unfold bk2
  by_cases z : m = 2
  · rw [if_pos z, if_pos z]; exact vb_16
  · rw [if_neg z, if_neg z]
theorem vw_pr : pr (vwm m g τ) 0 c f = pr τ m (9 * m + c) f := by
  have a : pr (vwm m g τ) 0 c f = prm (vwm m g τ) 0 ((vwm m g τ).2.1 78 c) f := rfl
  rw [a, vw_16, vw_78]
  rfl
theorem vw_dch : dch (vwm m g τ) 0 c = dch τ m (9 * m + c) := by
  unfold dch
  rw [vw_80, show pr (vwm m g τ) 0 c = pr τ m (9 * m + c) from funext (fun f => vw_pr)]
theorem sm_e {a b : Int → Int} (e : ∀ j, a j = b j) : ∀ n : Nat, sm a n = sm b n := fun n => by
  rw [show a = b from funext e]
theorem vw_dpt : dpt (vwm m g τ) 0 = dpt τ m := by
  unfold dpt
  rw [vw_73]
  refine sm_e (fun j => ?_) _
  show dch (vwm m g τ) 0 (9 * 0 + j) = dch τ m (9 * m + j)
  rw [show (9 : Int) * 0 + j = j by omega]
  exact vw_dch
theorem vw_put (h : k ∈ GWK) (e : u = vmo m k + j) : vwm m g (sA k u v τ) = sA k j v (vwm m g τ) := by
  have k19 : 19 ≤ k := by simp only [List.mem_cons, List.not_mem_nil, or_false] at h; omega
  have b1 : (bk2 m (sA k u v τ)).1 = (bk2 m τ).1 := by rw [bk_s, bk_s]; rfl
  have b2 : (bk2 m (sA k u v τ)).2.2 = (bk2 m τ).2.2 := by
    unfold bk2
    by_cases z : m = 2
    · rw [if_pos z, if_pos z]; rfl
    · rw [if_neg z, if_neg z]; rfl
  have b3 : ∀ i, (bk2 m (sA k u v τ)).2.1 i = (sA k u v (bk2 m τ)).2.1 i := fun i => by
    by_cases z : i = k
    · subst z
      rw [bk_o (Or.inr (Or.inl k19))]
      funext y
      by_cases y0 : y = u
      · rw [y0, ra_eq, ra_eq]
      · rw [ra_ne y0 rfl, ra_ne y0 rfl, bk_o (Or.inr (Or.inl k19))]
    · rw [sA_k z]
      unfold bk2
      by_cases m2 : m = 2
      · rw [if_pos m2, if_pos m2]
        funext y
        show (if i = 14 then (1 : Int) else if i = 15 then y / 12 else if i = 16 then -1 else if i = 17 then 0 else if i = 18 then y % 144 else (sA k u v τ).2.1 i (vbo i + y)) = (if i = 14 then (1 : Int) else if i = 15 then y / 12 else if i = 16 then -1 else if i = 17 then 0 else if i = 18 then y % 144 else τ.2.1 i (vbo i + y))
        rw [sA_k z]
      · rw [if_neg m2, if_neg m2, sA_k z]
  refine Prod.ext ?_ (Prod.ext ?_ ?_)
  · show (fun n => if n = 67 then (1 : Int) else if n = 68 ∨ n = 69 then 0 else if n = 70 then g else (bk2 m (sA k u v τ)).1 n) = (fun n => if n = 67 then (1 : Int) else if n = 68 ∨ n = 69 then 0 else if n = 70 then g else (bk2 m τ).1 n)
    rw [b1]
  · funext i y
    show (bk2 m (sA k u v τ)).2.1 i (vmo m i + y) = (sA k j v (vwm m g τ)).2.1 i y
    rw [b3]
    by_cases z : i = k
    · subst z
      by_cases y0 : y = j
      · rw [y0, ← e, ra_eq, ra_eq]
      · rw [ra_ne (show vmo m i + y ≠ u by omega) rfl, ra_ne y0 rfl]
        rfl
    · rw [sA_k z, sA_k z]
      rfl
  · show (bk2 m (sA k u v τ)).2.2 = (bk2 m τ).2.2
    exact b2
theorem vw_frt {ss ks js : List Nat} (h : Fr ss ks js τ τ2) : Fr ss ks js (vwm m g τ) (vwm m g τ2) := by
  refine ⟨fun n hn => ?_, fun k hk => ?_, fun k hk => ?_⟩
  · show (if n = 67 then (1 : Int) else if n = 68 ∨ n = 69 then 0 else if n = 70 then g else (bk2 m τ2).1 n) = (if n = 67 then (1 : Int) else if n = 68 ∨ n = 69 then 0 else if n = 70 then g else (bk2 m τ).1 n)
    rw [bk_s, bk_s, h.1 n hn]
  · funext y
    rw [vw_m, vw_m]
    unfold bk2
    by_cases z : m = 2
    · rw [if_pos z, if_pos z]
      show (if k = 14 then (1 : Int) else if k = 15 then (vmo m k + y) / 12 else if k = 16 then -1 else if k = 17 then 0 else if k = 18 then (vmo m k + y) % 144 else τ2.2.1 k (vbo k + (vmo m k + y))) = (if k = 14 then (1 : Int) else if k = 15 then (vmo m k + y) / 12 else if k = 16 then -1 else if k = 17 then 0 else if k = 18 then (vmo m k + y) % 144 else τ.2.1 k (vbo k + (vmo m k + y)))
      rw [h.2.1 k hk]
    · rw [if_neg z, if_neg z, h.2.1 k hk]
  · show (bk2 m τ2).2.2 k = (bk2 m τ).2.2 k
    unfold bk2
    by_cases z : m = 2
    · rw [if_pos z, if_pos z]; exact h.2.2 k hk
    · rw [if_neg z, if_neg z]; exact h.2.2 k hk
theorem vw_wth {y : Int} (e : c = 9 * m + t) : wth (vwm m g τ) t y v = wth τ c y v := by
  unfold wth
  rw [vw_82, e, show 1728 * m + (192 * t + v) = 192 * (9 * m + t) + v by omega]
theorem vw_wa (e : c = 9 * m + t) (ex : x = 220 * bkm m + q) : wA (vwm m g τ) t q n = wA τ c x n := by
  unfold wA
  rw [vw_a (Or.inl rfl) ex, vw_a (Or.inr rfl) ex]
  exact vw_wth e
theorem vw_zr {a b a2 b2 : Int} (hk : k ∈ GWK) (h : ZR k a b τ τ2) (ea : a = vmo m k + a2) (eb : b = vmo m k + b2) : ZR k a2 b2 (vwm m g τ) (vwm m g τ2) := fun j => by
  rw [vw_g hk, vw_g hk, h]
  by_cases z : a2 ≤ j ∧ j < b2
  · rw [if_pos z, if_pos (by omega)]
  · rw [if_neg z, if_neg (by omega)]
theorem vw_ecx (h : ECX τ m q τ2) : ECX (vwm m g τ) 0 q (vwm m g τ2) := by
  obtain ⟨f, a73, ⟨a78, a79, a80⟩, a73o, ao, z1, z2⟩ := h
  refine ⟨vw_frt f, by rw [vw_73, vw_73]; exact a73, ?_, fun j hj => ?_, fun j hj => ?_, ?_, ?_⟩
  · rw [vw_73, show (9 : Int) * 0 + τ.2.1 73 m = τ.2.1 73 m by omega, vw_78, vw_79, vw_80]
    exact ⟨a78, a79, a80⟩
  · rw [vw_g (by decide), vw_g (by decide)]
    show τ2.2.1 73 (m + j) = τ.2.1 73 (m + j)
    exact a73o _ (by omega)
  · rw [vw_73] at hj
    rw [vw_78, vw_79, vw_80, vw_78, vw_79, vw_80]
    exact ao _ (by omega)
  · rw [vw_73, show (9 : Int) * 0 + τ.2.1 73 m = τ.2.1 73 m by omega]
    refine vw_zr (by decide) z1 ?_ ?_
    · show _ = 108 * m + _
      omega
    · show _ = 108 * m + _
      omega
  · rw [vw_73, show (9 : Int) * 0 + τ.2.1 73 m = τ.2.1 73 m by omega]
    refine vw_zr (by decide) z2 ?_ ?_
    · show _ = 1728 * m + _
      omega
    · show _ = 1728 * m + _
      omega
theorem vw_hmp (q0 : 0 ≤ q) (n0 : 0 ≤ n) (n1 : n < 144) : hmP (vwm m g τ) 0 q n = hmP τ m q n := by
  unfold hmP
  rw [if_neg (by decide), vw_k (by decide)]
  unfold bk2
  by_cases z : m = 2
  · rw [if_pos z, if_pos z, vb_18]
    omega
  · rw [if_neg z, if_neg z]
theorem vw_pwg {H H2 W W2 : Int → Int} {B B2 : Int} (h : PWG H W B τ n τ2) (eB : B = 1728 * m + B2) (e : ∀ i : Int, 0 ≤ i → i < n → H2 i = H i ∧ W2 i = W i) : PWG H2 W2 B2 (vwm m g τ) n (vwm m g τ2) := fun j => by
  rw [vw_82, h]
  by_cases z : B2 ≤ j ∧ j < B2 + 192
  · rw [if_pos z, if_pos (by omega), show 1728 * m + j - B = j - B2 by omega]
    refine pwR_c (fun i a b => ?_) ?_
    · have q := e i a (by omega)
      exact ⟨q.1.symm, q.2.symm⟩
    · show τ.2.1 82 (B + (j - B2)) = (vwm m g τ).2.1 82 (B2 + (j - B2))
      rw [vw_82, show B + (j - B2) = 1728 * m + (B2 + (j - B2)) by omega]
  · rw [if_neg z, if_neg (by omega), vw_82]
theorem vw_jto {j : Int} (e : c = 9 * m + t) (ex : x = 220 * bkm m + q) (h : JTO τ m c x j) : JTO (vwm m g τ) 0 t q j := by
  obtain ⟨h1, h2, h3⟩ := h
  unfold JTO
  rw [vw_78, b0, ← e, vw_9, vw_i (x := 220 * (bkm m + τ.2.1 78 c) + j) (by decide) (by omega), vw_i (x := 220 * (bkm m + τ.2.1 78 c) + j) (by decide) (by omega), vw_i (x := x) (by decide) ex]
  exact ⟨h1, h2, h3⟩
theorem vw_stq (np : PAR τ) (h15 : m = 2 → τ.2.1 3 (220 * (bkm m + τ.2.1 78 (9 * m + τ.2.1 73 m - 1)) + τ.2.1 79 (9 * m + τ.2.1 73 m - 1)) ≠ 15) (h10 : τ.2.1 3 (220 * (bkm m + τ.2.1 78 (9 * m + τ.2.1 73 m - 1)) + τ.2.1 79 (9 * m + τ.2.1 73 m - 1)) = 10 → 0 ≤ τ.2.1 5 (220 * (bkm m + τ.2.1 78 (9 * m + τ.2.1 73 m - 1)) + τ.2.1 79 (9 * m + τ.2.1 73 m - 1)) ∧ τ.2.1 5 (220 * (bkm m + τ.2.1 78 (9 * m + τ.2.1 73 m - 1)) + τ.2.1 79 (9 * m + τ.2.1 73 m - 1)) < 6) (hs : STQ τ m v τ2) : STQ (vwm m g τ) 0 v (vwm m g τ2) := by
  unfold STQ at hs ⊢
  rw [vw_73, b0, show (9 : Int) * 0 + τ.2.1 73 m - 1 = τ.2.1 73 m - 1 by omega, vw_78, vw_79, show 9 * m + (τ.2.1 73 m - 1) = 9 * m + τ.2.1 73 m - 1 by omega]
  obtain ⟨t, et⟩ : ∃ t, t = 9 * m + τ.2.1 73 m - 1 := ⟨_, rfl⟩
  obtain ⟨s, es⟩ : ∃ s, s = τ.2.1 73 m - 1 := ⟨_, rfl⟩
  rw [← et] at h15 h10 hs ⊢
  rw [← es]
  have ts : t = 9 * m + s := by omega
  obtain ⟨x, ex⟩ : ∃ x, x = 220 * (bkm m + τ.2.1 78 t) + τ.2.1 79 t := ⟨_, rfl⟩
  obtain ⟨y, ey⟩ : ∃ y, y = 220 * τ.2.1 78 t + τ.2.1 79 t := ⟨_, rfl⟩
  rw [← ex] at h15 h10 hs
  rw [← ey]
  have xy : x = 220 * bkm m + y := by omega
  have k3 : (vwm m g τ).2.1 3 y = τ.2.1 3 x := vw_i (by decide) xy
  have k4 : (vwm m g τ).2.1 4 y = τ.2.1 4 x := vw_i (by decide) xy
  have k5 : (vwm m g τ).2.1 5 y = τ.2.1 5 x := vw_i (by decide) xy
  have w0 : wA (vwm m g τ) s y 0 = wA τ t x 0 := vw_wa ts xy
  have w1 : wA (vwm m g τ) s y 1 = wA τ t x 1 := vw_wa ts xy
  have q78 : (vwm m g τ).2.1 78 s = τ.2.1 78 t := by rw [vw_78, ← ts]
  have q79 : (vwm m g τ).2.1 79 s = τ.2.1 79 t := by rw [vw_79, ← ts]
  have p79 : ∀ {σ : MS} {w : Int}, vwm m g (sA 79 t w σ) = sA 79 s w (vwm m g σ) := vw_put (by decide) ts
  have p80 : ∀ {σ : MS} {w : Int}, vwm m g (sA 80 t w σ) = sA 80 s w (vwm m g σ) := vw_put (by decide) ts
  have p82 : ∀ {σ : MS} {a w : Int}, vwm m g (sA 82 (192 * t + a) w σ) = sA 82 (192 * s + a) w (vwm m g σ) := vw_put (by decide) (by show _ = 1728 * m + _; omega)
  have p81 : ∀ {σ : MS} {a w : Int}, vwm m g (sA 81 (12 * t + a) w σ) = sA 81 (12 * s + a) w (vwm m g σ) := vw_put (by decide) (by show _ = 108 * m + _; omega)
  have p73 : ∀ {σ : MS} {w : Int}, vwm m g (sA 73 m w σ) = sA 73 0 w (vwm m g σ) := vw_put (by decide) (by show m = m + 0; omega)
  have p75 : ∀ {σ : MS} {w : Int}, vwm m g (sA 75 m w σ) = sA 75 0 w (vwm m g σ) := vw_put (by decide) (by show m = m + 0; omega)
  have p76 : ∀ {σ : MS} {w : Int}, vwm m g (sA 76 m w σ) = sA 76 0 w (vwm m g σ) := vw_put (by decide) (by show m = m + 0; omega)
  have p77 : ∀ {σ : MS} {a w : Int}, vwm m g (sA 77 (200 * m + a) w σ) = sA 77 (200 * 0 + a) w (vwm m g σ) := vw_put (by decide) (by show 200 * m + _ = 200 * m + (200 * 0 + _); omega)
  unfold STX at hs ⊢
  rw [k3, k4, k5, w0, w1, q78, q79, vw_dpt]
  rcases hs with ⟨hv, hk, hd, e2⟩ | ⟨hk, hs⟩ | ⟨hk, hv, e2⟩ | ⟨hk, hv, e2⟩ | ⟨hk, hv, e2⟩ | ⟨hk, hv, j, hj, e2⟩ | ⟨hk, hv, e2⟩ | ⟨hk, hv, e2⟩ | ⟨hk, hv, hd, e2⟩ | ⟨hk, hv, e2⟩ | ⟨hk, hv, hd, hs⟩
  · exact Or.inl ⟨hv, hk, hd, by rw [e2]⟩
  · refine Or.inr (Or.inl ⟨hk, ?_⟩)
    unfold RTX at hs ⊢
    rcases hs with ⟨hv, e73, e2⟩ | ⟨hv, e73, e2⟩
    · exact Or.inl ⟨hv, by rw [vw_73]; exact e73, by rw [e2, p75, p73, vw_73]⟩
    · refine Or.inr ⟨hv, by rw [vw_73]; exact e73, ?_⟩
      have ts1 : t - 1 = 9 * m + (s - 1) := by omega
      have r78 : (vwm m g τ).2.1 78 (s - 1) = τ.2.1 78 (t - 1) := by rw [vw_78, ← ts1]
      have r79 : (vwm m g τ).2.1 79 (s - 1) = τ.2.1 79 (t - 1) := by rw [vw_79, ← ts1]
      rw [e2, r78, r79, b0, vw_i (x := 220 * (bkm m + τ.2.1 78 (t - 1)) + τ.2.1 79 (t - 1)) (by decide) (by omega), vw_put (j := s - 1) (by decide) ts1, vw_put (j := 192 * (s - 1) + τ.2.1 4 (220 * (bkm m + τ.2.1 78 (t - 1)) + τ.2.1 79 (t - 1))) (by decide) (by show _ = 1728 * m + _; omega), p73, vw_73]
  · exact Or.inr (Or.inr (Or.inl ⟨hk, hv, by rw [e2, p79, p82]⟩))
  · exact Or.inr (Or.inr (Or.inr (Or.inl ⟨hk, hv, by rw [e2, p79, p82]⟩)))
  · refine Or.inr (Or.inr (Or.inr (Or.inr (Or.inl ⟨hk, hv, ?_⟩))))
    rw [e2, p79, p76, vw_76]
    by_cases z : τ.2.1 76 m < 200
    · rw [if_pos z, if_pos z, p77]
    · rw [if_neg z, if_neg z]
  · exact Or.inr (Or.inr (Or.inr (Or.inr (Or.inr (Or.inl ⟨hk, hv, j, vw_jto ts xy hj, by rw [e2, p79]⟩)))))
  · exact Or.inr (Or.inr (Or.inr (Or.inr (Or.inr (Or.inr (Or.inl ⟨hk, hv, by rw [e2, p79]⟩))))))
  · exact Or.inr (Or.inr (Or.inr (Or.inr (Or.inr (Or.inr (Or.inr (Or.inl ⟨hk, hv, by rw [e2, p79, p81]⟩)))))))
  · exact Or.inr (Or.inr (Or.inr (Or.inr (Or.inr (Or.inr (Or.inr (Or.inr (Or.inl ⟨hk, hv, hd, by rw [e2, p79, p81, p80]⟩))))))))
  · refine Or.inr (Or.inr (Or.inr (Or.inr (Or.inr (Or.inr (Or.inr (Or.inr (Or.inr (Or.inl ⟨hk, hv, ?_⟩)))))))))
    have m2 : m ≠ 2 := fun z => h15 z hk
    have e16 : (vwm m g τ).2.1 16 = τ.2.1 16 := by
      rw [vw_k (by decide)]
      unfold bk2
      rw [if_neg m2]
    rw [e2, p79, p80, e16]
  · refine Or.inr (Or.inr (Or.inr (Or.inr (Or.inr (Or.inr (Or.inr (Or.inr (Or.inr (Or.inr ⟨hk, hv, hd, ?_⟩)))))))))
    obtain ⟨τa, ec, f, pw⟩ := hs
    have q6 := h10 hk
    have p4 := np _ q6.1 q6.2
    unfold CLX7
    rw [k5]
    refine ⟨vwm m g τa, vw_ecx ec, vw_frt f, ?_⟩
    have e11 : (vwm m g τ).2.1 11 = τ.2.1 11 := vw_12 (Or.inl (by decide)) (by decide)
    rw [e11]
    refine vw_pwg pw (by omega) (fun i i0 i1 => ⟨vw_hmp q6.1 i0 (by omega), vw_wa ts xy⟩)
end VWS
end
