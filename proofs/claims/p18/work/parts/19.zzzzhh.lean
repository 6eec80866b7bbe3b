section
def prg8 (τ : MS) (m : Int) : Int → RTS := gsT (τ.1 10) (if m = 2 then mS8 τ else rS τ)
def rgf (τ : MS) (c : Int) : G8 := fun g => if 0 ≤ g ∧ g < 192 then τ.2.1 82 (192 * c + g) else 0
def ab8 (τ : MS) (m : Int) : Nat → List F8
  | 0 => []
  | n + 1 => (τ.2.1 78 (9 * m + n), τ.2.1 79 (9 * m + n), rgf τ (9 * m + n), sm (fun j => dch τ m (9 * m + j)) (n + 1)) :: ab8 τ m n
section AB9
variable {τ τ2 : MS} {m t x c r p g v w : Int} {n : Nat}
theorem prg_v (hr : 0 ≤ r ∧ r < τ.1 10) (hp : 0 ≤ p ∧ p < τ.2.1 9 (bkm m + r)) : (prg8 τ m r).V p = rI τ (220 * (bkm m + r) + p) ∧ (prg8 τ m r).n = τ.2.1 9 (bkm m + r) := by
  unfold prg8
  rw [gsT_y hr]
  by_cases e : m = 2
  · have b : bkm m = 6 := if_pos e
    rw [if_pos e, b]
    rw [b] at hp
    exact ⟨if_pos hp, rfl⟩
  · have b : bkm m = 0 := if_neg e
    rw [if_neg e, b, show (0 : Int) + r = r by omega]
    rw [b, show (0 : Int) + r = r by omega] at hp
    exact ⟨if_pos hp, rfl⟩
theorem sm_c {f h : Int → Int} (e : ∀ j : Int, 0 ≤ j → j < (n : Int) → f j = h j) : sm f n = sm h n := by
  induction n with
  | zero => rfl
  | succ n ih =>
    show sm f n + f n = sm h n + h n
    rw [ih (fun j a b => e j a (by omega)), e n (by omega) (by omega)]
theorem ab_c (e : ∀ c, 9 * m ≤ c → c < 9 * m + n → (τ2.2.1 78 c = τ.2.1 78 c ∧ τ2.2.1 79 c = τ.2.1 79 c ∧ rgf τ2 c = rgf τ c) ∧ dch τ2 m c = dch τ m c) : ab8 τ2 m n = ab8 τ m n := by
  induction n with
  | zero => rfl
  | succ n ih =>
    have q := e (9 * m + n) (by omega) (by omega)
    show (τ2.2.1 78 (9 * m + n), τ2.2.1 79 (9 * m + n), rgf τ2 (9 * m + n), sm (fun j => dch τ2 m (9 * m + j)) (n + 1)) :: ab8 τ2 m n = (τ.2.1 78 (9 * m + n), τ.2.1 79 (9 * m + n), rgf τ (9 * m + n), sm (fun j => dch τ m (9 * m + j)) (n + 1)) :: ab8 τ m n
    rw [ih (fun c a b => e c a (by omega)), q.1.1, q.1.2.1, q.1.2.2, sm_c (f := fun j => dch τ2 m (9 * m + j)) (h := fun j => dch τ m (9 * m + j)) (fun j a b => (e (9 * m + j) (by omega) (by omega)).2)]
theorem rgf_c (e : ∀ g, 0 ≤ g → g < 192 → τ2.2.1 82 (192 * c + g) = τ.2.1 82 (192 * c + g)) : rgf τ2 c = rgf τ c := by
  funext g
  unfold rgf
  by_cases z : 0 ≤ g ∧ g < 192
  · rw [if_pos z, if_pos z, e g z.1 z.2]
  · rw [if_neg z, if_neg z]
theorem dch_c (e78 : τ2.2.1 78 c = τ.2.1 78 c) (e80 : τ2.2.1 80 c = τ.2.1 80 c) (e16 : τ2.2.1 16 = τ.2.1 16) : dch τ2 m c = dch τ m c := by
  unfold dch pr
  rw [e78, e80, e16]
theorem rgf_79 {a b : Int} : rgf (sA 79 a b τ) c = rgf τ c := rgf_c (fun g _ _ => by rw [sA_k (by decide)])
theorem rgf_put (hg : 0 ≤ g ∧ g < 192) : rgf (sA 82 (192 * t + g) w τ) t = uZ (rgf τ t) g w := by
  funext h
  unfold rgf
  by_cases e : h = g
  · rw [e, uZ_eq, if_pos hg, ra_eq]
  · rw [uZ_ne e]
    by_cases z : 0 ≤ h ∧ h < 192
    · rw [if_pos z, if_pos z]; exact ra_ne (by omega) rfl
    · rw [if_neg z, if_neg z]
theorem rgf_ne (hc : c ≠ t) (hg : 0 ≤ g ∧ g < 192) : rgf (sA 82 (192 * t + g) w τ) c = rgf τ c := rgf_c (fun h h0 h1 => ra_ne (by omega) rfl)
theorem sa_82 {a b : Int} {j : Int} : (sA 82 a b (sA 73 m v τ)).2.1 82 j = (sA 82 a b τ).2.1 82 j := by
  by_cases e : j = a
  · rw [e, ra_eq, ra_eq]
  · rw [ra_ne e rfl, ra_ne e rfl, sA_k (by decide)]
theorem opv_w {j : Int} (hok : ∀ F, OKI τ F x → True) (hj : 0 ≤ j ∧ j < 4) (hr : τ.2.1 7 (4 * x + j) = 2 → 0 ≤ τ.2.1 8 (4 * x + j) ∧ τ.2.1 8 (4 * x + j) < 192) : opv (rgf τ t) (rI τ x) j = wA τ t x j := by
  have e : rI τ x (3 + 2 * j) = τ.2.1 7 (4 * x + j) ∧ rI τ x (4 + 2 * j) = τ.2.1 8 (4 * x + j) := by
    have h : j = 0 ∨ j = 1 ∨ j = 2 ∨ j = 3 := by omega
    rcases h with rfl | rfl | rfl | rfl
    · exact ⟨rfl, rfl⟩
    · exact ⟨rfl, rfl⟩
    · exact ⟨rfl, rfl⟩
    · exact ⟨rfl, rfl⟩
  unfold opv wA wth
  rw [e.1, e.2]
  by_cases z : τ.2.1 7 (4 * x + j) = 2
  · rw [if_pos z, if_pos z]; exact if_pos (hr z)
  · rw [if_neg z, if_neg z]
end AB9
def pnm : List E8 → List Int
  | [] => []
  | e :: L => if e.1 = 1 then e.2 :: pnm L else pnm L
def PRT8 (τ : MS) (m : Int) (P : List Int) : Prop := τ.2.1 76 m = (P.length : Int) ∧ ∀ i : Nat, i < 200 → i < P.length → τ.2.1 77 (200 * m + i) = P.getD i 0
abbrev OUT9 (τ : MS) (m z : Int) : Prop := τ.2.1 3 (220 * (bkm m + τ.2.1 78 (9 * m + τ.2.1 73 m - 1)) + τ.2.1 79 (9 * m + τ.2.1 73 m - 1)) = 6 ∧ z = wA τ (9 * m + τ.2.1 73 m - 1) (220 * (bkm m + τ.2.1 78 (9 * m + τ.2.1 73 m - 1)) + τ.2.1 79 (9 * m + τ.2.1 73 m - 1)) 0
def SHW (τ : MS) (m v : Int) (τ2 : MS) (e : E8) : Prop :=
  (v = 3 ∧ e = (4, 0) ∧ τ2.2.1 76 = τ.2.1 76 ∧ τ2.2.1 77 = τ.2.1 77) ∨ (v = 2 ∧ e = (3, τ2.2.1 75 m) ∧ τ2.2.1 76 = τ.2.1 76 ∧ τ2.2.1 77 = τ.2.1 77) ∨
  (v = 1 ∧ e = (2, 0) ∧ τ2.2.1 76 = τ.2.1 76 ∧ τ2.2.1 77 = τ.2.1 77) ∨ (v = 0 ∧ e = (0, 0) ∧ τ2.2.1 76 = τ.2.1 76 ∧ τ2.2.1 77 = τ.2.1 77) ∨
  (v = 0 ∧ ∃ z, e = (1, z) ∧ OUT9 τ m z ∧ τ2.2.1 76 m = τ.2.1 76 m + 1 ∧ (∀ j, j ≠ 200 * m + τ.2.1 76 m → τ2.2.1 77 j = τ.2.1 77 j) ∧ (τ.2.1 76 m < 200 → τ2.2.1 77 (200 * m + τ.2.1 76 m) = z))
section STP9
variable {τ τ2 : MS} {m v : Int}
theorem stp_ref (hr : RUN τ m) (hb : BKA τ m) (np : PAR τ) (gd : m ≠ 2 → GDA τ) (hs : STQ τ m v τ2) : ∃ e, stp8 (prg8 τ m) (pM8 τ) (ab8 τ m (τ.2.1 73 m).toNat) e (if v = 2 ∨ v = 3 then [] else ab8 τ2 m (τ2.2.1 73 m).toNat) ∧ SHW τ m v τ2 e := by
  have hr' := hr
  obtain ⟨⟨h1, h9⟩, hpl, -, hd⟩ := hr
  obtain ⟨n, en⟩ : ∃ n : Nat, τ.2.1 73 m = (n : Int) + 1 := ⟨(τ.2.1 73 m).toNat - 1, by omega⟩
  have eN : (τ.2.1 73 m).toNat = n + 1 := by omega
  have et : 9 * m + τ.2.1 73 m - 1 = 9 * m + n := by omega
  unfold STQ at hs
  rw [et] at hs
  have pl := hpl (9 * m + n) (by omega) (by omega)
  have pl' := pl
  obtain ⟨hr0, hp0, -⟩ := pl
  obtain ⟨pv, pn⟩ := prg_v (τ := τ) (m := m) hr0 hp0
  have bg := hb.2 _ hr0.1 hr0.2
  have ok := bg.2.1 _ hp0.1 hp0.2
  generalize ht : 9 * m + (n : Int) = t at *
  generalize hx : 220 * (bkm m + τ.2.1 78 t) + τ.2.1 79 t = x at *
  obtain ⟨o1, o2, o3, o4, o5, o6, o7, o8, -⟩ := ok
  have op : ∀ j, 0 ≤ j → j < 4 → opv (rgf τ t) (rI τ x) j = wA τ t x j := fun j a b => opv_w (fun _ _ => trivial) ⟨a, b⟩ (fun z => ((o8 j a b).2 z).1)
  have dp : sm (fun j => dch τ m (9 * m + j)) (n + 1) = dpt τ m := by unfold dpt; rw [eN]
  have top : ab8 τ m (n + 1) = (τ.2.1 78 t, τ.2.1 79 t, rgf τ t, dpt τ m) :: ab8 τ m n := by
    show (τ.2.1 78 (9 * m + n), τ.2.1 79 (9 * m + n), rgf τ (9 * m + n), sm (fun j => dch τ m (9 * m + j)) (n + 1)) :: ab8 τ m n = _
    rw [ht, dp]
  rw [eN, top]
  have k0 : rI τ x 0 = τ.2.1 3 x := rfl
  have k1 : rI τ x 1 = τ.2.1 4 x := rfl
  have k2 : rI τ x 2 = τ.2.1 5 x := rfl
  have bnd : 0 ≤ τ.2.1 79 t ∧ τ.2.1 79 t < (prg8 τ m (τ.2.1 78 t)).n := by rw [pn]; exact hp0
  -- an item within the call, its place and its registers
  have own : ∀ (e : E8) (k2 : Int) (R2 : G8) (d2 : Int), ist (prg8 τ m (τ.2.1 78 t)) (τ.2.1 79 t) (rgf τ t) (dpt τ m) e k2 R2 d2 → v ≠ 2 → v ≠ 3 → τ2.2.1 73 m = τ.2.1 73 m → (τ2.2.1 78 t = τ.2.1 78 t ∧ τ2.2.1 79 t = k2 ∧ rgf τ2 t = R2 ∧ dch τ2 m t = dch τ m t + (d2 - dpt τ m)) → (∀ c, 9 * m ≤ c → c < t → (τ2.2.1 78 c = τ.2.1 78 c ∧ τ2.2.1 79 c = τ.2.1 79 c ∧ rgf τ2 c = rgf τ c) ∧ dch τ2 m c = dch τ m c) → stp8 (prg8 τ m) (pM8 τ) ((τ.2.1 78 t, τ.2.1 79 t, rgf τ t, dpt τ m) :: ab8 τ m n) e (if v = 2 ∨ v = 3 then [] else ab8 τ2 m (τ2.2.1 73 m).toNat) := fun e k2 R2 d2 hi v2 v3 e73 q lo => by
    rw [if_neg (by omega), e73, eN]
    have lower : ab8 τ2 m n = ab8 τ m n := ab_c (fun c a b => lo c a (by omega))
    have sml : sm (fun j => dch τ2 m (9 * m + j)) n = sm (fun j => dch τ m (9 * m + j)) n := sm_c (fun j a b => (lo (9 * m + j) (by omega) (by omega)).2)
    have e2 : ab8 τ2 m (n + 1) = (τ.2.1 78 t, k2, R2, d2) :: ab8 τ m n := by
      show (τ2.2.1 78 (9 * m + n), τ2.2.1 79 (9 * m + n), rgf τ2 (9 * m + n), sm (fun j => dch τ2 m (9 * m + j)) n + dch τ2 m (9 * m + n)) :: ab8 τ2 m n = _
      have d1 : sm (fun j => dch τ m (9 * m + j)) n + dch τ m (9 * m + n) = dpt τ m := dp
      rw [ht] at d1
      rw [ht, lower, sml, q.1, q.2.1, q.2.2.1, q.2.2.2, show sm (fun j => dch τ m (9 * m + j)) n + (dch τ m t + (d2 - dpt τ m)) = d2 by omega]
    rw [e2]
    exact hi.stp
  have ev : ∀ e k2 R2 d2, ((rI τ x 0 ≤ 5 ∧ e = (0, 0) ∧ k2 = τ.2.1 79 t + 1 ∧ R2 = uZ (rgf τ t) (rI τ x 1) (val8 (rgf τ t) (rI τ x)) ∧ d2 = dpt τ m) ∨
      (rI τ x 0 = 6 ∧ e = (1, opv (rgf τ t) (rI τ x) 0) ∧ k2 = τ.2.1 79 t + 1 ∧ R2 = rgf τ t ∧ d2 = dpt τ m) ∨
      ((rI τ x 0 = 8 ∨ (rI τ x 0 = 9 ∧ opv (rgf τ t) (rI τ x) 0 = 0)) ∧ e = (0, 0) ∧ TGv (prg8 τ m (τ.2.1 78 t)).V (prg8 τ m (τ.2.1 78 t)).n (τ.2.1 79 t) k2 ∧ R2 = rgf τ t ∧ d2 = dpt τ m) ∨
      (((rI τ x 0 = 9 ∧ opv (rgf τ t) (rI τ x) 0 ≠ 0) ∨ rI τ x 0 = 12 ∨ rI τ x 0 = 13) ∧ e = (0, 0) ∧ k2 = τ.2.1 79 t + 1 ∧ R2 = rgf τ t ∧ d2 = dpt τ m) ∨
      (rI τ x 0 = 11 ∧ e = (2, 0) ∧ k2 = τ.2.1 79 t + 1 ∧ R2 = rgf τ t ∧ d2 = dpt τ m) ∨
      (rI τ x 0 = 14 ∧ dpt τ m ≤ 8 ∧ e = (0, 0) ∧ k2 = τ.2.1 79 t + 1 ∧ R2 = rgf τ t ∧ d2 = dpt τ m + 1) ∨
      (rI τ x 0 = 15 ∧ e = (0, 0) ∧ k2 = τ.2.1 79 t + 1 ∧ R2 = rgf τ t ∧ d2 = dpt τ m - 1)) → ist (prg8 τ m (τ.2.1 78 t)) (τ.2.1 79 t) (rgf τ t) (dpt τ m) e k2 R2 d2 := fun e k2 R2 d2 a => by
    unfold ist
    rw [pv]
    exact ⟨bnd, a⟩
  have e16 : τ.2.1 16 = τ.2.1 16 := rfl
  rcases hs with ⟨hv, hk, hd9, e2⟩ | ⟨hk, hs⟩ | ⟨hk, hv, e2⟩ | ⟨hk, hv, e2⟩ | ⟨hk, hv, e2⟩ | ⟨hk, hv, j, hj, e2⟩ | ⟨hk, hv, e2⟩ | ⟨hk, hv, e2⟩ | ⟨hk, hv, hd9, e2⟩ | ⟨hk, hv, e2⟩ | ⟨hk, hv, hd9, hs⟩
  · -- one call too many
    refine ⟨(4, 0), ⟨_, _, _, _, _, rfl, Or.inr ⟨bnd, Or.inr (Or.inl ⟨?_, ?_, rfl, ?_⟩)⟩⟩, Or.inl ⟨hv, rfl, by rw [e2], by rw [e2]⟩⟩
    · rw [pv]; exact hk
    · omega
    · rw [if_pos (Or.inr hv)]
  · -- RETURN
    have bk : (prg8 τ m (τ.2.1 78 t)).V (τ.2.1 79 t) 0 = 7 := by rw [pv]; exact hk
    rcases hs with ⟨hv, e73, e2⟩ | ⟨hv, e73, e2⟩
    · have n0 : n = 0 := by omega
      refine ⟨(3, τ2.2.1 75 m), ⟨_, _, _, _, _, rfl, Or.inr ⟨bnd, Or.inr (Or.inr ⟨bk, Or.inl ⟨?_, ?_, ?_⟩⟩)⟩⟩, Or.inr (Or.inl ⟨hv, rfl, by rw [e2]; rfl, by rw [e2]; rfl⟩)⟩
      · rw [n0]; rfl
      · rw [pv, op 0 (by decide) (by decide), e2, ra_eq]
      · rw [if_pos (Or.inl hv)]
    · obtain ⟨n1, e1⟩ : ∃ n1 : Nat, n = n1 + 1 := ⟨n - 1, by omega⟩
      have pl1 := hpl (t - 1) (by omega) (by omega)
      obtain ⟨r0, p0, -⟩ := pl1
      obtain ⟨pv1, -⟩ := prg_v (τ := τ) (m := m) r0 p0
      have bg1 := hb.2 _ r0.1 r0.2
      have ok1 := bg1.2.1 _ p0.1 p0.2
      have k10 := hr'.2.2.1 (t - 1) (by omega) (by omega)
      have dr := ok1.2.1 (Or.inr k10)
      have et1 : 9 * m + (n1 : Int) = t - 1 := by omega
      refine ⟨(0, 0), ⟨_, _, _, _, _, rfl, Or.inr ⟨bnd, Or.inr (Or.inr ⟨bk, Or.inr ⟨τ.2.1 78 (t - 1), τ.2.1 79 (t - 1), rgf τ (t - 1), sm (fun j => dch τ m (9 * m + j)) (n1 + 1), ab8 τ m n1, ?_, rfl, ?_⟩⟩)⟩⟩, Or.inr (Or.inr (Or.inr (Or.inl ⟨hv, rfl, by rw [e2]; rfl, by rw [e2]; rfl⟩)))⟩
      · rw [e1]
        show (τ.2.1 78 (9 * m + n1), τ.2.1 79 (9 * m + n1), rgf τ (9 * m + n1), sm (fun j => dch τ m (9 * m + j)) (n1 + 1)) :: ab8 τ m n1 = _
        rw [et1]
      · have e73' : (τ2.2.1 73 m).toNat = n1 + 1 := by rw [e2, sA_k (by decide), sA_k (by decide), ra_eq]; omega
        have f78 : ∀ c, τ2.2.1 78 c = τ.2.1 78 c := fun c => by rw [e2, sA_k (by decide), sA_k (by decide), sA_k (by decide)]
        have f80 : ∀ c, τ2.2.1 80 c = τ.2.1 80 c := fun c => by rw [e2, sA_k (by decide), sA_k (by decide), sA_k (by decide)]
        have f16 : τ2.2.1 16 = τ.2.1 16 := by rw [e2, sA_k (by decide), sA_k (by decide), sA_k (by decide)]
        have f79 : ∀ c, c ≠ t - 1 → τ2.2.1 79 c = τ.2.1 79 c := fun c hc => by rw [e2]; exact ra_ne hc (by rw [sA_k (by decide), sA_k (by decide)])
        have f82 : rgf τ2 = fun c => rgf (sA 82 (192 * (t - 1) + τ.2.1 4 (220 * (bkm m + τ.2.1 78 (t - 1)) + τ.2.1 79 (t - 1))) (wA τ t x 0) τ) c := by
          funext c
          exact rgf_c (fun g _ _ => by rw [e2, sA_k (by decide)]; exact sa_82)
        have fd : ∀ c, dch τ2 m c = dch τ m c := fun c => dch_c (f78 c) (f80 c) f16
        rw [if_neg (by omega), e73']
        show (τ2.2.1 78 (9 * m + n1), τ2.2.1 79 (9 * m + n1), rgf τ2 (9 * m + n1), sm (fun j => dch τ2 m (9 * m + j)) (n1 + 1)) :: ab8 τ2 m n1 = _
        rw [et1, f78, f82, sm_c (f := fun j => dch τ2 m (9 * m + j)) (h := fun j => dch τ m (9 * m + j)) (fun j _ _ => fd _)]
        have f79t : τ2.2.1 79 (t - 1) = τ.2.1 79 (t - 1) + 1 := by rw [e2, ra_eq]
        have lower : ab8 τ2 m n1 = ab8 τ m n1 := ab_c (fun c a b => ⟨⟨f78 c, f79 c (by omega), by rw [f82]; exact rgf_ne (by omega) dr⟩, fd c⟩)
        rw [f79t, lower]
        have rt : rgf (sA 82 (192 * (t - 1) + τ.2.1 4 (220 * (bkm m + τ.2.1 78 (t - 1)) + τ.2.1 79 (t - 1))) (wA τ t x 0) τ) (t - 1) = uZ (rgf τ (t - 1)) (τ.2.1 4 (220 * (bkm m + τ.2.1 78 (t - 1)) + τ.2.1 79 (t - 1))) (wA τ t x 0) := rgf_put dr
        rw [pv, op 0 (by decide) (by decide), pv1]
        show (τ.2.1 78 (t - 1), τ.2.1 79 (t - 1) + 1, rgf (sA 82 (192 * (t - 1) + τ.2.1 4 (220 * (bkm m + τ.2.1 78 (t - 1)) + τ.2.1 79 (t - 1))) (wA τ t x 0) τ) (t - 1), sm (fun j => dch τ m (9 * m + j)) (n1 + 1)) :: ab8 τ m n1 = _
        rw [rt]
        rfl
  · -- COPY
    have dr := o2 (Or.inl (by omega))
    refine ⟨(0, 0), own _ _ _ _ (ev _ _ _ _ (Or.inl ⟨by rw [k0]; omega, rfl, rfl, rfl, rfl⟩)) (by omega) (by omega) (by rw [e2, sA_k (by decide), sA_k (by decide)]) ⟨by rw [e2, sA_k (by decide), sA_k (by decide)], by rw [e2, ra_eq], ?_, ?_⟩ (fun c a b => ?_), Or.inr (Or.inr (Or.inr (Or.inl ⟨hv, rfl, by rw [e2]; rfl, by rw [e2]; rfl⟩)))⟩
    · have vv : val8 (rgf τ t) (rI τ x) = wA τ t x 0 := by unfold val8; rw [if_pos (show rI τ x 0 = 0 from hk), op 0 (by decide) (by decide)]
      rw [vv, k1, e2, rgf_79, rgf_put dr]
    · rw [dch_c (τ := τ) (by rw [e2, sA_k (by decide), sA_k (by decide)]) (by rw [e2, sA_k (by decide), sA_k (by decide)]) (by rw [e2, sA_k (by decide), sA_k (by decide)])]; omega
    · exact ⟨⟨by rw [e2, sA_k (by decide), sA_k (by decide)], by rw [e2]; exact ra_ne (by omega) (by rw [sA_k (by decide)]), by rw [e2, rgf_79]; exact rgf_ne (by omega) dr⟩, dch_c (τ := τ) (by rw [e2, sA_k (by decide), sA_k (by decide)]) (by rw [e2, sA_k (by decide), sA_k (by decide)]) (by rw [e2, sA_k (by decide), sA_k (by decide)])⟩
  · -- one of the five
    have dr := o2 (Or.inl (by omega))
    refine ⟨(0, 0), own _ _ _ _ (ev _ _ _ _ (Or.inl ⟨by rw [k0]; omega, rfl, rfl, rfl, rfl⟩)) (by omega) (by omega) (by rw [e2, sA_k (by decide), sA_k (by decide)]) ⟨by rw [e2, sA_k (by decide), sA_k (by decide)], by rw [e2, ra_eq], ?_, ?_⟩ (fun c a b => ?_), Or.inr (Or.inr (Or.inr (Or.inl ⟨hv, rfl, by rw [e2]; rfl, by rw [e2]; rfl⟩)))⟩
    · have vv : val8 (rgf τ t) (rI τ x) = wkd (τ.2.1 3 x) (wA τ t x 0) (wA τ t x 1) := by unfold val8; rw [if_neg (show ¬ rI τ x 0 = 0 by rw [k0]; omega), op 0 (by decide) (by decide), op 1 (by decide) (by decide), k0]
      rw [vv, k1, e2, rgf_79, rgf_put dr]
    · rw [dch_c (τ := τ) (by rw [e2, sA_k (by decide), sA_k (by decide)]) (by rw [e2, sA_k (by decide), sA_k (by decide)]) (by rw [e2, sA_k (by decide), sA_k (by decide)])]; omega
    · exact ⟨⟨by rw [e2, sA_k (by decide), sA_k (by decide)], by rw [e2]; exact ra_ne (by omega) (by rw [sA_k (by decide)]), by rw [e2, rgf_79]; exact rgf_ne (by omega) dr⟩, dch_c (τ := τ) (by rw [e2, sA_k (by decide), sA_k (by decide)]) (by rw [e2, sA_k (by decide), sA_k (by decide)]) (by rw [e2, sA_k (by decide), sA_k (by decide)])⟩
  · -- OUT
    have g1 : ∀ k : Nat, k ≠ 79 → k ≠ 76 → k ≠ 77 → τ2.2.1 k = τ.2.1 k := fun k a b c => by
      rw [e2, sA_k a, sA_k b]
      by_cases z : τ.2.1 76 m < 200
      · rw [if_pos z, sA_k c]
      · rw [if_neg z]
    have z79 : ∀ c, c ≠ t → τ2.2.1 79 c = τ.2.1 79 c := fun c hc => by
      rw [e2]
      refine ra_ne hc ?_
      rw [sA_k (by decide)]
      by_cases z : τ.2.1 76 m < 200
      · rw [if_pos z, sA_k (by decide)]
      · rw [if_neg z]
    refine ⟨(1, wA τ t x 0), own _ _ _ _ (ev _ _ _ _ (Or.inr (Or.inl ⟨by rw [k0]; exact hk, by rw [op 0 (by decide) (by decide)], rfl, rfl, rfl⟩))) (by omega) (by omega) (by rw [g1 73 (by decide) (by decide) (by decide)]) ⟨by rw [g1 78 (by decide) (by decide) (by decide)], by rw [e2, ra_eq], rgf_c (fun g _ _ => by rw [g1 82 (by decide) (by decide) (by decide)]), ?_⟩ (fun c a b => ?_), Or.inr (Or.inr (Or.inr (Or.inr ⟨hv, wA τ t x 0, rfl, ⟨by first | (rw [et, hx]; exact hk) | (rw [et, ht, hx]; exact hk), by first | rw [et, hx] | rw [et, ht, hx]⟩, ?_, fun j hj => ?_, fun z => ?_⟩)))⟩
    · rw [dch_c (τ := τ) (by rw [g1 78 (by decide) (by decide) (by decide)]) (by rw [g1 80 (by decide) (by decide) (by decide)]) (g1 16 (by decide) (by decide) (by decide))]; omega
    · exact ⟨⟨by rw [g1 78 (by decide) (by decide) (by decide)], z79 c (by omega), rgf_c (fun g _ _ => by rw [g1 82 (by decide) (by decide) (by decide)])⟩, dch_c (τ := τ) (by rw [g1 78 (by decide) (by decide) (by decide)]) (by rw [g1 80 (by decide) (by decide) (by decide)]) (g1 16 (by decide) (by decide) (by decide))⟩
    · rw [e2, sA_k (by decide), ra_eq]
    · rw [e2, sA_k (by decide), sA_k (by decide)]
      by_cases z : τ.2.1 76 m < 200
      · rw [if_pos z]; exact ra_ne hj rfl
      · rw [if_neg z]
    · rw [e2, sA_k (by decide), sA_k (by decide), if_pos z, ra_eq]
  · -- a jump
    obtain ⟨j0, j13, j4⟩ := hj
    refine ⟨(0, 0), own _ j _ _ (ev _ _ _ _ (Or.inr (Or.inr (Or.inl ⟨?_, rfl, ?_, rfl, rfl⟩)))) (by omega) (by omega) (by rw [e2, sA_k (by decide)]) ⟨by rw [e2, sA_k (by decide)], by rw [e2, ra_eq], by rw [e2, rgf_79], ?_⟩ (fun c a b => ?_), Or.inr (Or.inr (Or.inr (Or.inl ⟨hv, rfl, by rw [e2]; rfl, by rw [e2]; rfl⟩)))⟩
    · rw [k0, op 0 (by decide) (by decide)]; exact hk
    · obtain ⟨pj, -⟩ := prg_v (τ := τ) (m := m) (p := j) hr0 j0
      exact ⟨j0.1, by rw [pn]; exact j0.2, by rw [pj]; exact j13, by rw [pj, pv]; exact j4⟩
    · rw [dch_c (τ := τ) (by rw [e2, sA_k (by decide)]) (by rw [e2, sA_k (by decide)]) (by rw [e2, sA_k (by decide)])]; omega
    · exact ⟨⟨by rw [e2, sA_k (by decide)], by rw [e2]; exact ra_ne (by omega) rfl, by rw [e2, rgf_79]⟩, dch_c (τ := τ) (by rw [e2, sA_k (by decide)]) (by rw [e2, sA_k (by decide)]) (by rw [e2, sA_k (by decide)])⟩
  · -- ZERO of another, BIND, LABEL
    refine ⟨(0, 0), own _ _ _ _ (ev _ _ _ _ (Or.inr (Or.inr (Or.inr (Or.inl ⟨?_, rfl, rfl, rfl, rfl⟩))))) (by omega) (by omega) (by rw [e2, sA_k (by decide)]) ⟨by rw [e2, sA_k (by decide)], by rw [e2, ra_eq], by rw [e2, rgf_79], ?_⟩ (fun c a b => ?_), Or.inr (Or.inr (Or.inr (Or.inl ⟨hv, rfl, by rw [e2]; rfl, by rw [e2]; rfl⟩)))⟩
    · rw [k0, op 0 (by decide) (by decide)]; exact hk
    · rw [dch_c (τ := τ) (by rw [e2, sA_k (by decide)]) (by rw [e2, sA_k (by decide)]) (by rw [e2, sA_k (by decide)])]; omega
    · exact ⟨⟨by rw [e2, sA_k (by decide)], by rw [e2]; exact ra_ne (by omega) rfl, by rw [e2, rgf_79]⟩, dch_c (τ := τ) (by rw [e2, sA_k (by decide)]) (by rw [e2, sA_k (by decide)]) (by rw [e2, sA_k (by decide)])⟩
  · -- LINE
    refine ⟨(2, 0), own _ _ _ _ (ev _ _ _ _ (Or.inr (Or.inr (Or.inr (Or.inr (Or.inl ⟨by rw [k0]; exact hk, rfl, rfl, rfl, rfl⟩)))))) (by omega) (by omega) (by rw [e2, sA_k (by decide), sA_k (by decide)]) ⟨by rw [e2, sA_k (by decide), sA_k (by decide)], by rw [e2, ra_eq], by rw [e2, rgf_79]; exact rgf_c (fun g _ _ => by rw [sA_k (by decide)]), ?_⟩ (fun c a b => ?_), Or.inr (Or.inr (Or.inl ⟨hv, rfl, by rw [e2]; rfl, by rw [e2]; rfl⟩))⟩
    · rw [dch_c (τ := τ) (by rw [e2, sA_k (by decide), sA_k (by decide)]) (by rw [e2, sA_k (by decide), sA_k (by decide)]) (by rw [e2, sA_k (by decide), sA_k (by decide)])]; omega
    · exact ⟨⟨by rw [e2, sA_k (by decide), sA_k (by decide)], by rw [e2]; exact ra_ne (by omega) (by rw [sA_k (by decide)]), by rw [e2, rgf_79]; exact rgf_c (fun g _ _ => by rw [sA_k (by decide)])⟩, dch_c (τ := τ) (by rw [e2, sA_k (by decide), sA_k (by decide)]) (by rw [e2, sA_k (by decide), sA_k (by decide)]) (by rw [e2, sA_k (by decide), sA_k (by decide)])⟩
  · -- ENTER
    have hk14 : kdm τ m (τ.2.1 78 t) (τ.2.1 79 t) = 14 := by unfold kdm; rw [hx]; exact hk
    obtain ⟨q1, q2, q3⟩ := pl'.enter hk14
    have g1 : ∀ k : Nat, k ≠ 79 → k ≠ 81 → k ≠ 80 → τ2.2.1 k = τ.2.1 k := fun k a b c => by rw [e2, sA_k a, sA_k b, sA_k c]
    have g80 : τ2.2.1 80 t = τ.2.1 4 x := by rw [e2, sA_k (by decide), sA_k (by decide), ra_eq]
    have g80' : ∀ c, c ≠ t → τ2.2.1 80 c = τ.2.1 80 c := fun c a => by rw [e2, sA_k (by decide), sA_k (by decide)]; exact ra_ne a rfl
    have dpt9 := hd
    refine ⟨(0, 0), own _ _ _ _ (ev _ _ _ _ (Or.inr (Or.inr (Or.inr (Or.inr (Or.inr (Or.inl ⟨by rw [k0]; exact hk, by omega, rfl, rfl, rfl, rfl⟩))))))) (by omega) (by omega) (by rw [g1 73 (by decide) (by decide) (by decide)]) ⟨by rw [g1 78 (by decide) (by decide) (by decide)], by rw [e2, ra_eq], rgf_c (fun g _ _ => by rw [g1 82 (by decide) (by decide) (by decide)]), ?_⟩ (fun c a b => ?_), Or.inr (Or.inr (Or.inr (Or.inl ⟨hv, rfl, by rw [e2]; rfl, by rw [e2]; rfl⟩)))⟩
    · have hp := bg.2.2.2.2.2.1
      have f12 := bg.2.2.2.2.1.2
      have rn := q1.rng
      have ed : dsm τ m (τ.2.1 78 t) (τ.2.1 79 t) = τ.2.1 4 x := by unfold dsm; rw [hx]
      rw [ed] at rn q2
      have e1 : dch τ2 m t = ch (prm τ m (τ.2.1 78 t)) 13 (τ.2.1 4 x) := by
        unfold dch pr prm
        rw [g80, g1 78 (by decide) (by decide) (by decide), g1 16 (by decide) (by decide) (by decide)]
      have e3 : dch τ m t = ch (prm τ m (τ.2.1 78 t)) 13 (τ.2.1 80 t) := rfl
      rw [e1, e3, ch_1 hp rn.1 rn.2 f12, q2]
      omega
    · exact ⟨⟨by rw [g1 78 (by decide) (by decide) (by decide)], by rw [e2]; exact ra_ne (by omega) (by rw [sA_k (by decide), sA_k (by decide)]), rgf_c (fun g _ _ => by rw [g1 82 (by decide) (by decide) (by decide)])⟩, dch_c (τ := τ) (by rw [g1 78 (by decide) (by decide) (by decide)]) (g80' c (by omega)) (g1 16 (by decide) (by decide) (by decide))⟩
  · -- LEAVE
    have hk15 : kdm τ m (τ.2.1 78 t) (τ.2.1 79 t) = 15 := by unfold kdm; rw [hx]; exact hk
    obtain ⟨q1, q2, q3⟩ := pl'.leave hk15
    have rn := q1.rng
    have rf := pl'.rng
    have ed : dsm τ m (τ.2.1 78 t) (τ.2.1 79 t) = τ.2.1 4 x := by unfold dsm; rw [hx]
    rw [ed] at rn q2
    have m2 : m ≠ 2 := fun z => by
      have e : prm τ m (τ.2.1 78 t) (τ.2.1 4 x) = -1 := if_pos z
      rw [e] at rn; omega
    have ep : prm τ m (τ.2.1 78 t) (τ.2.1 4 x) = τ.2.1 16 (12 * τ.2.1 78 t + τ.2.1 4 x) := if_neg m2
    have g1 : ∀ k : Nat, k ≠ 79 → k ≠ 80 → τ2.2.1 k = τ.2.1 k := fun k a b => by rw [e2, sA_k a, sA_k b]
    have g80 : τ2.2.1 80 t = prm τ m (τ.2.1 78 t) (τ.2.1 4 x) := by rw [e2, sA_k (by decide), ra_eq, ep]
    have g80' : ∀ c, c ≠ t → τ2.2.1 80 c = τ.2.1 80 c := fun c a => by rw [e2, sA_k (by decide)]; exact ra_ne a rfl
    refine ⟨(0, 0), own _ _ _ _ (ev _ _ _ _ (Or.inr (Or.inr (Or.inr (Or.inr (Or.inr (Or.inr ⟨by rw [k0]; exact hk, rfl, rfl, rfl, rfl⟩))))))) (by omega) (by omega) (by rw [g1 73 (by decide) (by decide)]) ⟨by rw [g1 78 (by decide) (by decide)], by rw [e2, ra_eq], rgf_c (fun g _ _ => by rw [g1 82 (by decide) (by decide)]), ?_⟩ (fun c a b => ?_), Or.inr (Or.inr (Or.inr (Or.inl ⟨hv, rfl, by rw [e2]; rfl, by rw [e2]; rfl⟩)))⟩
    · have hp := bg.2.2.2.2.2.1
      have f12 := bg.2.2.2.2.1.2
      have e1 : dch τ2 m t = ch (prm τ m (τ.2.1 78 t)) 13 (prm τ m (τ.2.1 78 t) (τ.2.1 4 x)) := by
        unfold dch
        rw [g80]
        unfold pr
        rw [g1 78 (by decide) (by decide), g1 16 (by decide) (by decide)]
        rfl
      have e3 : dch τ m t = ch (prm τ m (τ.2.1 78 t)) 13 (τ.2.1 80 t) := rfl
      rw [e1, e3, ch_1 hp rf.1 rf.2 f12, q2]
      omega
    · exact ⟨⟨by rw [g1 78 (by decide) (by decide)], by rw [e2]; exact ra_ne (by omega) (by rw [sA_k (by decide)]), rgf_c (fun g _ _ => by rw [g1 82 (by decide) (by decide)])⟩, dch_c (τ := τ) (by rw [g1 78 (by decide) (by decide)]) (g80' c (by omega)) (g1 16 (by decide) (by decide))⟩
  · -- CALL
    have hk10 : kdm τ m (τ.2.1 78 t) (τ.2.1 79 t) = 10 := by unfold kdm; rw [hx]; exact hk
    have hq := pl'.call bg hk10
    rw [hx] at hq
    obtain ⟨τa, ⟨fa, a73, ⟨a78, a79, a80⟩, -, ao, z81, z82⟩, fb, pw⟩ := hs
    rw [show 9 * m + τ.2.1 73 m = t + 1 by omega] at a78 a79 a80 ao z81 z82
    have C6 := hb.1
    have bq := hb.2 _ hq.1 hq.2
    have g1 : ∀ k : Nat, k ∉ [73, 78, 79, 80, 81, 82] → τ2.2.1 k = τ.2.1 k := fun k a => (fb.2.1 k (fun z => a (by rw [List.mem_singleton.mp z]; decide))).trans (fa.2.1 k a)
    have g2 : ∀ k : Nat, k ≠ 82 → τ2.2.1 k = τa.2.1 k := fun k a => fb.2.1 k (fun z => a (List.mem_singleton.mp z))
    have lo : ∀ c, 9 * m ≤ c → c < 9 * m + (n + 1 : Nat) → (τ2.2.1 78 c = τ.2.1 78 c ∧ τ2.2.1 79 c = τ.2.1 79 c ∧ rgf τ2 c = rgf τ c) ∧ dch τ2 m c = dch τ m c := fun c a b => by
      obtain ⟨b1, b2, b3⟩ := ao c (by omega)
      have e78 : τ2.2.1 78 c = τ.2.1 78 c := by rw [g2 78 (by decide)]; exact b1
      have e79 : τ2.2.1 79 c = τ.2.1 79 c := by rw [g2 79 (by decide)]; exact b2
      have e80 : τ2.2.1 80 c = τ.2.1 80 c := by rw [g2 80 (by decide)]; exact b3
      refine ⟨⟨e78, e79, rgf_c (fun g g0 g1 => ?_)⟩, dch_c e78 e80 (g1 16 (by decide))⟩
      rw [pw _, if_neg (by omega), z82 _, if_neg (by omega)]
    have e73 : (τ2.2.1 73 m).toNat = n + 1 + 1 := by rw [g2 73 (by decide), a73]; omega
    have d0 : dch τ2 m (t + 1) = 1 := by
      have e80 : τ2.2.1 80 (t + 1) = 0 := by rw [g2 80 (by decide)]; exact a80
      have e78 : τ2.2.1 78 (t + 1) = τ.2.1 5 x := by rw [g2 78 (by decide)]; exact a78
      have e1 : dch τ2 m (t + 1) = ch (prm τ m (τ.2.1 5 x)) 13 0 := by
        unfold dch pr prm
        rw [e80, e78, g1 16 (by decide)]
      have hp := bq.2.2.2.2.2.1
      have f1 := bq.2.2.2.2.1
      have p0 := hp 0 (Int.le_refl _) (by omega)
      rw [e1, ch_1 hp (Int.le_refl _) (by omega) f1.2, show prm τ m (τ.2.1 5 x) 0 = -1 by omega, ch_n]
      rfl
    have lower : ab8 τ2 m (n + 1) = ab8 τ m (n + 1) := ab_c lo
    have sml : sm (fun j => dch τ2 m (9 * m + j)) (n + 1) = dpt τ m := by
      rw [← dp]
      exact sm_c (fun j a b => (lo (9 * m + j) (by omega) (by omega)).2)
    have rg : rgf τ2 (t + 1) = cal8 (prg8 τ m (τ.2.1 5 x)) (pM8 τ (τ.2.1 5 x)) (opv (rgf τ t) (rI τ x)) := by
      have pm : pM8 τ (τ.2.1 5 x) = τ.2.1 11 (τ.2.1 5 x) := if_pos ⟨hq.1, by omega⟩
      have p4 := np (τ.2.1 5 x) hq.1 (by omega)
      rw [pm]
      -- homes
      have hm : ∀ i, 0 ≤ i → i < τ.2.1 11 (τ.2.1 5 x) → hmP τa m (τ.2.1 5 x) i = (prg8 τ m (τ.2.1 5 x)).na 0 i ∧ 0 ≤ (prg8 τ m (τ.2.1 5 x)).na 0 i ∧ (prg8 τ m (τ.2.1 5 x)).na 0 i < 192 := fun i i0 i1 => by
        unfold prg8 hmP
        rw [gsT_y hq]
        by_cases m2 : m = 2
        · rw [if_pos m2, if_pos m2]
          show i = i ∧ 0 ≤ i ∧ i < 192
          omega
        · rw [if_neg m2, if_neg m2]
          have gr := (gd m2).2 _ hq.1 hq.2
          obtain ⟨-, -, w⟩ := fo0_r gr
          have pn9 := gr.2.2.2.2.2.2.2.2
          have w2 := w i i0 (by omega)
          refine ⟨?_, w2⟩
          show τa.2.1 18 (144 * τ.2.1 5 x + i) = if ((0 : Int) ≤ 0 ∧ (0 : Int) < τ.2.1 14 (τ.2.1 5 x)) ∧ 0 ≤ i ∧ i < τ.2.1 12 (τ.2.1 15 (12 * τ.2.1 5 x + 0)) then τ.2.1 18 (144 * τ.2.1 5 x + 12 * 0 + i) else 0
          have f0 : τ.2.1 15 (12 * τ.2.1 5 x + 0) = τ.2.1 5 x := gr.2.2.2.1
          rw [f0, if_pos ⟨⟨Int.le_refl _, by have := gr.2.1.1.1; omega⟩, i0, by omega⟩, fa.2.1 18 (by decide), show 144 * τ.2.1 5 x + 12 * 0 + i = 144 * τ.2.1 5 x + i by omega]
      have wv : ∀ i, 0 ≤ i → i < τ.2.1 11 (τ.2.1 5 x) → wA τa t x i = opv (rgf τ t) (rI τ x) i := fun i i0 i1 => by
        rw [op i i0 (by omega)]
        unfold wA wth
        rw [fa.2.1 7 (by decide), fa.2.1 8 (by decide)]
        by_cases z : τ.2.1 7 (4 * x + i) = 2
        · rw [if_pos z, if_pos z]
          have rr := ((o8 i i0 (by omega)).2 z).1
          rw [z82 _, if_neg (by omega)]
        · rw [if_neg z, if_neg z]
      funext g
      unfold rgf cal8
      by_cases z : 0 ≤ g ∧ g < 192
      · rw [if_pos z, pw _, if_pos (by omega), show 192 * (t + 1) + g - (192 * t + 192) = g by omega]
        refine pwR_c (fun i i0 i1 => ⟨(hm i i0 (by omega)).1, wv i i0 (by omega)⟩) ?_
        show τa.2.1 82 (192 * t + 192 + g) = 0
        rw [z82 _, if_pos (by omega)]
      · rw [if_neg z]
        exact (pw_no (na := (prg8 τ m (τ.2.1 5 x)).na 0) (g := g) (R := fun _ => 0) (p := (τ.2.1 11 (τ.2.1 5 x)).toNat) (fun i i0 i1 e => z (by have := (hm i i0 (by omega)).2; rw [e] at this; exact this))).symm
    refine ⟨(0, 0), ⟨_, _, _, _, _, rfl, Or.inr ⟨bnd, Or.inl ⟨?_, by omega, rfl, ?_⟩⟩⟩, Or.inr (Or.inr (Or.inr (Or.inl ⟨hv, rfl, g1 76 (by decide), g1 77 (by decide)⟩)))⟩
    · rw [pv]; exact hk
    · rw [if_neg (by omega), e73]
      show (τ2.2.1 78 (9 * m + (n + 1 : Nat)), τ2.2.1 79 (9 * m + (n + 1 : Nat)), rgf τ2 (9 * m + (n + 1 : Nat)), sm (fun j => dch τ2 m (9 * m + j)) (n + 1) + dch τ2 m (9 * m + (n + 1 : Nat))) :: ab8 τ2 m (n + 1) = _
      rw [show 9 * m + ((n + 1 : Nat) : Int) = t + 1 by omega, lower, sml, d0, rg, g2 78 (by decide), g2 79 (by decide), a78, a79, top, pv, k2]
end STP9
end
