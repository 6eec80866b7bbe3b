section
section XJS
variable {σ τ τ2 υ : MS} {j m u g : Int}
def XJ (j : Int) (σ τ : MS) : Prop := X0 j σ τ ∧ τ.2.1 75 j = σ.2.1 75 j ∧ (∀ i, 0 ≤ i → i < 200 → τ.2.1 77 (200 * j + i) = σ.2.1 77 (200 * j + i)) ∧ (∀ i, 0 ≤ i → i < 108 → τ.2.1 81 (108 * j + i) = σ.2.1 81 (108 * j + i)) ∧ ∀ i, 0 ≤ i → i < 1728 → τ.2.1 82 (1728 * j + i) = σ.2.1 82 (1728 * j + i)
theorem XJ.rfl : XJ j σ σ := ⟨X0.rfl, _root_.rfl, fun _ _ _ => _root_.rfl, fun _ _ _ => _root_.rfl, fun _ _ _ => _root_.rfl⟩
theorem XJ.trans (h : XJ j σ τ) (q : XJ j τ υ) : XJ j σ υ := ⟨h.1.trans q.1, q.2.1.trans h.2.1, fun i a b => (q.2.2.1 i a b).trans (h.2.2.1 i a b), fun i a b => (q.2.2.2.1 i a b).trans (h.2.2.2.1 i a b), fun i a b => (q.2.2.2.2 i a b).trans (h.2.2.2.2 i a b)⟩
theorem XJ.pA {k : Nat} {i v : Int} (h : XJ j σ τ) (hk : (k = 73 ∨ k = 75 ∨ k = 76 → i ≠ j) ∧ (k = 77 → i < 200 * j ∨ 200 * j + 200 ≤ i) ∧ (k = 78 ∨ k = 79 ∨ k = 80 → i < 9 * j ∨ 9 * j + 9 ≤ i) ∧ (k = 81 → i < 108 * j ∨ 108 * j + 108 ≤ i) ∧ (k = 82 → i < 1728 * j ∨ 1728 * j + 1728 ≤ i)) : XJ j σ (sA k i v τ) := by
  have g : ∀ (q : Nat) (n : Int), (q = k → n ≠ i) → (sA k i v τ).2.1 q n = τ.2.1 q n := fun q n e => by
    by_cases z : q = k
    · subst z; exact ra_ne (e _root_.rfl) _root_.rfl
    · rw [sA_k z]
  obtain ⟨k1, k2, k3, k4, k5⟩ := hk
  obtain ⟨⟨⟨h1, h2⟩, h3⟩, h4, h5, h6, h7⟩ := h
  refine ⟨⟨⟨(g 73 j (fun e => ?_)).trans h1, (g 76 j (fun e => ?_)).trans h2⟩, fun c a b => ⟨(g 78 c (fun e => ?_)).trans (h3 c a b).1, (g 79 c (fun e => ?_)).trans (h3 c a b).2.1, (g 80 c (fun e => ?_)).trans (h3 c a b).2.2⟩⟩, (g 75 j (fun e => ?_)).trans h4, fun n a b => (g 77 _ (fun e => ?_)).trans (h5 n a b), fun n a b => (g 81 _ (fun e => ?_)).trans (h6 n a b), fun n a b => (g 82 _ (fun e => ?_)).trans (h7 n a b)⟩
  · exact fun z => k1 (Or.inl e.symm) z.symm
  · exact fun z => k1 (Or.inr (Or.inr e.symm)) z.symm
  · have := k3 (Or.inl e.symm); omega
  · have := k3 (Or.inr (Or.inl e.symm)); omega
  · have := k3 (Or.inr (Or.inr e.symm)); omega
  · exact fun z => k1 (Or.inr (Or.inl e.symm)) z.symm
  · have := k2 e.symm; omega
  · have := k4 e.symm; omega
  · have := k5 e.symm; omega
theorem XJ.of {ss ks js : List Nat} (f : Fr ss ks js σ τ) (hk : ∀ k ∈ [73, 75, 76, 77, 78, 79, 80, 81, 82], k ∉ ks) : XJ j σ τ := by
  refine ⟨X0.of f (fun k h => hk k ((by decide : ∀ k ∈ [73, 76, 78, 79, 80], k ∈ [73, 75, 76, 77, 78, 79, 80, 81, 82]) k h)), ?_, fun i _ _ => ?_, fun i _ _ => ?_, fun i _ _ => ?_⟩
  · rw [f.2.1 75 (hk 75 (by decide))]
  · rw [f.2.1 77 (hk 77 (by decide))]
  · rw [f.2.1 81 (hk 81 (by decide))]
  · rw [f.2.1 82 (hk 82 (by decide))]
theorem stq_fr (hs : STQ τ m u τ2) : Fr [] [73, 75, 76, 77, 78, 79, 80, 81, 82] [] τ τ2 := by
  unfold STQ STX at hs
  rcases hs with hs | hs | hs | hs | hs | hs | hs | hs | hs | hs | hs
  · rw [hs.2.2.2]; exact Fr.rfl
  · rcases hs.2 with ⟨-, -, e⟩ | ⟨-, h2, e⟩
    · rw [e]; exact (Fr.rfl.A (by decide)).A (by decide)
    · rw [e]; exact ((Fr.rfl.A (by decide)).A (by decide)).A (by decide)
  · rw [hs.2.2]; exact (Fr.rfl.A (by decide)).A (by decide)
  · rw [hs.2.2]; exact (Fr.rfl.A (by decide)).A (by decide)
  · rw [hs.2.2]
    split
    · exact ((Fr.rfl.A (by decide)).A (by decide)).A (by decide)
    · exact (Fr.rfl.A (by decide)).A (by decide)
  · obtain ⟨-, -, j, -, e⟩ := hs
    rw [e]; exact Fr.rfl.A (by decide)
  · rw [hs.2.2]; exact Fr.rfl.A (by decide)
  · rw [hs.2.2]; exact (Fr.rfl.A (by decide)).A (by decide)
  · rw [hs.2.2.2]; exact ((Fr.rfl.A (by decide)).A (by decide)).A (by decide)
  · rw [hs.2.2]; exact (Fr.rfl.A (by decide)).A (by decide)
  · obtain ⟨-, -, -, τ1, ec, f2, pw⟩ := hs
    exact (Fr.sub ec.1 (by decide) (by decide) (by decide)).trans (Fr.sub f2 (by decide) (by decide) (by decide))
theorem XJ.stq (hs : STQ τ m u τ2) (hm : 1 ≤ m ∧ m ≤ 2) (hj : j ≠ m) (hr : RUN τ m) (b : BKA τ m) (p0 : 0 ≤ τ.2.1 76 m) : XJ j τ τ2 := by
  have h73 := hr.1
  obtain ⟨t, et⟩ : ∃ t, t = 9 * m + τ.2.1 73 m - 1 := ⟨_, _root_.rfl⟩
  unfold STQ at hs
  rw [← et] at hs
  have pl := hr.2.1 t (by omega) (by omega)
  have ok := (b.2 _ pl.1.1 pl.1.2).2.1 _ pl.2.1.1 pl.2.1.2
  obtain ⟨x, ex⟩ : ∃ x, x = 220 * (bkm m + τ.2.1 78 t) + τ.2.1 79 t := ⟨_, _root_.rfl⟩
  rw [← ex] at hs ok
  have n79 : ∀ {τ' : MS} {c v : Int}, XJ j τ τ' → (9 * m ≤ c ∧ c < 9 * m + 9) → XJ j τ (sA 79 c v τ') := fun h hc => h.pA ⟨fun e => by omega, fun e => by omega, fun e => by omega, fun e => by omega, fun e => by omega⟩
  have n80 : ∀ {τ' : MS} {c v : Int}, XJ j τ τ' → (9 * m ≤ c ∧ c < 9 * m + 9) → XJ j τ (sA 80 c v τ') := fun h hc => h.pA ⟨fun e => by omega, fun e => by omega, fun e => by omega, fun e => by omega, fun e => by omega⟩
  have n82 : ∀ {τ' : MS} {c v : Int}, XJ j τ τ' → (1728 * m ≤ c ∧ c < 1728 * m + 1728) → XJ j τ (sA 82 c v τ') := fun h hc => h.pA ⟨fun e => by omega, fun e => by omega, fun e => by omega, fun e => by omega, fun e => by omega⟩
  have n81 : ∀ {τ' : MS} {c v : Int}, XJ j τ τ' → (108 * m ≤ c ∧ c < 108 * m + 108) → XJ j τ (sA 81 c v τ') := fun h hc => h.pA ⟨fun e => by omega, fun e => by omega, fun e => by omega, fun e => by omega, fun e => by omega⟩
  have nm : ∀ {τ' : MS} {k : Nat} {v : Int}, XJ j τ τ' → (k = 73 ∨ k = 75 ∨ k = 76) → XJ j τ (sA k m v τ') := fun h hc => h.pA ⟨fun e => by omega, fun e => by omega, fun e => by omega, fun e => by omega, fun e => by omega⟩
  have ht : 9 * m ≤ t ∧ t < 9 * m + 9 := by omega
  have F12 := (b.2 _ pl.1.1 pl.1.2).2.2.2.2.1
  rcases hs with hs | hs | hs | hs | hs | hs | hs | hs | hs | hs | hs
  · rw [hs.2.2.2]; exact XJ.rfl
  · rcases hs.2 with ⟨-, -, e⟩ | ⟨-, h2, e⟩
    · rw [e]; exact nm (nm XJ.rfl (Or.inl _root_.rfl)) (Or.inr (Or.inl _root_.rfl))
    · have pl2 := hr.2.1 (t - 1) (by omega) (by omega)
      have ok2 := (b.2 _ pl2.1.1 pl2.1.2).2.1 _ pl2.2.1.1 pl2.2.1.2
      have kk := hr.2.2.1 (t - 1) (by omega) (by omega)
      unfold kdm at kk
      have d0 := ok2.2.1 (Or.inr kk)
      rw [e]
      exact n79 (n82 (nm XJ.rfl (Or.inl _root_.rfl)) (by omega)) (by omega)
  · have d0 := ok.2.1 (Or.inl (by omega))
    rw [hs.2.2]
    exact n79 (n82 XJ.rfl (by omega)) ht
  · have d0 := ok.2.1 (Or.inl (by omega))
    rw [hs.2.2]
    exact n79 (n82 XJ.rfl (by omega)) ht
  · rw [hs.2.2]
    split
    · exact n79 (nm (XJ.rfl.pA ⟨fun e => by omega, fun e => by omega, fun e => by omega, fun e => by omega, fun e => by omega⟩) (Or.inr (Or.inr _root_.rfl))) ht
    · exact n79 (nm XJ.rfl (Or.inr (Or.inr _root_.rfl))) ht
  · obtain ⟨-, -, j, -, e⟩ := hs
    rw [e]; exact n79 XJ.rfl ht
  · rw [hs.2.2]; exact n79 XJ.rfl ht
  · have d0 := ok.2.2.2.2.2.1 (Or.inl hs.1)
    rw [hs.2.2]
    exact n79 (n81 XJ.rfl (by omega)) ht
  · have d0 := ok.2.2.2.1 (Or.inl hs.1)
    rw [hs.2.2.2]
    exact n79 (n81 (n80 XJ.rfl ht) (by omega)) ht
  · rw [hs.2.2]; exact n79 (n80 XJ.rfl ht) ht
  · obtain ⟨-, -, dn, τ1, ec, f2, pw⟩ := hs
    obtain ⟨f1, -, -, e1, e2, z1, z2⟩ := ec
    have t8 : τ.2.1 73 m ≤ 8 := by
      have := hr.2.2.2
      have := hr.1
      have q : τ.2.1 73 m ≤ dpt τ m := hr.ge
      omega
    have a : XJ j τ τ1 := by
      refine ⟨⟨⟨e1 j hj, by rw [f1.2.1 76 (by decide)]⟩, fun c c0 c1 => e2 c (by omega)⟩, by rw [f1.2.1 75 (by decide)], fun i _ _ => by rw [f1.2.1 77 (by decide)], fun i i0 i1 => ?_, fun i i0 i1 => ?_⟩
      · rw [z1 _, if_neg (by omega)]
      · rw [z2 _, if_neg (by omega)]
    refine a.trans ⟨X0.of f2 (by decide), by rw [f2.2.1 75 (by decide)], fun i _ _ => by rw [f2.2.1 77 (by decide)], fun i _ _ => by rw [f2.2.1 81 (by decide)], fun i i0 i1 => ?_⟩
    rw [pw _, if_neg (by omega)]
theorem vw_rqm (x : XJ j τ τ2) (e16 : τ2.2.1 16 = τ.2.1 16) : RQM (vwm j g τ) (vwm j g τ2) := by
  obtain ⟨⟨⟨h1, h2⟩, h3⟩, h4, h5, h6, h7⟩ := x
  refine ⟨⟨⟨_root_.rfl, _root_.rfl, _root_.rfl, _root_.rfl⟩, ?_⟩, ⟨⟨by rw [vw_73, vw_73]; exact h1, by rw [vw_76, vw_76]; exact h2⟩, fun c a b => ⟨by rw [vw_78, vw_78]; exact (h3 _ (by omega) (by omega)).1, by rw [vw_79, vw_79]; exact (h3 _ (by omega) (by omega)).2.1, by rw [vw_80, vw_80]; exact (h3 _ (by omega) (by omega)).2.2⟩⟩, by rw [vw_75, vw_75]; exact h4, fun i a b => by rw [vw_77, vw_77]; exact h5 i a b, fun i a b => by rw [vw_81, vw_81]; exact h6 i a b, fun i a b => by rw [vw_82, vw_82]; exact h7 i a b⟩
  rw [vw_k (by decide), vw_k (by decide)]
  unfold bk2
  split
  · funext i
    rw [vb_16, vb_16]
  · exact e16
end XJS
section EVS
variable {σ σ2 τ τ2 : MS} {m x u v g : Int} {W : Int → Int} {L L2 : List E8} {e : E8}
def lpn8 : List E8 → Int → Int
  | [], z => z
  | e :: L, z => lpn8 L (if e.1 = 1 then e.2 else z)
theorem lpn8_app : ∀ (L : List E8) (L2 : List E8) (z : Int), lpn8 (L ++ L2) z = lpn8 L2 (lpn8 L z)
  | [], _, _ => rfl
  | e :: L, L2, z => lpn8_app L L2 _
theorem pnm_app : ∀ (L L2 : List E8), pnm (L ++ L2) = pnm L ++ pnm L2
  | [], _ => rfl
  | e :: L, L2 => by
    have h := pnm_app L L2
    show (if e.1 = 1 then e.2 :: pnm (L ++ L2) else pnm (L ++ L2)) = (if e.1 = 1 then e.2 :: pnm L else pnm L) ++ pnm L2
    rw [h]
    split <;> rfl
def nl8 : List E8 → Nat
  | [] => 0
  | e :: L => (if e.1 = 2 then 1 else 0) + nl8 L
theorem nl8_app : ∀ (L L2 : List E8), nl8 (L ++ L2) = nl8 L + nl8 L2
  | [], L2 => by show nl8 L2 = 0 + nl8 L2; omega
  | e :: L, L2 => by
    have h := nl8_app L L2
    show (if e.1 = 2 then 1 else 0) + nl8 (L ++ L2) = ((if e.1 = 2 then 1 else 0) + nl8 L) + nl8 L2
    omega
theorem prg_fr {ss ks js : List Nat} (F : Fr ss ks js τ τ2) (hs : 10 ∉ ss) (hk : ∀ k ∈ [3, 4, 5, 6, 7, 8, 9, 11, 12, 14, 15, 16, 17, 18], k ∉ ks) : prg8 τ2 m = prg8 τ m ∧ pM8 τ2 = pM8 τ := by
  have e := fun k hm => F.2.1 k (hk k hm)
  have er : ∀ q, rV τ2 q = rV τ q := fun q => by
    have ri : ∀ y, rI τ2 y = rI τ y := fun y => by
      funext c
      unfold rI
      rw [e 3 (by decide), e 4 (by decide), e 5 (by decide), e 6 (by decide), e 7 (by decide), e 8 (by decide)]
    funext k
    unfold rV
    rw [e 9 (by decide), ri]
  have es : rS τ2 = rS τ := by
    funext q
    unfold rS
    rw [er, e 9 (by decide), e 12 (by decide), e 14 (by decide), e 15 (by decide), e 16 (by decide), e 17 (by decide), e 18 (by decide)]
  have em : mS8 τ2 = mS8 τ := by
    funext q
    unfold mS8
    rw [er, e 9 (by decide)]
  refine ⟨?_, ?_⟩
  · unfold prg8
    rw [F.1 10 hs, es, em]
  · funext q
    unfold pM8
    rw [e 11 (by decide)]
def RN8 (τ : MS) (m x : Int) (W : Int → Int) (L : List E8) (s : List F8) : Prop := ∃ n, run8 (prg8 τ m) (pM8 τ) n [(x, 0, cal8 (prg8 τ m x) (pM8 τ x) W, 1)] L s
def EVR (τ : MS) (m x : Int) (W : Int → Int) (L : List E8) : Prop := RN8 τ m x W L (ab8 τ m (τ.2.1 73 m).toNat) ∧ PRT8 τ m (pnm L)
theorem RN8.fr {ss ks js : List Nat} {s : List F8} (h : RN8 τ m x W L s) (F : Fr ss ks js τ τ2) (hs : 10 ∉ ss) (hk : ∀ k ∈ [3, 4, 5, 6, 7, 8, 9, 11, 12, 14, 15, 16, 17, 18], k ∉ ks) : RN8 τ2 m x W L s := by
  obtain ⟨e1, e2⟩ := prg_fr (m := m) F hs hk
  unfold RN8
  rw [e1, e2]
  exact h
theorem PRT8.cg (h : PRT8 τ m (pnm L)) (e76 : τ2.2.1 76 m = τ.2.1 76 m) (e77 : ∀ i, 0 ≤ i → i < 200 → τ2.2.1 77 (200 * m + i) = τ.2.1 77 (200 * m + i)) : PRT8 τ2 m (pnm L) := ⟨e76.trans h.1, fun i a b => (e77 i (by omega) (by omega)).trans (h.2 i a b)⟩
theorem pnm_0 (he : e.1 ≠ 1) : pnm (L ++ ev8 e) = pnm L := by
  rw [pnm_app]
  unfold ev8
  split
  · exact List.append_nil _
  · show pnm L ++ (if e.1 = 1 then e.2 :: [] else []) = pnm L
    rw [if_neg he]
    exact List.append_nil _
theorem pnm_1 {z : Int} : pnm (L ++ ev8 (1, z)) = pnm L ++ [z] := by
  rw [pnm_app]
  unfold ev8
  rw [if_neg (by intro q; have := congrArg Prod.fst q; simp at this)]
  rfl
theorem gd_lt : ∀ (P : List Int) (z : Int) (i : Nat), i < P.length → (P ++ [z]).getD i 0 = P.getD i 0
  | [], _, _, h => absurd h (Nat.not_lt_zero _)
  | p :: P, z, 0, h => rfl
  | p :: P, z, i + 1, h => gd_lt P z i (Nat.lt_of_succ_lt_succ h)
theorem gd_eq : ∀ (P : List Int) (z : Int), (P ++ [z]).getD P.length 0 = z
  | [], z => rfl
  | p :: P, z => gd_eq P z
theorem PRT8.shw (h : PRT8 τ m (pnm L)) (s : SHW τ m v τ2 e) : PRT8 τ2 m (pnm (L ++ ev8 e)) := by
  have k : ∀ a b : Int, a ≠ 1 → e = (a, b) → τ2.2.1 76 = τ.2.1 76 → τ2.2.1 77 = τ.2.1 77 → PRT8 τ2 m (pnm (L ++ ev8 e)) := fun a b ha he h6 h7 => by
    rw [pnm_0 (by rw [he]; exact ha)]
    exact h.cg (by rw [h6]) (fun i _ _ => by rw [h7])
  rcases s with ⟨-, s1, s2, s3⟩ | ⟨-, s1, s2, s3⟩ | ⟨-, s1, s2, s3⟩ | ⟨-, s1, s2, s3⟩ | ⟨-, z, s1, -, s2, s3, s4⟩
  · exact k 4 0 (by decide) s1 s2 s3
  · exact k 3 _ (by decide) s1 s2 s3
  · exact k 2 0 (by decide) s1 s2 s3
  · exact k 0 0 (by decide) s1 s2 s3
  · rw [s1, pnm_1]
    obtain ⟨h1, h2⟩ := h
    refine ⟨by rw [s2, h1, List.length_append]; simp, fun i a b => ?_⟩
    rw [List.length_append] at b
    simp only [List.length_cons, List.length_nil] at b
    by_cases q : i < (pnm L).length
    · rw [s3 _ (by omega), h2 i a q, gd_lt _ _ _ q]
    · have ei : i = (pnm L).length := by omega
      rw [ei, gd_eq]
      have z2 := s4 (by omega)
      rw [h1] at z2
      exact z2
theorem EVR.st (h : EVR τ m x W L) (hr : RUN τ m) (hb : BKA τ m) (np : PAR τ) (gd : m ≠ 2 → GDA τ) (hs : STQ τ m v τ2) : ∃ e, SHW τ m v τ2 e ∧ RN8 τ2 m x W (L ++ ev8 e) (if v = 2 ∨ v = 3 then [] else ab8 τ2 m (τ2.2.1 73 m).toNat) ∧ PRT8 τ2 m (pnm (L ++ ev8 e)) := by
  obtain ⟨e, h1, h2⟩ := stp_ref hr hb np gd hs
  obtain ⟨⟨n, hn⟩, hp⟩ := h
  exact ⟨e, h2, RN8.fr ⟨n + 1, run8.trans hn (run8.one h1)⟩ (stq_fr hs) (by decide) (by decide), hp.shw h2⟩
theorem EVR.xj {ss ks js : List Nat} (h : EVR τ m x W L) (z : 0 ≤ τ.2.1 73 m ∧ τ.2.1 73 m ≤ 9) (xj : XJ m τ τ2) (F : Fr ss ks js τ τ2) (hs : 10 ∉ ss) (hk : ∀ k ∈ [3, 4, 5, 6, 7, 8, 9, 11, 12, 14, 15, 16, 17, 18], k ∉ ks) : EVR τ2 m x W L := by
  obtain ⟨⟨⟨h1, h2⟩, h3⟩, h4, h5, h6, h7⟩ := xj
  have ea : ab8 τ2 m (τ2.2.1 73 m).toNat = ab8 τ m (τ.2.1 73 m).toNat := by
    rw [h1]
    exact ab_c (fun c c0 c1 => by
      obtain ⟨q1, q2, q3⟩ := h3 c c0 (by omega)
      refine ⟨⟨q1, q2, rgf_c (fun g g0 g1 => ?_)⟩, dch_c q1 q3 (F.2.1 16 (hk 16 (by decide)))⟩
      have w := h7 (192 * c + g - 1728 * m) (by omega) (by omega)
      rw [show 1728 * m + (192 * c + g - 1728 * m) = 192 * c + g by omega] at w
      exact w)
  refine ⟨?_, h.2.cg h2 h5⟩
  rw [ea]
  exact h.1.fr F hs hk
end EVS
end
