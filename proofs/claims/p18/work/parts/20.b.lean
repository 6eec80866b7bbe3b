/-! the reference over its calls -/
theorem PLA.xp {ss ks js : List Nat} {σ τ : MS} (h : PLA σ) (x : XP σ τ) (g : Fr ss ks js σ τ) (hs : 10 ∉ ss) (hk : 11 ∉ ks) : PLA τ := by
  obtain ⟨⟨h1, h2⟩, h3⟩ := h
  have b2 : bkm 2 = 6 := rfl
  have f2 : ∀ (s : MS) r, fm s 2 r = 1 := fun _ _ => rfl
  have p2 : ∀ (s : MS) r, prm s 2 r = fun _ => -1 := fun _ _ => rfl
  refine ⟨⟨by rw [g.1 10 hs]; exact h1, fun r a b => ?_⟩, fun r a b => ?_⟩
  · rw [g.1 10 hs] at b
    have e9 : τ.2.1 9 (6 + r) = σ.2.1 9 (6 + r) := x.2 _ (by omega)
    have q : ∀ k, 0 ≤ k → k < 220 → IEQ σ (220 * (6 + r) + k) τ (220 * (6 + r) + k) := fun k u v => x.1 _ (by omega) (by omega)
    obtain ⟨h1, h2, h3, ⟨fr, lf, h4⟩, h5, h6, -⟩ := h2 r a b
    rw [b2, f2, p2] at h4
    rw [b2] at h1 h3
    rw [b2, f2] at h2
    unfold BKG
    rw [b2, f2, p2, g.1 10 hs, e9]
    refine ⟨h1, fun k a b => ?_, fun k a b e => ?_, ⟨fr, lf, h4.ext (fun k a b => ⟨(q k a (by omega)).1, (q k a (by omega)).2.1, (q k a (by omega)).2.2.1⟩)⟩, ⟨by omega, by omega⟩, fun f a b => (show -1 ≤ (-1 : Int) ∧ (-1 : Int) < f from ⟨by omega, by omega⟩), fun n _ _ m => absurd rfl m⟩
    · rw [e9] at b
      exact (q k a (by omega)).oki (g.2.1 11 hk) (h2 k a b)
    · rw [e9] at b
      rw [(q k a (by omega)).1] at e
      obtain ⟨j, j0, j1, j2, j3⟩ := h3 k a b e
      exact ⟨j, j0, by rw [e9]; exact j1, by rw [(q j j0 (by omega)).1]; exact j2, by rw [(q j j0 (by omega)).2.1, (q k a (by omega)).2.1]; exact j3⟩
  · rw [g.1 10 hs] at b
    have e9 : τ.2.1 9 (6 + r) = σ.2.1 9 (6 + r) := x.2 _ (by omega)
    have q9 := (h2 r a b).1
    rw [b2] at q9
    have q : ∀ k, 0 ≤ k → k < 220 → IEQ σ (220 * (6 + r) + k) τ (220 * (6 + r) + k) := fun k u v => x.1 _ (by omega) (by omega)
    have p := h3 r a b
    unfold PLN kdm dsm at p ⊢
    rw [b2] at p ⊢
    rw [e9]
    refine ⟨?_, fun p0 j c1 c2 c3 c4 c5 c6 c7 => ?_⟩
    · rw [(q 0 (by omega) (by omega)).1, (q 1 (by omega) (by omega)).1]; exact p.1
    · rw [(q p0 c1 (by omega)).1] at c5
      rw [(q j c3 (by omega)).1] at c6
      rw [(q j c3 (by omega)).2.1, (q p0 c1 (by omega)).2.1] at c7
      rcases p.2 p0 j c1 c2 c3 c4 c5 c6 c7 with y | y
      · exact Or.inl y
      · exact Or.inr (by rw [(q (j + 1) (by omega) (by omega)).1]; exact y)
def MST (σ : MS) : Prop := LAB σ ∧ BO 47 σ ∧ BO 59 σ ∧ BO 63 σ ∧ NUL σ ∧ KNW σ ∧ SSA σ ∧ SCA σ
def R7 (σ : MS) : Prop := σ.1 67 ≠ 0 → σ.1 68 = 0 → RUN σ 0
def INVM (N : Nat) (σ : MS) : Prop := RG σ ∧ (0 ≤ σ.1 2 ∧ σ.1 2 ≤ 1200) ∧ NN σ ∧ (0 ≤ σ.1 43 ∧ σ.1 43 ≤ 260) ∧ RDH σ ∧ MST σ ∧ R7 σ ∧ (0 ≤ σ.1 70 ∧ σ.1 70 ≤ 20000 * (N : Int)) ∧ (0 ≤ σ.2.1 76 0 ∧ σ.2.1 76 0 ≤ 20000 * (N : Int))
section IVM
variable {N : Nat} {ss ks js : List Nat} {σ τ : MS}
theorem INVM.rg (h : INVM N σ) : RG σ := h.1
theorem INVM.sz (h : INVM N σ) : 0 ≤ σ.1 2 ∧ σ.1 2 ≤ 1200 := h.2.1
theorem INVM.nn (h : INVM N σ) : NN σ := h.2.2.1
theorem INVM.n43 (h : INVM N σ) : 0 ≤ σ.1 43 ∧ σ.1 43 ≤ 260 := h.2.2.2.1
theorem INVM.rd (h : INVM N σ) : RDH σ := h.2.2.2.2.1
theorem INVM.ms (h : INVM N σ) : MST σ := h.2.2.2.2.2.1
theorem INVM.r7 (h : INVM N σ) : R7 σ := h.2.2.2.2.2.2.1
theorem INVM.n70 (h : INVM N σ) : 0 ≤ σ.1 70 ∧ σ.1 70 ≤ 20000 * (N : Int) := h.2.2.2.2.2.2.2.1
theorem INVM.n76 (h : INVM N σ) : 0 ≤ σ.2.1 76 0 ∧ σ.2.1 76 0 ≤ 20000 * (N : Int) := h.2.2.2.2.2.2.2.2
theorem INVM.gda (h : INVM N σ) : GDA σ := h.rd.1
theorem INVM.pla (h : INVM N σ) : PLA σ := h.rd.2.1
theorem INVM.itm (h : INVM N σ) : ITM σ := h.rd.2.2.1
theorem INVM.par (h : INVM N σ) : PAR σ := h.rd.2.2.2.1
theorem INVM.nam (h : INVM N σ) : NAM σ := h.rd.2.2.2.2.1
theorem INVM.b48 (h : INVM N σ) : BO 48 σ := h.rd.2.2.2.2.2
theorem INVM.rtn (h : INVM N σ) : RTN σ := h.gda.rtn
theorem INVM.lab (h : INVM N σ) : LAB σ := h.ms.1
theorem INVM.b47 (h : INVM N σ) : BO 47 σ := h.ms.2.1
theorem INVM.b59 (h : INVM N σ) : BO 59 σ := h.ms.2.2.1
theorem INVM.b63 (h : INVM N σ) : BO 63 σ := h.ms.2.2.2.1
theorem INVM.nul (h : INVM N σ) : NUL σ := h.ms.2.2.2.2.1
theorem INVM.knw (h : INVM N σ) : KNW σ := h.ms.2.2.2.2.2.1
theorem INVM.ssa (h : INVM N σ) : SSA σ := h.ms.2.2.2.2.2.2.1
theorem INVM.sca (h : INVM N σ) : SCA σ := h.ms.2.2.2.2.2.2.2
theorem INVM.pn (h : INVM N σ) : ∀ r, 0 ≤ r → r < σ.1 10 → σ.2.1 11 r ≤ σ.2.1 12 r := fun r a b => (h.gda.2 r a b).2.2.2.2.2.2.2.2
theorem INVM.bka (h : INVM N σ) : BKA σ 0 := h.gda.bka (by decide)
/-- what the run that stands is known by -/
theorem INVM.run1 (h : INVM N σ) : σ.1 67 ≠ 0 → σ.1 68 = 0 → RUD σ 0 ∧ 1 ≤ σ.2.1 73 0 := fun a b => ⟨(h.r7 a b).hd h.bka, (h.r7 a b).1.1⟩
theorem INVM.run2 (h : INVM N σ) : σ.1 67 ≠ 0 → σ.1 68 = 0 → RUD σ 0 ∧ ∀ c, 0 ≤ c → c < σ.2.1 73 0 → (0 ≤ σ.2.1 78 c ∧ σ.2.1 78 c < σ.1 10) ∧ (0 ≤ σ.2.1 79 c ∧ σ.2.1 79 c ≤ 219) := fun a b => ⟨(h.r7 a b).hd h.bka, fun c c0 c1 => by
  have p := (h.r7 a b).2.1 c (by omega) (by omega)
  have b0 : bkm 0 = 0 := rfl
  have q := p.2.1
  rw [b0, Int.zero_add] at q
  have q2 := (h.gda.2 _ p.1.1 p.1.2).1
  exact ⟨p.1, by omega⟩⟩
theorem INVM.gen (h : INVM N σ) (hR : RG τ) (hsz : 0 ≤ τ.1 2 ∧ τ.1 2 ≤ 1200) (hnn : NN τ) (h43 : 0 ≤ τ.1 43 ∧ τ.1 43 ≤ 260) (hrd : RDH τ) (hms : MST τ) (hr : R7 τ) (h70 : 0 ≤ τ.1 70 ∧ τ.1 70 ≤ σ.1 70 + 20000) (h76 : 0 ≤ τ.2.1 76 0 ∧ τ.2.1 76 0 ≤ σ.2.1 76 0 + 20000) : INVM (N + 1) τ := by
  have a := h.n70
  have b := h.n76
  exact ⟨hR, hsz, hnn, h43, hrd, hms, hr, ⟨h70.1, by omega⟩, ⟨h76.1, by omega⟩⟩
theorem RDH.fr8 (h : RDH σ) (f : Fr ss ks js σ τ) (hs : 10 ∉ ss) (hk : ∀ k ∈ [3, 4, 5, 6, 7, 8, 9, 11, 12, 14, 15, 16, 18], k ∉ ks) (h8 : BO 48 τ) : RDH τ := ⟨h.1.fr f hs hk, h.2.1.fr f hs (fun k q => hk k (by revert k q; decide)), h.2.2.1.fr f (hk 9 (by decide)), h.2.2.2.1.fr f (hk 11 (by decide)), h.2.2.2.2.1.fr f (hk 12 (by decide)), h8⟩
theorem MST.fr (h : MST σ) (f : Fr ss ks js σ τ) (hk : ∀ k ∈ [46, 47, 59, 63, 64, 60, 61, 50, 51, 52, 53, 55, 56, 57, 58], k ∉ ks) : MST τ := ⟨h.1.fr f (hk 46 (by decide)), h.2.1.fr f (hk 47 (by decide)), h.2.2.1.fr f (hk 59 (by decide)), h.2.2.2.1.fr f (hk 63 (by decide)), h.2.2.2.2.1.fr f (hk 64 (by decide)), h.2.2.2.2.2.1.fr f (fun k q => hk k (by revert k q; decide)), h.2.2.2.2.2.2.1.fr f (fun k q => hk k (by revert k q; decide)), h.2.2.2.2.2.2.2.fr f (fun k q => hk k (by revert k q; decide))⟩
theorem MST.fr2 (h : MST σ) (f : Fr ss ks js σ τ) (hk : ∀ k ∈ [59, 63, 64, 60, 61], k ∉ ks) (h1 : LAB τ) (h2 : BO 47 τ) (h3 : SSA τ) (h4 : SCA τ) : MST τ := ⟨h1, h2, h.2.2.1.fr f (hk 59 (by decide)), h.2.2.2.1.fr f (hk 63 (by decide)), h.2.2.2.2.1.fr f (hk 64 (by decide)), h.2.2.2.2.2.1.fr f (fun k q => hk k (by revert k q; decide)), h3, h4⟩
theorem R7.fr (h : R7 σ) (f : Fr ss ks js σ τ) (hs : ∀ k ∈ [10, 67, 68], k ∉ ss) (hk : ∀ k ∈ [3, 4, 5, 9, 14, 16, 73, 76, 78, 79, 80], k ∉ ks) : R7 τ := fun a b => (h (by rw [← f.1 67 (hs 67 (by decide))]; exact a) (by rw [← f.1 68 (hs 68 (by decide))]; exact b)).fr f (hs 10 (by decide)) hk
theorem INVM.fr (h : INVM N σ) (f : Fr ss ks js σ τ) (hR : RG τ) (hsz : 0 ≤ τ.1 2 ∧ τ.1 2 ≤ 1200) (hs : ∀ k ∈ [10, 43, 67, 68, 70], k ∉ ss) (hk : ∀ k ∈ [3, 4, 5, 6, 7, 8, 9, 11, 12, 14, 15, 16, 18, 35, 48, 46, 47, 59, 63, 64, 60, 61, 50, 51, 52, 53, 55, 56, 57, 58, 73, 76, 78, 79, 80], k ∉ ks) : INVM (N + 1) τ :=
  h.gen hR hsz (h.nn.fr f (hk 35 (by decide))) (by rw [f.1 43 (hs 43 (by decide))]; exact h.n43) (h.rd.fr8 f (hs 10 (by decide)) (fun k q => hk k (by revert k q; decide)) (h.b48.fr f (hk 48 (by decide)))) (h.ms.fr f (fun k q => hk k (by revert k q; decide))) (h.r7.fr f (fun k q => hs k (by revert k q; decide)) (fun k q => hk k (by revert k q; decide))) (by rw [f.1 70 (hs 70 (by decide))]; have := h.n70; omega) (by rw [f.2.1 76 (hk 76 (by decide))]; have := h.n76; omega)
theorem INVM.fr0 (h : INVM N σ) (f : Fr ss ks js σ τ) (hR : RG τ) (hs : ∀ k ∈ [2, 10, 43, 67, 68, 70], k ∉ ss) (hk : ∀ k ∈ [3, 4, 5, 6, 7, 8, 9, 11, 12, 14, 15, 16, 18, 35, 48, 46, 47, 59, 63, 64, 60, 61, 50, 51, 52, 53, 55, 56, 57, 58, 73, 76, 78, 79, 80], k ∉ ks) : INVM (N + 1) τ := h.fr f hR (by rw [f.1 2 (hs 2 (by decide))]; exact h.sz) (fun k q => hs k (by revert k q; decide)) hk
/-- told, known, value -/
theorem INVM.frT (h : INVM N σ) (f : Fr ss ks js σ τ) (hR : RG τ) (h1 : LAB τ) (h2 : BO 47 τ) (h8 : BO 48 τ) (h3 : SSA τ) (h4 : SCA τ) (hs : ∀ k ∈ [2, 10, 43, 67, 68, 70], k ∉ ss) (hk : ∀ k ∈ [3, 4, 5, 6, 7, 8, 9, 11, 12, 14, 15, 16, 18, 35, 59, 63, 64, 60, 61, 73, 76, 78, 79, 80], k ∉ ks) : INVM (N + 1) τ :=
  h.gen hR (by rw [f.1 2 (hs 2 (by decide))]; exact h.sz) (h.nn.fr f (hk 35 (by decide))) (by rw [f.1 43 (hs 43 (by decide))]; exact h.n43) (h.rd.fr8 f (hs 10 (by decide)) (fun k q => hk k (by revert k q; decide)) h8) (h.ms.fr2 f (fun k q => hk k (by revert k q; decide)) h1 h2 h3 h4) (h.r7.fr f (fun k q => hs k (by revert k q; decide)) (fun k q => hk k (by revert k q; decide))) (by rw [f.1 70 (hs 70 (by decide))]; have := h.n70; omega) (by rw [f.2.1 76 (hk 76 (by decide))]; have := h.n76; omega)
/-- beside -/
theorem INVM.frB (h : INVM N σ) (f : Fr ss ks js σ τ) (hR : RG τ) (h1 : LAB τ) (h2 : BO 47 τ) (h8 : BO 48 τ) (h3 : SSA τ) (h4 : SCA τ) (x : X0 0 σ τ) (hs : ∀ k ∈ [2, 10, 43, 67, 68, 70], k ∉ ss) (hk : ∀ k ∈ [3, 4, 5, 6, 7, 8, 9, 11, 12, 14, 15, 16, 18, 35, 59, 63, 64, 60, 61], k ∉ ks) : INVM (N + 1) τ :=
  h.gen hR (by rw [f.1 2 (hs 2 (by decide))]; exact h.sz) (h.nn.fr f (hk 35 (by decide))) (by rw [f.1 43 (hs 43 (by decide))]; exact h.n43) (h.rd.fr8 f (hs 10 (by decide)) (fun k q => hk k (by revert k q; decide)) h8) (h.ms.fr2 f (fun k q => hk k (by revert k q; decide)) h1 h2 h3 h4) (fun a b => (h.r7 (by rw [← f.1 67 (hs 67 (by decide))]; exact a) (by rw [← f.1 68 (hs 68 (by decide))]; exact b)).x0 x f (hs 10 (by decide)) (fun k q => hk k (by revert k q; decide))) (by rw [f.1 70 (hs 70 (by decide))]; have := h.n70; omega) (by rw [x.1.2]; have := h.n76; omega)
/-- go -/
theorem INVM.frG (h : INVM N σ) (f : Fr [0, 68, 69, 70] [73, 75, 76, 77, 78, 79, 80, 81, 82] [] σ τ) (hR : RG τ) (hr : R7 τ) (h70 : σ.1 70 ≤ τ.1 70 ∧ τ.1 70 ≤ σ.1 70 + 20000) (h76 : σ.2.1 76 0 ≤ τ.2.1 76 0 ∧ τ.2.1 76 0 ≤ σ.2.1 76 0 + 20000) : INVM (N + 1) τ :=
  h.gen hR (by rw [f.1 2 (by decide)]; exact h.sz) (h.nn.fr f (by decide)) (by rw [f.1 43 (by decide)]; exact h.n43) (h.rd.fr8 f (by decide) (by decide) (h.b48.fr f (by decide))) (h.ms.fr f (by decide)) hr (by have := h.n70; omega) (by have := h.n76; omega)
/-- start -/
theorem INVM.frS (h : INVM N σ) (f : Fr [0, 67, 68, 69, 70] [73, 74, 75, 76, 78, 79, 80, 81, 82] [] σ τ) (hR : RG τ) (hr : R7 τ) (h70 : τ.1 70 = σ.1 70 ∨ τ.1 70 = 0) (h76 : τ.2.1 76 0 = σ.2.1 76 0 ∨ τ.2.1 76 0 = 0) : INVM (N + 1) τ :=
  h.gen hR (by rw [f.1 2 (by decide)]; exact h.sz) (h.nn.fr f (by decide)) (by rw [f.1 43 (by decide)]; exact h.n43) (h.rd.fr8 f (by decide) (by decide) (h.b48.fr f (by decide))) (h.ms.fr f (by decide)) hr (by have := h.n70; omega) (by have := h.n76; omega)
/-- read -/
theorem INVM.frR (h : INVM N σ) (f : Fr [0, 2, 10, 19, 20, 21, 22, 23, 25, 26, 27, 28, 29, 30, 31, 32, 33, 34, 39, 40, 43, 67] [3, 4, 5, 6, 7, 8, 9, 11, 12, 13, 14, 15, 16, 17, 18, 35, 36, 37, 41, 42, 45, 48] [24, 38, 44] σ τ) (hR : RG τ) (h2 : τ.1 2 = 0) (hn : NN τ) (h43 : 0 ≤ τ.1 43 ∧ τ.1 43 ≤ 260) (q : RDQ σ τ) : INVM (N + 1) τ :=
  h.gen hR (by omega) hn h43 ⟨q.1, q.2.1, q.2.2.1, q.2.2.2.1, q.2.2.2.2.1, q.2.2.2.2.2.1⟩ (h.ms.fr f (by decide)) (fun a b => by
    rcases q.2.2.2.2.2.2 with e | ⟨e1, e2, e3⟩
    · exact absurd e a
    · exact e3 (h.r7 (by rw [← e1]; exact a) (by rw [← e2]; exact b))) (by rw [f.1 70 (by decide)]; have := h.n70; omega) (by rw [f.2.1 76 (by decide)]; have := h.n76; omega)
/-- pass -/
theorem INVM.frP (h : INVM N σ) (f : Fr [0, 62, 67] [3, 4, 5, 6, 7, 8, 9, 14, 15, 16, 17, 18, 46, 47, 48, 59, 60, 61, 63, 64, 65, 66] [] σ τ) (hR : RG τ) (hg : GDA τ) (hi : ITM τ) (h1 : LAB τ) (h2 : BO 47 τ) (h3 : BO 48 τ) (h4 : BO 59 τ) (h5 : BO 63 τ) (h6 : NUL τ) (h7 : KNW τ) (x : XP σ τ) (hc : τ = sS 0 0 σ ∨ τ.1 67 = 0) : INVM (N + 1) τ :=
  h.gen hR (by rw [f.1 2 (by decide)]; exact h.sz) (h.nn.fr f (by decide)) (by rw [f.1 43 (by decide)]; exact h.n43) ⟨hg, h.pla.xp x f (by decide) (by decide), hi, h.par.fr f (by decide), h.nam.fr f (by decide), h3⟩ ⟨h1, h2, h4, h5, h6, h7, h.ssa.fr f (by decide), h.sca.fr f (by decide)⟩ (fun a b => by
    rcases hc with e | e
    · have g : Fr [0] [] [] σ τ := by rw [e]; exact Fr.rfl.S (by decide)
      exact (h.r7.fr g (by decide) (by decide)) a b
    · exact absurd e a) (by rw [f.1 70 (by decide)]; have := h.n70; omega) (by rw [f.2.1 76 (by decide)]; have := h.n76; omega)
end IVM

