/-! the reference: the run that stands, where another one goes -/
def RMC (σ τ : MS) : Prop := τ.2.1 75 0 = σ.2.1 75 0 ∧ (∀ i, 0 ≤ i → i < 200 → τ.2.1 77 i = σ.2.1 77 i) ∧ (∀ j, 0 ≤ j → j < 108 → τ.2.1 81 j = σ.2.1 81 j) ∧ ∀ j, 0 ≤ j → j < 1728 → τ.2.1 82 j = σ.2.1 82 j
def RQM (σ τ : MS) : Prop := ((τ.1 67 = σ.1 67 ∧ τ.1 68 = σ.1 68 ∧ τ.1 69 = σ.1 69 ∧ τ.1 70 = σ.1 70) ∧ τ.2.1 16 = σ.2.1 16) ∧ X0 0 σ τ ∧ RMC σ τ
theorem RMC.rfl {σ : MS} : RMC σ σ := ⟨_root_.rfl, fun _ _ _ => _root_.rfl, fun _ _ _ => _root_.rfl, fun _ _ _ => _root_.rfl⟩
theorem RMC.trans {σ τ υ : MS} (h : RMC σ τ) (g : RMC τ υ) : RMC σ υ := ⟨g.1.trans h.1, fun i a b => (g.2.1 i a b).trans (h.2.1 i a b), fun i a b => (g.2.2.1 i a b).trans (h.2.2.1 i a b), fun i a b => (g.2.2.2 i a b).trans (h.2.2.2 i a b)⟩
theorem RMC.pA {σ τ : MS} {k : Nat} {i v : Int} (h : RMC σ τ) (hk : (k = 75 → i ≠ 0) ∧ (k = 77 → 200 ≤ i) ∧ (k = 81 → 108 ≤ i) ∧ (k = 82 → 1728 ≤ i)) : RMC σ (sA k i v τ) := by
  have g : ∀ (q : Nat) (j : Int), (q = k → j ≠ i) → (sA k i v τ).2.1 q j = τ.2.1 q j := fun q j e => by
    by_cases z : q = k
    · subst z; exact ra_ne (e _root_.rfl) _root_.rfl
    · rw [sA_k z]
  refine ⟨(g 75 0 (fun e => ?_)).trans h.1, fun j a b => (g 77 j (fun e => ?_)).trans (h.2.1 j a b), fun j a b => (g 81 j (fun e => ?_)).trans (h.2.2.1 j a b), fun j a b => (g 82 j (fun e => ?_)).trans (h.2.2.2 j a b)⟩
  · have := hk.1 e.symm; omega
  · have := hk.2.1 e.symm; omega
  · have := hk.2.2.1 e.symm; omega
  · have := hk.2.2.2 e.symm; omega
theorem RMC.of {ss ks js : List Nat} {σ τ : MS} (f : Fr ss ks js σ τ) (hk : ∀ k ∈ [75, 77, 81, 82], k ∉ ks) : RMC σ τ := by
  refine ⟨?_, fun i _ _ => ?_, fun i _ _ => ?_, fun i _ _ => ?_⟩
  · rw [f.2.1 75 (hk 75 (by decide))]
  · rw [f.2.1 77 (hk 77 (by decide))]
  · rw [f.2.1 81 (hk 81 (by decide))]
  · rw [f.2.1 82 (hk 82 (by decide))]
theorem RQM.rfl {σ : MS} : RQM σ σ := ⟨⟨⟨_root_.rfl, _root_.rfl, _root_.rfl, _root_.rfl⟩, _root_.rfl⟩, X0.rfl, RMC.rfl⟩
theorem RQM.trans {σ τ υ : MS} (h : RQM σ τ) (g : RQM τ υ) : RQM σ υ := ⟨⟨⟨g.1.1.1.trans h.1.1.1, g.1.1.2.1.trans h.1.1.2.1, g.1.1.2.2.1.trans h.1.1.2.2.1, g.1.1.2.2.2.trans h.1.1.2.2.2⟩, g.1.2.trans h.1.2⟩, h.2.1.trans g.2.1, h.2.2.trans g.2.2⟩
theorem RQM.of {ss ks js : List Nat} {σ τ : MS} (f : Fr ss ks js σ τ) (hs : ∀ k ∈ [67, 68, 69, 70], k ∉ ss) (hk : ∀ k ∈ [16, 73, 75, 76, 77, 78, 79, 80, 81, 82], k ∉ ks) : RQM σ τ := ⟨⟨⟨f.1 67 (hs 67 (by decide)), f.1 68 (hs 68 (by decide)), f.1 69 (hs 69 (by decide)), f.1 70 (hs 70 (by decide))⟩, f.2.1 16 (hk 16 (by decide))⟩, X0.of f (fun k h => hk k ((by decide : ∀ k ∈ [73, 76, 78, 79, 80], k ∈ [16, 73, 75, 76, 77, 78, 79, 80, 81, 82]) k h)), RMC.of f (fun k h => hk k ((by decide : ∀ k ∈ [75, 77, 81, 82], k ∈ [16, 73, 75, 76, 77, 78, 79, 80, 81, 82]) k h))⟩
/-- a step of another run -/
theorem RMC.stq {τ τ2 : MS} {m u : Int} (hs : STQ τ m u τ2) (hm : 1 ≤ m ∧ m ≤ 2) (hr : RUN τ m) (b : BKA τ m) (p0 : 0 ≤ τ.2.1 76 m) : RMC τ τ2 := by
  have h73 := hr.1
  obtain ⟨t, et⟩ : ∃ t, t = 9 * m + τ.2.1 73 m - 1 := ⟨_, _root_.rfl⟩
  unfold STQ at hs
  rw [← et] at hs
  have pl := hr.2.1 t (by omega) (by omega)
  have ok := (b.2 _ pl.1.1 pl.1.2).2.1 _ pl.2.1.1 pl.2.1.2
  obtain ⟨x, ex⟩ : ∃ x, x = 220 * (bkm m + τ.2.1 78 t) + τ.2.1 79 t := ⟨_, _root_.rfl⟩
  rw [← ex] at hs ok
  have n4 : ∀ (k : Nat), k ∉ [75, 77, 81, 82] → ∀ i : Int, (k = 75 → i ≠ 0) ∧ (k = 77 → 200 ≤ i) ∧ (k = 81 → 108 ≤ i) ∧ (k = 82 → 1728 ≤ i) := fun k hk i => by
    simp only [List.mem_cons, List.not_mem_nil, or_false] at hk
    omega
  rcases hs with hs | hs | hs | hs | hs | hs | hs | hs | hs | hs | hs
  · rw [hs.2.2.2]; exact RMC.rfl
  · rcases hs.2 with ⟨-, -, e⟩ | ⟨-, h2, e⟩
    · rw [e]; exact (RMC.rfl.pA (n4 73 (by decide) _)).pA ⟨fun _ => by omega, fun e => absurd e (by decide), fun e => absurd e (by decide), fun e => absurd e (by decide)⟩
    · have pl2 := hr.2.1 (t - 1) (by omega) (by omega)
      have ok2 := (b.2 _ pl2.1.1 pl2.1.2).2.1 _ pl2.2.1.1 pl2.2.1.2
      have kk := hr.2.2.1 (t - 1) (by omega) (by omega)
      unfold kdm at kk
      have d0 := (ok2.2.1 (Or.inr kk)).1
      rw [e]
      exact ((RMC.rfl.pA (n4 73 (by decide) _)).pA ⟨fun e => absurd e (by decide), fun e => absurd e (by decide), fun e => absurd e (by decide), fun _ => by omega⟩).pA (n4 79 (by decide) _)
  · have d0 := (ok.2.1 (Or.inl (by omega))).1
    rw [hs.2.2]
    exact (RMC.rfl.pA ⟨fun e => absurd e (by decide), fun e => absurd e (by decide), fun e => absurd e (by decide), fun _ => by omega⟩).pA (n4 79 (by decide) _)
  · have d0 := (ok.2.1 (Or.inl (by omega))).1
    rw [hs.2.2]
    exact (RMC.rfl.pA ⟨fun e => absurd e (by decide), fun e => absurd e (by decide), fun e => absurd e (by decide), fun _ => by omega⟩).pA (n4 79 (by decide) _)
  · rw [hs.2.2]
    split
    · exact ((RMC.rfl.pA ⟨fun e => absurd e (by decide), fun _ => by omega, fun e => absurd e (by decide), fun e => absurd e (by decide)⟩).pA (n4 76 (by decide) _)).pA (n4 79 (by decide) _)
    · exact (RMC.rfl.pA (n4 76 (by decide) _)).pA (n4 79 (by decide) _)
  · obtain ⟨-, -, j, -, e⟩ := hs
    rw [e]; exact RMC.rfl.pA (n4 79 (by decide) _)
  · rw [hs.2.2]; exact RMC.rfl.pA (n4 79 (by decide) _)
  · have d0 := (ok.2.2.2.2.2.1 (Or.inl hs.1)).1
    rw [hs.2.2]
    exact (RMC.rfl.pA ⟨fun e => absurd e (by decide), fun e => absurd e (by decide), fun _ => by omega, fun e => absurd e (by decide)⟩).pA (n4 79 (by decide) _)
  · have d0 := (ok.2.2.2.1 (Or.inl hs.1)).1
    rw [hs.2.2.2]
    exact ((RMC.rfl.pA (n4 80 (by decide) _)).pA ⟨fun e => absurd e (by decide), fun e => absurd e (by decide), fun _ => by omega, fun e => absurd e (by decide)⟩).pA (n4 79 (by decide) _)
  · rw [hs.2.2]; exact (RMC.rfl.pA (n4 80 (by decide) _)).pA (n4 79 (by decide) _)
  · obtain ⟨-, -, -, τ1, ec, f2, pw⟩ := hs
    obtain ⟨f1, -, -, -, -, z1, z2⟩ := ec
    have a : RMC τ τ1 := by
      refine ⟨by rw [f1.2.1 75 (by decide)], fun i _ _ => by rw [f1.2.1 77 (by decide)], fun j j0 j1 => ?_, fun j j0 j1 => ?_⟩
      · rw [z1 j, if_neg (by omega)]
      · rw [z2 j, if_neg (by omega)]
    refine a.trans ⟨by rw [f2.2.1 75 (by decide)], fun i _ _ => by rw [f2.2.1 77 (by decide)], fun j _ _ => by rw [f2.2.1 81 (by decide)], fun j j0 j1 => ?_⟩
    rw [pw j, if_neg (by omega)]
theorem RQM.stq {τ τ2 : MS} {m u : Int} (hs : STQ τ m u τ2) (f : Fr [] [73, 75, 76, 77, 78, 79, 80, 81, 82] [] τ τ2) (x : XM m τ τ2) (hm : 1 ≤ m ∧ m ≤ 2) (hr : RUN τ m) (b : BKA τ m) (p0 : 0 ≤ τ.2.1 76 m) : RQM τ τ2 := ⟨⟨⟨f.1 67 (by decide), f.1 68 (by decide), f.1 69 (by decide), f.1 70 (by decide)⟩, f.2.1 16 (by decide)⟩, x.x0 (by omega), RMC.stq hs hm hr b p0⟩
/-- another run begins -/
theorem RQM.sm {σ τ : MS} {m x a b c d : Int} (f : Fr [] [73, 74, 75, 76, 78, 79, 80, 81, 82] [] σ τ) (x0 : X0 0 σ τ) (h : SMQ7 σ m x a b c d τ) (hm : 1 ≤ m) : RQM σ τ := by
  obtain ⟨-, -, -, h82, h81, h75⟩ := h
  exact ⟨⟨⟨f.1 67 (by decide), f.1 68 (by decide), f.1 69 (by decide), f.1 70 (by decide)⟩, f.2.1 16 (by decide)⟩, x0, h75 0 (by omega), fun i _ _ => by rw [f.2.1 77 (by decide)], fun j j0 j1 => h81 j (by omega), fun j j0 j1 => h82 j (by omega)⟩

