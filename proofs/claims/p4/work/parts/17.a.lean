/-! what the reader keeps -/
def PXx (σ : MS) : Int := if σ.1 25 = 3 ∧ σ.1 34 < 220 ∧ σ.1 30 < 6 then 220 * σ.1 30 + σ.1 34 else 2640
def ITz (τ : MS) (x k d o : Int) : Prop := τ.2.1 3 x = k ∧ τ.2.1 4 x = d ∧ τ.2.1 5 x = o ∧ τ.2.1 6 x = 0 ∧ ∀ i, 0 ≤ i → i < 4 → τ.2.1 7 (4 * x + i) = 0
def NN (σ : MS) : Prop := ∀ r, 0 ≤ r → r < 6 → 0 ≤ σ.2.1 35 r ∧ σ.2.1 35 r ≤ 12
theorem NN.fr {ss ks js : List Nat} {σ τ : MS} (h : NN σ) (f : Fr ss ks js σ τ) (hk : 35 ∉ ks) : NN τ := by unfold NN; rw [f.2.1 35 hk]; exact h
def FLT (σ τ : MS) : Prop := (σ.1 26 ≠ 0 → τ.1 26 ≠ 0) ∧ (0 ≤ σ.1 26 → 0 ≤ τ.1 26)
theorem FLT.trans {σ τ υ : MS} (h : FLT σ τ) (g : FLT τ υ) : FLT σ υ := ⟨fun a => g.1 (h.1 a), fun a => g.2 (h.2 a)⟩
theorem FLT.eq {σ τ : MS} (h : τ.1 26 = σ.1 26) : FLT σ τ := by unfold FLT; rw [h]; exact ⟨id, id⟩
theorem FLT.wr {σ τ : MS} (h1 : σ.1 26 ≠ 0 → τ = σ) (h2 : σ.1 26 = 0 → τ = sS 27 (σ.1 19) (sS 26 1 σ)) : FLT σ τ := by
  by_cases z : σ.1 26 = 0
  · rw [h2 z]; exact ⟨fun a => absurd z a, fun _ => (by decide : (0 : Int) ≤ 1)⟩
  · rw [h1 z]; exact FLT.eq rfl
def PBF (σ τ : MS) : Prop :=
  (∀ x, x ≠ 2640 → (x < 220 * σ.1 30 + σ.1 34 ∨ 220 * σ.1 30 + 220 ≤ x ∨ σ.1 25 ≠ 3 ∨ 6 ≤ σ.1 30) → IEQ σ x τ x) ∧
  (σ.1 25 ≠ 1 → τ.2.1 35 = σ.2.1 35 ∧ τ.2.2 38 = σ.2.2 38) ∧ NN τ ∧ (∀ r, σ.2.1 35 r ≤ τ.2.1 35 r ∧ (r ≠ σ.1 30 → τ.2.1 35 r = σ.2.1 35 r)) ∧
  FLT σ τ ∧ σ.1 34 ≤ τ.1 34 ∧ τ.1 25 = σ.1 25 ∧ τ.1 30 = σ.1 30
theorem PBF.trans {σ τ υ : MS} (h : PBF σ τ) (g : PBF τ υ) : PBF σ υ := by
  obtain ⟨h1, h2, h3, h4, h5, h6, h7, h8⟩ := h
  obtain ⟨g1, g2, g3, g4, g5, g6, g7, g8⟩ := g
  refine ⟨fun x a b => (h1 x a b).trans (g1 x a (by omega)), fun a => ?_, g3, fun r => ⟨Int.le_trans (h4 r).1 (g4 r).1, fun a => ((g4 r).2 (by omega)).trans ((h4 r).2 a)⟩, h5.trans g5, by omega, g7.trans h7, g8.trans h8⟩
  have x := h2 a
  have y := g2 (by omega)
  exact ⟨y.1.trans x.1, y.2.trans x.2⟩
theorem IEQ.of {ss ks js : List Nat} {σ τ : MS} {x : Int} (f : Fr ss ks js σ τ) (h : ∀ k ∈ [3, 4, 5, 6, 7, 8], k ∉ ks) : IEQ σ x τ x := by
  unfold IEQ
  rw [f.q h (k := 3) (by decide), f.q h (k := 4) (by decide), f.q h (k := 5) (by decide), f.q h (k := 6) (by decide), f.q h (k := 7) (by decide), f.q h (k := 8) (by decide)]
  exact ⟨Eq.refl _, Eq.refl _, Eq.refl _, Eq.refl _, fun _ _ _ => ⟨Eq.refl _, Eq.refl _⟩⟩
theorem PBF.of {ss ks js : List Nat} {σ τ : MS} (hn : NN σ) (f : Fr ss ks js σ τ) (hs : ∀ k ∈ [25, 30, 34], k ∉ ss) (hk : ∀ k ∈ [3, 4, 5, 6, 7, 8, 35], k ∉ ks) (hj : 38 ∉ js) (h26 : FLT σ τ) : PBF σ τ :=
  ⟨fun x _ _ => IEQ.of f (fun k q => hk k (by revert k q; decide)), fun _ => ⟨f.2.1 35 (hk 35 (by decide)), f.2.2 38 hj⟩, hn.fr f (hk 35 (by decide)), fun r => by rw [f.2.1 35 (hk 35 (by decide))]; exact ⟨Int.le_refl _, fun _ => Eq.refl _⟩, h26, by rw [f.1 34 (hs 34 (by decide))]; omega, f.1 25 (hs 25 (by decide)), f.1 30 (hs 30 (by decide))⟩
theorem PBF.nop {ss ks js : List Nat} {σ τ : MS} (hn : NN σ) (f : Fr ss ks js σ τ) (hs : ∀ k ∈ [25, 26, 30, 34], k ∉ ss) (hk : ∀ k ∈ [3, 4, 5, 6, 7, 8, 35], k ∉ ks) (hj : 38 ∉ js) : PBF σ τ := PBF.of hn f (fun k q => hs k (by revert k q; decide)) hk hj (FLT.eq (f.1 26 (hs 26 (by decide))))
/-- one item is put -/
theorem PBF.put {ss ks js : List Nat} {σ τ : MS} (hn : NN σ) (f : Fr ss ks js σ τ) (hs : ∀ k ∈ [25, 26, 30], k ∉ ss) (hk : 35 ∉ ks) (hj : 38 ∉ js) (h34 : τ.1 34 = σ.1 34 + 1) (o : OFF (PXx σ) σ τ) : PBF σ τ := by
  refine ⟨fun x a b => o.ieq ?_, fun _ => ⟨f.2.1 35 hk, f.2.2 38 hj⟩, hn.fr f hk, fun r => by rw [f.2.1 35 hk]; exact ⟨Int.le_refl _, fun _ => Eq.refl _⟩, FLT.eq (f.1 26 (hs 26 (by decide))), by omega, f.1 25 (hs 25 (by decide)), f.1 30 (hs 30 (by decide))⟩
  unfold PXx
  split <;> omega
/-- a number that is worked out -/
def ACI (σ : MS) (B x : Int) : Prop := (1 ≤ σ.2.1 3 x ∧ σ.2.1 3 x ≤ 5) ∧ (0 ≤ σ.2.1 4 x ∧ σ.2.1 4 x < B) ∧ σ.2.1 5 x = 0 ∧ ∀ i, 0 ≤ i → i < 4 → (0 ≤ σ.2.1 7 (4 * x + i) ∧ σ.2.1 7 (4 * x + i) ≤ 2) ∧ (σ.2.1 7 (4 * x + i) = 2 → (0 ≤ σ.2.1 8 (4 * x + i) ∧ σ.2.1 8 (4 * x + i) < B) ∧ i < 2)
theorem ACI.mv {σ τ : MS} {B C x : Int} (h : ACI σ B x) (e : IEQ σ x τ x) (hb : B ≤ C) : ACI τ C x := by
  obtain ⟨h1, h2, h3, h4⟩ := h
  obtain ⟨e1, e2, e3, e4, e5⟩ := e
  refine ⟨by rw [e1]; exact h1, by rw [e2]; omega, by rw [e3]; exact h3, fun i a b => ?_⟩
  have q := h4 i a b
  rw [(e5 i a b).1, (e5 i a b).2]
  refine ⟨q.1, fun z => ?_⟩
  have := q.2 z
  omega
def AC (σ τ : MS) : Prop := σ.1 25 = 3 → σ.1 30 < 6 → ∀ k, σ.1 34 ≤ k → k < τ.1 34 → k < 220 → ACI τ (12 + τ.1 34) (220 * σ.1 30 + k)
theorem AC.trans {σ τ υ : MS} (h : AC σ τ) (p : PBF σ τ) (g : AC τ υ) (q : PBF τ υ) (h0 : 0 ≤ σ.1 30) : AC σ υ := fun a b k c d e => by
  obtain ⟨-, -, -, -, -, p6, p7, p8⟩ := p
  obtain ⟨q1, -, -, -, -, q6, -, -⟩ := q
  by_cases z : k < τ.1 34
  · refine (h a b k c z e).mv ?_ (by omega)
    rw [← p8]
    exact q1 _ (by omega) (by omega)
  · have y := g (by omega) (by omega) k (by omega) d e
    rw [p8] at y
    exact y
theorem AC.nil {σ τ : MS} (h : τ.1 34 = σ.1 34) : AC σ τ := fun _ _ k c d _ => by omega
theorem AC.one {σ τ : MS} (h34 : τ.1 34 = σ.1 34 + 1) (h : ACI τ (12 + τ.1 34) (PXx σ)) : AC σ τ := fun a b k c d e => by
  have ek : k = σ.1 34 := by omega
  have : PXx σ = 220 * σ.1 30 + k := by unfold PXx; rw [if_pos (by omega), ek]
  rw [← this]; exact h
def GTm (τ : MS) : Prop := (τ.1 39 = 1 ∨ τ.1 39 = 2) ∧ (τ.1 39 = 2 → 0 ≤ τ.1 40 ∧ τ.1 40 < 12 + τ.1 34)
/-- what is used up of the text, and what is made -/
def PBC (n : Int) (σ τ : MS) : Prop := σ.1 19 ≤ τ.1 19 ∧ 2 * σ.1 19 - σ.1 34 + n ≤ 2 * τ.1 19 - τ.1 34 ∧ σ.1 32 ≤ τ.1 32 ∧ τ.1 32 - σ.1 32 ≤ τ.1 34 - σ.1 34 ∧ σ.1 31 ≤ τ.1 31 ∧ τ.1 31 - σ.1 31 ≤ τ.1 19 - σ.1 19 ∧ σ.1 33 ≤ τ.1 33 ∧ τ.1 33 - σ.1 33 ≤ τ.1 34 - σ.1 34
theorem PBC.trans {n m : Int} {σ τ υ : MS} (h : PBC n σ τ) (g : PBC m τ υ) : PBC (n + m) σ υ := by
  unfold PBC at *
  omega
theorem PBC.le {n m : Int} {σ τ : MS} (h : PBC n σ τ) (e : m ≤ n) : PBC m σ τ := by
  unfold PBC at *
  omega
theorem PBC.nop {ss ks js : List Nat} {σ τ : MS} (f : Fr ss ks js σ τ) (hs : ∀ k ∈ [19, 31, 32, 33, 34], k ∉ ss) : PBC 0 σ τ := by
  unfold PBC
  rw [f.1 19 (hs 19 (by decide)), f.1 31 (hs 31 (by decide)), f.1 32 (hs 32 (by decide)), f.1 33 (hs 33 (by decide)), f.1 34 (hs 34 (by decide))]
  omega
/-- the reader stands well -/
def RDY (σ : MS) : Prop := TOK σ ∧ (0 ≤ σ.1 25 ∧ σ.1 25 ≤ 3) ∧ (0 ≤ σ.1 30 ∧ σ.1 30 ≤ 2000) ∧ (0 ≤ σ.1 34 ∧ σ.1 34 ≤ 2 * σ.1 19 + 10) ∧ (0 ≤ σ.1 32 ∧ σ.1 32 ≤ 12 + σ.1 34) ∧ (0 ≤ σ.1 31 ∧ σ.1 31 ≤ σ.1 19) ∧ (0 ≤ σ.1 33 ∧ σ.1 33 ≤ σ.1 34)
theorem OFF.fr {ss ks js : List Nat} {x : Int} {σ τ υ : MS} (h : OFF x σ τ) (f : Fr ss ks js τ υ) (hk : ∀ k ∈ [3, 4, 5, 6, 7, 8, 9, 11], k ∉ ks) : OFF x σ υ := by
  unfold OFF
  rw [f.q hk (k := 3) (by decide), f.q hk (k := 4) (by decide), f.q hk (k := 5) (by decide), f.q hk (k := 6) (by decide), f.q hk (k := 7) (by decide), f.q hk (k := 8) (by decide), f.q hk (k := 9) (by decide), f.q hk (k := 11) (by decide)]
  exact h
theorem fArg_at {x i k v : Int} {σ : MS} : (fArg x i k v σ).2.1 7 (4 * x + i) = k ∧ (fArg x i k v σ).2.1 8 (4 * x + i) = v := ⟨ra_o (by decide) ra_eq, ra_eq⟩
theorem fArg_ne {x i j k v : Int} {σ : MS} (h : j ≠ i) : (fArg x i k v σ).2.1 7 (4 * x + j) = σ.2.1 7 (4 * x + j) ∧ (fArg x i k v σ).2.1 8 (4 * x + j) = σ.2.1 8 (4 * x + j) := ⟨ra_o (by decide) (ra_ne (by omega) rfl), ra_ne (by omega) (ra_o (by decide) rfl)⟩
theorem ACI.mk {σ : MS} {x k t ak a bk c B : Int} (h : ITz σ x k t 0) (hk : 1 ≤ k ∧ k ≤ 5) (ht : 0 ≤ t ∧ t < B) (ha : (0 ≤ ak ∧ ak ≤ 2) ∧ (ak = 2 → 0 ≤ a ∧ a < B)) (hb : (0 ≤ bk ∧ bk ≤ 2) ∧ (bk = 2 → 0 ≤ c ∧ c < B)) : ACI (fArg x 1 bk c (fArg x 0 ak a σ)) B x := by
  obtain ⟨h1, h2, h3, h4, h5⟩ := h
  refine ⟨?_, ?_, ?_, fun i i0 i4 => ?_⟩
  · show 1 ≤ σ.2.1 3 x ∧ σ.2.1 3 x ≤ 5
    omega
  · show 0 ≤ σ.2.1 4 x ∧ σ.2.1 4 x < B
    omega
  · exact h3
  · by_cases z1 : i = 1
    · rw [z1, fArg_at.1, fArg_at.2]
      exact ⟨hb.1, fun q => ⟨hb.2 q, by omega⟩⟩
    · rw [(fArg_ne z1).1, (fArg_ne z1).2]
      by_cases z0 : i = 0
      · rw [z0, fArg_at.1, fArg_at.2]
        exact ⟨ha.1, fun q => ⟨ha.2 q, by omega⟩⟩
      · rw [(fArg_ne z0).1, h5 i i0 i4]
        exact ⟨by omega, fun q => by omega⟩
theorem PBF.name {σ : MS} {w : Int64} {z : Int} (hn : NN σ) (h1 : σ.1 25 = 1) (hr : 0 ≤ σ.1 30 ∧ σ.1 30 < 6) (h12 : σ.2.1 35 (σ.1 30) ≠ 12) : PBF σ (sA 35 (σ.1 30) (σ.2.1 35 (σ.1 30) + 1) (sJ 38 z w σ)) := by
  have f : Fr [] [35] [38] σ (sA 35 (σ.1 30) (σ.2.1 35 (σ.1 30) + 1) (sJ 38 z w σ)) := (Fr.rfl.J (by decide)).A (by decide)
  refine ⟨fun x _ _ => IEQ.of f (by decide), fun a => absurd h1 a, fun r a b => ?_, fun r => ⟨?_, fun a => ra_ne a rfl⟩, FLT.eq rfl, Int.le_refl _, rfl, rfl⟩
  by_cases e : r = σ.1 30
  · rw [e, show (sA 35 (σ.1 30) (σ.2.1 35 (σ.1 30) + 1) (sJ 38 z w σ)).2.1 35 (σ.1 30) = σ.2.1 35 (σ.1 30) + 1 from ra_eq]
    have := hn (σ.1 30) hr.1 hr.2
    omega
  · rw [show (sA 35 (σ.1 30) (σ.2.1 35 (σ.1 30) + 1) (sJ 38 z w σ)).2.1 35 r = σ.2.1 35 r from ra_ne e rfl]
    exact hn r a b
  by_cases e : r = σ.1 30
  · rw [e, show (sA 35 (σ.1 30) (σ.2.1 35 (σ.1 30) + 1) (sJ 38 z w σ)).2.1 35 (σ.1 30) = σ.2.1 35 (σ.1 30) + 1 from ra_eq]
    omega
  · rw [show (sA 35 (σ.1 30) (σ.2.1 35 (σ.1 30) + 1) (sJ 38 z w σ)).2.1 35 r = σ.2.1 35 r from ra_ne e rfl]
    exact Int.le_refl _
def NDQ (σ : MS) (c : Int) (τ : MS) : Prop := SG σ c ∧ ADVm σ τ ∧ TOK τ ∧ σ.1 20 ≤ τ.1 19 ∧ τ.1 26 = σ.1 26
theorem WRG.of {σ τ : MS} (h : σ.1 26 = 0 → τ = sS 27 (σ.1 19) (sS 26 1 σ)) : WRG σ τ := fun z => by
  rw [h z]
  exact ⟨rfl, rfl⟩

