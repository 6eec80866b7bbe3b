/-! statements: what stands behind a LINE, and what a statement begins with -/
theorem WS.line {K D O : Int → Int} {R a b l0 l1 : Int} (hl : l0 ≤ l1) (hab : a < b) (h1 : K a = 11 ∧ O a = 0) (h2 : ∀ k, a < k → k < b → (K k ≠ 8 ∧ K k ≠ 9 ∧ K k ≠ 13 ∧ K k ≠ 14 ∧ K k ≠ 15) ∧ (K k = 10 → (0 ≤ O k ∧ O k < R) ∧ ∀ i, a < i → i < k → 0 ≤ K i ∧ K i ≤ 5)) : WS K D O R a b l0 l1 := by
  have nk : ∀ k, a ≤ k → k < b → K k ≠ 8 ∧ K k ≠ 9 ∧ K k ≠ 13 ∧ K k ≠ 14 ∧ K k ≠ 15 := fun k x y => by
    by_cases e : k = a
    · rw [e]; omega
    · exact (h2 k (by omega) y).1
  refine ⟨⟨hl, by omega⟩, fun k x y => ⟨(nk k x y).2.2.2.1, (nk k x y).2.2.2.2, fun z => ?_⟩, fun k x y z => ?_, fun p j x y u w e f i => ?_, fun k x y z => ?_⟩
  · have := nk k x y; omega
  · have := nk k x y; omega
  · have := nk p x y; omega
  · by_cases e : k = a
    · rw [e] at z; omega
    · have q := (h2 k (by omega) y).2 z
      exact ⟨q.1, a, by omega, by omega, h1.1, h1.2, fun i x2 y2 => q.2 i x2 y2⟩
def FS (σ τ : MS) : Prop := σ.1 25 = 3 → σ.1 30 < 6 → τ.1 34 ≤ 180 → τ.1 34 = σ.1 34 ∨ (τ.2.1 3 (220 * σ.1 30 + σ.1 34) = 11 ∧ σ.1 34 < τ.1 34) ∨ ((τ.2.1 3 (220 * σ.1 30 + σ.1 34) = 13 ∧ τ.2.1 3 (220 * σ.1 30 + (σ.1 34 + 1)) = 11) ∧ σ.1 34 + 1 < τ.1 34)
theorem FS.cat {σ τ υ : MS} (h : FS σ τ) (g : FS τ υ) (p : PBF σ τ) (q : PBF τ υ) (h0 : 0 ≤ σ.1 30 ∧ 0 ≤ σ.1 34) : FS σ υ := fun a b c => by
  obtain ⟨-, -, -, -, -, p6, p7, p8⟩ := p
  obtain ⟨q1, -, -, -, -, q6, -, -⟩ := q
  have H := h a b (by omega)
  have ie : ∀ k, σ.1 34 ≤ k → k < τ.1 34 → IEQ τ (220 * σ.1 30 + k) υ (220 * σ.1 30 + k) := fun k x y => q1 _ (by omega) (by omega)
  rcases H with e | e | e
  · have G := g (by omega) (by omega) c
    rw [p8, e] at G
    exact G
  · exact Or.inr (Or.inl ⟨(ie _ (Int.le_refl _) e.2).1.trans e.1, by omega⟩)
  · exact Or.inr (Or.inr ⟨⟨(ie _ (Int.le_refl _) (by omega)).1.trans e.1.1, (ie _ (by omega) e.2).1.trans e.1.2⟩, by omega⟩)
theorem FS.nil {σ τ : MS} (h : τ.1 34 = σ.1 34) : FS σ τ := fun _ _ _ => Or.inl h
/-- what stands behind a LINE: no labels, a call with numbers alone ahead of it -/
def ASF (σ τ : MS) (lg : List EV) : Prop := σ.1 25 = 3 → σ.1 30 < 6 → τ.1 34 ≤ 180 → (∀ e ∈ lg, E3 σ e) → ∀ k, σ.1 34 ≤ k → k < τ.1 34 → OKI τ 1 (220 * σ.1 30 + k) ∧ (iK τ (σ.1 30) k ≠ 8 ∧ iK τ (σ.1 30) k ≠ 9 ∧ iK τ (σ.1 30) k ≠ 13 ∧ iK τ (σ.1 30) k ≠ 14 ∧ iK τ (σ.1 30) k ≠ 15) ∧ (iK τ (σ.1 30) k = 10 → (0 ≤ iO τ (σ.1 30) k ∧ iO τ (σ.1 30) k < σ.1 43) ∧ ∀ i, σ.1 34 ≤ i → i < k → 0 ≤ iK τ (σ.1 30) i ∧ iK τ (σ.1 30) i ≤ 5)
theorem ASF.num {σ τ : MS} {lg : List EV} (h : AC σ τ) (p : PBF σ τ) (h33 : σ.1 33 ≤ τ.1 33) : ASF σ τ lg := fun a b c d k x y => by
  have A := (SGF.ac (lg := lg) h p h33 a b c d).1 k x y
  have ck := (h a b k x y (by omega)).1
  refine ⟨A, ?_, fun z => ?_⟩
  · simp only [iK]; omega
  · simp only [iK] at z; omega
theorem ASF.mv {σ τ υ : MS} {lg : List EV} (h : ASF σ τ lg) (p : PBF σ τ) (q : PBF τ υ) (t2 : TBm τ υ) (e : υ.1 34 = τ.1 34) (h0 : 0 ≤ σ.1 30 ∧ 0 ≤ σ.1 34) : ASF σ υ lg := fun a b c d k x y => by
  have e25 : τ.1 25 = σ.1 25 := p.2.2.2.2.2.2.1
  have e30 : τ.1 30 = σ.1 30 := p.2.2.2.2.2.2.2
  have H := h a b (by omega) d
  have ie : ∀ k, σ.1 34 ≤ k → k < τ.1 34 → IEQ τ (220 * σ.1 30 + k) υ (220 * σ.1 30 + k) := fun k x y => q.1 _ (by omega) (by omega)
  have A := H k x (by omega)
  have I := ie k x (by omega)
  refine ⟨I.oki t2.2.1 A.1, ?_, fun w => ?_⟩
  · simp only [iK]; rw [I.1]; exact A.2.1
  · simp only [iK] at w; rw [I.1] at w
    have B := A.2.2 w
    refine ⟨by simp only [iO]; rw [I.2.2.1]; exact B.1, fun i u v => ?_⟩
    simp only [iK]; rw [(ie i u (by omega)).1]; exact B.2 i u v
theorem ASF.snoc {σ τ υ : MS} {lg : List EV} (h : ASF σ τ lg) (p : PBF σ τ) (q : PBF τ υ) (t2 : TBm τ υ) (e : υ.1 34 = τ.1 34 + 1) (o : τ.1 25 = 3 → τ.1 30 < 6 → τ.1 34 < 180 → OKI υ 1 (PXx τ)) (kk : υ.2.1 3 (PXx τ) = 0 ∨ υ.2.1 3 (PXx τ) = 6 ∨ υ.2.1 3 (PXx τ) = 7 ∨ υ.2.1 3 (PXx τ) = 12) (h0 : 0 ≤ σ.1 30 ∧ 0 ≤ σ.1 34) : ASF σ υ lg := fun a b c d k x y => by
  have p6 := p.2.2.2.2.2.1
  have e25 : τ.1 25 = σ.1 25 := p.2.2.2.2.2.2.1
  have e30 : τ.1 30 = σ.1 30 := p.2.2.2.2.2.2.2
  have H := h a b (by omega) d
  have ie : ∀ k, σ.1 34 ≤ k → k < τ.1 34 → IEQ τ (220 * σ.1 30 + k) υ (220 * σ.1 30 + k) := fun k x y => q.1 _ (by omega) (by omega)
  have xe : PXx τ = 220 * σ.1 30 + τ.1 34 := by unfold PXx; rw [if_pos (by omega), e30]
  have o2 := o (by omega) (by omega) (by omega)
  rw [xe] at o2 kk
  by_cases z : k < τ.1 34
  · have A := H k x z
    have I := ie k x z
    refine ⟨I.oki t2.2.1 A.1, ?_, fun w => ?_⟩
    · simp only [iK]; rw [I.1]; exact A.2.1
    · simp only [iK] at w; rw [I.1] at w
      have B := A.2.2 w
      refine ⟨by simp only [iO]; rw [I.2.2.1]; exact B.1, fun i u v => ?_⟩
      simp only [iK]; rw [(ie i u (by omega)).1]; exact B.2 i u v
  · rw [show k = τ.1 34 by omega]
    refine ⟨o2, ?_, fun w => ?_⟩
    · simp only [iK]; omega
    · simp only [iK] at w; omega
theorem ASF.call {σ τ υ : MS} {lg : List EV} (h : AC σ τ) (p : PBF σ τ) (q : PBF τ υ) (t2 : TBm τ υ) (h33 : σ.1 33 ≤ τ.1 33) (e : υ.1 34 = τ.1 34 + 1) (kk : υ.2.1 3 (PXx τ) = 10) (o : σ.1 25 = 3 → σ.1 30 < 6 → τ.1 34 < 180 → (∀ e ∈ lg, E3 σ e) → OKI υ 1 (PXx τ) ∧ 0 ≤ υ.2.1 5 (PXx τ) ∧ υ.2.1 5 (PXx τ) < σ.1 43) (h0 : 0 ≤ σ.1 30 ∧ 0 ≤ σ.1 34) : ASF σ υ lg := fun a b c d k x y => by
  have p6 := p.2.2.2.2.2.1
  have e25 : τ.1 25 = σ.1 25 := p.2.2.2.2.2.2.1
  have e30 : τ.1 30 = σ.1 30 := p.2.2.2.2.2.2.2
  have H := (SGF.ac (lg := lg) h p h33 a b (by omega) d).1
  have hk : ∀ k, σ.1 34 ≤ k → k < τ.1 34 → 1 ≤ τ.2.1 3 (220 * σ.1 30 + k) ∧ τ.2.1 3 (220 * σ.1 30 + k) ≤ 5 := fun k x y => (h a b k x y (by omega)).1
  have ie : ∀ k, σ.1 34 ≤ k → k < τ.1 34 → IEQ τ (220 * σ.1 30 + k) υ (220 * σ.1 30 + k) := fun k x y => q.1 _ (by omega) (by omega)
  have xe : PXx τ = 220 * σ.1 30 + τ.1 34 := by unfold PXx; rw [if_pos (by omega), e30]
  have o2 := o a b (by omega) d
  rw [xe] at o2 kk
  by_cases z : k < τ.1 34
  · have I := ie k x z
    have A := hk k x z
    refine ⟨I.oki t2.2.1 (H k x z), ?_, fun w => ?_⟩
    · simp only [iK]; rw [I.1]; omega
    · simp only [iK] at w; rw [I.1] at w; omega
  · rw [show k = τ.1 34 by omega]
    refine ⟨o2.1, ?_, fun w => ⟨o2.2, fun i u v => ?_⟩⟩
    · simp only [iK]; omega
    · simp only [iK]; rw [(ie i u v).1]
      have := hk i u v
      omega
/-- a LINE was put -/
def LIT (ρ σ : MS) : Prop := (σ.2.1 3 (PXx ρ) = 11 ∧ σ.2.1 5 (PXx ρ) = 0) ∧ OKI σ 1 (PXx ρ)
theorem FS.of {ρ σ ω : MS} (h : LIT ρ σ) (e : σ.1 34 = ρ.1 34 + 1) (p : PBF ρ σ) (q : PBF σ ω) (h0 : 0 ≤ ρ.1 30 ∧ 0 ≤ ρ.1 34) : FS ρ ω := fun a b c => by
  have m2 := q.2.2.2.2.2.1
  have e30 : σ.1 30 = ρ.1 30 := p.2.2.2.2.2.2.2
  have x : PXx ρ = 220 * ρ.1 30 + ρ.1 34 := by unfold PXx; rw [if_pos (by omega)]
  have Z := h.1.1
  rw [x] at Z
  exact Or.inr (Or.inl ⟨(q.1 _ (by omega) (by omega)).1.trans Z, by omega⟩)
theorem SGF.line {σ τ ω : MS} {lg : List EV} (h1 : τ.1 34 = σ.1 34 + 1) (z : LIT σ τ) (p1 : PBF σ τ) (p2 : PBF τ ω) (t1 : TBm σ τ) (t2 : TBm τ ω) (h33 : σ.1 33 ≤ ω.1 33) (as : ASF τ ω lg) (h0 : 0 ≤ σ.1 30 ∧ 0 ≤ σ.1 34) : SGF σ ω lg := fun a b c d => by
  have m2 := p2.2.2.2.2.2.1
  have e25 : τ.1 25 = σ.1 25 := p1.2.2.2.2.2.2.1
  have e30 : τ.1 30 = σ.1 30 := p1.2.2.2.2.2.2.2
  have x : PXx σ = 220 * σ.1 30 + σ.1 34 := by unfold PXx; rw [if_pos (by omega)]
  obtain ⟨k1, k2⟩ := z
  rw [x] at k1 k2
  have k3 : IEQ τ (220 * σ.1 30 + σ.1 34) ω (220 * σ.1 30 + σ.1 34) := p2.1 _ (by omega) (by omega)
  have A := as (by omega) (by omega) c (fun e w => (d e w).tb t1)
  rw [e30, t1.1] at A
  refine ⟨fun k x y => ?_, WS.line h33 (by omega) ⟨k3.1.trans k1.1, k3.2.2.1.trans k1.2⟩ (fun k x y => ?_)⟩
  · by_cases e : k = σ.1 34
    · rw [e]; exact k3.oki t2.2.1 k2
    · exact (A k (by omega) y).1
  · have q := A k (by omega) y
    exact ⟨q.2.1, fun w => ⟨(q.2.2 w).1, fun i u v => (q.2.2 w).2 i (by omega) v⟩⟩
/-- the statement's beginning: its line is counted, j items are put, no token is used up -/
def LNP (j : Int) (ρ σ : MS) : Prop := RDY ρ ∧ NN ρ ∧ Fr [26, 27, 31, 34] [3, 4, 5, 6, 7, 8, 37] [] ρ σ ∧ PBF ρ σ ∧ (σ.1 34 = ρ.1 34 + j ∧ σ.1 31 = ρ.1 31 + 1) ∧ ρ.1 22 ≠ 0 ∧ srt σ = srt (lnP (ρ.1 19) ρ)
theorem LNP.tok {j : Int} {ρ σ : MS} (h : LNP j ρ σ) : TOK σ := by
  obtain ⟨h1, -, f, -⟩ := h
  unfold TOK
  rw [f.1 19 (by decide), f.1 20 (by decide), f.1 21 (by decide), f.1 22 (by decide), f.1 23 (by decide)]
  exact h1.1
theorem LNP.h0 {j : Int} {ρ σ : MS} (h : LNP j ρ σ) : 0 ≤ ρ.1 30 ∧ 0 ≤ ρ.1 34 := ⟨h.1.2.2.1.1, h.1.2.2.2.1.1⟩
theorem LNP.tb {j : Int} {ρ σ : MS} (h : LNP j ρ σ) : TBm ρ σ := TBm.of h.2.2.1 (by decide) (by decide) (by decide) (by decide)
theorem TS.line {j : Int} {ρ σ τ : MS} {new : List Nat} (l : LNP j ρ σ) (hj : 0 ≤ j ∧ j ≤ 1) (f : Fr [19, 20, 22, 23, 26, 27] [35] [24, 38] σ τ) (pb : PBF σ τ) (tok : TOK τ) (p : σ.1 20 ≤ τ.1 19) (g : ∀ {c : Int}, GOS [20] ρ (qq c) new τ (qq c) []) : TS 20 (2 - j) ρ new τ qq [] := by
  have tb := l.tb
  obtain ⟨l1, l2, l3, l4, l5, l6⟩ := l
  have hs := l1.1.2.1 l6.1
  have pc : PBC (2 - j) ρ τ := by
    unfold PBC
    rw [f.1 34 (by decide), f.1 32 (by decide), f.1 31 (by decide), f.1 33 (by decide), l3.1 32 (by decide), l3.1 33 (by decide)]
    have e20 := l3.1 20 (by decide)
    omega
  have pp := l4.trans pb
  exact ⟨pp, pc, RDY.of l1 ⟨pp.2.2.2.2.2.2.1, pp.2.2.2.2.2.2.2⟩ tok pc (by omega), tb.trans (TBm.of f (by decide) (by decide) (by decide) (by decide)), P2F.nil, fun _ => g⟩
def BLQ (k0 : Nat) (n : Int) (σ τ : MS) : Prop := ∃ lg, TS k0 n σ [] τ qq lg ∧ SGF σ τ lg ∧ FS σ τ ∧ τ.1 28 = σ.1 28 ∧ τ.1 29 = σ.1 29
section TSX
variable {k0 k : Nat} {n m : Int} {σ τ υ : MS} {rest kk : List Nat} {q : Int → QR} {lg l2 : List EV}
theorem TS.le (t : TS k0 n σ kk τ q lg) (h : m ≤ n) : TS k0 m σ kk τ q lg := ⟨t.1, t.2.1.le h, t.2.2⟩
theorem TS.sub (t : TS k0 n σ (k :: rest) τ qq lg) (u : TS k m τ [] υ qq l2) : TS k0 (n + m) σ rest υ qq (lg ++ l2) := t.go u.1 u.2.1 u.2.2.1 u.2.2.2.1 u.2.2.2.2.1 (u.2.2.2.2.2 _)
theorem TS.h0 (t : TS k0 n σ kk τ q lg) (hrd : RDY σ) : 0 ≤ σ.1 30 ∧ 0 ≤ σ.1 34 := ⟨hrd.2.2.1.1, hrd.2.2.2.1.1⟩
theorem TS.h1 (t : TS k0 n σ kk τ q lg) : 0 ≤ τ.1 30 ∧ 0 ≤ τ.1 34 := ⟨t.2.2.1.2.2.1.1, t.2.2.1.2.2.2.1.1⟩
theorem TS.h33 (t : TS k0 n σ kk τ q lg) : σ.1 33 ≤ τ.1 33 := t.2.1.2.2.2.2.2.2.1
/-- back to the name that was looked behind -/
theorem TS.back {new : List Nat} {q2 : Int → QR} (t : TS k0 n σ (k :: rest) τ q lg) (f : Fr [19, 20, 22, 23] [] [24] τ υ) (e : υ.1 19 = τ.1 19 ∧ υ.1 20 = τ.1 20 ∧ υ.1 22 = 2) (h22 : τ.1 22 ≠ 0) (h23 : -1 ≤ υ.1 23 ∧ υ.1 23 ≤ 9999999) (g : ∀ {c : Int}, GOS [k] τ (q c) new υ (q2 c) []) : TS k0 n σ (new ++ rest) υ q2 lg := by
  have pb : PBF τ υ := PBF.nop t.nn f (by decide) (by decide) (by decide)
  have tk := t.2.2.1.1
  have pc : PBC 0 τ υ := by
    unfold PBC
    rw [f.1 34 (by decide), f.1 32 (by decide), f.1 31 (by decide), f.1 33 (by decide), e.1]
    omega
  have hr : TOK υ := by
    unfold TOK at tk ⊢
    rw [e.1, e.2.1, e.2.2, f.1 21 (by decide)]
    omega
  have x := t.go0 pb pc (RDY.of t.2.2.1 ⟨pb.2.2.2.2.2.2.1, pb.2.2.2.2.2.2.2⟩ hr pc (by decide)) (TBm.of f (by decide) (by decide) (by decide) (by decide)) g
  rw [Int.add_zero] at x
  exact x
end TSX
theorem WD.bk {ss ks js : List Nat} {σ τ : MS} {w : Int64} (f : Fr ss ks js σ τ) (h1 : 22 ∉ ss) (h2 : 24 ∉ js) : WD τ w ↔ WD σ w := by unfold WD; rw [f.1 22 h1, f.2.2 24 h2]
theorem NMW.bk {ss ks js : List Nat} {σ τ : MS} (f : Fr ss ks js σ τ) (h1 : 22 ∉ ss) (h2 : 24 ∉ js) : NMW τ ↔ NMW σ := by unfold NMW; rw [f.1 22 h1, f.2.2 24 h2]
/-- an item was put, and perhaps given arguments -/
theorem PBF.it {ss ks js : List Nat} {σ υ : MS} {v : Int} (hn : NN σ) (f : Fr ss ks js σ υ) (hs : ∀ k ∈ [25, 26, 30], k ∉ ss) (hk : 35 ∉ ks) (hj : 38 ∉ js) (h34 : υ.1 34 = σ.1 34 + 1) (e : v = PXx σ) (o : OFF v σ υ) : PBF σ υ := PBF.put hn f hs hk hj h34 (by rw [← e]; exact o)
theorem ASF.pre {σ τ υ : MS} {lg : List EV} (h : ASF τ υ lg) (p : PBF σ τ) (t : TBm σ τ) (e : τ.1 34 = σ.1 34) : ASF σ υ lg := fun a b c d => by
  have e25 : τ.1 25 = σ.1 25 := p.2.2.2.2.2.2.1
  have e30 : τ.1 30 = σ.1 30 := p.2.2.2.2.2.2.2
  have H := h (by omega) (by omega) c (fun e w => (d e w).tb t)
  rw [e30, e, t.1] at H
  exact H

