/-! what is told of a go: events, and the pieces that are made -/
def E2 (σ : MS) (e : EV) : Prop := (e.1 = 0 → e.2.1 ≤ 120) ∧ (e.1 = 1 → ∃ v, (0 ≤ v ∧ v < σ.1 43) ∧ RBY σ e.2.2 v ∧ σ.2.1 45 v = e.2.1)
def E3 (σ : MS) (e : EV) : Prop := (e.1 = 0 → e.2.1 ≤ 120) ∧ (e.1 = 1 → ∃ v, (0 ≤ v ∧ v < σ.1 43) ∧ v < 6 ∧ RBY σ e.2.2 v ∧ σ.2.1 11 v = e.2.1)
/-- the tables of what was told stay -/
def TBm (σ τ : MS) : Prop := τ.1 43 = σ.1 43 ∧ τ.2.1 11 = σ.2.1 11 ∧ τ.2.1 45 = σ.2.1 45 ∧ τ.2.2 44 = σ.2.2 44
theorem TBm.of {ss ks js : List Nat} {σ τ : MS} (f : Fr ss ks js σ τ) (h1 : 43 ∉ ss) (h2 : 11 ∉ ks) (h3 : 45 ∉ ks) (h4 : 44 ∉ js) : TBm σ τ := ⟨f.1 43 h1, f.2.1 11 h2, f.2.1 45 h3, f.2.2 44 h4⟩
theorem TBm.trans {σ τ υ : MS} (h : TBm σ τ) (g : TBm τ υ) : TBm σ υ := ⟨g.1.trans h.1, g.2.1.trans h.2.1, g.2.2.1.trans h.2.2.1, g.2.2.2.trans h.2.2.2⟩
theorem RBY.tb {σ τ : MS} {w : Int64} {v : Int} (h : RBY σ w v) (t : TBm σ τ) : RBY τ w v := by unfold RBY; rw [t.1, t.2.2.2]; exact h
theorem RBY.bt {σ τ : MS} {w : Int64} {v : Int} (h : RBY τ w v) (t : TBm σ τ) : RBY σ w v := by unfold RBY at h; rw [t.1, t.2.2.2] at h; exact h
theorem E2.bt {σ τ : MS} {e : EV} (h : E2 τ e) (t : TBm σ τ) : E2 σ e := ⟨h.1, fun z => by
  obtain ⟨v, a, b, c⟩ := h.2 z
  exact ⟨v, by rw [← t.1]; exact a, b.bt t, by rw [← t.2.2.1]; exact c⟩⟩
theorem E3.tb {σ τ : MS} {e : EV} (h : E3 σ e) (t : TBm σ τ) : E3 τ e := ⟨h.1, fun z => by
  obtain ⟨v, a, b, c, d⟩ := h.2 z
  exact ⟨v, by rw [t.1]; exact a, b, c.tb t, by rw [t.2.1]; exact d⟩⟩
def P2F (σ τ : MS) (lg : List EV) : Prop := σ.1 25 = 2 → τ.1 26 = 0 → ∀ e ∈ lg, E2 σ e
theorem P2F.nil {σ τ : MS} : P2F σ τ [] := fun _ _ e h => absurd h (List.not_mem_nil)
theorem P2F.cat {σ τ υ : MS} {l1 l2 : List EV} (h : P2F σ τ l1) (g : P2F τ υ l2) (p : PBF σ τ) (q : PBF τ υ) (t : TBm σ τ) : P2F σ υ (l1 ++ l2) := fun a b e he => by
  have b2 : τ.1 26 = 0 := by
    by_cases z : τ.1 26 = 0
    · exact z
    · exact absurd b (q.2.2.2.2.1.1 z)
  rcases List.mem_append.mp he with x | x
  · exact h a b2 e x
  · exact (g (by rw [p.2.2.2.2.2.2.1]; exact a) b e x).bt t
def SGF (σ τ : MS) (lg : List EV) : Prop := σ.1 25 = 3 → σ.1 30 < 6 → τ.1 34 ≤ 180 → (∀ e ∈ lg, E3 σ e) →
  (∀ k, σ.1 34 ≤ k → k < τ.1 34 → OKI τ 1 (220 * σ.1 30 + k)) ∧ WS (iK τ (σ.1 30)) (iD τ (σ.1 30)) (iO τ (σ.1 30)) (σ.1 43) (σ.1 34) (τ.1 34) (σ.1 33) (τ.1 33)
theorem SGF.cat {σ τ υ : MS} {l1 l2 : List EV} (h : SGF σ τ l1) (g : SGF τ υ l2) (p : PBF σ τ) (q : PBF τ υ) (t : TBm σ τ) (t2 : TBm τ υ) (h30 : 0 ≤ σ.1 30 ∧ 0 ≤ σ.1 34) : SGF σ υ (l1 ++ l2) := fun a b c d => by
  obtain ⟨-, -, -, -, -, p6, p7, p8⟩ := p
  obtain ⟨q1, -, -, -, -, q6, -, -⟩ := q
  have H := h a b (by omega) (fun e x => d e (List.mem_append_left _ x))
  have G := g (by omega) (by omega) c (fun e x => (d e (List.mem_append_right _ x)).tb t)
  rw [p8, t.1] at G
  have ie : ∀ k, σ.1 34 ≤ k → k < τ.1 34 → IEQ τ (220 * σ.1 30 + k) υ (220 * σ.1 30 + k) := fun k x y => q1 _ (by omega) (by omega)
  refine ⟨fun k x y => ?_, (H.2.ext (fun k x y => ?_)).cat G.2⟩
  · by_cases z : k < τ.1 34
    · exact (ie k x z).oki t2.2.1 (H.1 k x z)
    · exact G.1 k (by omega) y
  · have := ie k x y
    exact ⟨this.1, this.2.1, this.2.2.1⟩
theorem SGF.nil {σ τ : MS} {lg : List EV} (h34 : τ.1 34 = σ.1 34) (h33 : σ.1 33 ≤ τ.1 33) : SGF σ τ lg := fun _ _ _ _ => ⟨fun k x y => by omega, by rw [h34]; exact WS.nil h33⟩
/-- numbers worked out are a piece -/
theorem SGF.ac {σ τ : MS} {lg : List EV} (h : AC σ τ) (p : PBF σ τ) (h33 : σ.1 33 ≤ τ.1 33) : SGF σ τ lg := fun a b c _ => by
  have p6 := p.2.2.2.2.2.1
  have key : ∀ k, σ.1 34 ≤ k → k < τ.1 34 → ACI τ (12 + τ.1 34) (220 * σ.1 30 + k) := fun k x y => h a b k x y (by omega)
  refine ⟨fun k x y => ?_, WS.plain h33 p6 (fun k x y => ?_)⟩
  · obtain ⟨c1, c2, c3, c4⟩ := key k x y
    have en : nArgs τ (220 * σ.1 30 + k) = 2 := by
      unfold nArgs
      rw [if_neg (by omega), if_neg (by omega), if_pos c1]
    refine ⟨by omega, by omega, by omega, by omega, by omega, by omega, by omega, fun i i0 i4 => ?_, by omega⟩
    have q := c4 i i0 i4
    refine ⟨q.1, fun z => ?_⟩
    have := q.2 z
    rw [en]
    omega
  · have := (key k x y).1
    simp only [iK]
    omega

