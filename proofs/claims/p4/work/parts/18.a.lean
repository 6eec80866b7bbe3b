/-! pieces of a plain code: labels l0 to l1, calls to fewer than R routines -/
def WS (K D O : Int → Int) (R a b l0 l1 : Int) : Prop := (l0 ≤ l1 ∧ a ≤ b) ∧
  (∀ k, a ≤ k → k < b → K k ≠ 14 ∧ K k ≠ 15 ∧ ((K k = 8 ∨ K k = 9 ∨ K k = 13) → l0 ≤ D k ∧ D k < l1)) ∧
  (∀ k, a ≤ k → k < b → (K k = 8 ∨ K k = 9) → ∃ j, a ≤ j ∧ j < b ∧ K j = 13 ∧ D j = D k) ∧
  (∀ p j, a ≤ p → p < b → a ≤ j → j < b → (K p = 8 ∨ K p = 9) → K j = 13 → D j = D p → p < j ∨ (K (j + 1) = 11 ∧ j + 1 < b)) ∧
  (∀ k, a ≤ k → k < b → K k = 10 → (0 ≤ O k ∧ O k < R) ∧ ∃ j, a ≤ j ∧ j < k ∧ K j = 11 ∧ O j = 0 ∧ ∀ i, j < i → i < k → 0 ≤ K i ∧ K i ≤ 5)
section WSS
variable {K D O : Int → Int} {R a b c l0 l1 l2 : Int}
theorem WS.nil (h : l0 ≤ l1) : WS K D O R a a l0 l1 := ⟨⟨h, Int.le_refl _⟩, fun k x y => by omega, fun k x y => by omega, fun p j x y => by omega, fun k x y => by omega⟩
theorem WS.cat (h : WS K D O R a b l0 l1) (g : WS K D O R b c l1 l2) : WS K D O R a c l0 l2 := by
  obtain ⟨h0, h1, h2, h3, h4⟩ := h
  obtain ⟨g0, g1, g2, g3, g4⟩ := g
  refine ⟨⟨by omega, by omega⟩, fun k x y => ?_, fun k x y z => ?_, fun p j x y u w e f i => ?_, fun k x y z => ?_⟩
  · by_cases q : k < b
    · have := h1 k x q
      exact ⟨this.1, this.2.1, fun z => by have := this.2.2 z; omega⟩
    · have := g1 k (by omega) y
      exact ⟨this.1, this.2.1, fun z => by have := this.2.2 z; omega⟩
  · by_cases q : k < b
    · obtain ⟨j, j1, j2, j3⟩ := h2 k x q z
      exact ⟨j, j1, by omega, j3⟩
    · obtain ⟨j, j1, j2, j3⟩ := g2 k (by omega) y z
      exact ⟨j, by omega, j2, j3⟩
  · by_cases q : p < b
    · by_cases q2 : j < b
      · rcases h3 p j x q u q2 e f i with r | r
        · exact Or.inl r
        · exact Or.inr ⟨r.1, by omega⟩
      · exact Or.inl (by omega)
    · by_cases q2 : j < b
      · exfalso
        have r := (h1 j u q2).2.2 (Or.inr (Or.inr f))
        have t := (g1 p (by omega) y).2.2 (by omega)
        omega
      · exact g3 p j (by omega) y (by omega) w e f i
  · by_cases q : k < b
    · exact h4 k x q z
    · obtain ⟨r, j, j1, j2, j3⟩ := g4 k (by omega) y z
      exact ⟨r, j, by omega, j2, j3⟩
theorem WS.wide (h : WS K D O R a b l0 l1) (e0 : l2 ≤ l0) {l3 : Int} (e1 : l1 ≤ l3) : WS K D O R a b l2 l3 := by
  obtain ⟨h0, h1, h2, h3, h4⟩ := h
  exact ⟨⟨by omega, h0.2⟩, fun k x y => ⟨(h1 k x y).1, (h1 k x y).2.1, fun z => by have := (h1 k x y).2.2 z; omega⟩, h2, h3, h4⟩
/-- items without labels and calls -/
theorem WS.plain (hl : l0 ≤ l1) (hab : a ≤ b) (h : ∀ k, a ≤ k → k < b → K k ≠ 8 ∧ K k ≠ 9 ∧ K k ≠ 10 ∧ K k ≠ 13 ∧ K k ≠ 14 ∧ K k ≠ 15) : WS K D O R a b l0 l1 := by
  refine ⟨⟨hl, hab⟩, fun k x y => ⟨(h k x y).2.2.2.2.1, (h k x y).2.2.2.2.2, fun z => ?_⟩, fun k x y z => ?_, fun p j x y u w e f i => ?_, fun k x y z => absurd z (h k x y).2.2.1⟩
  · have := h k x y; omega
  · have := h k x y; omega
  · have := h p x y; omega
/-- a line, numbers, a call -/
theorem WS.call (hl : l0 ≤ l1) (hab : a + 1 < b) (h1 : K a = 11 ∧ O a = 0) (h2 : ∀ k, a < k → k < b - 1 → 0 ≤ K k ∧ K k ≤ 5) (h3 : K (b - 1) = 10 ∧ 0 ≤ O (b - 1) ∧ O (b - 1) < R) : WS K D O R a b l0 l1 := by
  have key : ∀ k, a ≤ k → k < b → k = a ∨ k = b - 1 ∨ (0 ≤ K k ∧ K k ≤ 5) := fun k x y => by
    by_cases e : k = a
    · exact Or.inl e
    · by_cases e2 : k = b - 1
      · exact Or.inr (Or.inl e2)
      · exact Or.inr (Or.inr (h2 k (by omega) (by omega)))
  have nk : ∀ k, a ≤ k → k < b → K k ≠ 8 ∧ K k ≠ 9 ∧ K k ≠ 13 ∧ K k ≠ 14 ∧ K k ≠ 15 := fun k x y => by
    rcases key k x y with e | e | e
    · rw [e]; omega
    · rw [e]; omega
    · omega
  refine ⟨⟨hl, by omega⟩, fun k x y => ⟨(nk k x y).2.2.2.1, (nk k x y).2.2.2.2, fun z => ?_⟩, fun k x y z => ?_, fun p j x y u w e f i => ?_, fun k x y z => ?_⟩
  · have := nk k x y; omega
  · have := nk k x y; omega
  · have := nk p x y; omega
  · have ek : k = b - 1 := by
      rcases key k x y with e | e | e
      · rw [e] at z; omega
      · exact e
      · omega
    rw [ek]
    exact ⟨h3.2, a, by omega, by omega, h1.1, h1.2, fun i x2 y2 => h2 i x2 y2⟩
/-- ZERO f, a piece, LABEL f -/
theorem WS.ifs (g : WS K D O R (a + 1) b (l0 + 1) l1) (h1 : K a = 9 ∧ D a = l0) (h2 : K b = 13 ∧ D b = l0) : WS K D O R a (b + 1) l0 l1 := by
  obtain ⟨g0, g1, g2, g3, g4⟩ := g
  refine ⟨⟨by omega, by omega⟩, fun k x y => ?_, fun k x y z => ?_, fun p j x y u w e f i => ?_, fun k x y z => ?_⟩
  · by_cases e : k = a
    · rw [e]; exact ⟨by omega, by omega, fun _ => by omega⟩
    · by_cases e2 : k = b
      · rw [e2]; exact ⟨by omega, by omega, fun _ => by omega⟩
      · have := g1 k (by omega) (by omega)
        exact ⟨this.1, this.2.1, fun z => by have := this.2.2 z; omega⟩
  · by_cases e : k = a
    · exact ⟨b, by omega, by omega, h2.1, by rw [e, h1.2, h2.2]⟩
    · by_cases e2 : k = b
      · rw [e2] at z; omega
      · obtain ⟨j, j1, j2, j3⟩ := g2 k (by omega) (by omega) z
        exact ⟨j, by omega, by omega, j3⟩
  · by_cases e2 : j = b
    · by_cases e3 : p = b
      · rw [e3] at e; omega
      · exact Or.inl (by omega)
    · by_cases e3 : j = a
      · rw [e3] at f; omega
      · have dj := (g1 j (by omega) (by omega)).2.2 (Or.inr (Or.inr f))
        by_cases e4 : p = a
        · rw [e4, h1.2] at i; omega
        · by_cases e5 : p = b
          · rw [e5] at e; omega
          · rcases g3 p j (by omega) (by omega) (by omega) (by omega) e f i with r | r
            · exact Or.inl r
            · exact Or.inr ⟨r.1, by omega⟩
  · by_cases e : k = a
    · rw [e] at z; omega
    · by_cases e2 : k = b
      · rw [e2] at z; omega
      · obtain ⟨r, j, j1, j2, j3⟩ := g4 k (by omega) (by omega) z
        exact ⟨r, j, by omega, j2, j3⟩
/-- ZERO f, a piece, JUMP s, LABEL f, a piece, LABEL s -/
theorem WS.ife (g : WS K D O R (a + 1) b (l0 + 1) l1) (u : WS K D O R (b + 2) c (l1 + 1) l2) (h1 : K a = 9 ∧ D a = l0) (h2 : K b = 8 ∧ D b = l1) (h3 : K (b + 1) = 13 ∧ D (b + 1) = l0) (h4 : K c = 13 ∧ D c = l1) : WS K D O R a (c + 1) l0 l2 := by
  obtain ⟨g0, g1, g2, g3, g4⟩ := g
  obtain ⟨u0, u1, u2, u3, u4⟩ := u
  have cs : ∀ k, a ≤ k → k < c + 1 → k = a ∨ (a + 1 ≤ k ∧ k < b) ∨ k = b ∨ k = b + 1 ∨ (b + 2 ≤ k ∧ k < c) ∨ k = c := fun k x y => by omega
  refine ⟨⟨by omega, by omega⟩, fun k x y => ?_, fun k x y z => ?_, fun p j x y x2 y2 e f i => ?_, fun k x y z => ?_⟩
  · rcases cs k x y with e | e | e | e | e | e
    · rw [e]; exact ⟨by omega, by omega, fun _ => by omega⟩
    · have := g1 k e.1 e.2
      exact ⟨this.1, this.2.1, fun z => by have := this.2.2 z; omega⟩
    · rw [e]; exact ⟨by omega, by omega, fun _ => by omega⟩
    · rw [e]; exact ⟨by omega, by omega, fun _ => by omega⟩
    · have := u1 k e.1 e.2
      exact ⟨this.1, this.2.1, fun z => by have := this.2.2 z; omega⟩
    · rw [e]; exact ⟨by omega, by omega, fun _ => by omega⟩
  · rcases cs k x y with e | e | e | e | e | e
    · exact ⟨b + 1, by omega, by omega, h3.1, by rw [e, h1.2, h3.2]⟩
    · obtain ⟨j, j1, j2, j3⟩ := g2 k e.1 e.2 z
      exact ⟨j, by omega, by omega, j3⟩
    · exact ⟨c, by omega, by omega, h4.1, by rw [e, h2.2, h4.2]⟩
    · rw [e] at z; omega
    · obtain ⟨j, j1, j2, j3⟩ := u2 k e.1 e.2 z
      exact ⟨j, by omega, by omega, j3⟩
    · rw [e] at z; omega
  · have pl : ∀ z, a ≤ z → z < c + 1 → (K z = 8 ∨ K z = 9) → z = a ∨ (a + 1 ≤ z ∧ z < b) ∨ z = b ∨ (b + 2 ≤ z ∧ z < c) := fun z z1 z2 z3 => by
      rcases cs z z1 z2 with q | q | q | q | q | q
      · exact Or.inl q
      · exact Or.inr (Or.inl q)
      · exact Or.inr (Or.inr (Or.inl q))
      · rw [q] at z3; omega
      · exact Or.inr (Or.inr (Or.inr q))
      · rw [q] at z3; omega
    rcases cs j x2 y2 with r | r | r | r | r | r
    · rw [r] at f; omega
    · have dj := (g1 j r.1 r.2).2.2 (Or.inr (Or.inr f))
      rcases pl p x y e with q | q | q | q
      · rw [q] at i; omega
      · rcases g3 p j q.1 q.2 r.1 r.2 e f i with t | t
        · exact Or.inl t
        · exact Or.inr ⟨t.1, by omega⟩
      · rw [q] at i; omega
      · have dp := (u1 p q.1 q.2).2.2 (by omega)
        omega
    · rw [r] at f; omega
    · rcases pl p x y e with q | q | q | q
      · exact Or.inl (by omega)
      · exact Or.inl (by omega)
      · exact Or.inl (by omega)
      · have dp := (u1 p q.1 q.2).2.2 (by omega)
        rw [r, h3.2] at i; omega
    · have dj := (u1 j r.1 r.2).2.2 (Or.inr (Or.inr f))
      rcases pl p x y e with q | q | q | q
      · rw [q] at i; omega
      · have dp := (g1 p q.1 q.2).2.2 (by omega)
        omega
      · rw [q] at i; omega
      · rcases u3 p j q.1 q.2 r.1 r.2 e f i with t | t
        · exact Or.inl t
        · exact Or.inr ⟨t.1, by omega⟩
    · rcases pl p x y e with q | q | q | q <;> exact Or.inl (by omega)
  · rcases cs k x y with e | e | e | e | e | e
    · rw [e] at z; omega
    · obtain ⟨r, j, j1, j2, j3⟩ := g4 k e.1 e.2 z
      exact ⟨r, j, by omega, j2, j3⟩
    · rw [e] at z; omega
    · rw [e] at z; omega
    · obtain ⟨r, j, j1, j2, j3⟩ := u4 k e.1 e.2 z
      exact ⟨r, j, by omega, j2, j3⟩
    · rw [e] at z; omega
/-- LABEL f, LINE, numbers, ZERO s, a piece, JUMP f, LABEL s -/
theorem WS.whl {m : Int} (g : WS K D O R (m + 1) b (l0 + 2) l1) (hm : a + 2 ≤ m) (h1 : K a = 13 ∧ D a = l0) (h2 : K (a + 1) = 11) (h3 : ∀ k, a + 2 ≤ k → k < m → 0 ≤ K k ∧ K k ≤ 5) (h4 : K m = 9 ∧ D m = l0 + 1) (h5 : K b = 8 ∧ D b = l0) (h6 : K (b + 1) = 13 ∧ D (b + 1) = l0 + 1) : WS K D O R a (b + 2) l0 l1 := by
  obtain ⟨g0, g1, g2, g3, g4⟩ := g
  have cs : ∀ k, a ≤ k → k < b + 2 → k = a ∨ k = a + 1 ∨ (a + 2 ≤ k ∧ k < m) ∨ k = m ∨ (m + 1 ≤ k ∧ k < b) ∨ k = b ∨ k = b + 1 := fun k x y => by omega
  refine ⟨⟨by omega, by omega⟩, fun k x y => ?_, fun k x y z => ?_, fun p j x y x2 y2 e f i => ?_, fun k x y z => ?_⟩
  · rcases cs k x y with e | e | e | e | e | e | e
    · rw [e]; exact ⟨by omega, by omega, fun _ => by omega⟩
    · rw [e]; exact ⟨by omega, by omega, fun _ => by omega⟩
    · have := h3 k e.1 e.2
      exact ⟨by omega, by omega, fun _ => by omega⟩
    · rw [e]; exact ⟨by omega, by omega, fun _ => by omega⟩
    · have := g1 k e.1 e.2
      exact ⟨this.1, this.2.1, fun z => by have := this.2.2 z; omega⟩
    · rw [e]; exact ⟨by omega, by omega, fun _ => by omega⟩
    · rw [e]; exact ⟨by omega, by omega, fun _ => by omega⟩
  · rcases cs k x y with e | e | e | e | e | e | e
    · rw [e] at z; omega
    · rw [e] at z; omega
    · have := h3 k e.1 e.2; omega
    · exact ⟨b + 1, by omega, by omega, h6.1, by rw [e, h4.2, h6.2]⟩
    · obtain ⟨j, j1, j2, j3⟩ := g2 k e.1 e.2 z
      exact ⟨j, by omega, by omega, j3⟩
    · exact ⟨a, by omega, by omega, h1.1, by rw [e, h5.2, h1.2]⟩
    · rw [e] at z; omega
  · have pl : ∀ z, a ≤ z → z < b + 2 → (K z = 8 ∨ K z = 9) → z = m ∨ (m + 1 ≤ z ∧ z < b) ∨ z = b := fun z z1 z2 z3 => by
      rcases cs z z1 z2 with q | q | q | q | q | q | q
      · rw [q] at z3; omega
      · rw [q] at z3; omega
      · have := h3 z q.1 q.2; omega
      · exact Or.inl q
      · exact Or.inr (Or.inl q)
      · exact Or.inr (Or.inr q)
      · rw [q] at z3; omega
    rcases cs j x2 y2 with r | r | r | r | r | r | r
    · exact Or.inr ⟨by rw [r]; exact h2, by omega⟩
    · rw [r] at f; omega
    · have := h3 j r.1 r.2; omega
    · rw [r] at f; omega
    · have dj := (g1 j r.1 r.2).2.2 (Or.inr (Or.inr f))
      rcases pl p x y e with q | q | q
      · rw [q] at i; omega
      · rcases g3 p j q.1 q.2 r.1 r.2 e f i with t | t
        · exact Or.inl t
        · exact Or.inr ⟨t.1, by omega⟩
      · rw [q] at i; omega
    · rw [r] at f; omega
    · rcases pl p x y e with q | q | q <;> exact Or.inl (by omega)
  · rcases cs k x y with e | e | e | e | e | e | e
    · rw [e] at z; omega
    · rw [e] at z; omega
    · have := h3 k e.1 e.2; omega
    · rw [e] at z; omega
    · obtain ⟨r, j, j1, j2, j3⟩ := g4 k e.1 e.2 z
      exact ⟨r, j, by omega, j2, j3⟩
    · rw [e] at z; omega
    · rw [e] at z; omega
theorem WS.ext {K' D' O' : Int → Int} (h : WS K D O R a b l0 l1) (e : ∀ k, a ≤ k → k < b → K' k = K k ∧ D' k = D k ∧ O' k = O k) : WS K' D' O' R a b l0 l1 := by
  obtain ⟨h0, h1, h2, h3, h4⟩ := h
  refine ⟨h0, fun k x y => ?_, fun k x y z => ?_, fun p j x y x2 y2 u f i => ?_, fun k x y z => ?_⟩
  · rw [(e k x y).1, (e k x y).2.1]; exact h1 k x y
  · rw [(e k x y).1] at z
    obtain ⟨j, j1, j2, j3, j4⟩ := h2 k x y z
    exact ⟨j, j1, j2, by rw [(e j j1 j2).1]; exact j3, by rw [(e j j1 j2).2.1, (e k x y).2.1]; exact j4⟩
  · rw [(e p x y).1] at u
    rw [(e j x2 y2).1] at f
    rw [(e j x2 y2).2.1, (e p x y).2.1] at i
    rcases h3 p j x y x2 y2 u f i with r | r
    · exact Or.inl r
    · exact Or.inr ⟨by rw [(e (j + 1) (by omega) r.2).1]; exact r.1, r.2⟩
  · rw [(e k x y).1] at z
    obtain ⟨r, j, j1, j2, j3, j4, j5⟩ := h4 k x y z
    refine ⟨by rw [(e k x y).2.2]; exact r, j, j1, j2, by rw [(e j j1 (by omega)).1]; exact j3, by rw [(e j j1 (by omega)).2.2]; exact j4, fun i x2 y2 => ?_⟩
    rw [(e i (by omega) (by omega)).1]; exact j5 i x2 y2
end WSS

