/-- items without arguments: LINE, LABEL, JUMP -/
theorem oki_bare {τ : MS} {x k d : Int} (h : ITz τ x k d 0) (hk : k = 11 ∨ k = 13 ∨ k = 8) (hd : k ≠ 11 → 0 ≤ d ∧ d < 4096) : OKI τ 1 x := by
  obtain ⟨h1, h2, h3, h4, h5⟩ := h
  refine ⟨by omega, by omega, by omega, by omega, by omega, by omega, by omega, fun i i0 i4 => ?_, by omega⟩
  rw [h5 i i0 i4]
  exact ⟨by omega, fun w => by omega⟩
/-- items with one: COPY, OUT, RETURN, ZERO -/
theorem oki_arg1 {σ : MS} {x k d ak a : Int} (h : ITz σ x k d 0) (hk : k = 0 ∨ k = 6 ∨ k = 7 ∨ k = 9) (hd : k = 0 → 0 ≤ d ∧ d < 192) (hd9 : k = 9 → 0 ≤ d ∧ d < 4096) (ha : (0 ≤ ak ∧ ak ≤ 2) ∧ (ak = 2 → 0 ≤ a ∧ a < 192)) : OKI (fArg x 0 ak a σ) 1 x := by
  have e3 : (fArg x 0 ak a σ).2.1 3 x = k := h.1
  have e4 : (fArg x 0 ak a σ).2.1 4 x = d := h.2.1
  have e5 : (fArg x 0 ak a σ).2.1 5 x = 0 := h.2.2.1
  have en : nArgs (fArg x 0 ak a σ) x = 1 := by
    unfold nArgs
    rw [e3]
    rcases hk with e | e | e | e <;> subst e <;> simp
  refine ⟨by omega, by omega, by omega, by omega, by omega, by omega, by omega, fun i i0 i4 => ?_, by omega⟩
  by_cases z : i = 0
  · rw [z, fArg_at.1, fArg_at.2, en]
    exact ⟨ha.1, fun w => ⟨ha.2 w, by omega⟩⟩
  · rw [(fArg_ne z).1, (fArg_ne z).2, en]
    have q : σ.2.1 7 (4 * x + i) = 0 := h.2.2.2.2 i i0 i4
    rw [q]
    exact ⟨by omega, fun w => by omega⟩

