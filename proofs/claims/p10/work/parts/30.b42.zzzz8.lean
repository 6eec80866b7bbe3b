/-! an item by its kind -/
theorem JSB.a0 {T : CT} {s σ2 : MS} {a xa xb xc xd xe xf y : Nat} {t k K v : Int} (h : JSB T s a xa xb xc xd xe xf y t k K v σ2) (hc : K = 6) : v = 0 ∧ ∃ p s1, JOP T s a xe k 3 p ∧ JEM T s a xf p s1 ∧ σ2 = jP T xb t (w32 (k + 1)) s1 := by
  rcases h with h | h | h | h | h | h | h | h | h | h <;> first | exact h.2 | (exfalso; have z := h.1; omega)
theorem JSB.a1 {T : CT} {s σ2 : MS} {a xa xb xc xd xe xf y : Nat} {t k K v : Int} (h : JSB T s a xa xb xc xd xe xf y t k K v σ2) (hc : K = 8) : v = 0 ∧ ∃ cc x : Nat, JCD s a cc x ∧ σ2 = jP T xb t (jG T s cc x k 12) s := by
  rcases h with h | h | h | h | h | h | h | h | h | h <;> first | exact h.2 | (exfalso; have z := h.1; omega)
theorem JSB.a2 {T : CT} {s σ2 : MS} {a xa xb xc xd xe xf y : Nat} {t k K v : Int} (h : JSB T s a xa xb xc xd xe xf y t k K v σ2) (hc : K = 9) : v = 0 ∧ ∃ p, JOP T s a xe k 3 p ∧ ((p = 0 ∧ ∃ cc x : Nat, JCD s a cc x ∧ σ2 = jP T xb t (jG T s cc x k 12) s) ∨ (p ≠ 0 ∧ σ2 = jP T xb t (w32 (k + 1)) s)) := by
  rcases h with h | h | h | h | h | h | h | h | h | h <;> first | exact h.2 | (exfalso; have z := h.1; omega)
theorem JSB.a3 {T : CT} {s σ2 : MS} {a xa xb xc xd xe xf y : Nat} {t k K v : Int} (h : JSB T s a xa xb xc xd xe xf y t k K v σ2) (hc : K = 10) : v = 0 ∧ JCF T s a xa xb xc xd xe y k σ2 := by
  rcases h with h | h | h | h | h | h | h | h | h | h <;> first | exact h.2 | (exfalso; have z := h.1; omega)
theorem JSB.a4 {T : CT} {s σ2 : MS} {a xa xb xc xd xe xf y : Nat} {t k K v : Int} (h : JSB T s a xa xb xc xd xe xf y t k K v σ2) (hc : K = 7) : v = 0 ∧ ∃ p, JOP T s a xe k 3 p ∧ JGB T s a xa xb xc xe y p σ2 := by
  rcases h with h | h | h | h | h | h | h | h | h | h <;> first | exact h.2 | (exfalso; have z := h.1; omega)
theorem JSB.a5 {T : CT} {s σ2 : MS} {a xa xb xc xd xe xf y : Nat} {t k K v : Int} (h : JSB T s a xa xb xc xd xe xf y t k K v σ2) (hc : K = 11) : v = 1 ∧ ∃ (cc x : Nat) (s1 : MS), JCD s a cc x ∧ s1 = jP T xd (w32 (t * 12 + jG T s cc x k 2)) (jG T s cc x k 1) s ∧ σ2 = jP T xb t (w32 (k + 1)) s1 := by
  rcases h with h | h | h | h | h | h | h | h | h | h <;> first | exact h.2 | (exfalso; have z := h.1; omega)
theorem JSB.a6 {T : CT} {s σ2 : MS} {a xa xb xc xd xe xf y : Nat} {t k K v : Int} (h : JSB T s a xa xb xc xd xe xf y t k K v σ2) (hc : K = 14) : v = 0 ∧ ∃ (cc x : Nat) (s0 s1 s2 : MS), JCD s a cc x ∧ s0 = sA 58 a (w32 (s.2.1 58 a + 1)) s ∧ s1 = jP T xc t (jG T s0 cc x k 1) s0 ∧ s2 = jP T xd (w32 (t * 12 + jG T s1 cc x k 1)) 0 s1 ∧ σ2 = jP T xb t (w32 (k + 1)) s2 := by
  rcases h with h | h | h | h | h | h | h | h | h | h <;> first | exact h.2 | (exfalso; have z := h.1; omega)
theorem JSB.a7 {T : CT} {s σ2 : MS} {a xa xb xc xd xe xf y : Nat} {t k K v : Int} (h : JSB T s a xa xb xc xd xe xf y t k K v σ2) (hc : K = 15) : v = 0 ∧ ∃ (cc x xp : Nat) (s0 s1 : MS), JCD s a cc x ∧ s.2.1 12 cc = (xp : Int) ∧ s0 = sA 58 a (w32 (s.2.1 58 a - 1)) s ∧ s1 = jP T xc t (jA T xp (jG T s0 cc x k 1) s0) s0 ∧ σ2 = jP T xb t (w32 (k + 1)) s1 := by
  rcases h with h | h | h | h | h | h | h | h | h | h <;> first | exact h.2 | (exfalso; have z := h.1; omega)
theorem JSB.a8 {T : CT} {s σ2 : MS} {a xa xb xc xd xe xf y : Nat} {t k K v : Int} (h : JSB T s a xa xb xc xd xe xf y t k K v σ2) (hc : K = -1) : v = 0 ∧ JGB T s a xa xb xc xe y 0 σ2 := by
  rcases h with h | h | h | h | h | h | h | h | h | h <;> first | exact h.2 | (exfalso; have z := h.1; omega)
theorem JSB.a9 {T : CT} {s σ2 : MS} {a xa xb xc xd xe xf y : Nat} {t k K v : Int} (h : JSB T s a xa xb xc xd xe xf y t k K v σ2) (hc : (K < -1 ∨ (0 ≤ K ∧ K ≤ 5) ∨ K = 12 ∨ K = 13 ∨ 15 < K)) : v = 0 ∧ ∃ s1, JRK T s a xe k K s1 ∧ σ2 = jP T xb t (w32 (k + 1)) s1 := by
  rcases h with h | h | h | h | h | h | h | h | h | h <;> first | exact h.2 | (exfalso; have z := h.1; omega)

