theorem div8 {x : Int} (h : 0 ≤ x) (h2 : x ≤ 2147483647) : ∃ z : Int, (8 * z ≤ x ∧ x < 8 * z + 8) ∧ iI x / iI 8 = iI z := by
  refine ⟨x / 8, by omega, ?_⟩
  apply Int32.toInt_inj.mp
  rw [Int32.toInt_div_of_ne_right _ _ (by decide), iI_toInt ⟨by omega, h2⟩, iI_toInt ⟨by omega, by omega⟩, iI_toInt ⟨by omega, by omega⟩]
  exact Int.tdiv_eq_ediv_of_nonneg h
section TAB
variable {T : CT} {σ : MS} {x N : Nat} {r : Int}
theorem tLen_at {i : Int} {y : Nat} (h : σ.2.1 900 i = (y : Int)) : tLen T σ i = (T y).2 := by
  unfold tLen; rw [h, if_neg (by omega)]; rfl
theorem WT.tab (hw : WT T σ) (hx : (T x).1 = 0) (hr : 0 ≤ r ∧ r < 6) (hN : 1 ≤ N) (hN2 : N ≤ 32788) (hl : tLen T σ r < N) (hp : 9 * tLen T σ r + N ≤ 9 * N) : WT (tT T x 1 N) (sA 900 r x (rowS (1000 + x) (fun _ => 0) (gh N σ))) := by
  have w : WTx N 1 (tT T x 1 N) (rowS (1000 + x) (fun _ => 0) (gh N σ)) x := by
    have q := (hw.wx (a := x)).newI hx (Or.inl rfl : (1 : Nat) = 1 ∨ _) (f := fun _ => 0) (fun i => vok_0) hN
    rw [Nat.zero_add, Nat.zero_add] at q
    exact q
  have ol : tLen (tT T x 1 N) (rowS (1000 + x) (fun _ => 0) (gh N σ)) r = tLen T σ r := by
    unfold tLen
    rw [show (rowS (1000 + x) (fun _ => 0) (gh N σ)).2.1 900 = σ.2.1 900 by rw [rowS_ne (by omega)]; rfl]
    rcases hw.2.2.2.2.1.2 r hr.1 hr.2 with q | ⟨y, q1, q2⟩
    · rw [if_pos q, if_pos q]
    · rw [q1, if_neg (by omega), if_neg (by omega)]
      show (tT T x 1 N y).2 = (T y).2
      rw [tT_gt hx y (by have := q2.1; omega)]
  generalize hT : tT T x 1 N = T2 at w ol
  generalize hS : rowS (1000 + x) (fun _ => 0) (gh N σ) = τ at w ol
  have hx2 : T2 x = (1, N) := by rw [← hT, tT_eq]
  obtain ⟨w1, w2, w3, w4, w5, b, K, w6, w7⟩ := w
  have nl : ∀ i : Int, i ≠ r → tLen T2 (sA 900 r x τ) i = tLen T2 τ i := fun i h => by unfold tLen; rw [sA_ne h]
  have nr : tLen T2 (sA 900 r x τ) r = N := by rw [tLen_at (show (sA 900 r x τ).2.1 900 r = (x : Int) from ra_eq), hx2]
  have e1 : cLen T2 (sA 900 r x τ) = cLen T2 τ := cLen_put (by omega)
  have e3 : prS (sA 900 r x τ) b = prS τ b := prS_put (by omega)
  have hs : tSum (tLen T2 (sA 900 r x τ)) + tLen T2 τ r = tSum (tLen T2 τ) + N := by
    unfold tSum
    have hc : r = 0 ∨ r = 1 ∨ r = 2 ∨ r = 3 ∨ r = 4 ∨ r = 5 := by omega
    rcases hc with h | h | h | h | h | h <;> subst h <;> (rw [nr]; first
      | rw [nl 1 (by decide), nl 2 (by decide), nl 3 (by decide), nl 4 (by decide), nl 5 (by decide)]; omega
      | rw [nl 0 (by decide), nl 2 (by decide), nl 3 (by decide), nl 4 (by decide), nl 5 (by decide)]; omega
      | rw [nl 0 (by decide), nl 1 (by decide), nl 3 (by decide), nl 4 (by decide), nl 5 (by decide)]; omega
      | rw [nl 0 (by decide), nl 1 (by decide), nl 2 (by decide), nl 4 (by decide), nl 5 (by decide)]; omega
      | rw [nl 0 (by decide), nl 1 (by decide), nl 2 (by decide), nl 3 (by decide), nl 5 (by decide)]; omega
      | rw [nl 0 (by decide), nl 1 (by decide), nl 2 (by decide), nl 3 (by decide), nl 4 (by decide)]; omega)
  refine ⟨fun n c q w => ?_, fun c y q r9 => ?_, fun c q => ?_, ⟨fun c q => ?_, fun c q => ?_⟩, ⟨w5.1, fun i i0 i1 => ?_⟩, b, K, w6, w7.1, w7.2.1, ?_, ?_⟩
  · rw [sA_k (by omega)]; exact w1 n c q w
  · rw [sA_k (by omega)] at r9
    rw [sA_k (by omega)]
    refine w2 c y (fun e => ?_) q r9
    have := q.1; rw [e, hx2] at this
    have h9 : 30 ≤ 1 := this
    omega
  · rw [sA_k (by omega)]; exact w3 c q
  · rw [sA_k (by omega)]; exact w4.1 c q
  · rw [sA_k (by omega)]; exact w4.2 c q
  · by_cases e : i = r
    · rw [e, show (sA 900 r x τ).2.1 900 r = (x : Int) from ra_eq]
      exact Or.inr ⟨x, rfl, by unfold AR; rw [hx2]; exact ⟨rfl, Nat.zero_le _, hN2⟩⟩
    · rw [sA_ne e]; exact w5.2 i i0 i1
  · rw [e1, e3]
    show τ.1 0 ≤ _
    have := w7.2.2.1
    omega
  · rw [e1, e3]
    show τ.1 1 ≤ _
    have := w7.2.2.2
    omega
end TAB
theorem mul_rng1 {x y b c d : Int} (h1 : 1 ≤ x) (h2 : x ≤ b) (h3 : 1 ≤ y) (h4 : y ≤ d) (h5 : b * d = c) : 1 ≤ x * y ∧ x * y ≤ c := by
  have q1 : 1 * 1 ≤ x * y := Int.mul_le_mul h1 h3 (by omega) (by omega)
  have q2 : x * y ≤ b * d := Int.mul_le_mul h2 h4 (by omega) (by omega)
  omega

