section
theorem dpt_q {τ τ2 : MS} (e16 : τ2.2.1 16 = τ.2.1 16) (x : X0 0 τ τ2) (h : τ.2.1 73 0 ≤ 9) : dpt τ2 0 = dpt τ 0 ∧ prm τ2 0 = prm τ 0 := by
  have ep : prm τ2 0 = prm τ 0 := by funext r f; unfold prm; rw [e16]
  refine ⟨?_, ep⟩
  rw [dpt_dsum, dpt_dsum, x.1.1]
  have k : ∀ n : Nat, (n : Int) ≤ 9 → dsum τ2 0 (τ2.2.1 78) (τ2.2.1 80) n = dsum τ 0 (τ.2.1 78) (τ.2.1 80) n := fun n => by
    induction n with
    | zero => intro _; rfl
    | succ n ih =>
      intro hn
      have q := x.2 (9 * 0 + n) (by omega) (by omega)
      show dsum τ2 0 _ _ n + dp τ2 0 (τ2.2.1 78 (9 * 0 + n)) (τ2.2.1 80 (9 * 0 + n)) = dsum τ 0 _ _ n + dp τ 0 (τ.2.1 78 (9 * 0 + n)) (τ.2.1 80 (9 * 0 + n))
      rw [ih (by omega), q.1, q.2.2]
      unfold dp
      rw [ep]
  exact k _ (by omega)
section L7S
variable {T T2 : CT} {σ σ2 τ τ2 : MS} {a rn xa xb xc xd xe xf y : Nat} {C : Int → Nat} {S : Nat → Prop} {E M : Int → Nat} {v v2 w n k x : Int}
theorem RXC.rmq (h : RXC σ a xa xb xc xd xe C τ) (q : RQM τ τ2) : RXC σ a xa xb xc xd xe C τ2 := by
  obtain ⟨⟨-, e16⟩, x, m75, m77, m81, m82⟩ := q
  obtain ⟨h1, h2, h3, h4⟩ := h
  have d := dpt_q e16 x h1.1.2
  have e73 := x.1.1
  unfold RXC
  rw [e73, d.1, d.2]
  refine ⟨h1, h2, by rw [(x.2 _ (by omega) (by omega)).1]; exact h3, fun c c0 c1 => ?_⟩
  have z := x.2 c (by omega) (by omega)
  have g := h4 c c0 c1
  rw [z.1, z.2.1, z.2.2]
  refine ⟨g.1, fun r r0 r1 => by rw [m82 _ (by omega) (by omega)]; exact g.2.1 r r0 r1, fun f f1 hf => ?_⟩
  have f0 := hf.1
  rw [m81 _ (by omega) (by omega)]
  exact g.2.2 f f1 hf
theorem RPQ.rmq (h : RPQ σ a xf τ) (q : RQM τ τ2) : RPQ σ a xf τ2 := by
  obtain ⟨-, x, m75, m77, -⟩ := q
  obtain ⟨h1, h2, h3⟩ := h
  exact ⟨by rw [x.1.2]; exact h1, fun i i0 i1 i2 => by rw [x.1.2] at i2; rw [m77 i i0 i1]; exact h2 i i0 i1 i2, by rw [m75]; exact h3⟩
theorem cdw_who (hW : CDW τ) {q : Int} (q0 : 0 ≤ q) (q1 : q < τ.1 10) : WHO (rV τ q) (τ.2.1 9 q) := fun j j0 j1 j12 => ((hW q q0 q1).1 j j0 j1).2.2 j12
theorem cdw_whb (hW : CDW τ) {q : Int} (q0 : 0 ≤ q) (q1 : q < τ.1 10) : WHB9 (rV τ q) (τ.2.1 9 q) := fun j j0 j1 j12 => (cdw_who hW q0 q1 j j0 j1 j12).1
end L7S
end
