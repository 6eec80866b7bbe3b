/-- the first routine told by that name, or none -/
def RBY (σ : MS) (w : Int64) (v : Int) : Prop := (0 ≤ v → σ.2.2 44 v = w ∧ ∀ j, 0 ≤ j → j < v → σ.2.2 44 j ≠ w) ∧ (v = -1 → ∀ j, 0 ≤ j → j < σ.1 43 → σ.2.2 44 j ≠ w)
theorem RBY.one {σ : MS} {w : Int64} {u v : Int} (h : RBY σ w u) (g : RBY σ w v) (hu : 0 ≤ u) (hv : 0 ≤ v) : u = v := by
  by_cases a : u < v
  · exact absurd (h.1 hu).1 ((g.1 hv).2 u hu a)
  · by_cases b : v < u
    · exact absurd (g.1 hv).1 ((h.1 hu).2 v hv b)
    · omega

set_option maxHeartbeats 4000000 in
set_option maxRecDepth 20000 in
theorem l_routineB2 (d : Nat) {b : Nat} {σ : MS} {w : Int64} {post : Option Value → MS → Prop} (hR : RG σ) (ht : 0 ≤ σ.1 43 ∧ σ.1 43 ≤ 260) (hx_29 : ∀ (q : Int) , (∀ j, 0 ≤ j → j < σ.1 43 → σ.2.2 44 j ≠ w) → Tm (d + 1) m_X12_routineBy 29 b σ [(3, .int (iI q)), (0, .ref b), (1, .long (w))] [] post) (hr1 : ∀ q, 0 ≤ q → q < σ.1 43 → σ.2.2 44 q = w → (∀ j, 0 ≤ j → j < q → σ.2.2 44 j ≠ w) → post (some (.int (iI q))) σ) : ∀ (n : Nat) (q : Int) , (0 ≤ q ∧ q ≤ 260) → (∀ j, 0 ≤ j → j < q → σ.2.2 44 j ≠ w) → (260 - q).toNat = n → Tm (d + 1) m_X12_routineBy 2 b σ [(3, .int (iI q)), (0, .ref b), (1, .long (w))] [] post := by
  intro n
  induction n using Nat.strongRecOn with
  | _ n ih =>
    intro q h0 hb hm
    refine tm_iload_n dX12_routineBy_2 rfl 0 rfl ?_
    refine tm_aload_n dX12_routineBy_3 rfl 1 rfl ?_
    refine tm_getS (k := 43) (t := σ.1 43) dX12_routineBy_4 (by decide) fl12_376 rfl (rfl) ?_
    have g1 := RG.s hR 43
    refine tm_icmp_ge (tgt := 29) dX12_routineBy_7 (by decide) ⟨by omega, by omega⟩ ⟨by omega, by omega⟩ (fun h2 => ?_) (fun h2 => ?_)
    · exact tm_sub [0, 1, 2] rfl (hx_29 (q) (fun j a c => hb j a (by omega)))
    · refine tm_aload_n dX12_routineBy_10 rfl 1 rfl ?_
      refine tm_get (k := 44) (v := .ref (b + 1 + 22)) lay_12 dX12_routineBy_11 (by decide) fl12_82 rfl ?_
      refine tm_iload_n dX12_routineBy_14 rfl 0 rfl ?_
      refine tm_lald (z := q) (v := σ.2.2 44 q) dX12_routineBy_15 (show mT[22]? = some (44, 3, 260) from rfl) (by omega) (by omega) (by decide) (rfl) ?_
      refine tm_lload_n dX12_routineBy_16 rfl 2 rfl ?_
      refine tm_lcmp dX12_routineBy_17 ?_
      have g3 := lcI_b (σ.2.2 44 q) (w)
      refine tm_if_ne (tgt := 23) dX12_routineBy_18 (by decide) ⟨by omega, by omega⟩ (fun h4 => ?_) (fun h4 => ?_)
      · have h4e : ¬ (σ.2.2 44 q) = (w) := fun q => h4 (lcI_0.mpr q)
        refine tm_iinc (q0 := 0) (L' := [(3, .int (iI (q + 1))), (0, .ref b), (1, .long (w))]) dX12_routineBy_23 rfl (by decide) rfl ?_
        refine tm_goto (tgt := 2) dX12_routineBy_26 (by decide) ?_
        exact tm_sub [0, 1, 2] rfl (ih _ (by omega) (q + 1) (by omega) (fun j a c => (Classical.em (j = q)).elim (fun z => by rw [z]; assumption) (fun z => hb j a (by omega))) rfl)
      · have h4e := lcI_0.mp h4
        refine tm_iload_n dX12_routineBy_21 rfl 0 rfl ?_
        exact tm_iret rfl dX12_routineBy_22 (hr1 q (by omega) (by omega) (by assumption) hb)
set_option maxHeartbeats 4000000 in
set_option maxRecDepth 20000 in
theorem c2_X12_routineBy (d : Nat) {b : Nat} {σ : MS} {w : Int64} (hR : RG σ) (ht : 0 ≤ σ.1 43 ∧ σ.1 43 ≤ 260) : Tm (d + 1) m_X12_routineBy 0 b σ [(0, .ref b), (1, .long (w))] [] (fun ro σ2 => ∃ v : Int, ro = some (.int (iI v)) ∧ σ = σ2 ∧ (-1 ≤ v ∧ v < σ.1 43) ∧ (RBY σ w v)) := by
  refine tm_iconst dX12_routineBy_0 ?_
  refine tm_istore_n (L' := [(3, .int (iI 0)), (0, .ref b), (1, .long (w))]) dX12_routineBy_1 rfl (by decide) rfl ?_
  refine tm_sub [0, 1, 2] rfl (l_routineB2 (d) (σ := σ) (w := w) hR ht (fun q5 f4 => ?_) (fun q a c e f => ⟨_, rfl, rfl, by omega, fun _ => ⟨e, f⟩, fun z => by omega⟩) _ (0) (by omega) (fun j a c => by omega) rfl)
  show Tm _ _ 29 b σ [(3, .int (iI q5)), (0, .ref b), (1, .long (w))] [] _
  refine tm_iconst dX12_routineBy_29 ?_
  exact tm_iret rfl dX12_routineBy_30 (⟨_, rfl, rfl, by omega, fun z => absurd z (by decide), fun _ => f4⟩)
