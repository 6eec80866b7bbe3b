theorem dX10_slotAt_4 : decode cX10_slotAt 4 = .ok (.iconst (-1), 1) := by decide +kernel
theorem dX10_slotAt_5 : decode cX10_slotAt 5 = .ok (.goto 21, 3) := by decide +kernel
set_option maxRecDepth 20000 in
theorem k_X10_slotAt_0 (d : Nat) {T : CT} {σ : MS} {a : Nat} {k : Int} {f : Int} (ha : OB T a 10) (h_k : -2147483648 ≤ k ∧ k ≤ 2147483647) (h_f : -2147483648 ≤ f ∧ f ≤ 2147483647) (hw : WT T σ) : Tn (d + 2) m_X10_slotAt 0 T σ [(0, .ref a), (1, .null), (2, .int (iI k)), (3, .int (iI f))] [] (fun ro T2 σ2 => ∃ v : Int, ro = some (.int (iI v)) ∧ T = T2 ∧ σ = σ2 ∧ (-2147483648 ≤ v ∧ v ≤ 2147483647)) := by
  refine tn_aload_nN dX10_slotAt_0 rfl 1 rfl ?_
  refine tn_ifnonnullN dX10_slotAt_1 ?_
  refine tn_iconst dX10_slotAt_4 ?_
  refine tn_goto (tgt := 26) dX10_slotAt_5 (by decide) ?_
  exact tn_iret rfl dX10_slotAt_26 ⟨_, rfl, rfl, rfl, by omega⟩
