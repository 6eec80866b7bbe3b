set_option maxRecDepth 20000 in
theorem k_X10_refresh_0 (d : Nat) {T : CT} {σ : MS} {a : Nat} {r : Int} (ha : OB T a 10) (h_r : -2147483648 ≤ r ∧ r ≤ 2147483647) (hw : WT T σ) : Tn (d + 5) m_X10_refresh 0 T σ [(0, .ref a), (1, .int (iI r)), (2, .null)] [] (fun ro T2 σ2 => ro = none ∧ WT T2 σ2 ∧ FrC T [92, 93, 94, 900] σ σ2) := by
  refine tn_aload_nN dX10_refresh_0 rfl 2 rfl ?_
  refine tn_ifnullN (tgt := 35) dX10_refresh_1 (by decide) ?_
  exact tn_vret rfl dX10_refresh_35 ⟨rfl, hw, FrC.rfl⟩
