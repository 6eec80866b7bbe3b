set_option maxRecDepth 20000 in
theorem k_X11_put_0 (d : Nat) {T : CT} {σ : MS} {i : Int} {y : Int} (h_i : -2147483648 ≤ i ∧ i ≤ 2147483647) (h_y : -2147483648 ≤ y ∧ y ≤ 2147483647) (hw : WT T σ) : Tn (d + 1) m_X11_put 0 T σ [(0, .null), (1, .int (iI i)), (2, .int (iI y))] [] (fun ro T2 σ2 => ro = none ∧ T = T2 ∧ WT T2 σ2 ∧ FrC T [] σ σ2) := by
  refine tn_aload_nN dX11_put_0 rfl 0 rfl ?_
  refine tn_ifnullN (tgt := 18) dX11_put_1 (by decide) ?_
  exact tn_vret rfl dX11_put_18 ⟨rfl, rfl, hw, FrC.rfl⟩
