theorem dX5_expression_0 : decode cX5_expression 0 = .ok (.iload_n 1, 1) := by decide +kernel
theorem dX5_expression_1 : decode cX5_expression 1 = .ok (.bipush 8, 2) := by decide +kernel
theorem dX5_expression_3 : decode cX5_expression 3 = .ok (.if_icmp .le 8, 3) := by decide +kernel
theorem dX5_expression_6 : decode cX5_expression 6 = .ok (.aload_n 0, 1) := by decide +kernel
theorem dX5_expression_7 : decode cX5_expression 7 = .ok (.invokevirtual 90, 3) := by decide +kernel
theorem dX5_expression_10 : decode cX5_expression 10 = .ok (.ireturn, 1) := by decide +kernel
set_option maxRecDepth 20000 in
theorem k_X5_expression_0 (d : Nat) {T : CT} {σ : MS} {a : Nat} {dp : Int} {kp : Int} (ha : OB T a 5) (h_dp : -2147483648 ≤ dp ∧ dp ≤ 2147483647) (hw : WT T σ) (h9 : 9 ≤ dp) (hkp : kp ≤ 150) (hrp : RP σ a kp) : Tn (d + 10) m_X5_expression 0 T σ [(0, .ref a), (1, .int (iI dp))] [] (fun ro T2 σ2 => ∃ v : Int, ro = some (.int (iI v)) ∧ WT T2 σ2 ∧ FrC T [5, 6, 7, 43, 44, 47, 50, 51, 84, 85, 86, 87, 521] σ σ2 ∧ (v = 0 ∨ v = 1) ∧ (RP σ2 a (kp - 4 * v))) := by
  refine tn_iload_n dX5_expression_0 rfl 1 rfl ?_
  refine tn_bipush dX5_expression_1 (by decide) ?_
  refine tn_icmp_le (tgt := 11) dX5_expression_3 (by decide) ⟨by omega, by omega⟩ ⟨by decide, by decide⟩ (fun h1 => absurd h1 (by omega)) (fun h1 => ?_)
  refine tn_aload_n dX5_expression_6 rfl 0 rfl ?_
  refine tn_callV (M := m_X5_expression) (pc := 7) (ix := 90) (ci := 5) (M' := m_X5_refuse) (As := []) (rest := []) dX5_expression_7 ok_X5_refuse im_X5_refuse se_X5_refuse ml5_90 np_X5_refuse rfl rfl ha rfl (Nat.le_of_ble_eq_true rfl) (Nat.le_of_ble_eq_true rfl) rfl (k_X5_refuse (d + 8) (T := T) (σ := σ) (a := a) ha hw ) (fun r2 T4 σ3 gt5 hp => ?_)
  obtain ⟨v8, rfl, rfl, w9, F10, f6, f7⟩ := hp
  clear gt5
  have rp11 : RP σ3 a (kp) := RP.frc hrp F10 (by decide) (by decide) (by decide) (by decide) (by decide)
  show Tn _ _ 10 T σ3 [(0, .ref a), (1, .int (iI dp))] [.int (iI v8)] _
  exact tn_zret (v := v8) rfl (by omega) dX5_expression_10 ⟨_, rfl, w9, (FrC.rfl.trans (FrC.sub F10 (by decide))), by omega, (RP.up rp11 (by omega))⟩
