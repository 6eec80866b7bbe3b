theorem dX5_block_0 : decode cX5_block 0 = .ok (.iload_n 1, 1) := by decide +kernel
theorem dX5_block_1 : decode cX5_block 1 = .ok (.bipush 6, 2) := by decide +kernel
theorem dX5_block_3 : decode cX5_block 3 = .ok (.if_icmp .gt 12, 3) := by decide +kernel
theorem dX5_block_15 : decode cX5_block 15 = .ok (.aload_n 0, 1) := by decide +kernel
theorem dX5_block_16 : decode cX5_block 16 = .ok (.invokevirtual 90, 3) := by decide +kernel
theorem dX5_block_19 : decode cX5_block 19 = .ok (.ireturn, 1) := by decide +kernel
set_option maxRecDepth 20000 in
theorem k_X5_block_0 (d : Nat) {T : CT} {σ : MS} {a : Nat} {dp : Int} {kp : Int} (ha : OB T a 5) (h_dp : -2147483648 ≤ dp ∧ dp ≤ 2147483647) (hw : WT T σ) (h9 : 7 ≤ dp) (hkp : kp ≤ 140) (hrp : RP σ a kp) : Tn (d + 60) m_X5_block 0 T σ [(0, .ref a), (1, .int (iI dp))] [] (fun ro T2 σ2 => ∃ v : Int, ro = some (.int (iI v)) ∧ WT T2 σ2 ∧ FrC T [5, 6, 7, 9, 42, 43, 44, 45, 46, 47, 50, 51, 84, 85, 86, 87, 518, 519, 520, 521] σ σ2 ∧ (v = 0 ∨ v = 1) ∧ (RP σ2 a (kp + 2 - 10 * v))) := by
  refine tn_iload_n dX5_block_0 rfl 1 rfl ?_
  refine tn_bipush dX5_block_1 (by decide) ?_
  refine tn_icmp_gt (tgt := 15) dX5_block_3 (by decide) ⟨by omega, by omega⟩ ⟨by decide, by decide⟩ (fun h1 => ?_) (fun h1 => absurd h1 (by omega))
  refine tn_aload_n dX5_block_15 rfl 0 rfl ?_
  refine tn_callV (M := m_X5_block) (pc := 16) (ix := 90) (ci := 5) (M' := m_X5_refuse) (As := []) (rest := []) dX5_block_16 ok_X5_refuse im_X5_refuse se_X5_refuse ml5_90 np_X5_refuse rfl rfl ha rfl (Nat.le_of_ble_eq_true rfl) (Nat.le_of_ble_eq_true rfl) rfl (k_X5_refuse (d + 58) (T := T) (σ := σ) (a := a) ha hw ) (fun r2 T4 σ3 gt5 hp => ?_)
  obtain ⟨v8, rfl, rfl, w9, F10, f6, f7⟩ := hp
  clear gt5
  have rp11 : RP σ3 a (kp) := RP.frc hrp F10 (by decide) (by decide) (by decide) (by decide) (by decide)
  show Tn _ _ 19 T σ3 [(0, .ref a), (1, .int (iI dp))] [.int (iI v8)] _
  exact tn_zret (v := v8) rfl (by omega) dX5_block_19 ⟨_, rfl, w9, (FrC.rfl.trans (FrC.sub F10 (by decide))), by omega, (RP.up rp11 (by omega))⟩
