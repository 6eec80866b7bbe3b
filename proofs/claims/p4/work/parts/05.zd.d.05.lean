set_option maxHeartbeats 4000000 in
set_option maxRecDepth 20000 in
theorem k_X5_expression_f0 (d : Nat) {T : CT} {σ : MS} {a : Nat} {dp : Int} {kp : Int} {Sx : Int → Int} {nx jx : Nat} {cx : CS} {Nx : Int} {eo : Int} (ha : OB T a 5) (h_dp : -2147483648 ≤ dp ∧ dp ≤ 2147483647) (hw : WT T σ) (h9 : 9 = dp) (hfx : RDX σ a Sx nx jx cx Nx) (heo : eo = dp - 1) (hkp : kp ≤ 150) (hrp : RP σ a kp) : Tn (d + 10) m_X5_expression 0 T σ [(0, .ref a), (1, .int (iI dp))] [] (fun ro T2 σ2 => ∃ v : Int, ro = some (.int (iI v)) ∧ WT T2 σ2 ∧ FrC T [5, 6, 7, 43, 44, 47, 50, 51, 84, 85, 86, 87, 521] σ σ2 ∧ (v = 0 ∨ v = 1) ∧ (XQ σ2 a Sx nx (eo) [2] jx cx Nx v) ∧ (RP σ2 a (kp - 4 * v))) := by
  have hSb := hfx.1.sb
  refine tn_iload_n dX5_expression_0 rfl 1 rfl ?_
  refine tn_bipush dX5_expression_1 (by decide) ?_
  refine tn_icmp_le (tgt := 11) dX5_expression_3 (by decide) ⟨by omega, by omega⟩ ⟨by decide, by decide⟩ (fun h1 => absurd h1 (by omega)) (fun h1 => ?_)
  refine tn_aload_n dX5_expression_6 rfl 0 rfl ?_
  refine tn_callV (M := m_X5_expression) (pc := 7) (ix := 90) (ci := 5) (M' := m_X5_refuse) (As := []) (rest := []) dX5_expression_7 ok_X5_refuse im_X5_refuse se_X5_refuse ml5_90 np_X5_refuse rfl rfl ha rfl (Nat.le_of_ble_eq_true rfl) (Nat.le_of_ble_eq_true rfl) rfl (k_X5_refuse_f (d + 8) (T := T) (σ := σ) (a := a) ha hw (hfx).1.1) (fun r2 T4 σ3 gt5 hp => ?_)
  obtain ⟨v10, rfl, rfl, w11, F12, f6, f7, f8, f9⟩ := hp
  clear gt5
  have pc13 : EXF Sx (eo) [2] jx (tkS Sx jx).1 := fun _ _ => x2f hSb (by omega)
  have rf140 : EXR Sx (eo) [2] jx (eo) [2] jx (0) ([]) := EXR.nl
  have rf14 : EXF Sx (eo) [2] jx ((tkS Sx jx).1) := EXR.fl (l := [2]) [] rf140 pc13
  have rp15 : RP σ3 a (kp) := RP.frc hrp F12 (by decide) (by decide) (by decide) (by decide) (by decide)
  show Tn _ _ 10 T σ3 [(0, .ref a), (1, .int (iI dp))] [.int (iI v10)] _
  have rb17 : XFc σ3 a Sx (eo) [2] jx := ⟨_, rf14, f8⟩
  exact tn_zret (v := v10) rfl (by omega) dX5_expression_10 ⟨_, rfl, w11, (FrC.rfl.trans (FrC.sub F12 (by decide))), by omega, ⟨fun q => absurd q (by omega), fun _ => rb17⟩, (RP.up rp15 (by omega))⟩
