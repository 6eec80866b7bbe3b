set_option maxHeartbeats 4000000 in
set_option maxRecDepth 20000 in
theorem k_X5_block_f0 (d : Nat) {T : CT} {σ : MS} {a : Nat} {dp : Int} {kp : Int} {Sx : Int → Int} {nx jx : Nat} {cx : CS} {Nx : Int} {bx : Int} (ha : OB T a 5) (h_dp : -2147483648 ≤ dp ∧ dp ≤ 2147483647) (hw : WT T σ) (h9 : 7 = dp) (hfx : RDX σ a Sx nx jx cx Nx) (hb : bx = dp - 1) (hm : cx.m ≤ (jx : Int)) (hkp : kp ≤ 140) (hrp : RP σ a kp) : Tn (d + 60) m_X5_block 0 T σ [(0, .ref a), (1, .int (iI dp))] [] (fun ro T2 σ2 => ∃ v : Int, ro = some (.int (iI v)) ∧ WT T2 σ2 ∧ FrC T [5, 6, 7, 9, 42, 43, 44, 45, 46, 47, 50, 51, 84, 85, 86, 87, 518, 519, 520, 521] σ σ2 ∧ (v = 0 ∨ v = 1) ∧ (YQ σ2 a Sx nx bx [28] jx cx (Nx) 2 v) ∧ (RP σ2 a (kp + 2 - 10 * v))) := by
  have hSb := hfx.1.sb
  have e45 := hfx.e45
  have hpo9 := hfx.po
  unfold PO at hpo9
  refine tn_iload_n dX5_block_0 rfl 1 rfl ?_
  refine tn_bipush dX5_block_1 (by decide) ?_
  refine tn_icmp_gt (tgt := 15) dX5_block_3 (by decide) ⟨by omega, by omega⟩ ⟨by decide, by decide⟩ (fun h1 => ?_) (fun h1 => absurd h1 (by omega))
  refine tn_aload_n dX5_block_15 rfl 0 rfl ?_
  refine tn_callV (M := m_X5_block) (pc := 16) (ix := 90) (ci := 5) (M' := m_X5_refuse) (As := []) (rest := []) dX5_block_16 ok_X5_refuse im_X5_refuse se_X5_refuse ml5_90 np_X5_refuse rfl rfl ha rfl (Nat.le_of_ble_eq_true rfl) (Nat.le_of_ble_eq_true rfl) rfl (k_X5_refuse_f (d + 58) (T := T) (σ := σ) (a := a) ha hw (hfx).1.1) (fun r2 T4 σ3 gt5 hp => ?_)
  obtain ⟨v10, rfl, rfl, w11, F12, f6, f7, f8, f9⟩ := hp
  clear gt5
  have pc13 : GRF Sx [28] jx (0) (bx) u0 (tkS Sx jx).1 := x28f hSb (by omega)
  have rf140 : GR Sx [28] jx 0 (bx) u0 [28] jx (0) (bx) u0 (0) ([]) := GR.nl
  have rf14 : GRF Sx [28] jx 0 (bx) u0 ((tkS Sx jx).1) := GR.fl (l := [28]) [] rf140 pc13
  have rp15 : RP σ3 a (kp) := RP.frc hrp F12 (by decide) (by decide) (by decide) (by decide) (by decide)
  show Tn _ _ 19 T σ3 [(0, .ref a), (1, .int (iI dp))] [.int (iI v10)] _
  have rb17 : YF σ3 a Sx bx [28] jx := ⟨_, rf14, f8⟩
  exact tn_zret (v := v10) rfl (by omega) dX5_block_19 ⟨_, rfl, w11, (FrC.rfl.trans (FrC.sub F12 (by decide))), by omega, ⟨fun q => absurd q (by omega), fun _ => rb17⟩, (RP.up rp15 (by omega))⟩
