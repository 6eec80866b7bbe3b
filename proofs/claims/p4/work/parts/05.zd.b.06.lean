set_option maxHeartbeats 4000000 in
set_option maxRecDepth 20000 in
theorem k_X5_zeroToNew_f (d : Nat) {T : CT} {σ : MS} {a : Nat} {kp : Int} {Sx : Int → Int} {nx jx : Nat} {cx : CS} {Nx : Int} (ha : OB T a 5) (hw : WT T σ) (hfx : RDX σ a Sx nx jx cx Nx) (hkp : kp ≤ 150) (hrp : RP σ a kp) : Tn (d + 4) m_X5_zeroToNew 0 T σ [(0, .ref a)] [] (fun ro T2 σ2 => ∃ v : Int, ro = some (.int (iI v)) ∧ WT T2 σ2 ∧ FrC T [5, 6, 46] σ σ2 ∧ (-2147483648 ≤ v ∧ v ≤ 2147483647) ∧ (RDX σ2 a Sx nx jx cx (Nx + 1)) ∧ (RP σ2 a (kp + 1))) := by
  have hSb := hfx.1.sb
  refine tn_aload_n dX5_zeroToNew_0 rfl 0 rfl ?_
  refine tn_callV (M := m_X5_zeroToNew) (pc := 1) (ix := 238) (ci := 5) (M' := m_X5_newLabel) (As := []) (rest := []) dX5_zeroToNew_1 ok_X5_newLabel im_X5_newLabel se_X5_newLabel ml5_238 np_X5_newLabel rfl rfl ha rfl (Nat.le_of_ble_eq_true rfl) (Nat.le_of_ble_eq_true rfl) rfl (k_X5_newLabel (d + 2) (T := T) (σ := σ) (a := a) ha hw ) (fun r1 T3 σ2 gt4 hp => ?_)
  obtain ⟨v6, rfl, rfl, w7, F8, f5⟩ := hp
  clear gt4
  have fx9 : RDX σ2 a Sx nx jx (cx) (Nx) := RDX.fc hfx hw ha F8 (by decide) (by decide)
  have rp10 : RP σ2 a (kp) := RP.frc hrp F8 (by decide) (by decide) (by decide) (by decide) (by decide)
  show Tn _ _ 4 T σ2 [(0, .ref a)] [.int (iI v6)] _
  refine tn_istore_n (L' := [(1, .int (iI v6)), (0, .ref a)]) dX5_zeroToNew_4 rfl (by decide) rfl ?_
  refine tn_aload_n dX5_zeroToNew_5 rfl 1 rfl ?_
  obtain ⟨x11, hx12, hk13⟩ : ∃ x : Nat, σ.2.1 35 a = (x : Int) ∧ (T x).1 = 31 := wf_35 hw ha
  have hk13o : OB T x11 1 := ⟨by omega, by rw [hk13]; rfl, by omega⟩
  refine tn_getR (ci := 5) (i := 2) (n := 35) (x := x11) dX5_zeroToNew_6 rfl lay_5 (by decide) fl5_47 ha rfl rfl (rc_F F8 (Or.inl (by decide)) (by decide) (hx12)) ?_
  refine tn_bipush dX5_zeroToNew_9 (by decide) ?_
  refine tn_iload_n dX5_zeroToNew_11 rfl 0 rfl ?_
  refine tn_iconst dX5_zeroToNew_12 ?_
  have q19 : σ2.2.1 6 x11 = σ.2.1 6 x11 := rc_F F8 (Or.inl (by decide)) (by decide) (rfl)
  refine tn_callV (M := m_X5_zeroToNew) (pc := 13) (ix := 139) (ci := 1) (M' := m_X1_append) (As := [.int (iI 9), .int (iI v6), .int (iI 0)]) (rest := []) dX5_zeroToNew_13 ok_X1_append im_X1_append se_X1_append ml5_139 np_X1_append rfl rfl hk13o rfl (Nat.le_of_ble_eq_true rfl) (Nat.le_of_ble_eq_true rfl) rfl (k_X1_append (d) (T := T) (σ := σ2) (a := x11) (k := 9) (x := v6) (y := 0) hk13o hk13 (by decide) (by omega) (by decide) w7 (RP.cnt rp10 w7 ha (rc_F F8 (Or.inl (by decide)) (by decide) (hx12)) (by omega)) (by omega)) (fun r15 T17 σ16 gt18 hp => ?_)
  obtain ⟨rfl, w22, F23, f20⟩ := hp
  have fx24 : RDX σ16 a Sx nx jx (cx) (Nx + 1) := RDX.ap fx9 w7 ha (rc_F F8 (Or.inl (by decide)) (by decide) (hx12)) F23 f20
  replace ha : OB T17 a 5 := gt18.ob ha
  have rp25 : RP σ16 a (kp + 1) := RP.app rp10 (rc_F F8 (Or.inl (by decide)) (by decide) (hx12)) F23 (by decide) (by decide) (by decide) (by decide) f20
  show Tn _ _ 16 T17 σ16 [(1, .int (iI v6)), (0, .ref a)] [] _
  refine tn_aload_n dX5_zeroToNew_16 rfl 1 rfl ?_
  obtain ⟨x26, hx27, hk28⟩ : ∃ x : Nat, σ16.2.1 35 a = (x : Int) ∧ (T17 x).1 = 31 := wf_35 w22 ha
  have hk28o : OB T17 x26 1 := ⟨by omega, by rw [hk28]; rfl, by omega⟩
  refine tn_getR (ci := 5) (i := 2) (n := 35) (x := x26) dX5_zeroToNew_17 rfl lay_5 (by decide) fl5_47 ha rfl rfl (hx27) ?_
  refine tn_iconst dX5_zeroToNew_20 ?_
  refine tn_aload_n dX5_zeroToNew_21 rfl 1 rfl ?_
  refine tn_getI (ci := 5) (i := 17) (n := 50) (t := σ16.2.1 50 a) dX5_zeroToNew_22 rfl lay_5 (by decide) fl5_216 ha rfl rfl (rfl) ?_
  have g30 : ((-2147483648 : Int) ≤ σ16.2.1 50 a ∧ σ16.2.1 50 a ≤ 2147483647) := wf_50 w22 ha
  refine tn_aload_n dX5_zeroToNew_25 rfl 1 rfl ?_
  refine tn_getI (ci := 5) (i := 18) (n := 51) (t := σ16.2.1 51 a) dX5_zeroToNew_26 rfl lay_5 (by decide) fl5_219 ha rfl rfl (rfl) ?_
  have g31 : ((-2147483648 : Int) ≤ σ16.2.1 51 a ∧ σ16.2.1 51 a ≤ 2147483647) := wf_51 w22 ha
  refine tn_callV (M := m_X5_zeroToNew) (pc := 29) (ix := 143) (ci := 1) (M' := m_X1_lastOperand) (As := [.int (iI 0), .int (iI (σ16.2.1 50 a)), .int (iI (σ16.2.1 51 a))]) (rest := []) dX5_zeroToNew_29 ok_X1_lastOperand im_X1_lastOperand se_X1_lastOperand ml5_143 np_X1_lastOperand rfl rfl hk28o rfl (Nat.le_of_ble_eq_true rfl) (Nat.le_of_ble_eq_true rfl) rfl (k_X1_lastOperand (d + 2) (T := T17) (σ := σ16) (a := x26) (i := 0) (k := σ16.2.1 50 a) (y := σ16.2.1 51 a) hk28o (by decide) (by omega) (by omega) w22 ) (fun r32 T34 σ33 gt35 hp => ?_)
  obtain ⟨rfl, rfl, w37, F38⟩ := hp
  clear gt35
  have fx39 : RDX σ33 a Sx nx jx (cx) (Nx + 1) := RDX.fc fx24 w22 ha F38 (by decide) (by decide)
  have rp40 : RP σ33 a (kp + 1) := RP.frc rp25 F38 (by decide) (by decide) (by decide) (by decide) (by decide)
  show Tn _ _ 32 T17 σ33 [(1, .int (iI v6)), (0, .ref a)] [] _
  refine tn_iload_n dX5_zeroToNew_32 rfl 0 rfl ?_
  exact tn_iret rfl dX5_zeroToNew_33 ⟨_, rfl, w37, (((FrC.rfl.trans (FrC.sub F8 (by decide))).trans (FrC.sub F23 (by decide))).trans (FrC.sub (FrC.old F38 gt18) (by decide))), by omega, RDX.nq fx39 (by omega), (RP.up rp40 (by omega))⟩
