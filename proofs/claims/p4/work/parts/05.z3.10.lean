theorem cd_X5_zeroToNew : Cond.code yX5_zeroToNew cX5_zeroToNew 2 (some .int) ∈ pWW := pw3 (List.mem_of_getElem? (i := 217) rfl) rfl
abbrev m_X5_zeroToNew : MT := (yX5_zeroToNew, cX5_zeroToNew, 2, (some .int))
theorem ok_X5_zeroToNew : pOk m_X5_zeroToNew := ⟨⟨cd_X5_zeroToNew, ini_5⟩, by decide +kernel, ⟨by decide +kernel, by decide +kernel⟩, Nat.le_of_ble_eq_true rfl⟩
theorem np_X5_zeroToNew : (parseMethodDescriptor yX5_zeroToNew.desc).map (fun d => d.parameters.length) = some 0 := by decide +kernel
theorem im_X5_zeroToNew : Cond.instanceMethod yX5_zeroToNew ∈ pWW := pw3 (List.mem_of_getElem? (i := 216) rfl) rfl
theorem se_X5_zeroToNew : Cond.selects RX5 yX5_zeroToNew yX5_zeroToNew ∈ pWW := pws (List.mem_map.mpr ⟨_, lw_pin 28 rfl, rfl⟩) rfl
theorem ml5_238 : Cond.methodLink RX5 238 yX5_newLabel ∈ pWW := pw3 (List.mem_of_getElem? (i := 218) rfl) rfl
theorem ml5_139 : Cond.methodLink RX5 139 yX1_append ∈ pWW := pw3 (List.mem_of_getElem? (i := 125) rfl) rfl
theorem fl5_216 : Cond.fieldLink RX5 216 (TX5 17).1 (TX5 17).2.1 (TX5 17).2.2.1 ∈ pWW := pw1 (List.mem_of_getElem? (i := 173) rfl) rfl
theorem fl5_219 : Cond.fieldLink RX5 219 (TX5 18).1 (TX5 18).2.1 (TX5 18).2.2.1 ∈ pWW := pw1 (List.mem_of_getElem? (i := 174) rfl) rfl
theorem ml5_143 : Cond.methodLink RX5 143 yX1_lastOperand ∈ pWW := pw3 (List.mem_of_getElem? (i := 186) rfl) rfl
theorem dX5_zeroToNew_0 : decode cX5_zeroToNew 0 = .ok (.aload_n 0, 1) := by decide +kernel
theorem dX5_zeroToNew_1 : decode cX5_zeroToNew 1 = .ok (.invokevirtual 238, 3) := by decide +kernel
theorem dX5_zeroToNew_4 : decode cX5_zeroToNew 4 = .ok (.istore_n 1, 1) := by decide +kernel
theorem dX5_zeroToNew_5 : decode cX5_zeroToNew 5 = .ok (.aload_n 0, 1) := by decide +kernel
theorem dX5_zeroToNew_6 : decode cX5_zeroToNew 6 = .ok (.getfield 47, 3) := by decide +kernel
theorem dX5_zeroToNew_9 : decode cX5_zeroToNew 9 = .ok (.bipush 9, 2) := by decide +kernel
theorem dX5_zeroToNew_11 : decode cX5_zeroToNew 11 = .ok (.iload_n 1, 1) := by decide +kernel
theorem dX5_zeroToNew_12 : decode cX5_zeroToNew 12 = .ok (.iconst 0, 1) := by decide +kernel
theorem dX5_zeroToNew_13 : decode cX5_zeroToNew 13 = .ok (.invokevirtual 139, 3) := by decide +kernel
theorem dX5_zeroToNew_16 : decode cX5_zeroToNew 16 = .ok (.aload_n 0, 1) := by decide +kernel
theorem dX5_zeroToNew_17 : decode cX5_zeroToNew 17 = .ok (.getfield 47, 3) := by decide +kernel
theorem dX5_zeroToNew_20 : decode cX5_zeroToNew 20 = .ok (.iconst 0, 1) := by decide +kernel
theorem dX5_zeroToNew_21 : decode cX5_zeroToNew 21 = .ok (.aload_n 0, 1) := by decide +kernel
theorem dX5_zeroToNew_22 : decode cX5_zeroToNew 22 = .ok (.getfield 216, 3) := by decide +kernel
theorem dX5_zeroToNew_25 : decode cX5_zeroToNew 25 = .ok (.aload_n 0, 1) := by decide +kernel
theorem dX5_zeroToNew_26 : decode cX5_zeroToNew 26 = .ok (.getfield 219, 3) := by decide +kernel
theorem dX5_zeroToNew_29 : decode cX5_zeroToNew 29 = .ok (.invokevirtual 143, 3) := by decide +kernel
theorem dX5_zeroToNew_32 : decode cX5_zeroToNew 32 = .ok (.iload_n 1, 1) := by decide +kernel
theorem dX5_zeroToNew_33 : decode cX5_zeroToNew 33 = .ok (.ireturn, 1) := by decide +kernel
set_option maxRecDepth 20000 in
theorem k_X5_zeroToNew (d : Nat) {T : CT} {σ : MS} {a : Nat} {kp : Int} (ha : OB T a 5) (hw : WT T σ) (hkp : kp ≤ 150) (hrp : RP σ a kp) : Tn (d + 4) m_X5_zeroToNew 0 T σ [(0, .ref a)] [] (fun ro T2 σ2 => ∃ v : Int, ro = some (.int (iI v)) ∧ WT T2 σ2 ∧ FrC T [5, 6, 46] σ σ2 ∧ (-2147483648 ≤ v ∧ v ≤ 2147483647) ∧ (RP σ2 a (kp + 1))) := by
  refine tn_aload_n dX5_zeroToNew_0 rfl 0 rfl ?_
  refine tn_callV (M := m_X5_zeroToNew) (pc := 1) (ix := 238) (ci := 5) (M' := m_X5_newLabel) (As := []) (rest := []) dX5_zeroToNew_1 ok_X5_newLabel im_X5_newLabel se_X5_newLabel ml5_238 np_X5_newLabel rfl rfl ha rfl (Nat.le_of_ble_eq_true rfl) (Nat.le_of_ble_eq_true rfl) rfl (k_X5_newLabel (d + 2) (T := T) (σ := σ) (a := a) ha hw ) (fun r1 T3 σ2 gt4 hp => ?_)
  obtain ⟨v6, rfl, rfl, w7, F8, f5⟩ := hp
  clear gt4
  have rp9 : RP σ2 a (kp) := RP.frc hrp F8 (by decide) (by decide) (by decide) (by decide) (by decide)
  show Tn _ _ 4 T σ2 [(0, .ref a)] [.int (iI v6)] _
  refine tn_istore_n (L' := [(1, .int (iI v6)), (0, .ref a)]) dX5_zeroToNew_4 rfl (by decide) rfl ?_
  refine tn_aload_n dX5_zeroToNew_5 rfl 1 rfl ?_
  obtain ⟨x10, hx11, hk12⟩ : ∃ x : Nat, σ.2.1 35 a = (x : Int) ∧ (T x).1 = 31 := wf_35 hw ha
  have hk12o : OB T x10 1 := ⟨by omega, by rw [hk12]; rfl, by omega⟩
  refine tn_getR (ci := 5) (i := 2) (n := 35) (x := x10) dX5_zeroToNew_6 rfl lay_5 (by decide) fl5_47 ha rfl rfl (rc_F F8 (Or.inl (by decide)) (by decide) (hx11)) ?_
  refine tn_bipush dX5_zeroToNew_9 (by decide) ?_
  refine tn_iload_n dX5_zeroToNew_11 rfl 0 rfl ?_
  refine tn_iconst dX5_zeroToNew_12 ?_
  have q18 : σ2.2.1 6 x10 = σ.2.1 6 x10 := rc_F F8 (Or.inl (by decide)) (by decide) (rfl)
  refine tn_callV (M := m_X5_zeroToNew) (pc := 13) (ix := 139) (ci := 1) (M' := m_X1_append) (As := [.int (iI 9), .int (iI v6), .int (iI 0)]) (rest := []) dX5_zeroToNew_13 ok_X1_append im_X1_append se_X1_append ml5_139 np_X1_append rfl rfl hk12o rfl (Nat.le_of_ble_eq_true rfl) (Nat.le_of_ble_eq_true rfl) rfl (k_X1_append (d) (T := T) (σ := σ2) (a := x10) (k := 9) (x := v6) (y := 0) hk12o hk12 (by decide) (by omega) (by decide) w7 (RP.cnt rp9 w7 ha (rc_F F8 (Or.inl (by decide)) (by decide) (hx11)) (by omega)) (by omega)) (fun r14 T16 σ15 gt17 hp => ?_)
  obtain ⟨rfl, w21, F22, f19⟩ := hp
  replace ha : OB T16 a 5 := gt17.ob ha
  have rp23 : RP σ15 a (kp + 1) := RP.app rp9 (rc_F F8 (Or.inl (by decide)) (by decide) (hx11)) F22 (by decide) (by decide) (by decide) (by decide) f19
  show Tn _ _ 16 T16 σ15 [(1, .int (iI v6)), (0, .ref a)] [] _
  refine tn_aload_n dX5_zeroToNew_16 rfl 1 rfl ?_
  obtain ⟨x24, hx25, hk26⟩ : ∃ x : Nat, σ15.2.1 35 a = (x : Int) ∧ (T16 x).1 = 31 := wf_35 w21 ha
  have hk26o : OB T16 x24 1 := ⟨by omega, by rw [hk26]; rfl, by omega⟩
  refine tn_getR (ci := 5) (i := 2) (n := 35) (x := x24) dX5_zeroToNew_17 rfl lay_5 (by decide) fl5_47 ha rfl rfl (hx25) ?_
  refine tn_iconst dX5_zeroToNew_20 ?_
  refine tn_aload_n dX5_zeroToNew_21 rfl 1 rfl ?_
  refine tn_getI (ci := 5) (i := 17) (n := 50) (t := σ15.2.1 50 a) dX5_zeroToNew_22 rfl lay_5 (by decide) fl5_216 ha rfl rfl (rfl) ?_
  have g28 : ((-2147483648 : Int) ≤ σ15.2.1 50 a ∧ σ15.2.1 50 a ≤ 2147483647) := wf_50 w21 ha
  refine tn_aload_n dX5_zeroToNew_25 rfl 1 rfl ?_
  refine tn_getI (ci := 5) (i := 18) (n := 51) (t := σ15.2.1 51 a) dX5_zeroToNew_26 rfl lay_5 (by decide) fl5_219 ha rfl rfl (rfl) ?_
  have g29 : ((-2147483648 : Int) ≤ σ15.2.1 51 a ∧ σ15.2.1 51 a ≤ 2147483647) := wf_51 w21 ha
  refine tn_callV (M := m_X5_zeroToNew) (pc := 29) (ix := 143) (ci := 1) (M' := m_X1_lastOperand) (As := [.int (iI 0), .int (iI (σ15.2.1 50 a)), .int (iI (σ15.2.1 51 a))]) (rest := []) dX5_zeroToNew_29 ok_X1_lastOperand im_X1_lastOperand se_X1_lastOperand ml5_143 np_X1_lastOperand rfl rfl hk26o rfl (Nat.le_of_ble_eq_true rfl) (Nat.le_of_ble_eq_true rfl) rfl (k_X1_lastOperand (d + 2) (T := T16) (σ := σ15) (a := x24) (i := 0) (k := σ15.2.1 50 a) (y := σ15.2.1 51 a) hk26o (by decide) (by omega) (by omega) w21 ) (fun r30 T32 σ31 gt33 hp => ?_)
  obtain ⟨rfl, rfl, w35, F36⟩ := hp
  clear gt33
  have rp37 : RP σ31 a (kp + 1) := RP.frc rp23 F36 (by decide) (by decide) (by decide) (by decide) (by decide)
  show Tn _ _ 32 T16 σ31 [(1, .int (iI v6)), (0, .ref a)] [] _
  refine tn_iload_n dX5_zeroToNew_32 rfl 0 rfl ?_
  exact tn_iret rfl dX5_zeroToNew_33 ⟨_, rfl, w35, (((FrC.rfl.trans (FrC.sub F8 (by decide))).trans (FrC.sub F22 (by decide))).trans (FrC.sub (FrC.old F36 gt17) (by decide))), by omega, (RP.up rp37 (by omega))⟩
