theorem cd_X5_setting : Cond.code yX5_setting cX5_setting 2 (some .boolean) ∈ pWW := pw3 (List.mem_of_getElem? (i := 197) rfl) rfl
abbrev m_X5_setting : MT := (yX5_setting, cX5_setting, 2, (some .boolean))
theorem ok_X5_setting : pOk m_X5_setting := ⟨⟨cd_X5_setting, ini_5⟩, by decide +kernel, ⟨by decide +kernel, by decide +kernel⟩, Nat.le_of_ble_eq_true rfl⟩
theorem np_X5_setting : (parseMethodDescriptor yX5_setting.desc).map (fun d => d.parameters.length) = some 1 := by decide +kernel
theorem im_X5_setting : Cond.instanceMethod yX5_setting ∈ pWW := pw3 (List.mem_of_getElem? (i := 196) rfl) rfl
theorem se_X5_setting : Cond.selects RX5 yX5_setting yX5_setting ∈ pWW := pws (List.mem_map.mpr ⟨_, lw_pin 25 rfl, rfl⟩) rfl
theorem dX5_setting_0 : decode cX5_setting 0 = .ok (.aload_n 0, 1) := by decide +kernel
theorem dX5_setting_1 : decode cX5_setting 1 = .ok (.iconst 1, 1) := by decide +kernel
theorem dX5_setting_2 : decode cX5_setting 2 = .ok (.invokevirtual 213, 3) := by decide +kernel
theorem dX5_setting_5 : decode cX5_setting 5 = .ok (.ifCond .eq 12, 3) := by decide +kernel
theorem dX5_setting_17 : decode cX5_setting 17 = .ok (.iconst 0, 1) := by decide +kernel
theorem dX5_setting_18 : decode cX5_setting 18 = .ok (.ireturn, 1) := by decide +kernel
theorem dX5_setting_8 : decode cX5_setting 8 = .ok (.aload_n 0, 1) := by decide +kernel
theorem dX5_setting_9 : decode cX5_setting 9 = .ok (.bipush 59, 2) := by decide +kernel
theorem dX5_setting_11 : decode cX5_setting 11 = .ok (.invokevirtual 102, 3) := by decide +kernel
theorem dX5_setting_14 : decode cX5_setting 14 = .ok (.ifCond .ne 5, 3) := by decide +kernel
theorem dX5_setting_19 : decode cX5_setting 19 = .ok (.aload_n 0, 1) := by decide +kernel
theorem dX5_setting_20 : decode cX5_setting 20 = .ok (.getfield 47, 3) := by decide +kernel
theorem dX5_setting_23 : decode cX5_setting 23 = .ok (.iconst 0, 1) := by decide +kernel
theorem dX5_setting_24 : decode cX5_setting 24 = .ok (.iload_n 1, 1) := by decide +kernel
theorem dX5_setting_25 : decode cX5_setting 25 = .ok (.iconst 0, 1) := by decide +kernel
theorem dX5_setting_26 : decode cX5_setting 26 = .ok (.invokevirtual 139, 3) := by decide +kernel
theorem dX5_setting_29 : decode cX5_setting 29 = .ok (.aload_n 0, 1) := by decide +kernel
theorem dX5_setting_30 : decode cX5_setting 30 = .ok (.getfield 47, 3) := by decide +kernel
theorem dX5_setting_33 : decode cX5_setting 33 = .ok (.iconst 0, 1) := by decide +kernel
theorem dX5_setting_34 : decode cX5_setting 34 = .ok (.aload_n 0, 1) := by decide +kernel
theorem dX5_setting_35 : decode cX5_setting 35 = .ok (.getfield 216, 3) := by decide +kernel
theorem dX5_setting_38 : decode cX5_setting 38 = .ok (.aload_n 0, 1) := by decide +kernel
theorem dX5_setting_39 : decode cX5_setting 39 = .ok (.getfield 219, 3) := by decide +kernel
theorem dX5_setting_42 : decode cX5_setting 42 = .ok (.invokevirtual 143, 3) := by decide +kernel
theorem dX5_setting_45 : decode cX5_setting 45 = .ok (.iconst 1, 1) := by decide +kernel
theorem dX5_setting_46 : decode cX5_setting 46 = .ok (.ireturn, 1) := by decide +kernel
set_option maxRecDepth 20000 in
theorem k_X5_setting (d : Nat) {T : CT} {σ : MS} {a : Nat} {r : Int} {kp : Int} (ha : OB T a 5) (h_r : -2147483648 ≤ r ∧ r ≤ 2147483647) (hw : WT T σ) (hkp : kp ≤ 150) (hrp : RP σ a kp) : Tn (d + 51) m_X5_setting 0 T σ [(0, .ref a), (1, .int (iI r))] [] (fun ro T2 σ2 => ∃ v : Int, ro = some (.int (iI v)) ∧ WT T2 σ2 ∧ FrC T [5, 6, 7, 43, 44, 47, 50, 51, 84, 85, 86, 87, 521] σ σ2 ∧ (v = 0 ∨ v = 1) ∧ (RP σ2 a (kp - 7 * v))) := by
  refine tn_aload_n dX5_setting_0 rfl 0 rfl ?_
  refine tn_iconst dX5_setting_1 ?_
  refine tn_callV (M := m_X5_setting) (pc := 2) (ix := 213) (ci := 5) (M' := m_X5_expression) (As := [.int (iI 1)]) (rest := []) dX5_setting_2 ok_X5_expression im_X5_expression se_X5_expression ml5_213 np_X5_expression rfl rfl ha rfl (Nat.le_of_ble_eq_true rfl) (Nat.le_of_ble_eq_true rfl) rfl (k_X5_expression (d) (T := T) (σ := σ) (a := a) (dp := 1) (kp := kp) ha (by decide) hw (by omega) (by omega) hrp) (fun r1 T3 σ2 gt4 hp => ?_)
  obtain ⟨v7, rfl, w8, F9, f5, f6⟩ := hp
  replace ha : OB T3 a 5 := gt4.ob ha
  show Tn _ _ 5 T3 σ2 [(0, .ref a), (1, .int (iI r))] [.int (iI v7)] _
  refine tn_if_eq (tgt := 17) dX5_setting_5 (by decide) ⟨by omega, by omega⟩ (fun h11 => ?_) (fun h11 => ?_)
  · refine tn_iconst dX5_setting_17 ?_
    exact tn_zret (v := 0) rfl (by decide) dX5_setting_18 ⟨_, rfl, w8, (FrC.rfl.trans (FrC.sub F9 (by decide))), by omega, (RP.up f6 (by omega))⟩
  · refine tn_aload_n dX5_setting_8 rfl 0 rfl ?_
    refine tn_bipush dX5_setting_9 (by decide) ?_
    refine tn_callV (M := m_X5_setting) (pc := 11) (ix := 102) (ci := 5) (M' := m_X5_taken) (As := [.int (iI 59)]) (rest := []) dX5_setting_11 ok_X5_taken im_X5_taken se_X5_taken ml5_102 np_X5_taken rfl rfl ha rfl (Nat.le_of_ble_eq_true rfl) (Nat.le_of_ble_eq_true rfl) rfl (k_X5_taken (d + 48) (T := T3) (σ := σ2) (a := a) (s := 59) (kp := kp - 4 * v7) ha (by decide) w8 (by omega) (by omega) f6) (fun r12 T14 σ13 gt15 hp => ?_)
    obtain ⟨v18, rfl, rfl, w19, F20, f16, f17⟩ := hp
    clear gt15
    show Tn _ _ 14 T3 σ13 [(0, .ref a), (1, .int (iI r))] [.int (iI v18)] _
    refine tn_if_ne (tgt := 19) dX5_setting_14 (by decide) ⟨by omega, by omega⟩ (fun h22 => ?_) (fun h22 => ?_)
    · refine tn_aload_n dX5_setting_19 rfl 0 rfl ?_
      obtain ⟨x23, hx24, hk25⟩ : ∃ x : Nat, σ2.2.1 35 a = (x : Int) ∧ (T3 x).1 = 31 := wf_35 w8 ha
      have hk25o : OB T3 x23 1 := ⟨by omega, by rw [hk25]; rfl, by omega⟩
      refine tn_getR (ci := 5) (i := 2) (n := 35) (x := x23) dX5_setting_20 rfl lay_5 (by decide) fl5_47 ha rfl rfl (rc_F F20 (Or.inl (by decide)) (by decide) (hx24)) ?_
      refine tn_iconst dX5_setting_23 ?_
      refine tn_iload_n dX5_setting_24 rfl 1 rfl ?_
      refine tn_iconst dX5_setting_25 ?_
      have q31 : σ13.2.1 6 x23 = σ2.2.1 6 x23 := rc_F F20 (Or.inl (by decide)) (by decide) (rfl)
      refine tn_callV (M := m_X5_setting) (pc := 26) (ix := 139) (ci := 1) (M' := m_X1_append) (As := [.int (iI 0), .int (iI r), .int (iI 0)]) (rest := []) dX5_setting_26 ok_X1_append im_X1_append se_X1_append ml5_139 np_X1_append rfl rfl hk25o rfl (Nat.le_of_ble_eq_true rfl) (Nat.le_of_ble_eq_true rfl) rfl (k_X1_append (d + 47) (T := T3) (σ := σ13) (a := x23) (k := 0) (x := r) (y := 0) hk25o hk25 (by decide) (by omega) (by decide) w19 (RP.cnt f17 w19 ha (rc_F F20 (Or.inl (by decide)) (by decide) (hx24)) (by omega)) (by omega)) (fun r27 T29 σ28 gt30 hp => ?_)
      obtain ⟨rfl, w34, F35, f32⟩ := hp
      replace ha : OB T29 a 5 := gt30.ob ha
      have rp36 : RP σ28 a (kp - 4 * v7 - 4 * v18 + 1) := RP.app f17 (rc_F F20 (Or.inl (by decide)) (by decide) (hx24)) F35 (by decide) (by decide) (by decide) (by decide) f32
      show Tn _ _ 29 T29 σ28 [(0, .ref a), (1, .int (iI r))] [] _
      refine tn_aload_n dX5_setting_29 rfl 0 rfl ?_
      obtain ⟨x37, hx38, hk39⟩ : ∃ x : Nat, σ28.2.1 35 a = (x : Int) ∧ (T29 x).1 = 31 := wf_35 w34 ha
      have hk39o : OB T29 x37 1 := ⟨by omega, by rw [hk39]; rfl, by omega⟩
      refine tn_getR (ci := 5) (i := 2) (n := 35) (x := x37) dX5_setting_30 rfl lay_5 (by decide) fl5_47 ha rfl rfl (hx38) ?_
      refine tn_iconst dX5_setting_33 ?_
      refine tn_aload_n dX5_setting_34 rfl 0 rfl ?_
      refine tn_getI (ci := 5) (i := 17) (n := 50) (t := σ28.2.1 50 a) dX5_setting_35 rfl lay_5 (by decide) fl5_216 ha rfl rfl (rfl) ?_
      have g41 : ((-2147483648 : Int) ≤ σ28.2.1 50 a ∧ σ28.2.1 50 a ≤ 2147483647) := wf_50 w34 ha
      refine tn_aload_n dX5_setting_38 rfl 0 rfl ?_
      refine tn_getI (ci := 5) (i := 18) (n := 51) (t := σ28.2.1 51 a) dX5_setting_39 rfl lay_5 (by decide) fl5_219 ha rfl rfl (rfl) ?_
      have g42 : ((-2147483648 : Int) ≤ σ28.2.1 51 a ∧ σ28.2.1 51 a ≤ 2147483647) := wf_51 w34 ha
      refine tn_callV (M := m_X5_setting) (pc := 42) (ix := 143) (ci := 1) (M' := m_X1_lastOperand) (As := [.int (iI 0), .int (iI (σ28.2.1 50 a)), .int (iI (σ28.2.1 51 a))]) (rest := []) dX5_setting_42 ok_X1_lastOperand im_X1_lastOperand se_X1_lastOperand ml5_143 np_X1_lastOperand rfl rfl hk39o rfl (Nat.le_of_ble_eq_true rfl) (Nat.le_of_ble_eq_true rfl) rfl (k_X1_lastOperand (d + 49) (T := T29) (σ := σ28) (a := x37) (i := 0) (k := σ28.2.1 50 a) (y := σ28.2.1 51 a) hk39o (by decide) (by omega) (by omega) w34 ) (fun r43 T45 σ44 gt46 hp => ?_)
      obtain ⟨rfl, rfl, w48, F49⟩ := hp
      clear gt46
      have rp50 : RP σ44 a (kp - 4 * v7 - 4 * v18 + 1) := RP.frc rp36 F49 (by decide) (by decide) (by decide) (by decide) (by decide)
      show Tn _ _ 45 T29 σ44 [(0, .ref a), (1, .int (iI r))] [] _
      refine tn_iconst dX5_setting_45 ?_
      exact tn_zret (v := 1) rfl (by decide) dX5_setting_46 ⟨_, rfl, w48, ((((FrC.rfl.trans (FrC.sub F9 (by decide))).trans (FrC.sub (FrC.old F20 gt4) (by decide))).trans (FrC.sub (FrC.old F35 gt4) (by decide))).trans (FrC.sub (FrC.old F49 (GT.trans gt4 gt30)) (by decide))), by omega, (RP.up rp50 (by omega))⟩
    · refine tn_iconst dX5_setting_17 ?_
      exact tn_zret (v := 0) rfl (by decide) dX5_setting_18 ⟨_, rfl, w19, ((FrC.rfl.trans (FrC.sub F9 (by decide))).trans (FrC.sub (FrC.old F20 gt4) (by decide))), by omega, (RP.up f17 (by omega))⟩
