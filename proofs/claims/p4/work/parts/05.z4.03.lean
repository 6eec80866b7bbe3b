theorem cd_X5_parameter : Cond.code yX5_parameter cX5_parameter 2 none ∈ pWW := pw3 (List.mem_of_getElem? (i := 104) rfl) rfl
abbrev m_X5_parameter : MT := (yX5_parameter, cX5_parameter, 2, none)
theorem ok_X5_parameter : pOk m_X5_parameter := ⟨⟨cd_X5_parameter, ini_5⟩, by decide +kernel, ⟨by decide +kernel, by decide +kernel⟩, Nat.le_of_ble_eq_true rfl⟩
theorem np_X5_parameter : (parseMethodDescriptor yX5_parameter.desc).map (fun d => d.parameters.length) = some 1 := by decide +kernel
theorem im_X5_parameter : Cond.instanceMethod yX5_parameter ∈ pWW := pw3 (List.mem_of_getElem? (i := 103) rfl) rfl
theorem se_X5_parameter : Cond.selects RX5 yX5_parameter yX5_parameter ∈ pWW := pws (List.mem_map.mpr ⟨_, lw_pin 11 rfl, rfl⟩) rfl
theorem fl5_180 : Cond.fieldLink RX5 180 (TX1 3).1 (TX1 3).2.1 (TX1 3).2.2.1 ∈ pWW := pw1 (List.mem_of_getElem? (i := 98) rfl) rfl
theorem dX5_parameter_0 : decode cX5_parameter 0 = .ok (.aload_n 0, 1) := by decide +kernel
theorem dX5_parameter_1 : decode cX5_parameter 1 = .ok (.aload_n 0, 1) := by decide +kernel
theorem dX5_parameter_2 : decode cX5_parameter 2 = .ok (.getfield 12, 3) := by decide +kernel
theorem dX5_parameter_5 : decode cX5_parameter 5 = .ok (.getfield 96, 3) := by decide +kernel
theorem dX5_parameter_8 : decode cX5_parameter 8 = .ok (.invokevirtual 173, 3) := by decide +kernel
theorem dX5_parameter_11 : decode cX5_parameter 11 = .ok (.iconst (-1), 1) := by decide +kernel
theorem dX5_parameter_12 : decode cX5_parameter 12 = .ok (.if_icmp .eq 15, 3) := by decide +kernel
theorem dX5_parameter_27 : decode cX5_parameter 27 = .ok (.iload_n 1, 1) := by decide +kernel
theorem dX5_parameter_28 : decode cX5_parameter 28 = .ok (.iconst 4, 1) := by decide +kernel
theorem dX5_parameter_29 : decode cX5_parameter 29 = .ok (.if_icmp .le 15, 3) := by decide +kernel
theorem dX5_parameter_44 : decode cX5_parameter 44 = .ok (.aload_n 0, 1) := by decide +kernel
theorem dX5_parameter_45 : decode cX5_parameter 45 = .ok (.invokevirtual 176, 3) := by decide +kernel
theorem dX5_parameter_48 : decode cX5_parameter 48 = .ok (.pop, 1) := by decide +kernel
theorem dX5_parameter_49 : decode cX5_parameter 49 = .ok (.aload_n 0, 1) := by decide +kernel
theorem dX5_parameter_50 : decode cX5_parameter 50 = .ok (.getfield 28, 3) := by decide +kernel
theorem dX5_parameter_53 : decode cX5_parameter 53 = .ok (.aload_n 0, 1) := by decide +kernel
theorem dX5_parameter_54 : decode cX5_parameter 54 = .ok (.getfield 58, 3) := by decide +kernel
theorem dX5_parameter_57 : decode cX5_parameter 57 = .ok (.iconst 1, 1) := by decide +kernel
theorem dX5_parameter_58 : decode cX5_parameter 58 = .ok (.isub, 1) := by decide +kernel
theorem dX5_parameter_59 : decode cX5_parameter 59 = .ok (.iload_n 1, 1) := by decide +kernel
theorem dX5_parameter_60 : decode cX5_parameter 60 = .ok (.invokestatic 129, 3) := by decide +kernel
theorem dX5_parameter_63 : decode cX5_parameter 63 = .ok (.aload_n 0, 1) := by decide +kernel
theorem dX5_parameter_64 : decode cX5_parameter 64 = .ok (.getfield 47, 3) := by decide +kernel
theorem dX5_parameter_67 : decode cX5_parameter 67 = .ok (.iload_n 1, 1) := by decide +kernel
theorem dX5_parameter_68 : decode cX5_parameter 68 = .ok (.iconst 4, 1) := by decide +kernel
theorem dX5_parameter_69 : decode cX5_parameter 69 = .ok (.invokestatic 117, 3) := by decide +kernel
theorem dX5_parameter_72 : decode cX5_parameter 72 = .ok (.putfield 180, 3) := by decide +kernel
theorem dX5_parameter_75 : decode cX5_parameter 75 = .ok (.return_, 1) := by decide +kernel
theorem dX5_parameter_32 : decode cX5_parameter 32 = .ok (.aload_n 0, 1) := by decide +kernel
theorem dX5_parameter_33 : decode cX5_parameter 33 = .ok (.iconst 5, 1) := by decide +kernel
theorem dX5_parameter_34 : decode cX5_parameter 34 = .ok (.aload_n 0, 1) := by decide +kernel
theorem dX5_parameter_35 : decode cX5_parameter 35 = .ok (.getfield 12, 3) := by decide +kernel
theorem dX5_parameter_38 : decode cX5_parameter 38 = .ok (.getfield 74, 3) := by decide +kernel
theorem dX5_parameter_41 : decode cX5_parameter 41 = .ok (.invokevirtual 113, 3) := by decide +kernel
theorem dX5_parameter_15 : decode cX5_parameter 15 = .ok (.aload_n 0, 1) := by decide +kernel
theorem dX5_parameter_16 : decode cX5_parameter 16 = .ok (.iconst 2, 1) := by decide +kernel
theorem dX5_parameter_17 : decode cX5_parameter 17 = .ok (.aload_n 0, 1) := by decide +kernel
theorem dX5_parameter_18 : decode cX5_parameter 18 = .ok (.getfield 12, 3) := by decide +kernel
theorem dX5_parameter_21 : decode cX5_parameter 21 = .ok (.getfield 74, 3) := by decide +kernel
theorem dX5_parameter_24 : decode cX5_parameter 24 = .ok (.invokevirtual 113, 3) := by decide +kernel
set_option maxRecDepth 20000 in
theorem k_X5_parameter (d : Nat) {T : CT} {σ : MS} {a : Nat} {c : Int} (ha : OB T a 5) (h_c : -2147483648 ≤ c ∧ c ≤ 2147483647) (hw : WT T σ) (hc : 1 ≤ c) : Tn (d + 3) m_X5_parameter 0 T σ [(0, .ref a), (1, .int (iI c))] [] (fun ro T2 σ2 => ro = none ∧ T = T2 ∧ WT T2 σ2 ∧ FrC T [7, 8, 43, 44, 517, 521] σ σ2) := by
  refine tn_aload_n dX5_parameter_0 rfl 0 rfl ?_
  refine tn_aload_n dX5_parameter_1 rfl 0 rfl ?_
  obtain ⟨x1, hx2, hk3⟩ : ∃ x : Nat, σ.2.1 33 a = (x : Int) ∧ (T x).1 = 39 := wf_33 hw ha
  have hk3o : OB T x1 9 := ⟨by omega, by rw [hk3]; rfl, by omega⟩
  refine tn_getR (ci := 5) (i := 0) (n := 33) (x := x1) dX5_parameter_2 rfl lay_5 (by decide) fl5_12 ha rfl rfl (hx2) ?_
  refine tn_getI (ci := 9) (i := 5) (n := 86) (t := σ.2.1 86 x1) dX5_parameter_5 rfl lay_9 (by decide) fl5_96 hk3o rfl rfl (rfl) ?_
  have g5 : ((-2147483648 : Int) ≤ σ.2.1 86 x1 ∧ σ.2.1 86 x1 ≤ 2147483647) := wf_86 hw hk3o
  refine tn_callV (M := m_X5_parameter) (pc := 8) (ix := 173) (ci := 5) (M' := m_X5_nameIndex) (As := [.int (iI (σ.2.1 86 x1))]) (rest := []) dX5_parameter_8 ok_X5_nameIndex im_X5_nameIndex se_X5_nameIndex ml5_173 np_X5_nameIndex rfl rfl ha rfl (Nat.le_of_ble_eq_true rfl) (Nat.le_of_ble_eq_true rfl) rfl (k_X5_nameIndex (d + 1) (T := T) (σ := σ) (a := a) (k := σ.2.1 86 x1) ha (by omega) hw ) (fun r6 T8 σ7 gt9 hp => ?_)
  obtain ⟨v11, rfl, rfl, rfl, f10⟩ := hp
  clear gt9
  show Tn _ _ 11 T σ [(0, .ref a), (1, .int (iI c))] [.int (iI v11)] _
  refine tn_iconst dX5_parameter_11 ?_
  refine tn_icmp_eq (tgt := 27) dX5_parameter_12 (by decide) ⟨by omega, by omega⟩ ⟨by decide, by decide⟩ (fun h12 => ?_) (fun h12 => ?_)
  · refine tn_iload_n dX5_parameter_27 rfl 1 rfl ?_
    refine tn_iconst dX5_parameter_28 ?_
    refine tn_icmp_le (tgt := 44) dX5_parameter_29 (by decide) ⟨by omega, by omega⟩ ⟨by decide, by decide⟩ (fun h13 => ?_) (fun h13 => ?_)
    · refine tn_aload_n dX5_parameter_44 rfl 0 rfl ?_
      refine tn_callV (M := m_X5_parameter) (pc := 45) (ix := 176) (ci := 5) (M' := m_X5_register) (As := []) (rest := []) dX5_parameter_45 ok_X5_register im_X5_register se_X5_register ml5_176 np_X5_register rfl rfl ha rfl (Nat.le_of_ble_eq_true rfl) (Nat.le_of_ble_eq_true rfl) rfl (k_X5_register (d) (T := T) (σ := σ) (a := a) ha hw ) (fun r14 T16 σ15 gt17 hp => ?_)
      obtain ⟨v19, rfl, rfl, w20, F21, f18⟩ := hp
      clear gt17
      show Tn _ _ 48 T σ15 [(0, .ref a), (1, .int (iI c))] [.int (iI v19)] _
      refine tn_pop dX5_parameter_48 rfl ?_
      refine tn_aload_n dX5_parameter_49 rfl 0 rfl ?_
      obtain ⟨x22, hx23, hk24, hl25⟩ : ∃ x : Nat, σ.2.1 37 a = (x : Int) ∧ AR T x 17 256 256 := wf_37 hw ha
      have hk24i : IA T x22 := by unfold IA; omega
      refine tn_getR (ci := 5) (i := 4) (n := 37) (x := x22) dX5_parameter_50 rfl lay_5 (by decide) fl5_28 ha rfl rfl (rc_F F21 (Or.inl (by decide)) (by decide) (hx23)) ?_
      refine tn_aload_n dX5_parameter_53 rfl 0 rfl ?_
      refine tn_getI (ci := 5) (i := 5) (n := 38) (t := σ.2.1 38 a) dX5_parameter_54 rfl lay_5 (by decide) fl5_58 ha rfl rfl (rc_F F21 (Or.inl (by decide)) (by decide) (rfl)) ?_
      have g26 : ((0 : Int) ≤ σ.2.1 38 a ∧ σ.2.1 38 a ≤ 256) := wf_38 hw ha
      refine tn_iconst dX5_parameter_57 ?_
      refine tn_isub dX5_parameter_58 ?_
      refine tn_iload_n dX5_parameter_59 rfl 1 rfl ?_
      refine tn_callSN (M := m_X5_parameter) (pc := 60) (ix := 129) (M' := m_X11_put) (As := [.ref x22, .int (iI ((σ.2.1 38 a) - 1)), .int (iI c)]) (rest := []) dX5_parameter_60 ok_X11_put stt_X11_put nl5_129 np_X11_put rfl (Nat.le_of_ble_eq_true rfl) (Nat.le_of_ble_eq_true rfl) rfl (k_X11_put_17 (d + 1) (T := T) (σ := σ15) (x := x22) (i := (σ.2.1 38 a) - 1) (y := c) hk24i (by omega) hk24 (by omega) (by omega) w20 ) (fun r27 T29 σ28 gt30 hp => ?_)
      obtain ⟨rfl, rfl, w33, F34, f31⟩ := hp
      clear gt30
      show Tn _ _ 63 T σ28 [(0, .ref a), (1, .int (iI c))] [] _
      refine tn_aload_n dX5_parameter_63 rfl 0 rfl ?_
      obtain ⟨x35, hx36, hk37⟩ : ∃ x : Nat, σ.2.1 35 a = (x : Int) ∧ (T x).1 = 31 := wf_35 hw ha
      have hk37o : OB T x35 1 := ⟨by omega, by rw [hk37]; rfl, by omega⟩
      refine tn_getR (ci := 5) (i := 2) (n := 35) (x := x35) dX5_parameter_64 rfl lay_5 (by decide) fl5_47 ha rfl rfl (rc_F F34 (Or.inl (by decide)) (by decide) (rc_F F21 (Or.inl (by decide)) (by decide) (hx36))) ?_
      refine tn_iload_n dX5_parameter_67 rfl 1 rfl ?_
      refine tn_iconst dX5_parameter_68 ?_
      refine tn_mmin (x := c) (y := 4) dX5_parameter_69 mlm5_117 stM_min iniM cdM_min (by omega) (Nat.le_of_ble_eq_true rfl) ⟨by omega, by omega⟩ ⟨by omega, by omega⟩ (fun z39 g40 => ?_)
      refine tn_putV (ci := 1) (i := 3) (n := 8) (r := false) (v := z39) tyX1 tyX1_ok nmX1 dX5_parameter_72 rfl lay_1 (by decide) fl5_180 rfl (tyX1_ok 3 (by decide)) rfl rfl rfl hk37o rfl rfl ?_
      exact tn_vret rfl dX5_parameter_75 ⟨rfl, rfl, (w33.put (by decide) (by decide) (fo_8 (by omega))), (((FrC.rfl.trans (FrC.sub F21 (by decide))).trans (FrC.sub F34 (by decide))).put (by decide) (by decide))⟩
    · refine tn_aload_n dX5_parameter_32 rfl 0 rfl ?_
      refine tn_iconst dX5_parameter_33 ?_
      refine tn_aload_n dX5_parameter_34 rfl 0 rfl ?_
      refine tn_getR (ci := 5) (i := 0) (n := 33) (x := x1) dX5_parameter_35 rfl lay_5 (by decide) fl5_12 ha rfl rfl (hx2) ?_
      refine tn_getI (ci := 9) (i := 6) (n := 87) (t := σ.2.1 87 x1) dX5_parameter_38 rfl lay_9 (by decide) fl5_74 hk3o rfl rfl (rfl) ?_
      have g41 : ((-2147483648 : Int) ≤ σ.2.1 87 x1 ∧ σ.2.1 87 x1 ≤ 2147483647) := wf_87 hw hk3o
      refine tn_callV (M := m_X5_parameter) (pc := 41) (ix := 113) (ci := 5) (M' := m_X5_note) (As := [.int (iI 5), .int (iI (σ.2.1 87 x1))]) (rest := []) dX5_parameter_41 ok_X5_note im_X5_note se_X5_note ml5_113 np_X5_note rfl rfl ha rfl (Nat.le_of_ble_eq_true rfl) (Nat.le_of_ble_eq_true rfl) rfl (k_X5_note (d + 1) (T := T) (σ := σ) (a := a) (p1 := 5) (p2 := σ.2.1 87 x1) ha (by decide) (by omega) hw ) (fun r42 T44 σ43 gt45 hp => ?_)
      obtain ⟨rfl, rfl, w47, F48⟩ := hp
      clear gt45
      show Tn _ _ 44 T σ43 [(0, .ref a), (1, .int (iI c))] [] _
      refine tn_aload_n dX5_parameter_44 rfl 0 rfl ?_
      refine tn_callV (M := m_X5_parameter) (pc := 45) (ix := 176) (ci := 5) (M' := m_X5_register) (As := []) (rest := []) dX5_parameter_45 ok_X5_register im_X5_register se_X5_register ml5_176 np_X5_register rfl rfl ha rfl (Nat.le_of_ble_eq_true rfl) (Nat.le_of_ble_eq_true rfl) rfl (k_X5_register (d) (T := T) (σ := σ43) (a := a) ha w47 ) (fun r49 T51 σ50 gt52 hp => ?_)
      obtain ⟨v54, rfl, rfl, w55, F56, f53⟩ := hp
      clear gt52
      show Tn _ _ 48 T σ50 [(0, .ref a), (1, .int (iI c))] [.int (iI v54)] _
      refine tn_pop dX5_parameter_48 rfl ?_
      refine tn_aload_n dX5_parameter_49 rfl 0 rfl ?_
      obtain ⟨x57, hx58, hk59, hl60⟩ : ∃ x : Nat, σ.2.1 37 a = (x : Int) ∧ AR T x 17 256 256 := wf_37 hw ha
      have hk59i : IA T x57 := by unfold IA; omega
      refine tn_getR (ci := 5) (i := 4) (n := 37) (x := x57) dX5_parameter_50 rfl lay_5 (by decide) fl5_28 ha rfl rfl (rc_F F56 (Or.inl (by decide)) (by decide) (rc_F F48 (Or.inl (by decide)) (by decide) (hx58))) ?_
      refine tn_aload_n dX5_parameter_53 rfl 0 rfl ?_
      refine tn_getI (ci := 5) (i := 5) (n := 38) (t := σ.2.1 38 a) dX5_parameter_54 rfl lay_5 (by decide) fl5_58 ha rfl rfl (rc_F F56 (Or.inl (by decide)) (by decide) (rc_F F48 (Or.inl (by decide)) (by decide) (rfl))) ?_
      have g61 : ((0 : Int) ≤ σ.2.1 38 a ∧ σ.2.1 38 a ≤ 256) := wf_38 hw ha
      refine tn_iconst dX5_parameter_57 ?_
      refine tn_isub dX5_parameter_58 ?_
      refine tn_iload_n dX5_parameter_59 rfl 1 rfl ?_
      refine tn_callSN (M := m_X5_parameter) (pc := 60) (ix := 129) (M' := m_X11_put) (As := [.ref x57, .int (iI ((σ.2.1 38 a) - 1)), .int (iI c)]) (rest := []) dX5_parameter_60 ok_X11_put stt_X11_put nl5_129 np_X11_put rfl (Nat.le_of_ble_eq_true rfl) (Nat.le_of_ble_eq_true rfl) rfl (k_X11_put_17 (d + 1) (T := T) (σ := σ50) (x := x57) (i := (σ.2.1 38 a) - 1) (y := c) hk59i (by omega) hk59 (by omega) (by omega) w55 ) (fun r62 T64 σ63 gt65 hp => ?_)
      obtain ⟨rfl, rfl, w68, F69, f66⟩ := hp
      clear gt65
      show Tn _ _ 63 T σ63 [(0, .ref a), (1, .int (iI c))] [] _
      refine tn_aload_n dX5_parameter_63 rfl 0 rfl ?_
      obtain ⟨x70, hx71, hk72⟩ : ∃ x : Nat, σ.2.1 35 a = (x : Int) ∧ (T x).1 = 31 := wf_35 hw ha
      have hk72o : OB T x70 1 := ⟨by omega, by rw [hk72]; rfl, by omega⟩
      refine tn_getR (ci := 5) (i := 2) (n := 35) (x := x70) dX5_parameter_64 rfl lay_5 (by decide) fl5_47 ha rfl rfl (rc_F F69 (Or.inl (by decide)) (by decide) (rc_F F56 (Or.inl (by decide)) (by decide) (rc_F F48 (Or.inl (by decide)) (by decide) (hx71)))) ?_
      refine tn_iload_n dX5_parameter_67 rfl 1 rfl ?_
      refine tn_iconst dX5_parameter_68 ?_
      refine tn_mmin (x := c) (y := 4) dX5_parameter_69 mlm5_117 stM_min iniM cdM_min (by omega) (Nat.le_of_ble_eq_true rfl) ⟨by omega, by omega⟩ ⟨by omega, by omega⟩ (fun z74 g75 => ?_)
      refine tn_putV (ci := 1) (i := 3) (n := 8) (r := false) (v := z74) tyX1 tyX1_ok nmX1 dX5_parameter_72 rfl lay_1 (by decide) fl5_180 rfl (tyX1_ok 3 (by decide)) rfl rfl rfl hk72o rfl rfl ?_
      exact tn_vret rfl dX5_parameter_75 ⟨rfl, rfl, (w68.put (by decide) (by decide) (fo_8 (by omega))), ((((FrC.rfl.trans (FrC.sub F48 (by decide))).trans (FrC.sub F56 (by decide))).trans (FrC.sub F69 (by decide))).put (by decide) (by decide))⟩
  · refine tn_aload_n dX5_parameter_15 rfl 0 rfl ?_
    refine tn_iconst dX5_parameter_16 ?_
    refine tn_aload_n dX5_parameter_17 rfl 0 rfl ?_
    refine tn_getR (ci := 5) (i := 0) (n := 33) (x := x1) dX5_parameter_18 rfl lay_5 (by decide) fl5_12 ha rfl rfl (hx2) ?_
    refine tn_getI (ci := 9) (i := 6) (n := 87) (t := σ.2.1 87 x1) dX5_parameter_21 rfl lay_9 (by decide) fl5_74 hk3o rfl rfl (rfl) ?_
    have g76 : ((-2147483648 : Int) ≤ σ.2.1 87 x1 ∧ σ.2.1 87 x1 ≤ 2147483647) := wf_87 hw hk3o
    refine tn_callV (M := m_X5_parameter) (pc := 24) (ix := 113) (ci := 5) (M' := m_X5_note) (As := [.int (iI 2), .int (iI (σ.2.1 87 x1))]) (rest := []) dX5_parameter_24 ok_X5_note im_X5_note se_X5_note ml5_113 np_X5_note rfl rfl ha rfl (Nat.le_of_ble_eq_true rfl) (Nat.le_of_ble_eq_true rfl) rfl (k_X5_note (d + 1) (T := T) (σ := σ) (a := a) (p1 := 2) (p2 := σ.2.1 87 x1) ha (by decide) (by omega) hw ) (fun r77 T79 σ78 gt80 hp => ?_)
    obtain ⟨rfl, rfl, w82, F83⟩ := hp
    clear gt80
    show Tn _ _ 27 T σ78 [(0, .ref a), (1, .int (iI c))] [] _
    refine tn_iload_n dX5_parameter_27 rfl 1 rfl ?_
    refine tn_iconst dX5_parameter_28 ?_
    refine tn_icmp_le (tgt := 44) dX5_parameter_29 (by decide) ⟨by omega, by omega⟩ ⟨by decide, by decide⟩ (fun h84 => ?_) (fun h84 => ?_)
    · refine tn_aload_n dX5_parameter_44 rfl 0 rfl ?_
      refine tn_callV (M := m_X5_parameter) (pc := 45) (ix := 176) (ci := 5) (M' := m_X5_register) (As := []) (rest := []) dX5_parameter_45 ok_X5_register im_X5_register se_X5_register ml5_176 np_X5_register rfl rfl ha rfl (Nat.le_of_ble_eq_true rfl) (Nat.le_of_ble_eq_true rfl) rfl (k_X5_register (d) (T := T) (σ := σ78) (a := a) ha w82 ) (fun r85 T87 σ86 gt88 hp => ?_)
      obtain ⟨v90, rfl, rfl, w91, F92, f89⟩ := hp
      clear gt88
      show Tn _ _ 48 T σ86 [(0, .ref a), (1, .int (iI c))] [.int (iI v90)] _
      refine tn_pop dX5_parameter_48 rfl ?_
      refine tn_aload_n dX5_parameter_49 rfl 0 rfl ?_
      obtain ⟨x93, hx94, hk95, hl96⟩ : ∃ x : Nat, σ.2.1 37 a = (x : Int) ∧ AR T x 17 256 256 := wf_37 hw ha
      have hk95i : IA T x93 := by unfold IA; omega
      refine tn_getR (ci := 5) (i := 4) (n := 37) (x := x93) dX5_parameter_50 rfl lay_5 (by decide) fl5_28 ha rfl rfl (rc_F F92 (Or.inl (by decide)) (by decide) (rc_F F83 (Or.inl (by decide)) (by decide) (hx94))) ?_
      refine tn_aload_n dX5_parameter_53 rfl 0 rfl ?_
      refine tn_getI (ci := 5) (i := 5) (n := 38) (t := σ.2.1 38 a) dX5_parameter_54 rfl lay_5 (by decide) fl5_58 ha rfl rfl (rc_F F92 (Or.inl (by decide)) (by decide) (rc_F F83 (Or.inl (by decide)) (by decide) (rfl))) ?_
      have g97 : ((0 : Int) ≤ σ.2.1 38 a ∧ σ.2.1 38 a ≤ 256) := wf_38 hw ha
      refine tn_iconst dX5_parameter_57 ?_
      refine tn_isub dX5_parameter_58 ?_
      refine tn_iload_n dX5_parameter_59 rfl 1 rfl ?_
      refine tn_callSN (M := m_X5_parameter) (pc := 60) (ix := 129) (M' := m_X11_put) (As := [.ref x93, .int (iI ((σ.2.1 38 a) - 1)), .int (iI c)]) (rest := []) dX5_parameter_60 ok_X11_put stt_X11_put nl5_129 np_X11_put rfl (Nat.le_of_ble_eq_true rfl) (Nat.le_of_ble_eq_true rfl) rfl (k_X11_put_17 (d + 1) (T := T) (σ := σ86) (x := x93) (i := (σ.2.1 38 a) - 1) (y := c) hk95i (by omega) hk95 (by omega) (by omega) w91 ) (fun r98 T100 σ99 gt101 hp => ?_)
      obtain ⟨rfl, rfl, w104, F105, f102⟩ := hp
      clear gt101
      show Tn _ _ 63 T σ99 [(0, .ref a), (1, .int (iI c))] [] _
      refine tn_aload_n dX5_parameter_63 rfl 0 rfl ?_
      obtain ⟨x106, hx107, hk108⟩ : ∃ x : Nat, σ.2.1 35 a = (x : Int) ∧ (T x).1 = 31 := wf_35 hw ha
      have hk108o : OB T x106 1 := ⟨by omega, by rw [hk108]; rfl, by omega⟩
      refine tn_getR (ci := 5) (i := 2) (n := 35) (x := x106) dX5_parameter_64 rfl lay_5 (by decide) fl5_47 ha rfl rfl (rc_F F105 (Or.inl (by decide)) (by decide) (rc_F F92 (Or.inl (by decide)) (by decide) (rc_F F83 (Or.inl (by decide)) (by decide) (hx107)))) ?_
      refine tn_iload_n dX5_parameter_67 rfl 1 rfl ?_
      refine tn_iconst dX5_parameter_68 ?_
      refine tn_mmin (x := c) (y := 4) dX5_parameter_69 mlm5_117 stM_min iniM cdM_min (by omega) (Nat.le_of_ble_eq_true rfl) ⟨by omega, by omega⟩ ⟨by omega, by omega⟩ (fun z110 g111 => ?_)
      refine tn_putV (ci := 1) (i := 3) (n := 8) (r := false) (v := z110) tyX1 tyX1_ok nmX1 dX5_parameter_72 rfl lay_1 (by decide) fl5_180 rfl (tyX1_ok 3 (by decide)) rfl rfl rfl hk108o rfl rfl ?_
      exact tn_vret rfl dX5_parameter_75 ⟨rfl, rfl, (w104.put (by decide) (by decide) (fo_8 (by omega))), ((((FrC.rfl.trans (FrC.sub F83 (by decide))).trans (FrC.sub F92 (by decide))).trans (FrC.sub F105 (by decide))).put (by decide) (by decide))⟩
    · refine tn_aload_n dX5_parameter_32 rfl 0 rfl ?_
      refine tn_iconst dX5_parameter_33 ?_
      refine tn_aload_n dX5_parameter_34 rfl 0 rfl ?_
      refine tn_getR (ci := 5) (i := 0) (n := 33) (x := x1) dX5_parameter_35 rfl lay_5 (by decide) fl5_12 ha rfl rfl (rc_F F83 (Or.inl (by decide)) (by decide) (hx2)) ?_
      refine tn_getI (ci := 9) (i := 6) (n := 87) (t := σ.2.1 87 x1) dX5_parameter_38 rfl lay_9 (by decide) fl5_74 hk3o rfl rfl (rc_F F83 (Or.inl (by decide)) (by decide) (rfl)) ?_
      refine tn_callV (M := m_X5_parameter) (pc := 41) (ix := 113) (ci := 5) (M' := m_X5_note) (As := [.int (iI 5), .int (iI (σ.2.1 87 x1))]) (rest := []) dX5_parameter_41 ok_X5_note im_X5_note se_X5_note ml5_113 np_X5_note rfl rfl ha rfl (Nat.le_of_ble_eq_true rfl) (Nat.le_of_ble_eq_true rfl) rfl (k_X5_note (d + 1) (T := T) (σ := σ78) (a := a) (p1 := 5) (p2 := σ.2.1 87 x1) ha (by decide) (by omega) w82 ) (fun r112 T114 σ113 gt115 hp => ?_)
      obtain ⟨rfl, rfl, w117, F118⟩ := hp
      clear gt115
      show Tn _ _ 44 T σ113 [(0, .ref a), (1, .int (iI c))] [] _
      refine tn_aload_n dX5_parameter_44 rfl 0 rfl ?_
      refine tn_callV (M := m_X5_parameter) (pc := 45) (ix := 176) (ci := 5) (M' := m_X5_register) (As := []) (rest := []) dX5_parameter_45 ok_X5_register im_X5_register se_X5_register ml5_176 np_X5_register rfl rfl ha rfl (Nat.le_of_ble_eq_true rfl) (Nat.le_of_ble_eq_true rfl) rfl (k_X5_register (d) (T := T) (σ := σ113) (a := a) ha w117 ) (fun r119 T121 σ120 gt122 hp => ?_)
      obtain ⟨v124, rfl, rfl, w125, F126, f123⟩ := hp
      clear gt122
      show Tn _ _ 48 T σ120 [(0, .ref a), (1, .int (iI c))] [.int (iI v124)] _
      refine tn_pop dX5_parameter_48 rfl ?_
      refine tn_aload_n dX5_parameter_49 rfl 0 rfl ?_
      obtain ⟨x127, hx128, hk129, hl130⟩ : ∃ x : Nat, σ.2.1 37 a = (x : Int) ∧ AR T x 17 256 256 := wf_37 hw ha
      have hk129i : IA T x127 := by unfold IA; omega
      refine tn_getR (ci := 5) (i := 4) (n := 37) (x := x127) dX5_parameter_50 rfl lay_5 (by decide) fl5_28 ha rfl rfl (rc_F F126 (Or.inl (by decide)) (by decide) (rc_F F118 (Or.inl (by decide)) (by decide) (rc_F F83 (Or.inl (by decide)) (by decide) (hx128)))) ?_
      refine tn_aload_n dX5_parameter_53 rfl 0 rfl ?_
      refine tn_getI (ci := 5) (i := 5) (n := 38) (t := σ.2.1 38 a) dX5_parameter_54 rfl lay_5 (by decide) fl5_58 ha rfl rfl (rc_F F126 (Or.inl (by decide)) (by decide) (rc_F F118 (Or.inl (by decide)) (by decide) (rc_F F83 (Or.inl (by decide)) (by decide) (rfl)))) ?_
      have g131 : ((0 : Int) ≤ σ.2.1 38 a ∧ σ.2.1 38 a ≤ 256) := wf_38 hw ha
      refine tn_iconst dX5_parameter_57 ?_
      refine tn_isub dX5_parameter_58 ?_
      refine tn_iload_n dX5_parameter_59 rfl 1 rfl ?_
      refine tn_callSN (M := m_X5_parameter) (pc := 60) (ix := 129) (M' := m_X11_put) (As := [.ref x127, .int (iI ((σ.2.1 38 a) - 1)), .int (iI c)]) (rest := []) dX5_parameter_60 ok_X11_put stt_X11_put nl5_129 np_X11_put rfl (Nat.le_of_ble_eq_true rfl) (Nat.le_of_ble_eq_true rfl) rfl (k_X11_put_17 (d + 1) (T := T) (σ := σ120) (x := x127) (i := (σ.2.1 38 a) - 1) (y := c) hk129i (by omega) hk129 (by omega) (by omega) w125 ) (fun r132 T134 σ133 gt135 hp => ?_)
      obtain ⟨rfl, rfl, w138, F139, f136⟩ := hp
      clear gt135
      show Tn _ _ 63 T σ133 [(0, .ref a), (1, .int (iI c))] [] _
      refine tn_aload_n dX5_parameter_63 rfl 0 rfl ?_
      obtain ⟨x140, hx141, hk142⟩ : ∃ x : Nat, σ.2.1 35 a = (x : Int) ∧ (T x).1 = 31 := wf_35 hw ha
      have hk142o : OB T x140 1 := ⟨by omega, by rw [hk142]; rfl, by omega⟩
      refine tn_getR (ci := 5) (i := 2) (n := 35) (x := x140) dX5_parameter_64 rfl lay_5 (by decide) fl5_47 ha rfl rfl (rc_F F139 (Or.inl (by decide)) (by decide) (rc_F F126 (Or.inl (by decide)) (by decide) (rc_F F118 (Or.inl (by decide)) (by decide) (rc_F F83 (Or.inl (by decide)) (by decide) (hx141))))) ?_
      refine tn_iload_n dX5_parameter_67 rfl 1 rfl ?_
      refine tn_iconst dX5_parameter_68 ?_
      refine tn_mmin (x := c) (y := 4) dX5_parameter_69 mlm5_117 stM_min iniM cdM_min (by omega) (Nat.le_of_ble_eq_true rfl) ⟨by omega, by omega⟩ ⟨by omega, by omega⟩ (fun z144 g145 => ?_)
      refine tn_putV (ci := 1) (i := 3) (n := 8) (r := false) (v := z144) tyX1 tyX1_ok nmX1 dX5_parameter_72 rfl lay_1 (by decide) fl5_180 rfl (tyX1_ok 3 (by decide)) rfl rfl rfl hk142o rfl rfl ?_
      exact tn_vret rfl dX5_parameter_75 ⟨rfl, rfl, (w138.put (by decide) (by decide) (fo_8 (by omega))), (((((FrC.rfl.trans (FrC.sub F83 (by decide))).trans (FrC.sub F118 (by decide))).trans (FrC.sub F126 (by decide))).trans (FrC.sub F139 (by decide))).put (by decide) (by decide))⟩
