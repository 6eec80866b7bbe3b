theorem cd_X5_header : Cond.code yX5_header cX5_header 1 (some .boolean) ∈ pWW := pw3 (List.mem_of_getElem? (i := 64) rfl) rfl
abbrev m_X5_header : MT := (yX5_header, cX5_header, 1, (some .boolean))
theorem ok_X5_header : pOk m_X5_header := ⟨⟨cd_X5_header, ini_5⟩, by decide +kernel, ⟨by decide +kernel, by decide +kernel⟩, Nat.le_of_ble_eq_true rfl⟩
theorem np_X5_header : (parseMethodDescriptor yX5_header.desc).map (fun d => d.parameters.length) = some 0 := by decide +kernel
theorem im_X5_header : Cond.instanceMethod yX5_header ∈ pWW := pw3 (List.mem_of_getElem? (i := 63) rfl) rfl
theorem se_X5_header : Cond.selects RX5 yX5_header yX5_header ∈ pWW := pws (List.mem_map.mpr ⟨_, lw_pin 4 rfl, rfl⟩) rfl
theorem ml5_99 : Cond.methodLink RX5 99 yX5_openRoutine ∈ pWW := pw3 (List.mem_of_getElem? (i := 69) rfl) rfl
theorem ml5_106 : Cond.methodLink RX5 106 yX5_parameters ∈ pWW := pw3 (List.mem_of_getElem? (i := 97) rfl) rfl
theorem dX5_header_0 : decode cX5_header 0 = .ok (.aload_n 0, 1) := by decide +kernel
theorem dX5_header_1 : decode cX5_header 1 = .ok (.getfield 12, 3) := by decide +kernel
theorem dX5_header_4 : decode cX5_header 4 = .ok (.getfield 71, 3) := by decide +kernel
theorem dX5_header_7 : decode cX5_header 7 = .ok (.sipush 256, 3) := by decide +kernel
theorem dX5_header_10 : decode cX5_header 10 = .ok (.if_icmp .eq 8, 3) := by decide +kernel
theorem dX5_header_18 : decode cX5_header 18 = .ok (.aload_n 0, 1) := by decide +kernel
theorem dX5_header_19 : decode cX5_header 19 = .ok (.aload_n 0, 1) := by decide +kernel
theorem dX5_header_20 : decode cX5_header 20 = .ok (.getfield 12, 3) := by decide +kernel
theorem dX5_header_23 : decode cX5_header 23 = .ok (.getfield 96, 3) := by decide +kernel
theorem dX5_header_26 : decode cX5_header 26 = .ok (.invokevirtual 99, 3) := by decide +kernel
theorem dX5_header_29 : decode cX5_header 29 = .ok (.aload_n 0, 1) := by decide +kernel
theorem dX5_header_30 : decode cX5_header 30 = .ok (.getfield 12, 3) := by decide +kernel
theorem dX5_header_33 : decode cX5_header 33 = .ok (.invokevirtual 93, 3) := by decide +kernel
theorem dX5_header_36 : decode cX5_header 36 = .ok (.aload_n 0, 1) := by decide +kernel
theorem dX5_header_37 : decode cX5_header 37 = .ok (.bipush 40, 2) := by decide +kernel
theorem dX5_header_39 : decode cX5_header 39 = .ok (.invokevirtual 102, 3) := by decide +kernel
theorem dX5_header_42 : decode cX5_header 42 = .ok (.ifCond .eq 23, 3) := by decide +kernel
theorem dX5_header_65 : decode cX5_header 65 = .ok (.iconst 0, 1) := by decide +kernel
theorem dX5_header_66 : decode cX5_header 66 = .ok (.ireturn, 1) := by decide +kernel
theorem dX5_header_45 : decode cX5_header 45 = .ok (.aload_n 0, 1) := by decide +kernel
theorem dX5_header_46 : decode cX5_header 46 = .ok (.invokevirtual 106, 3) := by decide +kernel
theorem dX5_header_49 : decode cX5_header 49 = .ok (.ifCond .eq 16, 3) := by decide +kernel
theorem dX5_header_52 : decode cX5_header 52 = .ok (.aload_n 0, 1) := by decide +kernel
theorem dX5_header_53 : decode cX5_header 53 = .ok (.bipush 41, 2) := by decide +kernel
theorem dX5_header_55 : decode cX5_header 55 = .ok (.invokevirtual 102, 3) := by decide +kernel
theorem dX5_header_58 : decode cX5_header 58 = .ok (.ifCond .eq 7, 3) := by decide +kernel
theorem dX5_header_61 : decode cX5_header 61 = .ok (.iconst 1, 1) := by decide +kernel
theorem dX5_header_62 : decode cX5_header 62 = .ok (.goto 4, 3) := by decide +kernel
theorem dX5_header_13 : decode cX5_header 13 = .ok (.aload_n 0, 1) := by decide +kernel
theorem dX5_header_14 : decode cX5_header 14 = .ok (.invokevirtual 90, 3) := by decide +kernel
theorem dX5_header_17 : decode cX5_header 17 = .ok (.ireturn, 1) := by decide +kernel
set_option maxRecDepth 20000 in
theorem k_X5_header (d : Nat) {T : CT} {σ : MS} {a : Nat} (ha : OB T a 5) (hw : WT T σ) (hrt : RT σ a) : Tn (d + 5) m_X5_header 0 T σ [(0, .ref a)] [] (fun ro T2 σ2 => ∃ v : Int, ro = some (.int (iI v)) ∧ T = T2 ∧ WT T2 σ2 ∧ FrC T [6, 7, 8, 9, 10, 35, 38, 43, 44, 46, 47, 84, 85, 86, 87, 516, 517, 521] σ σ2 ∧ (v = 0 ∨ v = 1) ∧ (v = 1 → RP σ2 a 4)) := by
  refine tn_aload_n dX5_header_0 rfl 0 rfl ?_
  obtain ⟨x1, hx2, hk3⟩ : ∃ x : Nat, σ.2.1 33 a = (x : Int) ∧ (T x).1 = 39 := wf_33 hw ha
  have hk3o : OB T x1 9 := ⟨by omega, by rw [hk3]; rfl, by omega⟩
  refine tn_getR (ci := 5) (i := 0) (n := 33) (x := x1) dX5_header_1 rfl lay_5 (by decide) fl5_12 ha rfl rfl (hx2) ?_
  refine tn_getI (ci := 9) (i := 4) (n := 85) (t := σ.2.1 85 x1) dX5_header_4 rfl lay_9 (by decide) fl5_71 hk3o rfl rfl (rfl) ?_
  have g5 : ((-2147483648 : Int) ≤ σ.2.1 85 x1 ∧ σ.2.1 85 x1 ≤ 2147483647) := wf_85 hw hk3o
  refine tn_sipush dX5_header_7 (by decide) ?_
  refine tn_icmp_eq (tgt := 18) dX5_header_10 (by decide) ⟨by omega, by omega⟩ ⟨by decide, by decide⟩ (fun h6 => ?_) (fun h6 => ?_)
  · refine tn_aload_n dX5_header_18 rfl 0 rfl ?_
    refine tn_aload_n dX5_header_19 rfl 0 rfl ?_
    refine tn_getR (ci := 5) (i := 0) (n := 33) (x := x1) dX5_header_20 rfl lay_5 (by decide) fl5_12 ha rfl rfl (hx2) ?_
    refine tn_getI (ci := 9) (i := 5) (n := 86) (t := σ.2.1 86 x1) dX5_header_23 rfl lay_9 (by decide) fl5_96 hk3o rfl rfl (rfl) ?_
    have g7 : ((-2147483648 : Int) ≤ σ.2.1 86 x1 ∧ σ.2.1 86 x1 ≤ 2147483647) := wf_86 hw hk3o
    refine tn_callV (M := m_X5_header) (pc := 26) (ix := 99) (ci := 5) (M' := m_X5_openRoutine) (As := [.int (iI (σ.2.1 86 x1))]) (rest := []) dX5_header_26 ok_X5_openRoutine im_X5_openRoutine se_X5_openRoutine ml5_99 np_X5_openRoutine rfl rfl ha rfl (Nat.le_of_ble_eq_true rfl) (Nat.le_of_ble_eq_true rfl) rfl (k_X5_openRoutine (d + 1) (T := T) (σ := σ) (a := a) (k := σ.2.1 86 x1) ha (by omega) hw hrt) (fun r8 T10 σ9 gt11 hp => ?_)
    obtain ⟨rfl, rfl, w14, F15, f12⟩ := hp
    clear gt11
    show Tn _ _ 29 T σ9 [(0, .ref a)] [] _
    refine tn_aload_n dX5_header_29 rfl 0 rfl ?_
    refine tn_getR (ci := 5) (i := 0) (n := 33) (x := x1) dX5_header_30 rfl lay_5 (by decide) fl5_12 ha rfl rfl (rc_F F15 (Or.inl (by decide)) (by decide) (hx2)) ?_
    have q20 : σ9.2.1 84 x1 = σ.2.1 84 x1 := rc_F F15 (Or.inl (by decide)) (by decide) (rfl)
    refine tn_callV (M := m_X5_header) (pc := 33) (ix := 93) (ci := 9) (M' := m_X9_next) (As := []) (rest := []) dX5_header_33 ok_X9_next im_X9_next se_X9_next ml5_93 np_X9_next rfl rfl hk3o rfl (Nat.le_of_ble_eq_true rfl) (Nat.le_of_ble_eq_true rfl) rfl (k_X9_next (d + 3) (T := T) (σ := σ9) (a := x1) hk3o w14 (RP.tk f12 w14 ha (rc_F F15 (Or.inl (by decide)) (by decide) (hx2)))) (fun r16 T18 σ17 gt19 hp => ?_)
    obtain ⟨rfl, rfl, w25, F26, f21, f22, f23⟩ := hp
    clear gt19
    have rp27 : RP σ17 a (4 - 4) := RP.next4 f12 (rc_F F15 (Or.inl (by decide)) (by decide) (hx2)) F26 (by decide) (by decide) (by decide) f21 f23 (by rw [show σ9.2.1 85 x1 = σ.2.1 85 x1 from rc_F F15 (Or.inl (by decide)) (by decide) (rfl)]; omega)
    have rp28 : RP σ17 a (0) := RP.up rp27 (by omega)
    show Tn _ _ 36 T σ17 [(0, .ref a)] [] _
    refine tn_aload_n dX5_header_36 rfl 0 rfl ?_
    refine tn_bipush dX5_header_37 (by decide) ?_
    refine tn_callV (M := m_X5_header) (pc := 39) (ix := 102) (ci := 5) (M' := m_X5_taken) (As := [.int (iI 40)]) (rest := []) dX5_header_39 ok_X5_taken im_X5_taken se_X5_taken ml5_102 np_X5_taken rfl rfl ha rfl (Nat.le_of_ble_eq_true rfl) (Nat.le_of_ble_eq_true rfl) rfl (k_X5_taken (d + 2) (T := T) (σ := σ17) (a := a) (s := 40) (kp := 0) ha (by decide) w25 (by omega) (by omega) rp28) (fun r29 T31 σ30 gt32 hp => ?_)
    obtain ⟨v35, rfl, rfl, w36, F37, f33, f34⟩ := hp
    clear gt32
    have rp39 : RP σ30 a (- 4 * v35) := RP.up f34 (by omega)
    show Tn _ _ 42 T σ30 [(0, .ref a)] [.int (iI v35)] _
    refine tn_if_eq (tgt := 65) dX5_header_42 (by decide) ⟨by omega, by omega⟩ (fun h40 => ?_) (fun h40 => ?_)
    · refine tn_iconst dX5_header_65 ?_
      exact tn_zret (v := 0) rfl (by decide) dX5_header_66 ⟨_, rfl, rfl, w36, (((FrC.rfl.trans (FrC.sub F15 (by decide))).trans (FrC.sub F26 (by decide))).trans (FrC.sub F37 (by decide))), by omega, fun _ => (RP.up rp39 (by omega))⟩
    · refine tn_aload_n dX5_header_45 rfl 0 rfl ?_
      refine tn_callV (M := m_X5_header) (pc := 46) (ix := 106) (ci := 5) (M' := m_X5_parameters) (As := []) (rest := []) dX5_header_46 ok_X5_parameters im_X5_parameters se_X5_parameters ml5_106 np_X5_parameters rfl rfl ha rfl (Nat.le_of_ble_eq_true rfl) (Nat.le_of_ble_eq_true rfl) rfl (k_X5_parameters (d) (T := T) (σ := σ30) (a := a) (kp := - 4 * v35) ha w36 (by omega) rp39) (fun r41 T43 σ42 gt44 hp => ?_)
      obtain ⟨v47, rfl, rfl, w48, F49, f45, f46⟩ := hp
      clear gt44
      show Tn _ _ 49 T σ42 [(0, .ref a)] [.int (iI v47)] _
      refine tn_if_eq (tgt := 65) dX5_header_49 (by decide) ⟨by omega, by omega⟩ (fun h51 => ?_) (fun h51 => ?_)
      · refine tn_iconst dX5_header_65 ?_
        exact tn_zret (v := 0) rfl (by decide) dX5_header_66 ⟨_, rfl, rfl, w48, ((((FrC.rfl.trans (FrC.sub F15 (by decide))).trans (FrC.sub F26 (by decide))).trans (FrC.sub F37 (by decide))).trans (FrC.sub F49 (by decide))), by omega, fun _ => (RP.up f46 (by omega))⟩
      · refine tn_aload_n dX5_header_52 rfl 0 rfl ?_
        refine tn_bipush dX5_header_53 (by decide) ?_
        refine tn_callV (M := m_X5_header) (pc := 55) (ix := 102) (ci := 5) (M' := m_X5_taken) (As := [.int (iI 41)]) (rest := []) dX5_header_55 ok_X5_taken im_X5_taken se_X5_taken ml5_102 np_X5_taken rfl rfl ha rfl (Nat.le_of_ble_eq_true rfl) (Nat.le_of_ble_eq_true rfl) rfl (k_X5_taken (d + 2) (T := T) (σ := σ42) (a := a) (s := 41) (kp := - 4 * v35) ha (by decide) w48 (by omega) (by omega) f46) (fun r52 T54 σ53 gt55 hp => ?_)
        obtain ⟨v58, rfl, rfl, w59, F60, f56, f57⟩ := hp
        clear gt55
        show Tn _ _ 58 T σ53 [(0, .ref a)] [.int (iI v58)] _
        refine tn_if_eq (tgt := 65) dX5_header_58 (by decide) ⟨by omega, by omega⟩ (fun h62 => ?_) (fun h62 => ?_)
        · refine tn_iconst dX5_header_65 ?_
          exact tn_zret (v := 0) rfl (by decide) dX5_header_66 ⟨_, rfl, rfl, w59, (((((FrC.rfl.trans (FrC.sub F15 (by decide))).trans (FrC.sub F26 (by decide))).trans (FrC.sub F37 (by decide))).trans (FrC.sub F49 (by decide))).trans (FrC.sub F60 (by decide))), by omega, fun _ => (RP.up f57 (by omega))⟩
        · refine tn_iconst dX5_header_61 ?_
          refine tn_goto (tgt := 66) dX5_header_62 (by decide) ?_
          exact tn_zret (v := 1) rfl (by decide) dX5_header_66 ⟨_, rfl, rfl, w59, (((((FrC.rfl.trans (FrC.sub F15 (by decide))).trans (FrC.sub F26 (by decide))).trans (FrC.sub F37 (by decide))).trans (FrC.sub F49 (by decide))).trans (FrC.sub F60 (by decide))), by omega, fun _ => (RP.up f57 (by omega))⟩
  · refine tn_aload_n dX5_header_13 rfl 0 rfl ?_
    refine tn_callV (M := m_X5_header) (pc := 14) (ix := 90) (ci := 5) (M' := m_X5_refuse) (As := []) (rest := []) dX5_header_14 ok_X5_refuse im_X5_refuse se_X5_refuse ml5_90 np_X5_refuse rfl rfl ha rfl (Nat.le_of_ble_eq_true rfl) (Nat.le_of_ble_eq_true rfl) rfl (k_X5_refuse (d + 3) (T := T) (σ := σ) (a := a) ha hw ) (fun r63 T65 σ64 gt66 hp => ?_)
    obtain ⟨v69, rfl, rfl, w70, F71, f67, f68⟩ := hp
    clear gt66
    show Tn _ _ 17 T σ64 [(0, .ref a)] [.int (iI v69)] _
    exact tn_zret (v := v69) rfl (by omega) dX5_header_17 ⟨_, rfl, rfl, w70, (FrC.rfl.trans (FrC.sub F71 (by decide))), by omega, fun q => by omega⟩
