theorem cd_X5_block : Cond.code yX5_block cX5_block 3 (some .boolean) ∈ pWW := pw3 (List.mem_of_getElem? (i := 116) rfl) rfl
abbrev m_X5_block : MT := (yX5_block, cX5_block, 3, (some .boolean))
theorem ok_X5_block : pOk m_X5_block := ⟨⟨cd_X5_block, ini_5⟩, by decide +kernel, ⟨by decide +kernel, by decide +kernel⟩, Nat.le_of_ble_eq_true rfl⟩
theorem np_X5_block : (parseMethodDescriptor yX5_block.desc).map (fun d => d.parameters.length) = some 1 := by decide +kernel
theorem im_X5_block : Cond.instanceMethod yX5_block ∈ pWW := pw3 (List.mem_of_getElem? (i := 115) rfl) rfl
theorem se_X5_block : Cond.selects RX5 yX5_block yX5_block ∈ pWW := pws (List.mem_map.mpr ⟨_, lw_pin 14 rfl, rfl⟩) rfl
theorem cd_X5_choice : Cond.code yX5_choice cX5_choice 4 (some .boolean) ∈ pWW := pw3 (List.mem_of_getElem? (i := 213) rfl) rfl
abbrev m_X5_choice : MT := (yX5_choice, cX5_choice, 4, (some .boolean))
theorem ok_X5_choice : pOk m_X5_choice := ⟨⟨cd_X5_choice, ini_5⟩, by decide +kernel, ⟨by decide +kernel, by decide +kernel⟩, Nat.le_of_ble_eq_true rfl⟩
theorem np_X5_choice : (parseMethodDescriptor yX5_choice.desc).map (fun d => d.parameters.length) = some 1 := by decide +kernel
theorem im_X5_choice : Cond.instanceMethod yX5_choice ∈ pWW := pw3 (List.mem_of_getElem? (i := 212) rfl) rfl
theorem se_X5_choice : Cond.selects RX5 yX5_choice yX5_choice ∈ pWW := pws (List.mem_map.mpr ⟨_, lw_pin 27 rfl, rfl⟩) rfl
theorem ml5_235 : Cond.methodLink RX5 235 yX5_zeroToNew ∈ pWW := pw3 (List.mem_of_getElem? (i := 214) rfl) rfl
theorem ml5_79 : Cond.methodLink RX5 79 yX5_block ∈ pWW := pw3 (List.mem_of_getElem? (i := 113) rfl) rfl
theorem dX5_choice_0 : decode cX5_choice 0 = .ok (.aload_n 0, 1) := by decide +kernel
theorem dX5_choice_1 : decode cX5_choice 1 = .ok (.getfield 47, 3) := by decide +kernel
theorem dX5_choice_4 : decode cX5_choice 4 = .ok (.bipush 11, 2) := by decide +kernel
theorem dX5_choice_6 : decode cX5_choice 6 = .ok (.aload_n 0, 1) := by decide +kernel
theorem dX5_choice_7 : decode cX5_choice 7 = .ok (.getfield 64, 3) := by decide +kernel
theorem dX5_choice_10 : decode cX5_choice 10 = .ok (.iconst 0, 1) := by decide +kernel
theorem dX5_choice_11 : decode cX5_choice 11 = .ok (.invokevirtual 139, 3) := by decide +kernel
theorem dX5_choice_14 : decode cX5_choice 14 = .ok (.aload_n 0, 1) := by decide +kernel
theorem dX5_choice_15 : decode cX5_choice 15 = .ok (.getfield 12, 3) := by decide +kernel
theorem dX5_choice_18 : decode cX5_choice 18 = .ok (.invokevirtual 93, 3) := by decide +kernel
theorem dX5_choice_21 : decode cX5_choice 21 = .ok (.aload_n 0, 1) := by decide +kernel
theorem dX5_choice_22 : decode cX5_choice 22 = .ok (.iconst 1, 1) := by decide +kernel
theorem dX5_choice_23 : decode cX5_choice 23 = .ok (.invokevirtual 213, 3) := by decide +kernel
theorem dX5_choice_26 : decode cX5_choice 26 = .ok (.ifCond .ne 5, 3) := by decide +kernel
theorem dX5_choice_31 : decode cX5_choice 31 = .ok (.aload_n 0, 1) := by decide +kernel
theorem dX5_choice_32 : decode cX5_choice 32 = .ok (.invokevirtual 235, 3) := by decide +kernel
theorem dX5_choice_35 : decode cX5_choice 35 = .ok (.istore_n 2, 1) := by decide +kernel
theorem dX5_choice_36 : decode cX5_choice 36 = .ok (.aload_n 0, 1) := by decide +kernel
theorem dX5_choice_37 : decode cX5_choice 37 = .ok (.iload_n 1, 1) := by decide +kernel
theorem dX5_choice_38 : decode cX5_choice 38 = .ok (.iconst 1, 1) := by decide +kernel
theorem dX5_choice_39 : decode cX5_choice 39 = .ok (.iadd, 1) := by decide +kernel
theorem dX5_choice_40 : decode cX5_choice 40 = .ok (.invokevirtual 79, 3) := by decide +kernel
theorem dX5_choice_43 : decode cX5_choice 43 = .ok (.ifCond .ne 5, 3) := by decide +kernel
theorem dX5_choice_48 : decode cX5_choice 48 = .ok (.aload_n 0, 1) := by decide +kernel
theorem dX5_choice_49 : decode cX5_choice 49 = .ok (.getfield 12, 3) := by decide +kernel
theorem dX5_choice_52 : decode cX5_choice 52 = .ok (.getfield 71, 3) := by decide +kernel
theorem dX5_choice_55 : decode cX5_choice 55 = .ok (.sipush 261, 3) := by decide +kernel
theorem dX5_choice_58 : decode cX5_choice 58 = .ok (.if_icmp .eq 16, 3) := by decide +kernel
theorem dX5_choice_74 : decode cX5_choice 74 = .ok (.aload_n 0, 1) := by decide +kernel
theorem dX5_choice_75 : decode cX5_choice 75 = .ok (.invokevirtual 238, 3) := by decide +kernel
theorem dX5_choice_78 : decode cX5_choice 78 = .ok (.istore_n 3, 1) := by decide +kernel
theorem dX5_choice_79 : decode cX5_choice 79 = .ok (.aload_n 0, 1) := by decide +kernel
theorem dX5_choice_80 : decode cX5_choice 80 = .ok (.getfield 47, 3) := by decide +kernel
theorem dX5_choice_83 : decode cX5_choice 83 = .ok (.bipush 8, 2) := by decide +kernel
theorem dX5_choice_85 : decode cX5_choice 85 = .ok (.iload_n 3, 1) := by decide +kernel
theorem dX5_choice_86 : decode cX5_choice 86 = .ok (.iconst 0, 1) := by decide +kernel
theorem dX5_choice_87 : decode cX5_choice 87 = .ok (.invokevirtual 139, 3) := by decide +kernel
theorem dX5_choice_90 : decode cX5_choice 90 = .ok (.aload_n 0, 1) := by decide +kernel
theorem dX5_choice_91 : decode cX5_choice 91 = .ok (.getfield 47, 3) := by decide +kernel
theorem dX5_choice_94 : decode cX5_choice 94 = .ok (.bipush 13, 2) := by decide +kernel
theorem dX5_choice_96 : decode cX5_choice 96 = .ok (.iload_n 2, 1) := by decide +kernel
theorem dX5_choice_97 : decode cX5_choice 97 = .ok (.iconst 0, 1) := by decide +kernel
theorem dX5_choice_98 : decode cX5_choice 98 = .ok (.invokevirtual 139, 3) := by decide +kernel
theorem dX5_choice_101 : decode cX5_choice 101 = .ok (.aload_n 0, 1) := by decide +kernel
theorem dX5_choice_102 : decode cX5_choice 102 = .ok (.getfield 12, 3) := by decide +kernel
theorem dX5_choice_105 : decode cX5_choice 105 = .ok (.invokevirtual 93, 3) := by decide +kernel
theorem dX5_choice_108 : decode cX5_choice 108 = .ok (.aload_n 0, 1) := by decide +kernel
theorem dX5_choice_109 : decode cX5_choice 109 = .ok (.iload_n 1, 1) := by decide +kernel
theorem dX5_choice_110 : decode cX5_choice 110 = .ok (.iconst 1, 1) := by decide +kernel
theorem dX5_choice_111 : decode cX5_choice 111 = .ok (.iadd, 1) := by decide +kernel
theorem dX5_choice_112 : decode cX5_choice 112 = .ok (.invokevirtual 79, 3) := by decide +kernel
theorem dX5_choice_115 : decode cX5_choice 115 = .ok (.ifCond .ne 5, 3) := by decide +kernel
theorem dX5_choice_120 : decode cX5_choice 120 = .ok (.aload_n 0, 1) := by decide +kernel
theorem dX5_choice_121 : decode cX5_choice 121 = .ok (.getfield 47, 3) := by decide +kernel
theorem dX5_choice_124 : decode cX5_choice 124 = .ok (.bipush 13, 2) := by decide +kernel
theorem dX5_choice_126 : decode cX5_choice 126 = .ok (.iload_n 3, 1) := by decide +kernel
theorem dX5_choice_127 : decode cX5_choice 127 = .ok (.iconst 0, 1) := by decide +kernel
theorem dX5_choice_128 : decode cX5_choice 128 = .ok (.invokevirtual 139, 3) := by decide +kernel
theorem dX5_choice_131 : decode cX5_choice 131 = .ok (.iconst 1, 1) := by decide +kernel
theorem dX5_choice_132 : decode cX5_choice 132 = .ok (.ireturn, 1) := by decide +kernel
theorem dX5_choice_118 : decode cX5_choice 118 = .ok (.iconst 0, 1) := by decide +kernel
theorem dX5_choice_119 : decode cX5_choice 119 = .ok (.ireturn, 1) := by decide +kernel
theorem dX5_choice_61 : decode cX5_choice 61 = .ok (.aload_n 0, 1) := by decide +kernel
theorem dX5_choice_62 : decode cX5_choice 62 = .ok (.getfield 47, 3) := by decide +kernel
theorem dX5_choice_65 : decode cX5_choice 65 = .ok (.bipush 13, 2) := by decide +kernel
theorem dX5_choice_67 : decode cX5_choice 67 = .ok (.iload_n 2, 1) := by decide +kernel
theorem dX5_choice_68 : decode cX5_choice 68 = .ok (.iconst 0, 1) := by decide +kernel
theorem dX5_choice_69 : decode cX5_choice 69 = .ok (.invokevirtual 139, 3) := by decide +kernel
theorem dX5_choice_72 : decode cX5_choice 72 = .ok (.iconst 1, 1) := by decide +kernel
theorem dX5_choice_73 : decode cX5_choice 73 = .ok (.ireturn, 1) := by decide +kernel
theorem dX5_choice_46 : decode cX5_choice 46 = .ok (.iconst 0, 1) := by decide +kernel
theorem dX5_choice_47 : decode cX5_choice 47 = .ok (.ireturn, 1) := by decide +kernel
theorem dX5_choice_29 : decode cX5_choice 29 = .ok (.iconst 0, 1) := by decide +kernel
theorem dX5_choice_30 : decode cX5_choice 30 = .ok (.ireturn, 1) := by decide +kernel
set_option maxRecDepth 20000 in
theorem k_X5_choice (d : Nat) {T : CT} {σ : MS} {a : Nat} {dp : Int} {kp : Int} {lv : Nat} (ha : OB T a 5) (h_dp : -2147483648 ≤ dp ∧ dp ≤ 2147483647) (hw : WT T σ) (hex : ∀ (d : Nat) {T : CT} {σ : MS} {a : Nat} {dp : Int} {kp : Int} (ha : OB T a 5) (h_dp : -2147483648 ≤ dp ∧ dp ≤ 2147483647) (hw : WT T σ) (hdp : 0 ≤ dp ∧ dp ≤ 7) (hlv : 7 ≤ dp + (lv : Int)) (hkp : kp ≤ 140) (hrp : RP σ a kp), Tn (d + 3 * lv + 60) m_X5_block 0 T σ [(0, .ref a), (1, .int (iI dp))] [] (fun ro T2 σ2 => ∃ v : Int, ro = some (.int (iI v)) ∧ WT T2 σ2 ∧ FrC T [5, 6, 7, 9, 42, 43, 44, 45, 46, 47, 50, 51, 84, 85, 86, 87, 518, 519, 520, 521] σ σ2 ∧ (v = 0 ∨ v = 1) ∧ (RP σ2 a (kp + 2 - 10 * v)))) (hdp : 0 ≤ dp ∧ dp ≤ 6) (hlv : 6 ≤ dp + (lv : Int)) (hkp : kp ≤ 140) (hrp : RP σ a kp) : Tn (d + 3 * lv + 61) m_X5_choice 0 T σ [(0, .ref a), (1, .int (iI dp))] [] (fun ro T2 σ2 => ∃ v : Int, ro = some (.int (iI v)) ∧ WT T2 σ2 ∧ FrC T [5, 6, 7, 9, 42, 43, 44, 45, 46, 47, 50, 51, 84, 85, 86, 87, 518, 519, 520, 521] σ σ2 ∧ (v = 0 ∨ v = 1) ∧ (RP σ2 a (kp + 1 - 10 * v))) := by
  refine tn_aload_n dX5_choice_0 rfl 0 rfl ?_
  obtain ⟨x1, hx2, hk3⟩ : ∃ x : Nat, σ.2.1 35 a = (x : Int) ∧ (T x).1 = 31 := wf_35 hw ha
  have hk3o : OB T x1 1 := ⟨by omega, by rw [hk3]; rfl, by omega⟩
  refine tn_getR (ci := 5) (i := 2) (n := 35) (x := x1) dX5_choice_1 rfl lay_5 (by decide) fl5_47 ha rfl rfl (hx2) ?_
  refine tn_bipush dX5_choice_4 (by decide) ?_
  refine tn_aload_n dX5_choice_6 rfl 0 rfl ?_
  refine tn_getI (ci := 5) (i := 12) (n := 45) (t := σ.2.1 45 a) dX5_choice_7 rfl lay_5 (by decide) fl5_64 ha rfl rfl (rfl) ?_
  have g5 : ((-2147483648 : Int) ≤ σ.2.1 45 a ∧ σ.2.1 45 a ≤ 2147483647) := wf_45 hw ha
  refine tn_iconst dX5_choice_10 ?_
  refine tn_callV (M := m_X5_choice) (pc := 11) (ix := 139) (ci := 1) (M' := m_X1_append) (As := [.int (iI 11), .int (iI (σ.2.1 45 a)), .int (iI 0)]) (rest := []) dX5_choice_11 ok_X1_append im_X1_append se_X1_append ml5_139 np_X1_append rfl rfl hk3o rfl (Nat.le_of_ble_eq_true rfl) (Nat.le_of_ble_eq_true rfl) rfl (k_X1_append (d + 3 * lv + 57) (T := T) (σ := σ) (a := x1) (k := 11) (x := σ.2.1 45 a) (y := 0) hk3o hk3 (by decide) (by omega) (by decide) hw (RP.cnt hrp hw ha (hx2) (by omega)) (by omega)) (fun r6 T8 σ7 gt9 hp => ?_)
  obtain ⟨rfl, w12, F13, f10⟩ := hp
  replace ha : OB T8 a 5 := gt9.ob ha
  have rp14 : RP σ7 a (kp + 1) := RP.app hrp (hx2) F13 (by decide) (by decide) (by decide) (by decide) f10
  show Tn _ _ 14 T8 σ7 [(0, .ref a), (1, .int (iI dp))] [] _
  refine tn_aload_n dX5_choice_14 rfl 0 rfl ?_
  obtain ⟨x15, hx16, hk17⟩ : ∃ x : Nat, σ7.2.1 33 a = (x : Int) ∧ (T8 x).1 = 39 := wf_33 w12 ha
  have hk17o : OB T8 x15 9 := ⟨by omega, by rw [hk17]; rfl, by omega⟩
  refine tn_getR (ci := 5) (i := 0) (n := 33) (x := x15) dX5_choice_15 rfl lay_5 (by decide) fl5_12 ha rfl rfl (hx16) ?_
  refine tn_callV (M := m_X5_choice) (pc := 18) (ix := 93) (ci := 9) (M' := m_X9_next) (As := []) (rest := []) dX5_choice_18 ok_X9_next im_X9_next se_X9_next ml5_93 np_X9_next rfl rfl hk17o rfl (Nat.le_of_ble_eq_true rfl) (Nat.le_of_ble_eq_true rfl) rfl (k_X9_next (d + 3 * lv + 59) (T := T8) (σ := σ7) (a := x15) hk17o w12 (RP.tk rp14 w12 ha (hx16))) (fun r19 T21 σ20 gt22 hp => ?_)
  obtain ⟨rfl, rfl, w27, F28, f23, f24, f25⟩ := hp
  clear gt22
  have rp29 : RP σ20 a (kp + 1) := RP.next rp14 (hx16) F28 (by decide) (by decide) (by decide) f23 f24
  show Tn _ _ 21 T8 σ20 [(0, .ref a), (1, .int (iI dp))] [] _
  refine tn_aload_n dX5_choice_21 rfl 0 rfl ?_
  refine tn_iconst dX5_choice_22 ?_
  refine tn_callV (M := m_X5_choice) (pc := 23) (ix := 213) (ci := 5) (M' := m_X5_expression) (As := [.int (iI 1)]) (rest := []) dX5_choice_23 ok_X5_expression im_X5_expression se_X5_expression ml5_213 np_X5_expression rfl rfl ha rfl (Nat.le_of_ble_eq_true rfl) (Nat.le_of_ble_eq_true rfl) rfl (k_X5_expression (d + 3 * lv + 10) (T := T8) (σ := σ20) (a := a) (dp := 1) (kp := kp + 1) ha (by decide) w27 (by omega) (by omega) rp29) (fun r30 T32 σ31 gt33 hp => ?_)
  obtain ⟨v36, rfl, w37, F38, f34, f35⟩ := hp
  replace ha : OB T32 a 5 := gt33.ob ha
  have rp40 : RP σ31 a (kp - 4 * v36 + 1) := RP.up f35 (by omega)
  show Tn _ _ 26 T32 σ31 [(0, .ref a), (1, .int (iI dp))] [.int (iI v36)] _
  refine tn_if_ne (tgt := 31) dX5_choice_26 (by decide) ⟨by omega, by omega⟩ (fun h41 => ?_) (fun h41 => ?_)
  · refine tn_aload_n dX5_choice_31 rfl 0 rfl ?_
    refine tn_callV (M := m_X5_choice) (pc := 32) (ix := 235) (ci := 5) (M' := m_X5_zeroToNew) (As := []) (rest := []) dX5_choice_32 ok_X5_zeroToNew im_X5_zeroToNew se_X5_zeroToNew ml5_235 np_X5_zeroToNew rfl rfl ha rfl (Nat.le_of_ble_eq_true rfl) (Nat.le_of_ble_eq_true rfl) rfl (k_X5_zeroToNew (d + 3 * lv + 56) (T := T32) (σ := σ31) (a := a) (kp := kp - 4 * v36 + 1) ha w37 (by omega) rp40) (fun r42 T44 σ43 gt45 hp => ?_)
    obtain ⟨v48, rfl, w49, F50, f46, f47⟩ := hp
    replace ha : OB T44 a 5 := gt45.ob ha
    have rp52 : RP σ43 a (kp - 4 * v36 + 2) := RP.up f47 (by omega)
    show Tn _ _ 35 T44 σ43 [(0, .ref a), (1, .int (iI dp))] [.int (iI v48)] _
    refine tn_istore_n (L' := [(2, .int (iI v48)), (0, .ref a), (1, .int (iI dp))]) dX5_choice_35 rfl (by decide) rfl ?_
    refine tn_aload_n dX5_choice_36 rfl 1 rfl ?_
    refine tn_iload_n dX5_choice_37 rfl 2 rfl ?_
    refine tn_iconst dX5_choice_38 ?_
    refine tn_iadd dX5_choice_39 ?_
    refine tn_callV (M := m_X5_choice) (pc := 40) (ix := 79) (ci := 5) (M' := m_X5_block) (As := [.int (iI (dp + 1))]) (rest := []) dX5_choice_40 ok_X5_block im_X5_block se_X5_block ml5_79 np_X5_block rfl rfl ha rfl (Nat.le_of_ble_eq_true rfl) (Nat.le_of_ble_eq_true rfl) rfl (hex (d) (T := T44) (σ := σ43) (a := a) (dp := dp + 1) (kp := kp - 4 * v36 + 2) ha (by omega) w49 (by omega) (by omega) (by omega) rp52) (fun r53 T55 σ54 gt56 hp => ?_)
    obtain ⟨v59, rfl, w60, F61, f57, f58⟩ := hp
    replace ha : OB T55 a 5 := gt56.ob ha
    have rp63 : RP σ54 a (kp - 4 * v36 - 10 * v59 + 4) := RP.up f58 (by omega)
    show Tn _ _ 43 T55 σ54 [(2, .int (iI v48)), (0, .ref a), (1, .int (iI dp))] [.int (iI v59)] _
    refine tn_if_ne (tgt := 48) dX5_choice_43 (by decide) ⟨by omega, by omega⟩ (fun h64 => ?_) (fun h64 => ?_)
    · refine tn_aload_n dX5_choice_48 rfl 1 rfl ?_
      obtain ⟨x65, hx66, hk67⟩ : ∃ x : Nat, σ54.2.1 33 a = (x : Int) ∧ (T55 x).1 = 39 := wf_33 w60 ha
      have hk67o : OB T55 x65 9 := ⟨by omega, by rw [hk67]; rfl, by omega⟩
      refine tn_getR (ci := 5) (i := 0) (n := 33) (x := x65) dX5_choice_49 rfl lay_5 (by decide) fl5_12 ha rfl rfl (hx66) ?_
      refine tn_getI (ci := 9) (i := 4) (n := 85) (t := σ54.2.1 85 x65) dX5_choice_52 rfl lay_9 (by decide) fl5_71 hk67o rfl rfl (rfl) ?_
      have g69 : ((-2147483648 : Int) ≤ σ54.2.1 85 x65 ∧ σ54.2.1 85 x65 ≤ 2147483647) := wf_85 w60 hk67o
      refine tn_sipush dX5_choice_55 (by decide) ?_
      refine tn_icmp_eq (tgt := 74) dX5_choice_58 (by decide) ⟨by omega, by omega⟩ ⟨by decide, by decide⟩ (fun h70 => ?_) (fun h70 => ?_)
      · refine tn_aload_n dX5_choice_74 rfl 1 rfl ?_
        refine tn_callV (M := m_X5_choice) (pc := 75) (ix := 238) (ci := 5) (M' := m_X5_newLabel) (As := []) (rest := []) dX5_choice_75 ok_X5_newLabel im_X5_newLabel se_X5_newLabel ml5_238 np_X5_newLabel rfl rfl ha rfl (Nat.le_of_ble_eq_true rfl) (Nat.le_of_ble_eq_true rfl) rfl (k_X5_newLabel (d + 3 * lv + 59) (T := T55) (σ := σ54) (a := a) ha w60 ) (fun r71 T73 σ72 gt74 hp => ?_)
        obtain ⟨v76, rfl, rfl, w77, F78, f75⟩ := hp
        clear gt74
        have rp79 : RP σ72 a (kp - 4 * v36 - 10 * v59 + 4) := RP.frc rp63 F78 (by decide) (by decide) (by decide) (by decide) (by decide)
        show Tn _ _ 78 T55 σ72 [(2, .int (iI v48)), (0, .ref a), (1, .int (iI dp))] [.int (iI v76)] _
        refine tn_istore_n (L' := [(3, .int (iI v76)), (2, .int (iI v48)), (0, .ref a), (1, .int (iI dp))]) dX5_choice_78 rfl (by decide) rfl ?_
        refine tn_aload_n dX5_choice_79 rfl 2 rfl ?_
        obtain ⟨x80, hx81, hk82⟩ : ∃ x : Nat, σ54.2.1 35 a = (x : Int) ∧ (T55 x).1 = 31 := wf_35 w60 ha
        have hk82o : OB T55 x80 1 := ⟨by omega, by rw [hk82]; rfl, by omega⟩
        refine tn_getR (ci := 5) (i := 2) (n := 35) (x := x80) dX5_choice_80 rfl lay_5 (by decide) fl5_47 ha rfl rfl (rc_F F78 (Or.inl (by decide)) (by decide) (hx81)) ?_
        refine tn_bipush dX5_choice_83 (by decide) ?_
        refine tn_iload_n dX5_choice_85 rfl 0 rfl ?_
        refine tn_iconst dX5_choice_86 ?_
        have q88 : σ72.2.1 6 x80 = σ54.2.1 6 x80 := rc_F F78 (Or.inl (by decide)) (by decide) (rfl)
        refine tn_callV (M := m_X5_choice) (pc := 87) (ix := 139) (ci := 1) (M' := m_X1_append) (As := [.int (iI 8), .int (iI v76), .int (iI 0)]) (rest := []) dX5_choice_87 ok_X1_append im_X1_append se_X1_append ml5_139 np_X1_append rfl rfl hk82o rfl (Nat.le_of_ble_eq_true rfl) (Nat.le_of_ble_eq_true rfl) rfl (k_X1_append (d + 3 * lv + 57) (T := T55) (σ := σ72) (a := x80) (k := 8) (x := v76) (y := 0) hk82o hk82 (by decide) (by omega) (by decide) w77 (RP.cnt rp79 w77 ha (rc_F F78 (Or.inl (by decide)) (by decide) (hx81)) (by omega)) (by omega)) (fun r84 T86 σ85 gt87 hp => ?_)
        obtain ⟨rfl, w91, F92, f89⟩ := hp
        replace ha : OB T86 a 5 := gt87.ob ha
        have rp93 : RP σ85 a (kp - 4 * v36 - 10 * v59 + 4 + 1) := RP.app rp79 (rc_F F78 (Or.inl (by decide)) (by decide) (hx81)) F92 (by decide) (by decide) (by decide) (by decide) f89
        have rp94 : RP σ85 a (kp - 4 * v36 - 10 * v59 + 5) := RP.up rp93 (by omega)
        show Tn _ _ 90 T86 σ85 [(3, .int (iI v76)), (2, .int (iI v48)), (0, .ref a), (1, .int (iI dp))] [] _
        refine tn_aload_n dX5_choice_90 rfl 2 rfl ?_
        obtain ⟨x95, hx96, hk97⟩ : ∃ x : Nat, σ85.2.1 35 a = (x : Int) ∧ (T86 x).1 = 31 := wf_35 w91 ha
        have hk97o : OB T86 x95 1 := ⟨by omega, by rw [hk97]; rfl, by omega⟩
        refine tn_getR (ci := 5) (i := 2) (n := 35) (x := x95) dX5_choice_91 rfl lay_5 (by decide) fl5_47 ha rfl rfl (hx96) ?_
        refine tn_bipush dX5_choice_94 (by decide) ?_
        refine tn_iload_n dX5_choice_96 rfl 1 rfl ?_
        refine tn_iconst dX5_choice_97 ?_
        refine tn_callV (M := m_X5_choice) (pc := 98) (ix := 139) (ci := 1) (M' := m_X1_append) (As := [.int (iI 13), .int (iI v48), .int (iI 0)]) (rest := []) dX5_choice_98 ok_X1_append im_X1_append se_X1_append ml5_139 np_X1_append rfl rfl hk97o rfl (Nat.le_of_ble_eq_true rfl) (Nat.le_of_ble_eq_true rfl) rfl (k_X1_append (d + 3 * lv + 57) (T := T86) (σ := σ85) (a := x95) (k := 13) (x := v48) (y := 0) hk97o hk97 (by decide) (by omega) (by decide) w91 (RP.cnt rp94 w91 ha (hx96) (by omega)) (by omega)) (fun r99 T101 σ100 gt102 hp => ?_)
        obtain ⟨rfl, w105, F106, f103⟩ := hp
        replace ha : OB T101 a 5 := gt102.ob ha
        have rp107 : RP σ100 a (kp - 4 * v36 - 10 * v59 + 5 + 1) := RP.app rp94 (hx96) F106 (by decide) (by decide) (by decide) (by decide) f103
        have rp108 : RP σ100 a (kp - 4 * v36 - 10 * v59 + 6) := RP.up rp107 (by omega)
        show Tn _ _ 101 T101 σ100 [(3, .int (iI v76)), (2, .int (iI v48)), (0, .ref a), (1, .int (iI dp))] [] _
        refine tn_aload_n dX5_choice_101 rfl 2 rfl ?_
        obtain ⟨x109, hx110, hk111⟩ : ∃ x : Nat, σ100.2.1 33 a = (x : Int) ∧ (T101 x).1 = 39 := wf_33 w105 ha
        have hk111o : OB T101 x109 9 := ⟨by omega, by rw [hk111]; rfl, by omega⟩
        refine tn_getR (ci := 5) (i := 0) (n := 33) (x := x109) dX5_choice_102 rfl lay_5 (by decide) fl5_12 ha rfl rfl (hx110) ?_
        refine tn_callV (M := m_X5_choice) (pc := 105) (ix := 93) (ci := 9) (M' := m_X9_next) (As := []) (rest := []) dX5_choice_105 ok_X9_next im_X9_next se_X9_next ml5_93 np_X9_next rfl rfl hk111o rfl (Nat.le_of_ble_eq_true rfl) (Nat.le_of_ble_eq_true rfl) rfl (k_X9_next (d + 3 * lv + 59) (T := T101) (σ := σ100) (a := x109) hk111o w105 (RP.tk rp108 w105 ha (hx110))) (fun r113 T115 σ114 gt116 hp => ?_)
        obtain ⟨rfl, rfl, w121, F122, f117, f118, f119⟩ := hp
        clear gt116
        have rp123 : RP σ114 a (kp - 4 * v36 - 10 * v59 + 6) := RP.next rp108 (hx110) F122 (by decide) (by decide) (by decide) f117 f118
        show Tn _ _ 108 T101 σ114 [(3, .int (iI v76)), (2, .int (iI v48)), (0, .ref a), (1, .int (iI dp))] [] _
        refine tn_aload_n dX5_choice_108 rfl 2 rfl ?_
        refine tn_iload_n dX5_choice_109 rfl 3 rfl ?_
        refine tn_iconst dX5_choice_110 ?_
        refine tn_iadd dX5_choice_111 ?_
        refine tn_callV (M := m_X5_choice) (pc := 112) (ix := 79) (ci := 5) (M' := m_X5_block) (As := [.int (iI (dp + 1))]) (rest := []) dX5_choice_112 ok_X5_block im_X5_block se_X5_block ml5_79 np_X5_block rfl rfl ha rfl (Nat.le_of_ble_eq_true rfl) (Nat.le_of_ble_eq_true rfl) rfl (hex (d) (T := T101) (σ := σ114) (a := a) (dp := dp + 1) (kp := kp - 4 * v36 - 10 * v59 + 6) ha (by omega) w121 (by omega) (by omega) (by omega) rp123) (fun r124 T126 σ125 gt127 hp => ?_)
        obtain ⟨v130, rfl, w131, F132, f128, f129⟩ := hp
        replace ha : OB T126 a 5 := gt127.ob ha
        have rp134 : RP σ125 a (kp - 4 * v36 - 10 * v59 - 10 * v130 + 8) := RP.up f129 (by omega)
        show Tn _ _ 115 T126 σ125 [(3, .int (iI v76)), (2, .int (iI v48)), (0, .ref a), (1, .int (iI dp))] [.int (iI v130)] _
        refine tn_if_ne (tgt := 120) dX5_choice_115 (by decide) ⟨by omega, by omega⟩ (fun h135 => ?_) (fun h135 => ?_)
        · refine tn_aload_n dX5_choice_120 rfl 2 rfl ?_
          obtain ⟨x136, hx137, hk138⟩ : ∃ x : Nat, σ125.2.1 35 a = (x : Int) ∧ (T126 x).1 = 31 := wf_35 w131 ha
          have hk138o : OB T126 x136 1 := ⟨by omega, by rw [hk138]; rfl, by omega⟩
          refine tn_getR (ci := 5) (i := 2) (n := 35) (x := x136) dX5_choice_121 rfl lay_5 (by decide) fl5_47 ha rfl rfl (hx137) ?_
          refine tn_bipush dX5_choice_124 (by decide) ?_
          refine tn_iload_n dX5_choice_126 rfl 0 rfl ?_
          refine tn_iconst dX5_choice_127 ?_
          refine tn_callV (M := m_X5_choice) (pc := 128) (ix := 139) (ci := 1) (M' := m_X1_append) (As := [.int (iI 13), .int (iI v76), .int (iI 0)]) (rest := []) dX5_choice_128 ok_X1_append im_X1_append se_X1_append ml5_139 np_X1_append rfl rfl hk138o rfl (Nat.le_of_ble_eq_true rfl) (Nat.le_of_ble_eq_true rfl) rfl (k_X1_append (d + 3 * lv + 57) (T := T126) (σ := σ125) (a := x136) (k := 13) (x := v76) (y := 0) hk138o hk138 (by decide) (by omega) (by decide) w131 (RP.cnt rp134 w131 ha (hx137) (by omega)) (by omega)) (fun r140 T142 σ141 gt143 hp => ?_)
          obtain ⟨rfl, w146, F147, f144⟩ := hp
          replace ha : OB T142 a 5 := gt143.ob ha
          have rp148 : RP σ141 a (kp - 4 * v36 - 10 * v59 - 10 * v130 + 8 + 1) := RP.app rp134 (hx137) F147 (by decide) (by decide) (by decide) (by decide) f144
          have rp149 : RP σ141 a (kp - 4 * v36 - 10 * v59 - 10 * v130 + 9) := RP.up rp148 (by omega)
          show Tn _ _ 131 T142 σ141 [(3, .int (iI v76)), (2, .int (iI v48)), (0, .ref a), (1, .int (iI dp))] [] _
          refine tn_iconst dX5_choice_131 ?_
          exact tn_zret (v := 1) rfl (by decide) dX5_choice_132 ⟨_, rfl, w146, (((((((((((FrC.rfl.trans (FrC.sub F13 (by decide))).trans (FrC.sub (FrC.old F28 gt9) (by decide))).trans (FrC.sub (FrC.old F38 gt9) (by decide))).trans (FrC.sub (FrC.old F50 (GT.trans gt9 gt33)) (by decide))).trans (FrC.sub (FrC.old F61 (GT.trans (GT.trans gt9 gt33) gt45)) (by decide))).trans (FrC.sub (FrC.old F78 (GT.trans (GT.trans (GT.trans gt9 gt33) gt45) gt56)) (by decide))).trans (FrC.sub (FrC.old F92 (GT.trans (GT.trans (GT.trans gt9 gt33) gt45) gt56)) (by decide))).trans (FrC.sub (FrC.old F106 (GT.trans (GT.trans (GT.trans (GT.trans gt9 gt33) gt45) gt56) gt87)) (by decide))).trans (FrC.sub (FrC.old F122 (GT.trans (GT.trans (GT.trans (GT.trans (GT.trans gt9 gt33) gt45) gt56) gt87) gt102)) (by decide))).trans (FrC.sub (FrC.old F132 (GT.trans (GT.trans (GT.trans (GT.trans (GT.trans gt9 gt33) gt45) gt56) gt87) gt102)) (by decide))).trans (FrC.sub (FrC.old F147 (GT.trans (GT.trans (GT.trans (GT.trans (GT.trans (GT.trans gt9 gt33) gt45) gt56) gt87) gt102) gt127)) (by decide))), by omega, (RP.up rp149 (by omega))⟩
        · refine tn_iconst dX5_choice_118 ?_
          exact tn_zret (v := 0) rfl (by decide) dX5_choice_119 ⟨_, rfl, w131, ((((((((((FrC.rfl.trans (FrC.sub F13 (by decide))).trans (FrC.sub (FrC.old F28 gt9) (by decide))).trans (FrC.sub (FrC.old F38 gt9) (by decide))).trans (FrC.sub (FrC.old F50 (GT.trans gt9 gt33)) (by decide))).trans (FrC.sub (FrC.old F61 (GT.trans (GT.trans gt9 gt33) gt45)) (by decide))).trans (FrC.sub (FrC.old F78 (GT.trans (GT.trans (GT.trans gt9 gt33) gt45) gt56)) (by decide))).trans (FrC.sub (FrC.old F92 (GT.trans (GT.trans (GT.trans gt9 gt33) gt45) gt56)) (by decide))).trans (FrC.sub (FrC.old F106 (GT.trans (GT.trans (GT.trans (GT.trans gt9 gt33) gt45) gt56) gt87)) (by decide))).trans (FrC.sub (FrC.old F122 (GT.trans (GT.trans (GT.trans (GT.trans (GT.trans gt9 gt33) gt45) gt56) gt87) gt102)) (by decide))).trans (FrC.sub (FrC.old F132 (GT.trans (GT.trans (GT.trans (GT.trans (GT.trans gt9 gt33) gt45) gt56) gt87) gt102)) (by decide))), by omega, (RP.up rp134 (by omega))⟩
      · refine tn_aload_n dX5_choice_61 rfl 1 rfl ?_
        obtain ⟨x150, hx151, hk152⟩ : ∃ x : Nat, σ54.2.1 35 a = (x : Int) ∧ (T55 x).1 = 31 := wf_35 w60 ha
        have hk152o : OB T55 x150 1 := ⟨by omega, by rw [hk152]; rfl, by omega⟩
        refine tn_getR (ci := 5) (i := 2) (n := 35) (x := x150) dX5_choice_62 rfl lay_5 (by decide) fl5_47 ha rfl rfl (hx151) ?_
        refine tn_bipush dX5_choice_65 (by decide) ?_
        refine tn_iload_n dX5_choice_67 rfl 0 rfl ?_
        refine tn_iconst dX5_choice_68 ?_
        refine tn_callV (M := m_X5_choice) (pc := 69) (ix := 139) (ci := 1) (M' := m_X1_append) (As := [.int (iI 13), .int (iI v48), .int (iI 0)]) (rest := []) dX5_choice_69 ok_X1_append im_X1_append se_X1_append ml5_139 np_X1_append rfl rfl hk152o rfl (Nat.le_of_ble_eq_true rfl) (Nat.le_of_ble_eq_true rfl) rfl (k_X1_append (d + 3 * lv + 57) (T := T55) (σ := σ54) (a := x150) (k := 13) (x := v48) (y := 0) hk152o hk152 (by decide) (by omega) (by decide) w60 (RP.cnt rp63 w60 ha (hx151) (by omega)) (by omega)) (fun r154 T156 σ155 gt157 hp => ?_)
        obtain ⟨rfl, w160, F161, f158⟩ := hp
        replace ha : OB T156 a 5 := gt157.ob ha
        have rp162 : RP σ155 a (kp - 4 * v36 - 10 * v59 + 4 + 1) := RP.app rp63 (hx151) F161 (by decide) (by decide) (by decide) (by decide) f158
        have rp163 : RP σ155 a (kp - 4 * v36 - 10 * v59 + 5) := RP.up rp162 (by omega)
        show Tn _ _ 72 T156 σ155 [(2, .int (iI v48)), (0, .ref a), (1, .int (iI dp))] [] _
        refine tn_iconst dX5_choice_72 ?_
        exact tn_zret (v := 1) rfl (by decide) dX5_choice_73 ⟨_, rfl, w160, ((((((FrC.rfl.trans (FrC.sub F13 (by decide))).trans (FrC.sub (FrC.old F28 gt9) (by decide))).trans (FrC.sub (FrC.old F38 gt9) (by decide))).trans (FrC.sub (FrC.old F50 (GT.trans gt9 gt33)) (by decide))).trans (FrC.sub (FrC.old F61 (GT.trans (GT.trans gt9 gt33) gt45)) (by decide))).trans (FrC.sub (FrC.old F161 (GT.trans (GT.trans (GT.trans gt9 gt33) gt45) gt56)) (by decide))), by omega, (RP.up rp163 (by omega))⟩
    · refine tn_iconst dX5_choice_46 ?_
      exact tn_zret (v := 0) rfl (by decide) dX5_choice_47 ⟨_, rfl, w60, (((((FrC.rfl.trans (FrC.sub F13 (by decide))).trans (FrC.sub (FrC.old F28 gt9) (by decide))).trans (FrC.sub (FrC.old F38 gt9) (by decide))).trans (FrC.sub (FrC.old F50 (GT.trans gt9 gt33)) (by decide))).trans (FrC.sub (FrC.old F61 (GT.trans (GT.trans gt9 gt33) gt45)) (by decide))), by omega, (RP.up rp63 (by omega))⟩
  · refine tn_iconst dX5_choice_29 ?_
    exact tn_zret (v := 0) rfl (by decide) dX5_choice_30 ⟨_, rfl, w37, (((FrC.rfl.trans (FrC.sub F13 (by decide))).trans (FrC.sub (FrC.old F28 gt9) (by decide))).trans (FrC.sub (FrC.old F38 gt9) (by decide))), by omega, (RP.up rp40 (by omega))⟩
