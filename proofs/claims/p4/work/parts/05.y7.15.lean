theorem cd_X6_foldAct : Cond.code yX6_foldAct cX6_foldAct 4 (some .boolean) ∈ pWW := pw4 (List.mem_of_getElem? (i := 205) rfl) rfl
abbrev m_X6_foldAct : MT := (yX6_foldAct, cX6_foldAct, 4, (some .boolean))
theorem ok_X6_foldAct : pOk m_X6_foldAct := ⟨⟨cd_X6_foldAct, ini_6⟩, by decide +kernel, ⟨by decide +kernel, by decide +kernel⟩, Nat.le_of_ble_eq_true rfl⟩
theorem np_X6_foldAct : (parseMethodDescriptor yX6_foldAct.desc).map (fun d => d.parameters.length) = some 2 := by decide +kernel
theorem im_X6_foldAct : Cond.instanceMethod yX6_foldAct ∈ pWW := pw4 (List.mem_of_getElem? (i := 204) rfl) rfl
theorem se_X6_foldAct : Cond.selects RX6 yX6_foldAct yX6_foldAct ∈ pWW := pws (List.mem_map.mpr ⟨_, lw_pin 47 rfl, rfl⟩) rfl
theorem nl6_74 : (RX6, 74, yX11_isFive, "LineKeeper") ∈ nst_M := List.mem_of_getElem? (i := 18) rfl
theorem nl6_77 : (RX6, 77, yX11_reckon, "LineKeeper") ∈ nst_M := List.mem_of_getElem? (i := 19) rfl
theorem ml6_81 : Cond.methodLink RX6 81 yX1_becomeCopy ∈ pWW := pw4 (List.mem_of_getElem? (i := 212) rfl) rfl
theorem dX6_foldAct_0 : decode cX6_foldAct 0 = .ok (.aload_n 1, 1) := by decide +kernel
theorem dX6_foldAct_1 : decode cX6_foldAct 1 = .ok (.iload_n 2, 1) := by decide +kernel
theorem dX6_foldAct_2 : decode cX6_foldAct 2 = .ok (.iconst 0, 1) := by decide +kernel
theorem dX6_foldAct_3 : decode cX6_foldAct 3 = .ok (.invokevirtual 34, 3) := by decide +kernel
theorem dX6_foldAct_6 : decode cX6_foldAct 6 = .ok (.istore_n 3, 1) := by decide +kernel
theorem dX6_foldAct_7 : decode cX6_foldAct 7 = .ok (.aload_n 1, 1) := by decide +kernel
theorem dX6_foldAct_8 : decode cX6_foldAct 8 = .ok (.iload_n 2, 1) := by decide +kernel
theorem dX6_foldAct_9 : decode cX6_foldAct 9 = .ok (.iconst 3, 1) := by decide +kernel
theorem dX6_foldAct_10 : decode cX6_foldAct 10 = .ok (.invokevirtual 34, 3) := by decide +kernel
theorem dX6_foldAct_13 : decode cX6_foldAct 13 = .ok (.iconst 1, 1) := by decide +kernel
theorem dX6_foldAct_14 : decode cX6_foldAct 14 = .ok (.if_icmp .eq 5, 3) := by decide +kernel
theorem dX6_foldAct_19 : decode cX6_foldAct 19 = .ok (.iload_n 3, 1) := by decide +kernel
theorem dX6_foldAct_20 : decode cX6_foldAct 20 = .ok (.invokestatic 74, 3) := by decide +kernel
theorem dX6_foldAct_23 : decode cX6_foldAct 23 = .ok (.ifCond .eq 38, 3) := by decide +kernel
theorem dX6_foldAct_61 : decode cX6_foldAct 61 = .ok (.iload_n 3, 1) := by decide +kernel
theorem dX6_foldAct_62 : decode cX6_foldAct 62 = .ok (.bipush 9, 2) := by decide +kernel
theorem dX6_foldAct_64 : decode cX6_foldAct 64 = .ok (.if_icmp .ne 29, 3) := by decide +kernel
theorem dX6_foldAct_93 : decode cX6_foldAct 93 = .ok (.iload_n 3, 1) := by decide +kernel
theorem dX6_foldAct_94 : decode cX6_foldAct 94 = .ok (.bipush 9, 2) := by decide +kernel
theorem dX6_foldAct_96 : decode cX6_foldAct 96 = .ok (.if_icmp .ne 7, 3) := by decide +kernel
theorem dX6_foldAct_103 : decode cX6_foldAct 103 = .ok (.iconst 0, 1) := by decide +kernel
theorem dX6_foldAct_104 : decode cX6_foldAct 104 = .ok (.ireturn, 1) := by decide +kernel
theorem dX6_foldAct_67 : decode cX6_foldAct 67 = .ok (.aload_n 1, 1) := by decide +kernel
theorem dX6_foldAct_68 : decode cX6_foldAct 68 = .ok (.iload_n 2, 1) := by decide +kernel
theorem dX6_foldAct_69 : decode cX6_foldAct 69 = .ok (.iconst 4, 1) := by decide +kernel
theorem dX6_foldAct_70 : decode cX6_foldAct 70 = .ok (.invokevirtual 34, 3) := by decide +kernel
theorem dX6_foldAct_73 : decode cX6_foldAct 73 = .ok (.ifCond .ne 20, 3) := by decide +kernel
theorem dX6_foldAct_99 : decode cX6_foldAct 99 = .ok (.iconst 1, 1) := by decide +kernel
theorem dX6_foldAct_100 : decode cX6_foldAct 100 = .ok (.goto 4, 3) := by decide +kernel
theorem dX6_foldAct_76 : decode cX6_foldAct 76 = .ok (.aload_n 1, 1) := by decide +kernel
theorem dX6_foldAct_77 : decode cX6_foldAct 77 = .ok (.iload_n 2, 1) := by decide +kernel
theorem dX6_foldAct_78 : decode cX6_foldAct 78 = .ok (.iconst 0, 1) := by decide +kernel
theorem dX6_foldAct_79 : decode cX6_foldAct 79 = .ok (.bipush 8, 2) := by decide +kernel
theorem dX6_foldAct_81 : decode cX6_foldAct 81 = .ok (.invokevirtual 71, 3) := by decide +kernel
theorem dX6_foldAct_84 : decode cX6_foldAct 84 = .ok (.aload_n 1, 1) := by decide +kernel
theorem dX6_foldAct_85 : decode cX6_foldAct 85 = .ok (.iload_n 2, 1) := by decide +kernel
theorem dX6_foldAct_86 : decode cX6_foldAct 86 = .ok (.iconst 3, 1) := by decide +kernel
theorem dX6_foldAct_87 : decode cX6_foldAct 87 = .ok (.iconst 0, 1) := by decide +kernel
theorem dX6_foldAct_88 : decode cX6_foldAct 88 = .ok (.invokevirtual 71, 3) := by decide +kernel
theorem dX6_foldAct_91 : decode cX6_foldAct 91 = .ok (.iconst 1, 1) := by decide +kernel
theorem dX6_foldAct_92 : decode cX6_foldAct 92 = .ok (.ireturn, 1) := by decide +kernel
theorem dX6_foldAct_26 : decode cX6_foldAct 26 = .ok (.aload_n 1, 1) := by decide +kernel
theorem dX6_foldAct_27 : decode cX6_foldAct 27 = .ok (.iload_n 2, 1) := by decide +kernel
theorem dX6_foldAct_28 : decode cX6_foldAct 28 = .ok (.iconst 5, 1) := by decide +kernel
theorem dX6_foldAct_29 : decode cX6_foldAct 29 = .ok (.invokevirtual 34, 3) := by decide +kernel
theorem dX6_foldAct_32 : decode cX6_foldAct 32 = .ok (.iconst 1, 1) := by decide +kernel
theorem dX6_foldAct_33 : decode cX6_foldAct 33 = .ok (.if_icmp .ne 28, 3) := by decide +kernel
theorem dX6_foldAct_36 : decode cX6_foldAct 36 = .ok (.aload_n 1, 1) := by decide +kernel
theorem dX6_foldAct_37 : decode cX6_foldAct 37 = .ok (.iload_n 2, 1) := by decide +kernel
theorem dX6_foldAct_38 : decode cX6_foldAct 38 = .ok (.iconst 1, 1) := by decide +kernel
theorem dX6_foldAct_39 : decode cX6_foldAct 39 = .ok (.iload_n 3, 1) := by decide +kernel
theorem dX6_foldAct_40 : decode cX6_foldAct 40 = .ok (.aload_n 1, 1) := by decide +kernel
theorem dX6_foldAct_41 : decode cX6_foldAct 41 = .ok (.iload_n 2, 1) := by decide +kernel
theorem dX6_foldAct_42 : decode cX6_foldAct 42 = .ok (.iconst 4, 1) := by decide +kernel
theorem dX6_foldAct_43 : decode cX6_foldAct 43 = .ok (.invokevirtual 34, 3) := by decide +kernel
theorem dX6_foldAct_46 : decode cX6_foldAct 46 = .ok (.aload_n 1, 1) := by decide +kernel
theorem dX6_foldAct_47 : decode cX6_foldAct 47 = .ok (.iload_n 2, 1) := by decide +kernel
theorem dX6_foldAct_48 : decode cX6_foldAct 48 = .ok (.bipush 6, 2) := by decide +kernel
theorem dX6_foldAct_50 : decode cX6_foldAct 50 = .ok (.invokevirtual 34, 3) := by decide +kernel
theorem dX6_foldAct_53 : decode cX6_foldAct 53 = .ok (.invokestatic 77, 3) := by decide +kernel
theorem dX6_foldAct_56 : decode cX6_foldAct 56 = .ok (.invokevirtual 81, 3) := by decide +kernel
theorem dX6_foldAct_59 : decode cX6_foldAct 59 = .ok (.iconst 1, 1) := by decide +kernel
theorem dX6_foldAct_60 : decode cX6_foldAct 60 = .ok (.ireturn, 1) := by decide +kernel
theorem dX6_foldAct_17 : decode cX6_foldAct 17 = .ok (.iconst 0, 1) := by decide +kernel
theorem dX6_foldAct_18 : decode cX6_foldAct 18 = .ok (.ireturn, 1) := by decide +kernel
set_option maxRecDepth 20000 in
theorem k_X6_foldAct (d : Nat) {T : CT} {σ : MS} {a : Nat} {p1 : Nat} {p2 : Int} (ha : OB T a 6) (h_p1 : OB T p1 1) (t_p1 : (T p1).1 = 50) (h_p2 : -2147483648 ≤ p2 ∧ p2 ≤ 2147483647) (hw : WT T σ) : Tn (d + 3) m_X6_foldAct 0 T σ [(0, .ref a), (1, .ref p1), (2, .int (iI p2))] [] (fun ro T2 σ2 => ∃ v : Int, ro = some (.int (iI v)) ∧ T = T2 ∧ WT T2 σ2 ∧ FrC T [] σ σ2 ∧ (v = 0 ∨ v = 1)) := by
  refine tn_aload_n dX6_foldAct_0 rfl 1 rfl ?_
  refine tn_iload_n dX6_foldAct_1 rfl 2 rfl ?_
  refine tn_iconst dX6_foldAct_2 ?_
  refine tn_callV (M := m_X6_foldAct) (pc := 3) (ix := 34) (ci := 1) (M' := m_X1_get) (As := [.int (iI p2), .int (iI 0)]) (rest := []) dX6_foldAct_3 ok_X1_get im_X1_get se_X1_get ml6_34 np_X1_get rfl rfl h_p1 rfl (Nat.le_of_ble_eq_true rfl) (Nat.le_of_ble_eq_true rfl) rfl (k_X1_get (d + 1) (T := T) (σ := σ) (a := p1) (k := p2) (c := 0) h_p1 (by omega) (by decide) hw (by omega)) (fun r1 T3 σ2 gt4 hp => ?_)
  obtain ⟨v6, rfl, rfl, rfl, f5⟩ := hp
  clear gt4
  show Tn _ _ 6 T σ [(0, .ref a), (1, .ref p1), (2, .int (iI p2))] [.int (iI v6)] _
  refine tn_istore_n (L' := [(3, .int (iI v6)), (0, .ref a), (1, .ref p1), (2, .int (iI p2))]) dX6_foldAct_6 rfl (by decide) rfl ?_
  refine tn_aload_n dX6_foldAct_7 rfl 2 rfl ?_
  refine tn_iload_n dX6_foldAct_8 rfl 3 rfl ?_
  refine tn_iconst dX6_foldAct_9 ?_
  refine tn_callV (M := m_X6_foldAct) (pc := 10) (ix := 34) (ci := 1) (M' := m_X1_get) (As := [.int (iI p2), .int (iI 3)]) (rest := []) dX6_foldAct_10 ok_X1_get im_X1_get se_X1_get ml6_34 np_X1_get rfl rfl h_p1 rfl (Nat.le_of_ble_eq_true rfl) (Nat.le_of_ble_eq_true rfl) rfl (k_X1_get (d + 1) (T := T) (σ := σ) (a := p1) (k := p2) (c := 3) h_p1 (by omega) (by decide) hw (by omega)) (fun r7 T9 σ8 gt10 hp => ?_)
  obtain ⟨v12, rfl, rfl, rfl, f11⟩ := hp
  clear gt10
  show Tn _ _ 13 T σ [(3, .int (iI v6)), (0, .ref a), (1, .ref p1), (2, .int (iI p2))] [.int (iI v12)] _
  refine tn_iconst dX6_foldAct_13 ?_
  refine tn_icmp_eq (tgt := 19) dX6_foldAct_14 (by decide) ⟨by omega, by omega⟩ ⟨by decide, by decide⟩ (fun h13 => ?_) (fun h13 => ?_)
  · refine tn_iload_n dX6_foldAct_19 rfl 0 rfl ?_
    refine tn_callSN (M := m_X6_foldAct) (pc := 20) (ix := 74) (M' := m_X11_isFive) (As := [.int (iI v6)]) (rest := []) dX6_foldAct_20 ok_X11_isFive stt_X11_isFive nl6_74 np_X11_isFive rfl (Nat.le_of_ble_eq_true rfl) (Nat.le_of_ble_eq_true rfl) rfl (k_X11_isFive (d + 1) (T := T) (σ := σ) (k := v6) (by omega) hw ) (fun r14 T16 σ15 gt17 hp => ?_)
    obtain ⟨v19, rfl, rfl, rfl, f18⟩ := hp
    clear gt17
    show Tn _ _ 23 T σ [(3, .int (iI v6)), (0, .ref a), (1, .ref p1), (2, .int (iI p2))] [.int (iI v19)] _
    refine tn_if_eq (tgt := 61) dX6_foldAct_23 (by decide) ⟨by omega, by omega⟩ (fun h20 => ?_) (fun h20 => ?_)
    · refine tn_iload_n dX6_foldAct_61 rfl 0 rfl ?_
      refine tn_bipush dX6_foldAct_62 (by decide) ?_
      refine tn_icmp_ne (tgt := 93) dX6_foldAct_64 (by decide) ⟨by omega, by omega⟩ ⟨by decide, by decide⟩ (fun h21 => ?_) (fun h21 => ?_)
      · refine tn_iload_n dX6_foldAct_93 rfl 0 rfl ?_
        refine tn_bipush dX6_foldAct_94 (by decide) ?_
        refine tn_icmp_ne (tgt := 103) dX6_foldAct_96 (by decide) ⟨by omega, by omega⟩ ⟨by decide, by decide⟩ (fun h22 => ?_) (fun h22 => absurd h22 (by omega))
        refine tn_iconst dX6_foldAct_103 ?_
        exact tn_zret (v := 0) rfl (by decide) dX6_foldAct_104 ⟨_, rfl, rfl, hw, FrC.rfl, by omega⟩
      · refine tn_aload_n dX6_foldAct_67 rfl 2 rfl ?_
        refine tn_iload_n dX6_foldAct_68 rfl 3 rfl ?_
        refine tn_iconst dX6_foldAct_69 ?_
        refine tn_callV (M := m_X6_foldAct) (pc := 70) (ix := 34) (ci := 1) (M' := m_X1_get) (As := [.int (iI p2), .int (iI 4)]) (rest := []) dX6_foldAct_70 ok_X1_get im_X1_get se_X1_get ml6_34 np_X1_get rfl rfl h_p1 rfl (Nat.le_of_ble_eq_true rfl) (Nat.le_of_ble_eq_true rfl) rfl (k_X1_get (d + 1) (T := T) (σ := σ) (a := p1) (k := p2) (c := 4) h_p1 (by omega) (by decide) hw (by omega)) (fun r23 T25 σ24 gt26 hp => ?_)
        obtain ⟨v28, rfl, rfl, rfl, f27⟩ := hp
        clear gt26
        show Tn _ _ 73 T σ [(3, .int (iI v6)), (0, .ref a), (1, .ref p1), (2, .int (iI p2))] [.int (iI v28)] _
        refine tn_if_ne (tgt := 93) dX6_foldAct_73 (by decide) ⟨by omega, by omega⟩ (fun h29 => ?_) (fun h29 => ?_)
        · refine tn_iload_n dX6_foldAct_93 rfl 0 rfl ?_
          refine tn_bipush dX6_foldAct_94 (by decide) ?_
          refine tn_icmp_ne (tgt := 103) dX6_foldAct_96 (by decide) ⟨by omega, by omega⟩ ⟨by decide, by decide⟩ (fun h30 => absurd h30 (by omega)) (fun h30 => ?_)
          refine tn_iconst dX6_foldAct_99 ?_
          refine tn_goto (tgt := 104) dX6_foldAct_100 (by decide) ?_
          exact tn_zret (v := 1) rfl (by decide) dX6_foldAct_104 ⟨_, rfl, rfl, hw, FrC.rfl, by omega⟩
        · refine tn_aload_n dX6_foldAct_76 rfl 2 rfl ?_
          refine tn_iload_n dX6_foldAct_77 rfl 3 rfl ?_
          refine tn_iconst dX6_foldAct_78 ?_
          refine tn_bipush dX6_foldAct_79 (by decide) ?_
          refine tn_callV (M := m_X6_foldAct) (pc := 81) (ix := 71) (ci := 1) (M' := m_X1_set) (As := [.int (iI p2), .int (iI 0), .int (iI 8)]) (rest := []) dX6_foldAct_81 ok_X1_set im_X1_set se_X1_set ml6_71 np_X1_set rfl rfl h_p1 rfl (Nat.le_of_ble_eq_true rfl) (Nat.le_of_ble_eq_true rfl) rfl (k_X1_set (d + 1) (T := T) (σ := σ) (a := p1) (k := p2) (c := 0) (y := 8) h_p1 (by omega) (by decide) (by decide) hw (by omega) (by omega)) (fun r31 T33 σ32 gt34 hp => ?_)
          obtain ⟨rfl, rfl, w36, F37⟩ := hp
          clear gt34
          show Tn _ _ 84 T σ32 [(3, .int (iI v6)), (0, .ref a), (1, .ref p1), (2, .int (iI p2))] [] _
          refine tn_aload_n dX6_foldAct_84 rfl 2 rfl ?_
          refine tn_iload_n dX6_foldAct_85 rfl 3 rfl ?_
          refine tn_iconst dX6_foldAct_86 ?_
          refine tn_iconst dX6_foldAct_87 ?_
          refine tn_callV (M := m_X6_foldAct) (pc := 88) (ix := 71) (ci := 1) (M' := m_X1_set) (As := [.int (iI p2), .int (iI 3), .int (iI 0)]) (rest := []) dX6_foldAct_88 ok_X1_set im_X1_set se_X1_set ml6_71 np_X1_set rfl rfl h_p1 rfl (Nat.le_of_ble_eq_true rfl) (Nat.le_of_ble_eq_true rfl) rfl (k_X1_set (d + 1) (T := T) (σ := σ32) (a := p1) (k := p2) (c := 3) (y := 0) h_p1 (by omega) (by decide) (by decide) w36 (by omega) (by omega)) (fun r38 T40 σ39 gt41 hp => ?_)
          obtain ⟨rfl, rfl, w43, F44⟩ := hp
          clear gt41
          show Tn _ _ 91 T σ39 [(3, .int (iI v6)), (0, .ref a), (1, .ref p1), (2, .int (iI p2))] [] _
          refine tn_iconst dX6_foldAct_91 ?_
          exact tn_zret (v := 1) rfl (by decide) dX6_foldAct_92 ⟨_, rfl, rfl, w43, ((FrC.rfl.trans (FrC.sub F37 (by decide))).trans (FrC.sub F44 (by decide))), by omega⟩
    · refine tn_aload_n dX6_foldAct_26 rfl 2 rfl ?_
      refine tn_iload_n dX6_foldAct_27 rfl 3 rfl ?_
      refine tn_iconst dX6_foldAct_28 ?_
      refine tn_callV (M := m_X6_foldAct) (pc := 29) (ix := 34) (ci := 1) (M' := m_X1_get) (As := [.int (iI p2), .int (iI 5)]) (rest := []) dX6_foldAct_29 ok_X1_get im_X1_get se_X1_get ml6_34 np_X1_get rfl rfl h_p1 rfl (Nat.le_of_ble_eq_true rfl) (Nat.le_of_ble_eq_true rfl) rfl (k_X1_get (d + 1) (T := T) (σ := σ) (a := p1) (k := p2) (c := 5) h_p1 (by omega) (by decide) hw (by omega)) (fun r45 T47 σ46 gt48 hp => ?_)
      obtain ⟨v50, rfl, rfl, rfl, f49⟩ := hp
      clear gt48
      show Tn _ _ 32 T σ [(3, .int (iI v6)), (0, .ref a), (1, .ref p1), (2, .int (iI p2))] [.int (iI v50)] _
      refine tn_iconst dX6_foldAct_32 ?_
      refine tn_icmp_ne (tgt := 61) dX6_foldAct_33 (by decide) ⟨by omega, by omega⟩ ⟨by decide, by decide⟩ (fun h51 => ?_) (fun h51 => ?_)
      · refine tn_iload_n dX6_foldAct_61 rfl 0 rfl ?_
        refine tn_bipush dX6_foldAct_62 (by decide) ?_
        refine tn_icmp_ne (tgt := 93) dX6_foldAct_64 (by decide) ⟨by omega, by omega⟩ ⟨by decide, by decide⟩ (fun h52 => ?_) (fun h52 => ?_)
        · refine tn_iload_n dX6_foldAct_93 rfl 0 rfl ?_
          refine tn_bipush dX6_foldAct_94 (by decide) ?_
          refine tn_icmp_ne (tgt := 103) dX6_foldAct_96 (by decide) ⟨by omega, by omega⟩ ⟨by decide, by decide⟩ (fun h53 => ?_) (fun h53 => absurd h53 (by omega))
          refine tn_iconst dX6_foldAct_103 ?_
          exact tn_zret (v := 0) rfl (by decide) dX6_foldAct_104 ⟨_, rfl, rfl, hw, FrC.rfl, by omega⟩
        · refine tn_aload_n dX6_foldAct_67 rfl 2 rfl ?_
          refine tn_iload_n dX6_foldAct_68 rfl 3 rfl ?_
          refine tn_iconst dX6_foldAct_69 ?_
          refine tn_callV (M := m_X6_foldAct) (pc := 70) (ix := 34) (ci := 1) (M' := m_X1_get) (As := [.int (iI p2), .int (iI 4)]) (rest := []) dX6_foldAct_70 ok_X1_get im_X1_get se_X1_get ml6_34 np_X1_get rfl rfl h_p1 rfl (Nat.le_of_ble_eq_true rfl) (Nat.le_of_ble_eq_true rfl) rfl (k_X1_get (d + 1) (T := T) (σ := σ) (a := p1) (k := p2) (c := 4) h_p1 (by omega) (by decide) hw (by omega)) (fun r54 T56 σ55 gt57 hp => ?_)
          obtain ⟨v59, rfl, rfl, rfl, f58⟩ := hp
          clear gt57
          show Tn _ _ 73 T σ [(3, .int (iI v6)), (0, .ref a), (1, .ref p1), (2, .int (iI p2))] [.int (iI v59)] _
          refine tn_if_ne (tgt := 93) dX6_foldAct_73 (by decide) ⟨by omega, by omega⟩ (fun h60 => ?_) (fun h60 => ?_)
          · refine tn_iload_n dX6_foldAct_93 rfl 0 rfl ?_
            refine tn_bipush dX6_foldAct_94 (by decide) ?_
            refine tn_icmp_ne (tgt := 103) dX6_foldAct_96 (by decide) ⟨by omega, by omega⟩ ⟨by decide, by decide⟩ (fun h61 => absurd h61 (by omega)) (fun h61 => ?_)
            refine tn_iconst dX6_foldAct_99 ?_
            refine tn_goto (tgt := 104) dX6_foldAct_100 (by decide) ?_
            exact tn_zret (v := 1) rfl (by decide) dX6_foldAct_104 ⟨_, rfl, rfl, hw, FrC.rfl, by omega⟩
          · refine tn_aload_n dX6_foldAct_76 rfl 2 rfl ?_
            refine tn_iload_n dX6_foldAct_77 rfl 3 rfl ?_
            refine tn_iconst dX6_foldAct_78 ?_
            refine tn_bipush dX6_foldAct_79 (by decide) ?_
            refine tn_callV (M := m_X6_foldAct) (pc := 81) (ix := 71) (ci := 1) (M' := m_X1_set) (As := [.int (iI p2), .int (iI 0), .int (iI 8)]) (rest := []) dX6_foldAct_81 ok_X1_set im_X1_set se_X1_set ml6_71 np_X1_set rfl rfl h_p1 rfl (Nat.le_of_ble_eq_true rfl) (Nat.le_of_ble_eq_true rfl) rfl (k_X1_set (d + 1) (T := T) (σ := σ) (a := p1) (k := p2) (c := 0) (y := 8) h_p1 (by omega) (by decide) (by decide) hw (by omega) (by omega)) (fun r62 T64 σ63 gt65 hp => ?_)
            obtain ⟨rfl, rfl, w67, F68⟩ := hp
            clear gt65
            show Tn _ _ 84 T σ63 [(3, .int (iI v6)), (0, .ref a), (1, .ref p1), (2, .int (iI p2))] [] _
            refine tn_aload_n dX6_foldAct_84 rfl 2 rfl ?_
            refine tn_iload_n dX6_foldAct_85 rfl 3 rfl ?_
            refine tn_iconst dX6_foldAct_86 ?_
            refine tn_iconst dX6_foldAct_87 ?_
            refine tn_callV (M := m_X6_foldAct) (pc := 88) (ix := 71) (ci := 1) (M' := m_X1_set) (As := [.int (iI p2), .int (iI 3), .int (iI 0)]) (rest := []) dX6_foldAct_88 ok_X1_set im_X1_set se_X1_set ml6_71 np_X1_set rfl rfl h_p1 rfl (Nat.le_of_ble_eq_true rfl) (Nat.le_of_ble_eq_true rfl) rfl (k_X1_set (d + 1) (T := T) (σ := σ63) (a := p1) (k := p2) (c := 3) (y := 0) h_p1 (by omega) (by decide) (by decide) w67 (by omega) (by omega)) (fun r69 T71 σ70 gt72 hp => ?_)
            obtain ⟨rfl, rfl, w74, F75⟩ := hp
            clear gt72
            show Tn _ _ 91 T σ70 [(3, .int (iI v6)), (0, .ref a), (1, .ref p1), (2, .int (iI p2))] [] _
            refine tn_iconst dX6_foldAct_91 ?_
            exact tn_zret (v := 1) rfl (by decide) dX6_foldAct_92 ⟨_, rfl, rfl, w74, ((FrC.rfl.trans (FrC.sub F68 (by decide))).trans (FrC.sub F75 (by decide))), by omega⟩
      · refine tn_aload_n dX6_foldAct_36 rfl 2 rfl ?_
        refine tn_iload_n dX6_foldAct_37 rfl 3 rfl ?_
        refine tn_iconst dX6_foldAct_38 ?_
        refine tn_iload_n dX6_foldAct_39 rfl 0 rfl ?_
        refine tn_aload_n dX6_foldAct_40 rfl 2 rfl ?_
        refine tn_iload_n dX6_foldAct_41 rfl 3 rfl ?_
        refine tn_iconst dX6_foldAct_42 ?_
        refine tn_callV (M := m_X6_foldAct) (pc := 43) (ix := 34) (ci := 1) (M' := m_X1_get) (As := [.int (iI p2), .int (iI 4)]) (rest := [.int (iI v6), .int (iI 1), .int (iI p2), .ref p1]) dX6_foldAct_43 ok_X1_get im_X1_get se_X1_get ml6_34 np_X1_get rfl rfl h_p1 rfl (Nat.le_of_ble_eq_true rfl) (Nat.le_of_ble_eq_true rfl) rfl (k_X1_get (d + 1) (T := T) (σ := σ) (a := p1) (k := p2) (c := 4) h_p1 (by omega) (by decide) hw (by omega)) (fun r76 T78 σ77 gt79 hp => ?_)
        obtain ⟨v81, rfl, rfl, rfl, f80⟩ := hp
        clear gt79
        show Tn _ _ 46 T σ [(3, .int (iI v6)), (0, .ref a), (1, .ref p1), (2, .int (iI p2))] [.int (iI v81), .int (iI v6), .int (iI 1), .int (iI p2), .ref p1] _
        refine tn_aload_n dX6_foldAct_46 rfl 2 rfl ?_
        refine tn_iload_n dX6_foldAct_47 rfl 3 rfl ?_
        refine tn_bipush dX6_foldAct_48 (by decide) ?_
        refine tn_callV (M := m_X6_foldAct) (pc := 50) (ix := 34) (ci := 1) (M' := m_X1_get) (As := [.int (iI p2), .int (iI 6)]) (rest := [.int (iI v81), .int (iI v6), .int (iI 1), .int (iI p2), .ref p1]) dX6_foldAct_50 ok_X1_get im_X1_get se_X1_get ml6_34 np_X1_get rfl rfl h_p1 rfl (Nat.le_of_ble_eq_true rfl) (Nat.le_of_ble_eq_true rfl) rfl (k_X1_get (d + 1) (T := T) (σ := σ) (a := p1) (k := p2) (c := 6) h_p1 (by omega) (by decide) hw (by omega)) (fun r82 T84 σ83 gt85 hp => ?_)
        obtain ⟨v87, rfl, rfl, rfl, f86⟩ := hp
        clear gt85
        show Tn _ _ 53 T σ [(3, .int (iI v6)), (0, .ref a), (1, .ref p1), (2, .int (iI p2))] [.int (iI v87), .int (iI v81), .int (iI v6), .int (iI 1), .int (iI p2), .ref p1] _
        refine tn_callSN (M := m_X6_foldAct) (pc := 53) (ix := 77) (M' := m_X11_reckon) (As := [.int (iI v6), .int (iI v81), .int (iI v87)]) (rest := [.int (iI 1), .int (iI p2), .ref p1]) dX6_foldAct_53 ok_X11_reckon stt_X11_reckon nl6_77 np_X11_reckon rfl (Nat.le_of_ble_eq_true rfl) (Nat.le_of_ble_eq_true rfl) rfl (k_X11_reckon (d + 1) (T := T) (σ := σ) (k := v6) (x := v81) (y := v87) (by omega) (by omega) (by omega) hw ) (fun r88 T90 σ89 gt91 hp => ?_)
        obtain ⟨v93, rfl, rfl, rfl, f92⟩ := hp
        clear gt91
        show Tn _ _ 56 T σ [(3, .int (iI v6)), (0, .ref a), (1, .ref p1), (2, .int (iI p2))] [.int (iI v93), .int (iI 1), .int (iI p2), .ref p1] _
        refine tn_callV (M := m_X6_foldAct) (pc := 56) (ix := 81) (ci := 1) (M' := m_X1_becomeCopy) (As := [.int (iI p2), .int (iI 1), .int (iI v93)]) (rest := []) dX6_foldAct_56 ok_X1_becomeCopy im_X1_becomeCopy se_X1_becomeCopy ml6_81 np_X1_becomeCopy rfl rfl h_p1 rfl (Nat.le_of_ble_eq_true rfl) (Nat.le_of_ble_eq_true rfl) rfl (k_X1_becomeCopy (d) (T := T) (σ := σ) (a := p1) (k := p2) (y := 1) (z := v93) h_p1 t_p1 (by omega) (by decide) (by omega) hw ) (fun r94 T96 σ95 gt97 hp => ?_)
        obtain ⟨rfl, rfl, w99, F100⟩ := hp
        clear gt97
        show Tn _ _ 59 T σ95 [(3, .int (iI v6)), (0, .ref a), (1, .ref p1), (2, .int (iI p2))] [] _
        refine tn_iconst dX6_foldAct_59 ?_
        exact tn_zret (v := 1) rfl (by decide) dX6_foldAct_60 ⟨_, rfl, rfl, w99, (FrC.rfl.trans (FrC.sub F100 (by decide))), by omega⟩
  · refine tn_iconst dX6_foldAct_17 ?_
    exact tn_zret (v := 0) rfl (by decide) dX6_foldAct_18 ⟨_, rfl, rfl, hw, FrC.rfl, by omega⟩
