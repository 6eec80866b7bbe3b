theorem cd_X1_leansOn : Cond.code yX1_leansOn cX1_leansOn 4 (some .boolean) ∈ pWW := pw4 (List.mem_of_getElem? (i := 147) rfl) rfl
abbrev m_X1_leansOn : MT := (yX1_leansOn, cX1_leansOn, 4, (some .boolean))
theorem ok_X1_leansOn : pOk m_X1_leansOn := ⟨⟨cd_X1_leansOn, ini_1⟩, by decide +kernel, ⟨by decide +kernel, by decide +kernel⟩, Nat.le_of_ble_eq_true rfl⟩
theorem np_X1_leansOn : (parseMethodDescriptor yX1_leansOn.desc).map (fun d => d.parameters.length) = some 2 := by decide +kernel
theorem im_X1_leansOn : Cond.instanceMethod yX1_leansOn ∈ pWW := pw4 (List.mem_of_getElem? (i := 145) rfl) rfl
theorem se_X1_leansOn : Cond.selects RX1 yX1_leansOn yX1_leansOn ∈ pWW := pw4 (List.mem_of_getElem? (i := 146) rfl) rfl
theorem dX1_leansOn_0 : decode cX1_leansOn 0 = .ok (.aload_n 0, 1) := by decide +kernel
theorem dX1_leansOn_1 : decode cX1_leansOn 1 = .ok (.iload_n 1, 1) := by decide +kernel
theorem dX1_leansOn_2 : decode cX1_leansOn 2 = .ok (.invokevirtual 97, 3) := by decide +kernel
theorem dX1_leansOn_5 : decode cX1_leansOn 5 = .ok (.bipush 12, 2) := by decide +kernel
theorem dX1_leansOn_7 : decode cX1_leansOn 7 = .ok (.if_icmp .eq 5, 3) := by decide +kernel
theorem dX1_leansOn_12 : decode cX1_leansOn 12 = .ok (.aload_n 0, 1) := by decide +kernel
theorem dX1_leansOn_13 : decode cX1_leansOn 13 = .ok (.iload_n 1, 1) := by decide +kernel
theorem dX1_leansOn_14 : decode cX1_leansOn 14 = .ok (.bipush 11, 2) := by decide +kernel
theorem dX1_leansOn_16 : decode cX1_leansOn 16 = .ok (.invokevirtual 86, 3) := by decide +kernel
theorem dX1_leansOn_19 : decode cX1_leansOn 19 = .ok (.istore_n 3, 1) := by decide +kernel
theorem dX1_leansOn_20 : decode cX1_leansOn 20 = .ok (.iload_n 3, 1) := by decide +kernel
theorem dX1_leansOn_21 : decode cX1_leansOn 21 = .ok (.iconst 2, 1) := by decide +kernel
theorem dX1_leansOn_22 : decode cX1_leansOn 22 = .ok (.if_icmp .ne 19, 3) := by decide +kernel
theorem dX1_leansOn_41 : decode cX1_leansOn 41 = .ok (.aload_n 0, 1) := by decide +kernel
theorem dX1_leansOn_42 : decode cX1_leansOn 42 = .ok (.iload_n 1, 1) := by decide +kernel
theorem dX1_leansOn_43 : decode cX1_leansOn 43 = .ok (.iconst 3, 1) := by decide +kernel
theorem dX1_leansOn_44 : decode cX1_leansOn 44 = .ok (.invokevirtual 86, 3) := by decide +kernel
theorem dX1_leansOn_47 : decode cX1_leansOn 47 = .ok (.iconst 2, 1) := by decide +kernel
theorem dX1_leansOn_48 : decode cX1_leansOn 48 = .ok (.if_icmp .ne 13, 3) := by decide +kernel
theorem dX1_leansOn_61 : decode cX1_leansOn 61 = .ok (.aload_n 0, 1) := by decide +kernel
theorem dX1_leansOn_62 : decode cX1_leansOn 62 = .ok (.iload_n 1, 1) := by decide +kernel
theorem dX1_leansOn_63 : decode cX1_leansOn 63 = .ok (.iconst 5, 1) := by decide +kernel
theorem dX1_leansOn_64 : decode cX1_leansOn 64 = .ok (.invokevirtual 86, 3) := by decide +kernel
theorem dX1_leansOn_67 : decode cX1_leansOn 67 = .ok (.iconst 2, 1) := by decide +kernel
theorem dX1_leansOn_68 : decode cX1_leansOn 68 = .ok (.if_icmp .ne 18, 3) := by decide +kernel
theorem dX1_leansOn_86 : decode cX1_leansOn 86 = .ok (.iconst 0, 1) := by decide +kernel
theorem dX1_leansOn_87 : decode cX1_leansOn 87 = .ok (.ireturn, 1) := by decide +kernel
theorem dX1_leansOn_71 : decode cX1_leansOn 71 = .ok (.aload_n 0, 1) := by decide +kernel
theorem dX1_leansOn_72 : decode cX1_leansOn 72 = .ok (.iload_n 1, 1) := by decide +kernel
theorem dX1_leansOn_73 : decode cX1_leansOn 73 = .ok (.bipush 6, 2) := by decide +kernel
theorem dX1_leansOn_75 : decode cX1_leansOn 75 = .ok (.invokevirtual 86, 3) := by decide +kernel
theorem dX1_leansOn_78 : decode cX1_leansOn 78 = .ok (.iload_n 2, 1) := by decide +kernel
theorem dX1_leansOn_79 : decode cX1_leansOn 79 = .ok (.if_icmp .ne 7, 3) := by decide +kernel
theorem dX1_leansOn_82 : decode cX1_leansOn 82 = .ok (.iconst 1, 1) := by decide +kernel
theorem dX1_leansOn_83 : decode cX1_leansOn 83 = .ok (.goto 4, 3) := by decide +kernel
theorem dX1_leansOn_51 : decode cX1_leansOn 51 = .ok (.aload_n 0, 1) := by decide +kernel
theorem dX1_leansOn_52 : decode cX1_leansOn 52 = .ok (.iload_n 1, 1) := by decide +kernel
theorem dX1_leansOn_53 : decode cX1_leansOn 53 = .ok (.iconst 4, 1) := by decide +kernel
theorem dX1_leansOn_54 : decode cX1_leansOn 54 = .ok (.invokevirtual 86, 3) := by decide +kernel
theorem dX1_leansOn_57 : decode cX1_leansOn 57 = .ok (.iload_n 2, 1) := by decide +kernel
theorem dX1_leansOn_58 : decode cX1_leansOn 58 = .ok (.if_icmp .eq 24, 3) := by decide +kernel
theorem dX1_leansOn_25 : decode cX1_leansOn 25 = .ok (.aload_n 0, 1) := by decide +kernel
theorem dX1_leansOn_26 : decode cX1_leansOn 26 = .ok (.iload_n 1, 1) := by decide +kernel
theorem dX1_leansOn_27 : decode cX1_leansOn 27 = .ok (.iconst 4, 1) := by decide +kernel
theorem dX1_leansOn_28 : decode cX1_leansOn 28 = .ok (.invokevirtual 86, 3) := by decide +kernel
theorem dX1_leansOn_31 : decode cX1_leansOn 31 = .ok (.iload_n 2, 1) := by decide +kernel
theorem dX1_leansOn_32 : decode cX1_leansOn 32 = .ok (.if_icmp .ne 7, 3) := by decide +kernel
theorem dX1_leansOn_39 : decode cX1_leansOn 39 = .ok (.iconst 0, 1) := by decide +kernel
theorem dX1_leansOn_40 : decode cX1_leansOn 40 = .ok (.ireturn, 1) := by decide +kernel
theorem dX1_leansOn_35 : decode cX1_leansOn 35 = .ok (.iconst 1, 1) := by decide +kernel
theorem dX1_leansOn_36 : decode cX1_leansOn 36 = .ok (.goto 4, 3) := by decide +kernel
theorem dX1_leansOn_10 : decode cX1_leansOn 10 = .ok (.iconst 0, 1) := by decide +kernel
theorem dX1_leansOn_11 : decode cX1_leansOn 11 = .ok (.ireturn, 1) := by decide +kernel
set_option maxRecDepth 20000 in
theorem k_X1_leansOn (d : Nat) {T : CT} {σ : MS} {a : Nat} {k : Int} {r : Int} (ha : OB T a 1) (h_k : -2147483648 ≤ k ∧ k ≤ 2147483647) (h_r : -2147483648 ≤ r ∧ r ≤ 2147483647) (hw : WT T σ) : Tn (d + 2) m_X1_leansOn 0 T σ [(0, .ref a), (1, .int (iI k)), (2, .int (iI r))] [] (fun ro T2 σ2 => ∃ v : Int, ro = some (.int (iI v)) ∧ T = T2 ∧ σ = σ2 ∧ (v = 0 ∨ v = 1)) := by
  refine tn_aload_n dX1_leansOn_0 rfl 0 rfl ?_
  refine tn_iload_n dX1_leansOn_1 rfl 1 rfl ?_
  refine tn_callV (M := m_X1_leansOn) (pc := 2) (ix := 97) (ci := 1) (M' := m_X1_kindAt) (As := [.int (iI k)]) (rest := []) dX1_leansOn_2 ok_X1_kindAt im_X1_kindAt se_X1_kindAt ml1_97 np_X1_kindAt rfl rfl ha rfl (Nat.le_of_ble_eq_true rfl) (Nat.le_of_ble_eq_true rfl) rfl (k_X1_kindAt (d) (T := T) (σ := σ) (a := a) (k := k) ha (by omega) hw ) (fun r1 T3 σ2 gt4 hp => ?_)
  obtain ⟨v7, rfl, rfl, rfl, f5, f6⟩ := hp
  clear gt4
  clear f6
  show Tn _ _ 5 T σ [(0, .ref a), (1, .int (iI k)), (2, .int (iI r))] [.int (iI v7)] _
  refine tn_bipush dX1_leansOn_5 (by decide) ?_
  refine tn_icmp_eq (tgt := 12) dX1_leansOn_7 (by decide) ⟨by omega, by omega⟩ ⟨by decide, by decide⟩ (fun h8 => ?_) (fun h8 => ?_)
  · refine tn_aload_n dX1_leansOn_12 rfl 0 rfl ?_
    refine tn_iload_n dX1_leansOn_13 rfl 1 rfl ?_
    refine tn_bipush dX1_leansOn_14 (by decide) ?_
    refine tn_callV (M := m_X1_leansOn) (pc := 16) (ix := 86) (ci := 1) (M' := m_X1_get) (As := [.int (iI k), .int (iI 11)]) (rest := []) dX1_leansOn_16 ok_X1_get im_X1_get se_X1_get ml1_86 np_X1_get rfl rfl ha rfl (Nat.le_of_ble_eq_true rfl) (Nat.le_of_ble_eq_true rfl) rfl (k_X1_get (d) (T := T) (σ := σ) (a := a) (k := k) (c := 11) ha (by omega) (by decide) hw (by omega)) (fun r9 T11 σ10 gt12 hp => ?_)
    obtain ⟨v14, rfl, rfl, rfl, f13⟩ := hp
    clear gt12
    show Tn _ _ 19 T σ [(0, .ref a), (1, .int (iI k)), (2, .int (iI r))] [.int (iI v14)] _
    refine tn_istore_n (L' := [(3, .int (iI v14)), (0, .ref a), (1, .int (iI k)), (2, .int (iI r))]) dX1_leansOn_19 rfl (by decide) rfl ?_
    refine tn_iload_n dX1_leansOn_20 rfl 0 rfl ?_
    refine tn_iconst dX1_leansOn_21 ?_
    refine tn_icmp_ne (tgt := 41) dX1_leansOn_22 (by decide) ⟨by omega, by omega⟩ ⟨by decide, by decide⟩ (fun h15 => ?_) (fun h15 => ?_)
    · refine tn_aload_n dX1_leansOn_41 rfl 1 rfl ?_
      refine tn_iload_n dX1_leansOn_42 rfl 2 rfl ?_
      refine tn_iconst dX1_leansOn_43 ?_
      refine tn_callV (M := m_X1_leansOn) (pc := 44) (ix := 86) (ci := 1) (M' := m_X1_get) (As := [.int (iI k), .int (iI 3)]) (rest := []) dX1_leansOn_44 ok_X1_get im_X1_get se_X1_get ml1_86 np_X1_get rfl rfl ha rfl (Nat.le_of_ble_eq_true rfl) (Nat.le_of_ble_eq_true rfl) rfl (k_X1_get (d) (T := T) (σ := σ) (a := a) (k := k) (c := 3) ha (by omega) (by decide) hw (by omega)) (fun r16 T18 σ17 gt19 hp => ?_)
      obtain ⟨v21, rfl, rfl, rfl, f20⟩ := hp
      clear gt19
      show Tn _ _ 47 T σ [(3, .int (iI v14)), (0, .ref a), (1, .int (iI k)), (2, .int (iI r))] [.int (iI v21)] _
      refine tn_iconst dX1_leansOn_47 ?_
      refine tn_icmp_ne (tgt := 61) dX1_leansOn_48 (by decide) ⟨by omega, by omega⟩ ⟨by decide, by decide⟩ (fun h22 => ?_) (fun h22 => ?_)
      · refine tn_aload_n dX1_leansOn_61 rfl 1 rfl ?_
        refine tn_iload_n dX1_leansOn_62 rfl 2 rfl ?_
        refine tn_iconst dX1_leansOn_63 ?_
        refine tn_callV (M := m_X1_leansOn) (pc := 64) (ix := 86) (ci := 1) (M' := m_X1_get) (As := [.int (iI k), .int (iI 5)]) (rest := []) dX1_leansOn_64 ok_X1_get im_X1_get se_X1_get ml1_86 np_X1_get rfl rfl ha rfl (Nat.le_of_ble_eq_true rfl) (Nat.le_of_ble_eq_true rfl) rfl (k_X1_get (d) (T := T) (σ := σ) (a := a) (k := k) (c := 5) ha (by omega) (by decide) hw (by omega)) (fun r23 T25 σ24 gt26 hp => ?_)
        obtain ⟨v28, rfl, rfl, rfl, f27⟩ := hp
        clear gt26
        show Tn _ _ 67 T σ [(3, .int (iI v14)), (0, .ref a), (1, .int (iI k)), (2, .int (iI r))] [.int (iI v28)] _
        refine tn_iconst dX1_leansOn_67 ?_
        refine tn_icmp_ne (tgt := 86) dX1_leansOn_68 (by decide) ⟨by omega, by omega⟩ ⟨by decide, by decide⟩ (fun h29 => ?_) (fun h29 => ?_)
        · refine tn_iconst dX1_leansOn_86 ?_
          exact tn_zret (v := 0) rfl (by decide) dX1_leansOn_87 ⟨_, rfl, rfl, rfl, by omega⟩
        · refine tn_aload_n dX1_leansOn_71 rfl 1 rfl ?_
          refine tn_iload_n dX1_leansOn_72 rfl 2 rfl ?_
          refine tn_bipush dX1_leansOn_73 (by decide) ?_
          refine tn_callV (M := m_X1_leansOn) (pc := 75) (ix := 86) (ci := 1) (M' := m_X1_get) (As := [.int (iI k), .int (iI 6)]) (rest := []) dX1_leansOn_75 ok_X1_get im_X1_get se_X1_get ml1_86 np_X1_get rfl rfl ha rfl (Nat.le_of_ble_eq_true rfl) (Nat.le_of_ble_eq_true rfl) rfl (k_X1_get (d) (T := T) (σ := σ) (a := a) (k := k) (c := 6) ha (by omega) (by decide) hw (by omega)) (fun r30 T32 σ31 gt33 hp => ?_)
          obtain ⟨v35, rfl, rfl, rfl, f34⟩ := hp
          clear gt33
          show Tn _ _ 78 T σ [(3, .int (iI v14)), (0, .ref a), (1, .int (iI k)), (2, .int (iI r))] [.int (iI v35)] _
          refine tn_iload_n dX1_leansOn_78 rfl 3 rfl ?_
          refine tn_icmp_ne (tgt := 86) dX1_leansOn_79 (by decide) ⟨by omega, by omega⟩ ⟨by omega, by omega⟩ (fun h36 => ?_) (fun h36 => ?_)
          · refine tn_iconst dX1_leansOn_86 ?_
            exact tn_zret (v := 0) rfl (by decide) dX1_leansOn_87 ⟨_, rfl, rfl, rfl, by omega⟩
          · refine tn_iconst dX1_leansOn_82 ?_
            refine tn_goto (tgt := 87) dX1_leansOn_83 (by decide) ?_
            exact tn_zret (v := 1) rfl (by decide) dX1_leansOn_87 ⟨_, rfl, rfl, rfl, by omega⟩
      · refine tn_aload_n dX1_leansOn_51 rfl 1 rfl ?_
        refine tn_iload_n dX1_leansOn_52 rfl 2 rfl ?_
        refine tn_iconst dX1_leansOn_53 ?_
        refine tn_callV (M := m_X1_leansOn) (pc := 54) (ix := 86) (ci := 1) (M' := m_X1_get) (As := [.int (iI k), .int (iI 4)]) (rest := []) dX1_leansOn_54 ok_X1_get im_X1_get se_X1_get ml1_86 np_X1_get rfl rfl ha rfl (Nat.le_of_ble_eq_true rfl) (Nat.le_of_ble_eq_true rfl) rfl (k_X1_get (d) (T := T) (σ := σ) (a := a) (k := k) (c := 4) ha (by omega) (by decide) hw (by omega)) (fun r37 T39 σ38 gt40 hp => ?_)
        obtain ⟨v42, rfl, rfl, rfl, f41⟩ := hp
        clear gt40
        show Tn _ _ 57 T σ [(3, .int (iI v14)), (0, .ref a), (1, .int (iI k)), (2, .int (iI r))] [.int (iI v42)] _
        refine tn_iload_n dX1_leansOn_57 rfl 3 rfl ?_
        refine tn_icmp_eq (tgt := 82) dX1_leansOn_58 (by decide) ⟨by omega, by omega⟩ ⟨by omega, by omega⟩ (fun h43 => ?_) (fun h43 => ?_)
        · refine tn_iconst dX1_leansOn_82 ?_
          refine tn_goto (tgt := 87) dX1_leansOn_83 (by decide) ?_
          exact tn_zret (v := 1) rfl (by decide) dX1_leansOn_87 ⟨_, rfl, rfl, rfl, by omega⟩
        · refine tn_aload_n dX1_leansOn_61 rfl 1 rfl ?_
          refine tn_iload_n dX1_leansOn_62 rfl 2 rfl ?_
          refine tn_iconst dX1_leansOn_63 ?_
          refine tn_callV (M := m_X1_leansOn) (pc := 64) (ix := 86) (ci := 1) (M' := m_X1_get) (As := [.int (iI k), .int (iI 5)]) (rest := []) dX1_leansOn_64 ok_X1_get im_X1_get se_X1_get ml1_86 np_X1_get rfl rfl ha rfl (Nat.le_of_ble_eq_true rfl) (Nat.le_of_ble_eq_true rfl) rfl (k_X1_get (d) (T := T) (σ := σ) (a := a) (k := k) (c := 5) ha (by omega) (by decide) hw (by omega)) (fun r44 T46 σ45 gt47 hp => ?_)
          obtain ⟨v49, rfl, rfl, rfl, f48⟩ := hp
          clear gt47
          show Tn _ _ 67 T σ [(3, .int (iI v14)), (0, .ref a), (1, .int (iI k)), (2, .int (iI r))] [.int (iI v49)] _
          refine tn_iconst dX1_leansOn_67 ?_
          refine tn_icmp_ne (tgt := 86) dX1_leansOn_68 (by decide) ⟨by omega, by omega⟩ ⟨by decide, by decide⟩ (fun h50 => ?_) (fun h50 => ?_)
          · refine tn_iconst dX1_leansOn_86 ?_
            exact tn_zret (v := 0) rfl (by decide) dX1_leansOn_87 ⟨_, rfl, rfl, rfl, by omega⟩
          · refine tn_aload_n dX1_leansOn_71 rfl 1 rfl ?_
            refine tn_iload_n dX1_leansOn_72 rfl 2 rfl ?_
            refine tn_bipush dX1_leansOn_73 (by decide) ?_
            refine tn_callV (M := m_X1_leansOn) (pc := 75) (ix := 86) (ci := 1) (M' := m_X1_get) (As := [.int (iI k), .int (iI 6)]) (rest := []) dX1_leansOn_75 ok_X1_get im_X1_get se_X1_get ml1_86 np_X1_get rfl rfl ha rfl (Nat.le_of_ble_eq_true rfl) (Nat.le_of_ble_eq_true rfl) rfl (k_X1_get (d) (T := T) (σ := σ) (a := a) (k := k) (c := 6) ha (by omega) (by decide) hw (by omega)) (fun r51 T53 σ52 gt54 hp => ?_)
            obtain ⟨v56, rfl, rfl, rfl, f55⟩ := hp
            clear gt54
            show Tn _ _ 78 T σ [(3, .int (iI v14)), (0, .ref a), (1, .int (iI k)), (2, .int (iI r))] [.int (iI v56)] _
            refine tn_iload_n dX1_leansOn_78 rfl 3 rfl ?_
            refine tn_icmp_ne (tgt := 86) dX1_leansOn_79 (by decide) ⟨by omega, by omega⟩ ⟨by omega, by omega⟩ (fun h57 => ?_) (fun h57 => ?_)
            · refine tn_iconst dX1_leansOn_86 ?_
              exact tn_zret (v := 0) rfl (by decide) dX1_leansOn_87 ⟨_, rfl, rfl, rfl, by omega⟩
            · refine tn_iconst dX1_leansOn_82 ?_
              refine tn_goto (tgt := 87) dX1_leansOn_83 (by decide) ?_
              exact tn_zret (v := 1) rfl (by decide) dX1_leansOn_87 ⟨_, rfl, rfl, rfl, by omega⟩
    · refine tn_aload_n dX1_leansOn_25 rfl 1 rfl ?_
      refine tn_iload_n dX1_leansOn_26 rfl 2 rfl ?_
      refine tn_iconst dX1_leansOn_27 ?_
      refine tn_callV (M := m_X1_leansOn) (pc := 28) (ix := 86) (ci := 1) (M' := m_X1_get) (As := [.int (iI k), .int (iI 4)]) (rest := []) dX1_leansOn_28 ok_X1_get im_X1_get se_X1_get ml1_86 np_X1_get rfl rfl ha rfl (Nat.le_of_ble_eq_true rfl) (Nat.le_of_ble_eq_true rfl) rfl (k_X1_get (d) (T := T) (σ := σ) (a := a) (k := k) (c := 4) ha (by omega) (by decide) hw (by omega)) (fun r58 T60 σ59 gt61 hp => ?_)
      obtain ⟨v63, rfl, rfl, rfl, f62⟩ := hp
      clear gt61
      show Tn _ _ 31 T σ [(3, .int (iI v14)), (0, .ref a), (1, .int (iI k)), (2, .int (iI r))] [.int (iI v63)] _
      refine tn_iload_n dX1_leansOn_31 rfl 3 rfl ?_
      refine tn_icmp_ne (tgt := 39) dX1_leansOn_32 (by decide) ⟨by omega, by omega⟩ ⟨by omega, by omega⟩ (fun h64 => ?_) (fun h64 => ?_)
      · refine tn_iconst dX1_leansOn_39 ?_
        exact tn_zret (v := 0) rfl (by decide) dX1_leansOn_40 ⟨_, rfl, rfl, rfl, by omega⟩
      · refine tn_iconst dX1_leansOn_35 ?_
        refine tn_goto (tgt := 40) dX1_leansOn_36 (by decide) ?_
        exact tn_zret (v := 1) rfl (by decide) dX1_leansOn_40 ⟨_, rfl, rfl, rfl, by omega⟩
  · refine tn_iconst dX1_leansOn_10 ?_
    exact tn_zret (v := 0) rfl (by decide) dX1_leansOn_11 ⟨_, rfl, rfl, rfl, by omega⟩
