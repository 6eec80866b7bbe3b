theorem cd_X7_foundValue : Cond.code yX7_foundValue cX7_foundValue 7 (some .int) ∈ pWW := pw6 (List.mem_of_getElem? (i := 152) rfl) rfl
abbrev m_X7_foundValue : MT := (yX7_foundValue, cX7_foundValue, 7, (some .int))
theorem ok_X7_foundValue : pOk m_X7_foundValue := ⟨⟨cd_X7_foundValue, ini_7⟩, by decide +kernel, ⟨by decide +kernel, by decide +kernel⟩, Nat.le_of_ble_eq_true rfl⟩
theorem np_X7_foundValue : (parseMethodDescriptor yX7_foundValue.desc).map (fun d => d.parameters.length) = some 2 := by decide +kernel
theorem im_X7_foundValue : Cond.instanceMethod yX7_foundValue ∈ pWW := pw6 (List.mem_of_getElem? (i := 150) rfl) rfl
theorem se_X7_foundValue : Cond.selects RX7 yX7_foundValue yX7_foundValue ∈ pWW := pw6 (List.mem_of_getElem? (i := 151) rfl) rfl
theorem ml7_178 : Cond.methodLink RX7 178 yX10_whereOf ∈ pWW := pw6 (List.mem_of_getElem? (i := 153) rfl) rfl
theorem ml7_182 : Cond.methodLink RX7 182 yX10_part ∈ pWW := pw6 (List.mem_of_getElem? (i := 154) rfl) rfl
theorem ml7_185 : Cond.methodLink RX7 185 yX7_foundRegister ∈ pWW := pw6 (List.mem_of_getElem? (i := 155) rfl) rfl
theorem dX7_foundValue_0 : decode cX7_foundValue 0 = .ok (.aload_n 0, 1) := by decide +kernel
theorem dX7_foundValue_1 : decode cX7_foundValue 1 = .ok (.invokevirtual 152, 3) := by decide +kernel
theorem dX7_foundValue_4 : decode cX7_foundValue 4 = .ok (.astore_n 3, 1) := by decide +kernel
theorem dX7_foundValue_5 : decode cX7_foundValue 5 = .ok (.aload_n 3, 1) := by decide +kernel
theorem dX7_foundValue_6 : decode cX7_foundValue 6 = .ok (.ifnonnull 8, 3) := by decide +kernel
theorem dX7_foundValue_9 : decode cX7_foundValue 9 = .ok (.bipush 10, 2) := by decide +kernel
theorem dX7_foundValue_11 : decode cX7_foundValue 11 = .ok (.goto 9, 3) := by decide +kernel
theorem dX7_foundValue_20 : decode cX7_foundValue 20 = .ok (.istore 4, 2) := by decide +kernel
theorem dX7_foundValue_22 : decode cX7_foundValue 22 = .ok (.iload 4, 2) := by decide +kernel
theorem dX7_foundValue_24 : decode cX7_foundValue 24 = .ok (.bipush 10, 2) := by decide +kernel
theorem dX7_foundValue_26 : decode cX7_foundValue 26 = .ok (.if_icmp .lt 5, 3) := by decide +kernel
theorem dX7_foundValue_29 : decode cX7_foundValue 29 = .ok (.iconst 0, 1) := by decide +kernel
theorem dX7_foundValue_30 : decode cX7_foundValue 30 = .ok (.ireturn, 1) := by decide +kernel
theorem dX7_foundValue_14 : decode cX7_foundValue 14 = .ok (.aload_n 1, 1) := by decide +kernel
theorem dX7_foundValue_15 : decode cX7_foundValue 15 = .ok (.aload_n 3, 1) := by decide +kernel
theorem dX7_foundValue_16 : decode cX7_foundValue 16 = .ok (.iload_n 2, 1) := by decide +kernel
theorem dX7_foundValue_17 : decode cX7_foundValue 17 = .ok (.invokevirtual 178, 3) := by decide +kernel
theorem dX7_foundValue_31 : decode cX7_foundValue 31 = .ok (.aload_n 1, 1) := by decide +kernel
theorem dX7_foundValue_32 : decode cX7_foundValue 32 = .ok (.aload_n 3, 1) := by decide +kernel
theorem dX7_foundValue_33 : decode cX7_foundValue 33 = .ok (.iload_n 2, 1) := by decide +kernel
theorem dX7_foundValue_34 : decode cX7_foundValue 34 = .ok (.iconst 4, 1) := by decide +kernel
theorem dX7_foundValue_35 : decode cX7_foundValue 35 = .ok (.invokevirtual 182, 3) := by decide +kernel
theorem dX7_foundValue_38 : decode cX7_foundValue 38 = .ok (.istore 5, 2) := by decide +kernel
theorem dX7_foundValue_40 : decode cX7_foundValue 40 = .ok (.iload 4, 2) := by decide +kernel
theorem dX7_foundValue_42 : decode cX7_foundValue 42 = .ok (.iconst 1, 1) := by decide +kernel
theorem dX7_foundValue_43 : decode cX7_foundValue 43 = .ok (.if_icmp .ne 6, 3) := by decide +kernel
theorem dX7_foundValue_49 : decode cX7_foundValue 49 = .ok (.iload 4, 2) := by decide +kernel
theorem dX7_foundValue_51 : decode cX7_foundValue 51 = .ok (.iconst 2, 1) := by decide +kernel
theorem dX7_foundValue_52 : decode cX7_foundValue 52 = .ok (.if_icmp .ne 10, 3) := by decide +kernel
theorem dX7_foundValue_62 : decode cX7_foundValue 62 = .ok (.aload_n 1, 1) := by decide +kernel
theorem dX7_foundValue_63 : decode cX7_foundValue 63 = .ok (.aload_n 3, 1) := by decide +kernel
theorem dX7_foundValue_64 : decode cX7_foundValue 64 = .ok (.iload_n 2, 1) := by decide +kernel
theorem dX7_foundValue_65 : decode cX7_foundValue 65 = .ok (.bipush 6, 2) := by decide +kernel
theorem dX7_foundValue_67 : decode cX7_foundValue 67 = .ok (.invokevirtual 182, 3) := by decide +kernel
theorem dX7_foundValue_70 : decode cX7_foundValue 70 = .ok (.istore 6, 2) := by decide +kernel
theorem dX7_foundValue_72 : decode cX7_foundValue 72 = .ok (.aload_n 1, 1) := by decide +kernel
theorem dX7_foundValue_73 : decode cX7_foundValue 73 = .ok (.aload_n 3, 1) := by decide +kernel
theorem dX7_foundValue_74 : decode cX7_foundValue 74 = .ok (.iload_n 2, 1) := by decide +kernel
theorem dX7_foundValue_75 : decode cX7_foundValue 75 = .ok (.iconst 3, 1) := by decide +kernel
theorem dX7_foundValue_76 : decode cX7_foundValue 76 = .ok (.invokevirtual 182, 3) := by decide +kernel
theorem dX7_foundValue_79 : decode cX7_foundValue 79 = .ok (.iconst 2, 1) := by decide +kernel
theorem dX7_foundValue_80 : decode cX7_foundValue 80 = .ok (.if_icmp .ne 12, 3) := by decide +kernel
theorem dX7_foundValue_92 : decode cX7_foundValue 92 = .ok (.iload 5, 2) := by decide +kernel
theorem dX7_foundValue_94 : decode cX7_foundValue 94 = .ok (.istore 5, 2) := by decide +kernel
theorem dX7_foundValue_96 : decode cX7_foundValue 96 = .ok (.aload_n 1, 1) := by decide +kernel
theorem dX7_foundValue_97 : decode cX7_foundValue 97 = .ok (.aload_n 3, 1) := by decide +kernel
theorem dX7_foundValue_98 : decode cX7_foundValue 98 = .ok (.iload_n 2, 1) := by decide +kernel
theorem dX7_foundValue_99 : decode cX7_foundValue 99 = .ok (.iconst 5, 1) := by decide +kernel
theorem dX7_foundValue_100 : decode cX7_foundValue 100 = .ok (.invokevirtual 182, 3) := by decide +kernel
theorem dX7_foundValue_103 : decode cX7_foundValue 103 = .ok (.iconst 2, 1) := by decide +kernel
theorem dX7_foundValue_104 : decode cX7_foundValue 104 = .ok (.if_icmp .ne 12, 3) := by decide +kernel
theorem dX7_foundValue_116 : decode cX7_foundValue 116 = .ok (.iload 6, 2) := by decide +kernel
theorem dX7_foundValue_118 : decode cX7_foundValue 118 = .ok (.istore 6, 2) := by decide +kernel
theorem dX7_foundValue_120 : decode cX7_foundValue 120 = .ok (.iload 4, 2) := by decide +kernel
theorem dX7_foundValue_122 : decode cX7_foundValue 122 = .ok (.iconst 2, 1) := by decide +kernel
theorem dX7_foundValue_123 : decode cX7_foundValue 123 = .ok (.isub, 1) := by decide +kernel
theorem dX7_foundValue_124 : decode cX7_foundValue 124 = .ok (.iload 5, 2) := by decide +kernel
theorem dX7_foundValue_126 : decode cX7_foundValue 126 = .ok (.iload 6, 2) := by decide +kernel
theorem dX7_foundValue_128 : decode cX7_foundValue 128 = .ok (.invokestatic 136, 3) := by decide +kernel
theorem dX7_foundValue_131 : decode cX7_foundValue 131 = .ok (.ireturn, 1) := by decide +kernel
theorem dX7_foundValue_107 : decode cX7_foundValue 107 = .ok (.aload_n 0, 1) := by decide +kernel
theorem dX7_foundValue_108 : decode cX7_foundValue 108 = .ok (.iload 6, 2) := by decide +kernel
theorem dX7_foundValue_110 : decode cX7_foundValue 110 = .ok (.invokevirtual 185, 3) := by decide +kernel
theorem dX7_foundValue_113 : decode cX7_foundValue 113 = .ok (.goto 5, 3) := by decide +kernel
theorem dX7_foundValue_83 : decode cX7_foundValue 83 = .ok (.aload_n 0, 1) := by decide +kernel
theorem dX7_foundValue_84 : decode cX7_foundValue 84 = .ok (.iload 5, 2) := by decide +kernel
theorem dX7_foundValue_86 : decode cX7_foundValue 86 = .ok (.invokevirtual 185, 3) := by decide +kernel
theorem dX7_foundValue_89 : decode cX7_foundValue 89 = .ok (.goto 5, 3) := by decide +kernel
theorem dX7_foundValue_55 : decode cX7_foundValue 55 = .ok (.aload_n 0, 1) := by decide +kernel
theorem dX7_foundValue_56 : decode cX7_foundValue 56 = .ok (.iload 5, 2) := by decide +kernel
theorem dX7_foundValue_58 : decode cX7_foundValue 58 = .ok (.invokevirtual 185, 3) := by decide +kernel
theorem dX7_foundValue_61 : decode cX7_foundValue 61 = .ok (.ireturn, 1) := by decide +kernel
theorem dX7_foundValue_46 : decode cX7_foundValue 46 = .ok (.iload 5, 2) := by decide +kernel
theorem dX7_foundValue_48 : decode cX7_foundValue 48 = .ok (.ireturn, 1) := by decide +kernel
set_option maxRecDepth 20000 in
theorem k_X7_foundValue (d : Nat) {T : CT} {σ : MS} {a : Nat} {p1 : Nat} {p2 : Int} (ha : OB T a 7) (h_p1 : OB T p1 10) (h_p2 : -2147483648 ≤ p2 ∧ p2 ≤ 2147483647) (hw : WT T σ) : Tn (d + 4) m_X7_foundValue 0 T σ [(0, .ref a), (1, .ref p1), (2, .int (iI p2))] [] (fun ro T2 σ2 => ∃ v : Int, ro = some (.int (iI v)) ∧ T = T2 ∧ σ = σ2 ∧ (-2147483648 ≤ v ∧ v ≤ 2147483647)) := by
  refine tn_aload_n dX7_foundValue_0 rfl 0 rfl ?_
  refine tn_callV (M := m_X7_foundValue) (pc := 1) (ix := 152) (ci := 7) (M' := m_X7_foundCode) (As := []) (rest := []) dX7_foundValue_1 ok_X7_foundCode im_X7_foundCode se_X7_foundCode ml7_152 np_X7_foundCode rfl rfl ha rfl (Nat.le_of_ble_eq_true rfl) (Nat.le_of_ble_eq_true rfl) rfl (k_X7_foundCode (d + 1) (T := T) (σ := σ) (a := a) ha hw ) (fun r1 T3 σ2 gt4 hp => ?_)
  obtain ⟨v6, rfl, rfl, rfl, rv7, f5⟩ := hp
  clear gt4
  clear f5
  rcases rv7 with rv7 | ⟨x8, rfl, hk9⟩
  · show Tn _ _ 4 T σ [(0, .ref a), (1, .ref p1), (2, .int (iI p2))] (vl true v6 :: []) _
    rw [vl_null rv7]
    refine tn_astore_nN (L' := [(3, .null), (0, .ref a), (1, .ref p1), (2, .int (iI p2))]) dX7_foundValue_4 rfl (by decide) rfl ?_
    refine tn_aload_nN dX7_foundValue_5 rfl 0 rfl ?_
    refine tn_ifnonnullN dX7_foundValue_6 ?_
    refine tn_bipush dX7_foundValue_9 (by decide) ?_
    refine tn_goto (tgt := 20) dX7_foundValue_11 (by decide) ?_
    refine tn_istore (L' := [(4, .int (iI 10)), (3, .null), (0, .ref a), (1, .ref p1), (2, .int (iI p2))]) dX7_foundValue_20 (by decide) rfl ?_
    refine tn_iload dX7_foundValue_22 0 rfl ?_
    refine tn_bipush dX7_foundValue_24 (by decide) ?_
    refine tn_icmp_lt (tgt := 31) dX7_foundValue_26 (by decide) ⟨by decide, by decide⟩ ⟨by decide, by decide⟩ (fun h => absurd h (by decide)) (fun _ => ?_)
    refine tn_iconst dX7_foundValue_29 ?_
    exact tn_iret rfl dX7_foundValue_30 ⟨_, rfl, rfl, rfl, by omega⟩
  · show Tn _ _ 4 T σ [(0, .ref a), (1, .ref p1), (2, .int (iI p2))] (vl true (x8 : Int) :: []) _
    rw [vl_ref rfl]
    have hk9o : OB T x8 1 := hk9.1
    refine tn_astore_n (L' := [(3, .ref x8), (0, .ref a), (1, .ref p1), (2, .int (iI p2))]) dX7_foundValue_4 rfl (by decide) rfl ?_
    refine tn_aload_n dX7_foundValue_5 rfl 0 rfl ?_
    refine tn_ifnonnull (tgt := 14) dX7_foundValue_6 (by decide) ?_
    refine tn_aload_n dX7_foundValue_14 rfl 2 rfl ?_
    refine tn_aload_n dX7_foundValue_15 rfl 0 rfl ?_
    refine tn_iload_n dX7_foundValue_16 rfl 3 rfl ?_
    refine tn_callV (M := m_X7_foundValue) (pc := 17) (ix := 178) (ci := 10) (M' := m_X10_whereOf) (As := [.ref x8, .int (iI p2)]) (rest := []) dX7_foundValue_17 ok_X10_whereOf im_X10_whereOf se_X10_whereOf ml7_178 np_X10_whereOf rfl rfl h_p1 rfl (Nat.le_of_ble_eq_true rfl) (Nat.le_of_ble_eq_true rfl) rfl (k_X10_whereOf (d + 1) (T := T) (σ := σ) (a := p1) (c := x8) (i := p2) h_p1 hk9o (by omega) hw ) (fun r11 T13 σ12 gt14 hp => ?_)
    obtain ⟨v16, rfl, rfl, rfl, f15⟩ := hp
    clear gt14
    show Tn _ _ 20 T σ [(3, .ref x8), (0, .ref a), (1, .ref p1), (2, .int (iI p2))] [.int (iI v16)] _
    refine tn_istore (L' := [(4, .int (iI v16)), (3, .ref x8), (0, .ref a), (1, .ref p1), (2, .int (iI p2))]) dX7_foundValue_20 (by decide) rfl ?_
    refine tn_iload dX7_foundValue_22 0 rfl ?_
    refine tn_bipush dX7_foundValue_24 (by decide) ?_
    refine tn_icmp_lt (tgt := 31) dX7_foundValue_26 (by decide) ⟨by omega, by omega⟩ ⟨by decide, by decide⟩ (fun h17 => ?_) (fun h17 => ?_)
    · refine tn_aload_n dX7_foundValue_31 rfl 3 rfl ?_
      refine tn_aload_n dX7_foundValue_32 rfl 1 rfl ?_
      refine tn_iload_n dX7_foundValue_33 rfl 4 rfl ?_
      refine tn_iconst dX7_foundValue_34 ?_
      refine tn_callV (M := m_X7_foundValue) (pc := 35) (ix := 182) (ci := 10) (M' := m_X10_part) (As := [.ref x8, .int (iI p2), .int (iI 4)]) (rest := []) dX7_foundValue_35 ok_X10_part im_X10_part se_X10_part ml7_182 np_X10_part rfl rfl h_p1 rfl (Nat.le_of_ble_eq_true rfl) (Nat.le_of_ble_eq_true rfl) rfl (k_X10_part (d) (T := T) (σ := σ) (a := p1) (c := x8) (i := p2) (e := 4) h_p1 hk9o (by omega) (by decide) hw (by omega)) (fun r18 T20 σ19 gt21 hp => ?_)
      obtain ⟨v23, rfl, rfl, rfl, f22⟩ := hp
      clear gt21
      show Tn _ _ 38 T σ [(4, .int (iI v16)), (3, .ref x8), (0, .ref a), (1, .ref p1), (2, .int (iI p2))] [.int (iI v23)] _
      refine tn_istore (L' := [(5, .int (iI v23)), (4, .int (iI v16)), (3, .ref x8), (0, .ref a), (1, .ref p1), (2, .int (iI p2))]) dX7_foundValue_38 (by decide) rfl ?_
      refine tn_iload dX7_foundValue_40 1 rfl ?_
      refine tn_iconst dX7_foundValue_42 ?_
      refine tn_icmp_ne (tgt := 49) dX7_foundValue_43 (by decide) ⟨by omega, by omega⟩ ⟨by decide, by decide⟩ (fun h24 => ?_) (fun h24 => ?_)
      · refine tn_iload dX7_foundValue_49 1 rfl ?_
        refine tn_iconst dX7_foundValue_51 ?_
        refine tn_icmp_ne (tgt := 62) dX7_foundValue_52 (by decide) ⟨by omega, by omega⟩ ⟨by decide, by decide⟩ (fun h25 => ?_) (fun h25 => ?_)
        · refine tn_aload_n dX7_foundValue_62 rfl 4 rfl ?_
          refine tn_aload_n dX7_foundValue_63 rfl 2 rfl ?_
          refine tn_iload_n dX7_foundValue_64 rfl 5 rfl ?_
          refine tn_bipush dX7_foundValue_65 (by decide) ?_
          refine tn_callV (M := m_X7_foundValue) (pc := 67) (ix := 182) (ci := 10) (M' := m_X10_part) (As := [.ref x8, .int (iI p2), .int (iI 6)]) (rest := []) dX7_foundValue_67 ok_X10_part im_X10_part se_X10_part ml7_182 np_X10_part rfl rfl h_p1 rfl (Nat.le_of_ble_eq_true rfl) (Nat.le_of_ble_eq_true rfl) rfl (k_X10_part (d) (T := T) (σ := σ) (a := p1) (c := x8) (i := p2) (e := 6) h_p1 hk9o (by omega) (by decide) hw (by omega)) (fun r26 T28 σ27 gt29 hp => ?_)
          obtain ⟨v31, rfl, rfl, rfl, f30⟩ := hp
          clear gt29
          show Tn _ _ 70 T σ [(5, .int (iI v23)), (4, .int (iI v16)), (3, .ref x8), (0, .ref a), (1, .ref p1), (2, .int (iI p2))] [.int (iI v31)] _
          refine tn_istore (L' := [(6, .int (iI v31)), (5, .int (iI v23)), (4, .int (iI v16)), (3, .ref x8), (0, .ref a), (1, .ref p1), (2, .int (iI p2))]) dX7_foundValue_70 (by decide) rfl ?_
          refine tn_aload_n dX7_foundValue_72 rfl 5 rfl ?_
          refine tn_aload_n dX7_foundValue_73 rfl 3 rfl ?_
          refine tn_iload_n dX7_foundValue_74 rfl 6 rfl ?_
          refine tn_iconst dX7_foundValue_75 ?_
          refine tn_callV (M := m_X7_foundValue) (pc := 76) (ix := 182) (ci := 10) (M' := m_X10_part) (As := [.ref x8, .int (iI p2), .int (iI 3)]) (rest := []) dX7_foundValue_76 ok_X10_part im_X10_part se_X10_part ml7_182 np_X10_part rfl rfl h_p1 rfl (Nat.le_of_ble_eq_true rfl) (Nat.le_of_ble_eq_true rfl) rfl (k_X10_part (d) (T := T) (σ := σ) (a := p1) (c := x8) (i := p2) (e := 3) h_p1 hk9o (by omega) (by decide) hw (by omega)) (fun r32 T34 σ33 gt35 hp => ?_)
          obtain ⟨v37, rfl, rfl, rfl, f36⟩ := hp
          clear gt35
          show Tn _ _ 79 T σ [(6, .int (iI v31)), (5, .int (iI v23)), (4, .int (iI v16)), (3, .ref x8), (0, .ref a), (1, .ref p1), (2, .int (iI p2))] [.int (iI v37)] _
          refine tn_iconst dX7_foundValue_79 ?_
          refine tn_icmp_ne (tgt := 92) dX7_foundValue_80 (by decide) ⟨by omega, by omega⟩ ⟨by decide, by decide⟩ (fun h38 => ?_) (fun h38 => ?_)
          · refine tn_iload dX7_foundValue_92 1 rfl ?_
            refine tn_istore (L' := [(5, .int (iI v23)), (6, .int (iI v31)), (4, .int (iI v16)), (3, .ref x8), (0, .ref a), (1, .ref p1), (2, .int (iI p2))]) dX7_foundValue_94 (by decide) rfl ?_
            refine tn_aload_n dX7_foundValue_96 rfl 5 rfl ?_
            refine tn_aload_n dX7_foundValue_97 rfl 3 rfl ?_
            refine tn_iload_n dX7_foundValue_98 rfl 6 rfl ?_
            refine tn_iconst dX7_foundValue_99 ?_
            refine tn_callV (M := m_X7_foundValue) (pc := 100) (ix := 182) (ci := 10) (M' := m_X10_part) (As := [.ref x8, .int (iI p2), .int (iI 5)]) (rest := []) dX7_foundValue_100 ok_X10_part im_X10_part se_X10_part ml7_182 np_X10_part rfl rfl h_p1 rfl (Nat.le_of_ble_eq_true rfl) (Nat.le_of_ble_eq_true rfl) rfl (k_X10_part (d) (T := T) (σ := σ) (a := p1) (c := x8) (i := p2) (e := 5) h_p1 hk9o (by omega) (by decide) hw (by omega)) (fun r39 T41 σ40 gt42 hp => ?_)
            obtain ⟨v44, rfl, rfl, rfl, f43⟩ := hp
            clear gt42
            show Tn _ _ 103 T σ [(5, .int (iI v23)), (6, .int (iI v31)), (4, .int (iI v16)), (3, .ref x8), (0, .ref a), (1, .ref p1), (2, .int (iI p2))] [.int (iI v44)] _
            refine tn_iconst dX7_foundValue_103 ?_
            refine tn_icmp_ne (tgt := 116) dX7_foundValue_104 (by decide) ⟨by omega, by omega⟩ ⟨by decide, by decide⟩ (fun h45 => ?_) (fun h45 => ?_)
            · refine tn_iload dX7_foundValue_116 1 rfl ?_
              refine tn_istore (L' := [(6, .int (iI v31)), (5, .int (iI v23)), (4, .int (iI v16)), (3, .ref x8), (0, .ref a), (1, .ref p1), (2, .int (iI p2))]) dX7_foundValue_118 (by decide) rfl ?_
              refine tn_iload dX7_foundValue_120 2 rfl ?_
              refine tn_iconst dX7_foundValue_122 ?_
              refine tn_isub dX7_foundValue_123 ?_
              refine tn_any (fun z46 g47 => ?_)
              have g47r : -2147483648 ≤ z46 ∧ z46 ≤ 2147483647 := g47
              refine tn_iload dX7_foundValue_124 1 rfl ?_
              refine tn_iload dX7_foundValue_126 0 rfl ?_
              refine tn_callSN (M := m_X7_foundValue) (pc := 128) (ix := 136) (M' := m_X11_reckon) (As := [.int (iI z46), .int (iI v23), .int (iI v31)]) (rest := []) dX7_foundValue_128 ok_X11_reckon stt_X11_reckon nl7_136 np_X11_reckon rfl (Nat.le_of_ble_eq_true rfl) (Nat.le_of_ble_eq_true rfl) rfl (k_X11_reckon (d + 2) (T := T) (σ := σ) (k := z46) (x := v23) (y := v31) (by omega) (by omega) (by omega) hw ) (fun r48 T50 σ49 gt51 hp => ?_)
              obtain ⟨v53, rfl, rfl, rfl, f52⟩ := hp
              clear gt51
              show Tn _ _ 131 T σ [(6, .int (iI v31)), (5, .int (iI v23)), (4, .int (iI v16)), (3, .ref x8), (0, .ref a), (1, .ref p1), (2, .int (iI p2))] [.int (iI v53)] _
              exact tn_iret rfl dX7_foundValue_131 ⟨_, rfl, rfl, rfl, by omega⟩
            · refine tn_aload_n dX7_foundValue_107 rfl 4 rfl ?_
              refine tn_iload dX7_foundValue_108 1 rfl ?_
              refine tn_callV (M := m_X7_foundValue) (pc := 110) (ix := 185) (ci := 7) (M' := m_X7_foundRegister) (As := [.int (iI v31)]) (rest := []) dX7_foundValue_110 ok_X7_foundRegister im_X7_foundRegister se_X7_foundRegister ml7_185 np_X7_foundRegister rfl rfl ha rfl (Nat.le_of_ble_eq_true rfl) (Nat.le_of_ble_eq_true rfl) rfl (k_X7_foundRegister (d + 1) (T := T) (σ := σ) (a := a) (p1 := v31) ha (by omega) hw ) (fun r54 T56 σ55 gt57 hp => ?_)
              obtain ⟨v59, rfl, rfl, rfl, f58⟩ := hp
              clear gt57
              show Tn _ _ 113 T σ [(5, .int (iI v23)), (6, .int (iI v31)), (4, .int (iI v16)), (3, .ref x8), (0, .ref a), (1, .ref p1), (2, .int (iI p2))] [.int (iI v59)] _
              refine tn_goto (tgt := 118) dX7_foundValue_113 (by decide) ?_
              refine tn_istore (L' := [(6, .int (iI v59)), (5, .int (iI v23)), (4, .int (iI v16)), (3, .ref x8), (0, .ref a), (1, .ref p1), (2, .int (iI p2))]) dX7_foundValue_118 (by decide) rfl ?_
              refine tn_iload dX7_foundValue_120 2 rfl ?_
              refine tn_iconst dX7_foundValue_122 ?_
              refine tn_isub dX7_foundValue_123 ?_
              refine tn_any (fun z60 g61 => ?_)
              have g61r : -2147483648 ≤ z60 ∧ z60 ≤ 2147483647 := g61
              refine tn_iload dX7_foundValue_124 1 rfl ?_
              refine tn_iload dX7_foundValue_126 0 rfl ?_
              refine tn_callSN (M := m_X7_foundValue) (pc := 128) (ix := 136) (M' := m_X11_reckon) (As := [.int (iI z60), .int (iI v23), .int (iI v59)]) (rest := []) dX7_foundValue_128 ok_X11_reckon stt_X11_reckon nl7_136 np_X11_reckon rfl (Nat.le_of_ble_eq_true rfl) (Nat.le_of_ble_eq_true rfl) rfl (k_X11_reckon (d + 2) (T := T) (σ := σ) (k := z60) (x := v23) (y := v59) (by omega) (by omega) (by omega) hw ) (fun r62 T64 σ63 gt65 hp => ?_)
              obtain ⟨v67, rfl, rfl, rfl, f66⟩ := hp
              clear gt65
              show Tn _ _ 131 T σ [(6, .int (iI v59)), (5, .int (iI v23)), (4, .int (iI v16)), (3, .ref x8), (0, .ref a), (1, .ref p1), (2, .int (iI p2))] [.int (iI v67)] _
              exact tn_iret rfl dX7_foundValue_131 ⟨_, rfl, rfl, rfl, by omega⟩
          · refine tn_aload_n dX7_foundValue_83 rfl 4 rfl ?_
            refine tn_iload dX7_foundValue_84 1 rfl ?_
            refine tn_callV (M := m_X7_foundValue) (pc := 86) (ix := 185) (ci := 7) (M' := m_X7_foundRegister) (As := [.int (iI v23)]) (rest := []) dX7_foundValue_86 ok_X7_foundRegister im_X7_foundRegister se_X7_foundRegister ml7_185 np_X7_foundRegister rfl rfl ha rfl (Nat.le_of_ble_eq_true rfl) (Nat.le_of_ble_eq_true rfl) rfl (k_X7_foundRegister (d + 1) (T := T) (σ := σ) (a := a) (p1 := v23) ha (by omega) hw ) (fun r68 T70 σ69 gt71 hp => ?_)
            obtain ⟨v73, rfl, rfl, rfl, f72⟩ := hp
            clear gt71
            show Tn _ _ 89 T σ [(6, .int (iI v31)), (5, .int (iI v23)), (4, .int (iI v16)), (3, .ref x8), (0, .ref a), (1, .ref p1), (2, .int (iI p2))] [.int (iI v73)] _
            refine tn_goto (tgt := 94) dX7_foundValue_89 (by decide) ?_
            refine tn_istore (L' := [(5, .int (iI v73)), (6, .int (iI v31)), (4, .int (iI v16)), (3, .ref x8), (0, .ref a), (1, .ref p1), (2, .int (iI p2))]) dX7_foundValue_94 (by decide) rfl ?_
            refine tn_aload_n dX7_foundValue_96 rfl 5 rfl ?_
            refine tn_aload_n dX7_foundValue_97 rfl 3 rfl ?_
            refine tn_iload_n dX7_foundValue_98 rfl 6 rfl ?_
            refine tn_iconst dX7_foundValue_99 ?_
            refine tn_callV (M := m_X7_foundValue) (pc := 100) (ix := 182) (ci := 10) (M' := m_X10_part) (As := [.ref x8, .int (iI p2), .int (iI 5)]) (rest := []) dX7_foundValue_100 ok_X10_part im_X10_part se_X10_part ml7_182 np_X10_part rfl rfl h_p1 rfl (Nat.le_of_ble_eq_true rfl) (Nat.le_of_ble_eq_true rfl) rfl (k_X10_part (d) (T := T) (σ := σ) (a := p1) (c := x8) (i := p2) (e := 5) h_p1 hk9o (by omega) (by decide) hw (by omega)) (fun r74 T76 σ75 gt77 hp => ?_)
            obtain ⟨v79, rfl, rfl, rfl, f78⟩ := hp
            clear gt77
            show Tn _ _ 103 T σ [(5, .int (iI v73)), (6, .int (iI v31)), (4, .int (iI v16)), (3, .ref x8), (0, .ref a), (1, .ref p1), (2, .int (iI p2))] [.int (iI v79)] _
            refine tn_iconst dX7_foundValue_103 ?_
            refine tn_icmp_ne (tgt := 116) dX7_foundValue_104 (by decide) ⟨by omega, by omega⟩ ⟨by decide, by decide⟩ (fun h80 => ?_) (fun h80 => ?_)
            · refine tn_iload dX7_foundValue_116 1 rfl ?_
              refine tn_istore (L' := [(6, .int (iI v31)), (5, .int (iI v73)), (4, .int (iI v16)), (3, .ref x8), (0, .ref a), (1, .ref p1), (2, .int (iI p2))]) dX7_foundValue_118 (by decide) rfl ?_
              refine tn_iload dX7_foundValue_120 2 rfl ?_
              refine tn_iconst dX7_foundValue_122 ?_
              refine tn_isub dX7_foundValue_123 ?_
              refine tn_any (fun z81 g82 => ?_)
              have g82r : -2147483648 ≤ z81 ∧ z81 ≤ 2147483647 := g82
              refine tn_iload dX7_foundValue_124 1 rfl ?_
              refine tn_iload dX7_foundValue_126 0 rfl ?_
              refine tn_callSN (M := m_X7_foundValue) (pc := 128) (ix := 136) (M' := m_X11_reckon) (As := [.int (iI z81), .int (iI v73), .int (iI v31)]) (rest := []) dX7_foundValue_128 ok_X11_reckon stt_X11_reckon nl7_136 np_X11_reckon rfl (Nat.le_of_ble_eq_true rfl) (Nat.le_of_ble_eq_true rfl) rfl (k_X11_reckon (d + 2) (T := T) (σ := σ) (k := z81) (x := v73) (y := v31) (by omega) (by omega) (by omega) hw ) (fun r83 T85 σ84 gt86 hp => ?_)
              obtain ⟨v88, rfl, rfl, rfl, f87⟩ := hp
              clear gt86
              show Tn _ _ 131 T σ [(6, .int (iI v31)), (5, .int (iI v73)), (4, .int (iI v16)), (3, .ref x8), (0, .ref a), (1, .ref p1), (2, .int (iI p2))] [.int (iI v88)] _
              exact tn_iret rfl dX7_foundValue_131 ⟨_, rfl, rfl, rfl, by omega⟩
            · refine tn_aload_n dX7_foundValue_107 rfl 4 rfl ?_
              refine tn_iload dX7_foundValue_108 1 rfl ?_
              refine tn_callV (M := m_X7_foundValue) (pc := 110) (ix := 185) (ci := 7) (M' := m_X7_foundRegister) (As := [.int (iI v31)]) (rest := []) dX7_foundValue_110 ok_X7_foundRegister im_X7_foundRegister se_X7_foundRegister ml7_185 np_X7_foundRegister rfl rfl ha rfl (Nat.le_of_ble_eq_true rfl) (Nat.le_of_ble_eq_true rfl) rfl (k_X7_foundRegister (d + 1) (T := T) (σ := σ) (a := a) (p1 := v31) ha (by omega) hw ) (fun r89 T91 σ90 gt92 hp => ?_)
              obtain ⟨v94, rfl, rfl, rfl, f93⟩ := hp
              clear gt92
              show Tn _ _ 113 T σ [(5, .int (iI v73)), (6, .int (iI v31)), (4, .int (iI v16)), (3, .ref x8), (0, .ref a), (1, .ref p1), (2, .int (iI p2))] [.int (iI v94)] _
              refine tn_goto (tgt := 118) dX7_foundValue_113 (by decide) ?_
              refine tn_istore (L' := [(6, .int (iI v94)), (5, .int (iI v73)), (4, .int (iI v16)), (3, .ref x8), (0, .ref a), (1, .ref p1), (2, .int (iI p2))]) dX7_foundValue_118 (by decide) rfl ?_
              refine tn_iload dX7_foundValue_120 2 rfl ?_
              refine tn_iconst dX7_foundValue_122 ?_
              refine tn_isub dX7_foundValue_123 ?_
              refine tn_any (fun z95 g96 => ?_)
              have g96r : -2147483648 ≤ z95 ∧ z95 ≤ 2147483647 := g96
              refine tn_iload dX7_foundValue_124 1 rfl ?_
              refine tn_iload dX7_foundValue_126 0 rfl ?_
              refine tn_callSN (M := m_X7_foundValue) (pc := 128) (ix := 136) (M' := m_X11_reckon) (As := [.int (iI z95), .int (iI v73), .int (iI v94)]) (rest := []) dX7_foundValue_128 ok_X11_reckon stt_X11_reckon nl7_136 np_X11_reckon rfl (Nat.le_of_ble_eq_true rfl) (Nat.le_of_ble_eq_true rfl) rfl (k_X11_reckon (d + 2) (T := T) (σ := σ) (k := z95) (x := v73) (y := v94) (by omega) (by omega) (by omega) hw ) (fun r97 T99 σ98 gt100 hp => ?_)
              obtain ⟨v102, rfl, rfl, rfl, f101⟩ := hp
              clear gt100
              show Tn _ _ 131 T σ [(6, .int (iI v94)), (5, .int (iI v73)), (4, .int (iI v16)), (3, .ref x8), (0, .ref a), (1, .ref p1), (2, .int (iI p2))] [.int (iI v102)] _
              exact tn_iret rfl dX7_foundValue_131 ⟨_, rfl, rfl, rfl, by omega⟩
        · refine tn_aload_n dX7_foundValue_55 rfl 3 rfl ?_
          refine tn_iload dX7_foundValue_56 0 rfl ?_
          refine tn_callV (M := m_X7_foundValue) (pc := 58) (ix := 185) (ci := 7) (M' := m_X7_foundRegister) (As := [.int (iI v23)]) (rest := []) dX7_foundValue_58 ok_X7_foundRegister im_X7_foundRegister se_X7_foundRegister ml7_185 np_X7_foundRegister rfl rfl ha rfl (Nat.le_of_ble_eq_true rfl) (Nat.le_of_ble_eq_true rfl) rfl (k_X7_foundRegister (d + 1) (T := T) (σ := σ) (a := a) (p1 := v23) ha (by omega) hw ) (fun r103 T105 σ104 gt106 hp => ?_)
          obtain ⟨v108, rfl, rfl, rfl, f107⟩ := hp
          clear gt106
          show Tn _ _ 61 T σ [(5, .int (iI v23)), (4, .int (iI v16)), (3, .ref x8), (0, .ref a), (1, .ref p1), (2, .int (iI p2))] [.int (iI v108)] _
          exact tn_iret rfl dX7_foundValue_61 ⟨_, rfl, rfl, rfl, by omega⟩
      · refine tn_iload dX7_foundValue_46 0 rfl ?_
        exact tn_iret rfl dX7_foundValue_48 ⟨_, rfl, rfl, rfl, by omega⟩
    · refine tn_iconst dX7_foundValue_29 ?_
      exact tn_iret rfl dX7_foundValue_30 ⟨_, rfl, rfl, rfl, by omega⟩
