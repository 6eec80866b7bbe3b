section
set_option maxHeartbeats 1000000 in
set_option maxRecDepth 20000 in
theorem k_X7_foundValue_t (d : Nat) {T : CT} {σ : MS} {a : Nat} {p1 : Nat} {p2 : Int} {xa : Nat} {y : Nat} {xe : Nat} {c : Nat} (ha : OB T a 7) (h_p1 : OB T p1 10) (h_p2 : -2147483648 ≤ p2 ∧ p2 ≤ 2147483647) (hw : WT T σ) (hxa : σ.2.1 59 a = (xa : Int)) (hy : σ.2.1 55 a = (y : Int)) (hxe : σ.2.1 63 a = (xe : Int)) (hc : jC σ y (jA T xa (σ.2.1 70 a) σ) = (c : Int)) (hi : 0 ≤ p2 ∧ p2 ≤ 1000) : Tn (d + 4) m_X7_foundValue 0 T σ [(0, .ref a), (1, .ref p1), (2, .int (iI p2))] [] (fun ro T2 σ2 => ∃ v : Int, ro = some (.int (iI v)) ∧ T = T2 ∧ σ = σ2 ∧ (-2147483648 ≤ v ∧ v ≤ 2147483647) ∧ (v = jFV T σ a c (adN σ 5 c) (adN σ 15 c) xe p2)) := by
  refine tn_aload_n dX7_foundValue_0 rfl 0 rfl ?_
  obtain ⟨hk3, hl4⟩ : AR T xa 15 9 9 := ar_of (wf_59 hw ha) hxa
  have hk3i : IA T xa := by unfold IA; omega
  obtain ⟨hl8, hk7a, hk7b⟩ := ex_at (wf_55 hw ha) hy
  have hk7i : (T y).1 = 4 ∨ (T y).1 = 5 := by omega
  have hk7c : RROW T a y := ⟨hk7a, hk7b⟩
  clear hk7a hk7b
  refine tn_callV (M := m_X7_foundValue) (pc := 1) (ix := 152) (ci := 7) (M' := m_X7_foundCode) (As := []) (rest := []) dX7_foundValue_1 ok_X7_foundCode im_X7_foundCode se_X7_foundCode ml7_152 np_X7_foundCode rfl rfl ha rfl (Nat.le_of_ble_eq_true rfl) (Nat.le_of_ble_eq_true rfl) rfl (k_X7_foundCode_j (d + 1) (T := T) (σ := σ) (a := a) (xa := xa) (y := y) ha hw (hxa) (hy)) (fun r9 T11 σ10 gt12 hp => ?_)
  obtain ⟨v15, rfl, rfl, rfl, rv16, f13, f14⟩ := hp
  clear gt12
  rcases rv16 with rv16 | ⟨xq17, rfl, hk18⟩
  · exact absurd (JW.neg f14 rv16) (by omega)
  · show Tn _ _ 4 T σ [(0, .ref a), (1, .ref p1), (2, .int (iI p2))] (vl true (xq17 : Int) :: []) _
    rw [vl_ref rfl]
    have hk18o : OB T xq17 1 := hk18.1
    refine tn_astore_n (L' := [(3, .ref xq17), (0, .ref a), (1, .ref p1), (2, .int (iI p2))]) dX7_foundValue_4 rfl (by decide) rfl ?_
    refine tn_aload_n dX7_foundValue_5 rfl 0 rfl ?_
    refine tn_ifnonnull (tgt := 14) dX7_foundValue_6 (by decide) ?_
    refine tn_aload_n dX7_foundValue_14 rfl 2 rfl ?_
    refine tn_aload_n dX7_foundValue_15 rfl 0 rfl ?_
    refine tn_iload_n dX7_foundValue_16 rfl 3 rfl ?_
    obtain ⟨xq19, hx20, hl22, hk21a, hk21b⟩ := wf_5 hw hk18o
    have hk21i : IA T xq19 := by unfold IA; omega
    have hk21c : CELL T xq17 xq19 := ⟨hk21a, hk21b⟩
    clear hk21a hk21b
    refine tn_callV (M := m_X7_foundValue) (pc := 17) (ix := 178) (ci := 10) (M' := m_X10_whereOf) (As := [.ref xq17, .int (iI p2)]) (rest := []) dX7_foundValue_17 ok_X10_whereOf im_X10_whereOf se_X10_whereOf ml7_178 np_X10_whereOf rfl rfl h_p1 rfl (Nat.le_of_ble_eq_true rfl) (Nat.le_of_ble_eq_true rfl) rfl (k_X10_whereOf_t (d + 1) (T := T) (σ := σ) (a := p1) (c := xq17) (i := p2) (x := xq19) h_p1 hk18o (by omega) hw (hx20) hi) (fun r23 T25 σ24 gt26 hp => ?_)
    obtain ⟨v29, rfl, rfl, rfl, f27, f28⟩ := hp
    clear gt26
    show Tn _ _ 20 T σ [(3, .ref xq17), (0, .ref a), (1, .ref p1), (2, .int (iI p2))] [.int (iI v29)] _
    refine tn_istore (L' := [(4, .int (iI v29)), (3, .ref xq17), (0, .ref a), (1, .ref p1), (2, .int (iI p2))]) dX7_foundValue_20 (by decide) rfl ?_
    refine tn_iload dX7_foundValue_22 0 rfl ?_
    refine tn_bipush dX7_foundValue_24 (by decide) ?_
    refine tn_icmp_lt (tgt := 31) dX7_foundValue_26 (by decide) ⟨by omega, by omega⟩ ⟨by decide, by decide⟩ (fun h30 => ?_) (fun h30 => ?_)
    · refine tn_aload_n dX7_foundValue_31 rfl 3 rfl ?_
      refine tn_aload_n dX7_foundValue_32 rfl 1 rfl ?_
      refine tn_iload_n dX7_foundValue_33 rfl 4 rfl ?_
      refine tn_iconst dX7_foundValue_34 ?_
      obtain ⟨xq31, hx32, hk33, hl34⟩ : ∃ x : Nat, σ.2.1 15 xq17 = (x : Int) ∧ AR T x 1 144 144 := wf_15 hw hk18o
      have hk33i : IA T xq31 := by unfold IA; omega
      refine tn_callV (M := m_X7_foundValue) (pc := 35) (ix := 182) (ci := 10) (M' := m_X10_part) (As := [.ref xq17, .int (iI p2), .int (iI 4)]) (rest := []) dX7_foundValue_35 ok_X10_part im_X10_part se_X10_part ml7_182 np_X10_part rfl rfl h_p1 rfl (Nat.le_of_ble_eq_true rfl) (Nat.le_of_ble_eq_true rfl) rfl (k_X10_part_t (d) (T := T) (σ := σ) (a := p1) (c := xq17) (i := p2) (e := 4) (x := xq19) (xh := xq31) h_p1 hk18o (by omega) (by decide) hw (hx20) (hx32) (by decide) hi) (fun r35 T37 σ36 gt38 hp => ?_)
      obtain ⟨v41, rfl, rfl, rfl, f39, f40⟩ := hp
      clear gt38
      show Tn _ _ 38 T σ [(4, .int (iI v29)), (3, .ref xq17), (0, .ref a), (1, .ref p1), (2, .int (iI p2))] [.int (iI v41)] _
      refine tn_istore (L' := [(5, .int (iI v41)), (4, .int (iI v29)), (3, .ref xq17), (0, .ref a), (1, .ref p1), (2, .int (iI p2))]) dX7_foundValue_38 (by decide) rfl ?_
      refine tn_iload dX7_foundValue_40 1 rfl ?_
      refine tn_iconst dX7_foundValue_42 ?_
      refine tn_icmp_ne (tgt := 49) dX7_foundValue_43 (by decide) ⟨by omega, by omega⟩ ⟨by decide, by decide⟩ (fun h42 => ?_) (fun h42 => ?_)
      · refine tn_iload dX7_foundValue_49 1 rfl ?_
        refine tn_iconst dX7_foundValue_51 ?_
        refine tn_icmp_ne (tgt := 62) dX7_foundValue_52 (by decide) ⟨by omega, by omega⟩ ⟨by decide, by decide⟩ (fun h43 => ?_) (fun h43 => ?_)
        · refine tn_aload_n dX7_foundValue_62 rfl 4 rfl ?_
          refine tn_aload_n dX7_foundValue_63 rfl 2 rfl ?_
          refine tn_iload_n dX7_foundValue_64 rfl 5 rfl ?_
          refine tn_bipush dX7_foundValue_65 (by decide) ?_
          refine tn_callV (M := m_X7_foundValue) (pc := 67) (ix := 182) (ci := 10) (M' := m_X10_part) (As := [.ref xq17, .int (iI p2), .int (iI 6)]) (rest := []) dX7_foundValue_67 ok_X10_part im_X10_part se_X10_part ml7_182 np_X10_part rfl rfl h_p1 rfl (Nat.le_of_ble_eq_true rfl) (Nat.le_of_ble_eq_true rfl) rfl (k_X10_part_t (d) (T := T) (σ := σ) (a := p1) (c := xq17) (i := p2) (e := 6) (x := xq19) (xh := xq31) h_p1 hk18o (by omega) (by decide) hw (hx20) (hx32) (by decide) hi) (fun r44 T46 σ45 gt47 hp => ?_)
          obtain ⟨v50, rfl, rfl, rfl, f48, f49⟩ := hp
          clear gt47
          show Tn _ _ 70 T σ [(5, .int (iI v41)), (4, .int (iI v29)), (3, .ref xq17), (0, .ref a), (1, .ref p1), (2, .int (iI p2))] [.int (iI v50)] _
          refine tn_istore (L' := [(6, .int (iI v50)), (5, .int (iI v41)), (4, .int (iI v29)), (3, .ref xq17), (0, .ref a), (1, .ref p1), (2, .int (iI p2))]) dX7_foundValue_70 (by decide) rfl ?_
          refine tn_aload_n dX7_foundValue_72 rfl 5 rfl ?_
          refine tn_aload_n dX7_foundValue_73 rfl 3 rfl ?_
          refine tn_iload_n dX7_foundValue_74 rfl 6 rfl ?_
          refine tn_iconst dX7_foundValue_75 ?_
          refine tn_callV (M := m_X7_foundValue) (pc := 76) (ix := 182) (ci := 10) (M' := m_X10_part) (As := [.ref xq17, .int (iI p2), .int (iI 3)]) (rest := []) dX7_foundValue_76 ok_X10_part im_X10_part se_X10_part ml7_182 np_X10_part rfl rfl h_p1 rfl (Nat.le_of_ble_eq_true rfl) (Nat.le_of_ble_eq_true rfl) rfl (k_X10_part_t (d) (T := T) (σ := σ) (a := p1) (c := xq17) (i := p2) (e := 3) (x := xq19) (xh := xq31) h_p1 hk18o (by omega) (by decide) hw (hx20) (hx32) (by decide) hi) (fun r51 T53 σ52 gt54 hp => ?_)
          obtain ⟨v57, rfl, rfl, rfl, f55, f56⟩ := hp
          clear gt54
          show Tn _ _ 79 T σ [(6, .int (iI v50)), (5, .int (iI v41)), (4, .int (iI v29)), (3, .ref xq17), (0, .ref a), (1, .ref p1), (2, .int (iI p2))] [.int (iI v57)] _
          refine tn_iconst dX7_foundValue_79 ?_
          refine tn_icmp_ne (tgt := 92) dX7_foundValue_80 (by decide) ⟨by omega, by omega⟩ ⟨by decide, by decide⟩ (fun h58 => ?_) (fun h58 => ?_)
          · refine tn_iload dX7_foundValue_92 1 rfl ?_
            refine tn_istore (L' := [(5, .int (iI v41)), (6, .int (iI v50)), (4, .int (iI v29)), (3, .ref xq17), (0, .ref a), (1, .ref p1), (2, .int (iI p2))]) dX7_foundValue_94 (by decide) rfl ?_
            refine tn_aload_n dX7_foundValue_96 rfl 5 rfl ?_
            refine tn_aload_n dX7_foundValue_97 rfl 3 rfl ?_
            refine tn_iload_n dX7_foundValue_98 rfl 6 rfl ?_
            refine tn_iconst dX7_foundValue_99 ?_
            refine tn_callV (M := m_X7_foundValue) (pc := 100) (ix := 182) (ci := 10) (M' := m_X10_part) (As := [.ref xq17, .int (iI p2), .int (iI 5)]) (rest := []) dX7_foundValue_100 ok_X10_part im_X10_part se_X10_part ml7_182 np_X10_part rfl rfl h_p1 rfl (Nat.le_of_ble_eq_true rfl) (Nat.le_of_ble_eq_true rfl) rfl (k_X10_part_t (d) (T := T) (σ := σ) (a := p1) (c := xq17) (i := p2) (e := 5) (x := xq19) (xh := xq31) h_p1 hk18o (by omega) (by decide) hw (hx20) (hx32) (by decide) hi) (fun r59 T61 σ60 gt62 hp => ?_)
            obtain ⟨v65, rfl, rfl, rfl, f63, f64⟩ := hp
            clear gt62
            show Tn _ _ 103 T σ [(5, .int (iI v41)), (6, .int (iI v50)), (4, .int (iI v29)), (3, .ref xq17), (0, .ref a), (1, .ref p1), (2, .int (iI p2))] [.int (iI v65)] _
            refine tn_iconst dX7_foundValue_103 ?_
            refine tn_icmp_ne (tgt := 116) dX7_foundValue_104 (by decide) ⟨by omega, by omega⟩ ⟨by decide, by decide⟩ (fun h66 => ?_) (fun h66 => ?_)
            · refine tn_iload dX7_foundValue_116 1 rfl ?_
              refine tn_istore (L' := [(6, .int (iI v50)), (5, .int (iI v41)), (4, .int (iI v29)), (3, .ref xq17), (0, .ref a), (1, .ref p1), (2, .int (iI p2))]) dX7_foundValue_118 (by decide) rfl ?_
              refine tn_iload dX7_foundValue_120 2 rfl ?_
              refine tn_iconst dX7_foundValue_122 ?_
              refine tn_isub dX7_foundValue_123 ?_
              rw [show iI (v29 - 2) = iI (w32 (v29 - 2)) from (iI_self _).symm]
              have g67r : -2147483648 ≤ w32 (v29 - 2) ∧ w32 (v29 - 2) ≤ 2147483647 := inR_toInt _
              refine tn_iload dX7_foundValue_124 1 rfl ?_
              refine tn_iload dX7_foundValue_126 0 rfl ?_
              refine tn_callSN (M := m_X7_foundValue) (pc := 128) (ix := 136) (M' := m_X11_reckon) (As := [.int (iI (w32 (v29 - 2))), .int (iI v41), .int (iI v50)]) (rest := []) dX7_foundValue_128 ok_X11_reckon stt_X11_reckon nl7_136 np_X11_reckon rfl (Nat.le_of_ble_eq_true rfl) (Nat.le_of_ble_eq_true rfl) rfl (k_X11_reckon_j (d + 2) (T := T) (σ := σ) (k := w32 (v29 - 2)) (x := v41) (y := v50) (by omega) (by omega) (by omega) hw ) (fun r68 T70 σ69 gt71 hp => ?_)
              obtain ⟨v74, rfl, rfl, rfl, f72, f73⟩ := hp
              clear gt71
              show Tn _ _ 131 T σ [(6, .int (iI v50)), (5, .int (iI v41)), (4, .int (iI v29)), (3, .ref xq17), (0, .ref a), (1, .ref p1), (2, .int (iI p2))] [.int (iI v74)] _
              exact tn_iret rfl dX7_foundValue_131 ⟨_, rfl, rfl, rfl, by omega, by have ex : xq17 = c := (by have z9 := JW.pos f14 (Int.natCast_nonneg _); omega); rw [← ex]; have e5 : adN σ 5 xq17 = xq19 := adN_of hx20; have e15 : adN σ 15 xq17 = xq31 := adN_of hx32; unfold jFV jOR; rw [e5, e15, ← f28, ← f40, ← f49, ← f56, ← f64, if_neg (by omega), if_neg (by omega), if_neg (by omega), if_neg (show ¬ v57 = 2 by omega), if_neg (show ¬ v65 = 2 by omega)]; exact f73⟩
            · refine tn_aload_n dX7_foundValue_107 rfl 4 rfl ?_
              refine tn_iload dX7_foundValue_108 1 rfl ?_
              obtain ⟨hk77, hl78⟩ : AR T xe 1 1728 1728 := ar_of (wf_63 hw ha) hxe
              have hk77i : IA T xe := by unfold IA; omega
              refine tn_callV (M := m_X7_foundValue) (pc := 110) (ix := 185) (ci := 7) (M' := m_X7_foundRegister) (As := [.int (iI v50)]) (rest := []) dX7_foundValue_110 ok_X7_foundRegister im_X7_foundRegister se_X7_foundRegister ml7_185 np_X7_foundRegister rfl rfl ha rfl (Nat.le_of_ble_eq_true rfl) (Nat.le_of_ble_eq_true rfl) rfl (k_X7_foundRegister_t (d + 1) (T := T) (σ := σ) (a := a) (p1 := v50) (xe := xe) ha (by omega) hw (hxe)) (fun r79 T81 σ80 gt82 hp => ?_)
              obtain ⟨v85, rfl, rfl, rfl, f83, f84⟩ := hp
              clear gt82
              show Tn _ _ 113 T σ [(5, .int (iI v41)), (6, .int (iI v50)), (4, .int (iI v29)), (3, .ref xq17), (0, .ref a), (1, .ref p1), (2, .int (iI p2))] [.int (iI v85)] _
              refine tn_goto (tgt := 118) dX7_foundValue_113 (by decide) ?_
              refine tn_istore (L' := [(6, .int (iI v85)), (5, .int (iI v41)), (4, .int (iI v29)), (3, .ref xq17), (0, .ref a), (1, .ref p1), (2, .int (iI p2))]) dX7_foundValue_118 (by decide) rfl ?_
              refine tn_iload dX7_foundValue_120 2 rfl ?_
              refine tn_iconst dX7_foundValue_122 ?_
              refine tn_isub dX7_foundValue_123 ?_
              rw [show iI (v29 - 2) = iI (w32 (v29 - 2)) from (iI_self _).symm]
              have g86r : -2147483648 ≤ w32 (v29 - 2) ∧ w32 (v29 - 2) ≤ 2147483647 := inR_toInt _
              refine tn_iload dX7_foundValue_124 1 rfl ?_
              refine tn_iload dX7_foundValue_126 0 rfl ?_
              refine tn_callSN (M := m_X7_foundValue) (pc := 128) (ix := 136) (M' := m_X11_reckon) (As := [.int (iI (w32 (v29 - 2))), .int (iI v41), .int (iI v85)]) (rest := []) dX7_foundValue_128 ok_X11_reckon stt_X11_reckon nl7_136 np_X11_reckon rfl (Nat.le_of_ble_eq_true rfl) (Nat.le_of_ble_eq_true rfl) rfl (k_X11_reckon_j (d + 2) (T := T) (σ := σ) (k := w32 (v29 - 2)) (x := v41) (y := v85) (by omega) (by omega) (by omega) hw ) (fun r87 T89 σ88 gt90 hp => ?_)
              obtain ⟨v93, rfl, rfl, rfl, f91, f92⟩ := hp
              clear gt90
              show Tn _ _ 131 T σ [(6, .int (iI v85)), (5, .int (iI v41)), (4, .int (iI v29)), (3, .ref xq17), (0, .ref a), (1, .ref p1), (2, .int (iI p2))] [.int (iI v93)] _
              exact tn_iret rfl dX7_foundValue_131 ⟨_, rfl, rfl, rfl, by omega, by have ex : xq17 = c := (by have z9 := JW.pos f14 (Int.natCast_nonneg _); omega); rw [← ex]; have e5 : adN σ 5 xq17 = xq19 := adN_of hx20; have e15 : adN σ 15 xq17 = xq31 := adN_of hx32; unfold jFV jOR; rw [e5, e15, ← f28, ← f40, ← f49, ← f56, ← f64, if_neg (by omega), if_neg (by omega), if_neg (by omega), if_neg (show ¬ v57 = 2 by omega), if_pos (show v65 = 2 by omega), ← f84]; exact f92⟩
          · refine tn_aload_n dX7_foundValue_83 rfl 4 rfl ?_
            refine tn_iload dX7_foundValue_84 1 rfl ?_
            obtain ⟨hk96, hl97⟩ : AR T xe 1 1728 1728 := ar_of (wf_63 hw ha) hxe
            have hk96i : IA T xe := by unfold IA; omega
            refine tn_callV (M := m_X7_foundValue) (pc := 86) (ix := 185) (ci := 7) (M' := m_X7_foundRegister) (As := [.int (iI v41)]) (rest := []) dX7_foundValue_86 ok_X7_foundRegister im_X7_foundRegister se_X7_foundRegister ml7_185 np_X7_foundRegister rfl rfl ha rfl (Nat.le_of_ble_eq_true rfl) (Nat.le_of_ble_eq_true rfl) rfl (k_X7_foundRegister_t (d + 1) (T := T) (σ := σ) (a := a) (p1 := v41) (xe := xe) ha (by omega) hw (hxe)) (fun r98 T100 σ99 gt101 hp => ?_)
            obtain ⟨v104, rfl, rfl, rfl, f102, f103⟩ := hp
            clear gt101
            show Tn _ _ 89 T σ [(6, .int (iI v50)), (5, .int (iI v41)), (4, .int (iI v29)), (3, .ref xq17), (0, .ref a), (1, .ref p1), (2, .int (iI p2))] [.int (iI v104)] _
            refine tn_goto (tgt := 94) dX7_foundValue_89 (by decide) ?_
            refine tn_istore (L' := [(5, .int (iI v104)), (6, .int (iI v50)), (4, .int (iI v29)), (3, .ref xq17), (0, .ref a), (1, .ref p1), (2, .int (iI p2))]) dX7_foundValue_94 (by decide) rfl ?_
            refine tn_aload_n dX7_foundValue_96 rfl 5 rfl ?_
            refine tn_aload_n dX7_foundValue_97 rfl 3 rfl ?_
            refine tn_iload_n dX7_foundValue_98 rfl 6 rfl ?_
            refine tn_iconst dX7_foundValue_99 ?_
            refine tn_callV (M := m_X7_foundValue) (pc := 100) (ix := 182) (ci := 10) (M' := m_X10_part) (As := [.ref xq17, .int (iI p2), .int (iI 5)]) (rest := []) dX7_foundValue_100 ok_X10_part im_X10_part se_X10_part ml7_182 np_X10_part rfl rfl h_p1 rfl (Nat.le_of_ble_eq_true rfl) (Nat.le_of_ble_eq_true rfl) rfl (k_X10_part_t (d) (T := T) (σ := σ) (a := p1) (c := xq17) (i := p2) (e := 5) (x := xq19) (xh := xq31) h_p1 hk18o (by omega) (by decide) hw (hx20) (hx32) (by decide) hi) (fun r105 T107 σ106 gt108 hp => ?_)
            obtain ⟨v111, rfl, rfl, rfl, f109, f110⟩ := hp
            clear gt108
            show Tn _ _ 103 T σ [(5, .int (iI v104)), (6, .int (iI v50)), (4, .int (iI v29)), (3, .ref xq17), (0, .ref a), (1, .ref p1), (2, .int (iI p2))] [.int (iI v111)] _
            refine tn_iconst dX7_foundValue_103 ?_
            refine tn_icmp_ne (tgt := 116) dX7_foundValue_104 (by decide) ⟨by omega, by omega⟩ ⟨by decide, by decide⟩ (fun h112 => ?_) (fun h112 => ?_)
            · refine tn_iload dX7_foundValue_116 1 rfl ?_
              refine tn_istore (L' := [(6, .int (iI v50)), (5, .int (iI v104)), (4, .int (iI v29)), (3, .ref xq17), (0, .ref a), (1, .ref p1), (2, .int (iI p2))]) dX7_foundValue_118 (by decide) rfl ?_
              refine tn_iload dX7_foundValue_120 2 rfl ?_
              refine tn_iconst dX7_foundValue_122 ?_
              refine tn_isub dX7_foundValue_123 ?_
              rw [show iI (v29 - 2) = iI (w32 (v29 - 2)) from (iI_self _).symm]
              have g113r : -2147483648 ≤ w32 (v29 - 2) ∧ w32 (v29 - 2) ≤ 2147483647 := inR_toInt _
              refine tn_iload dX7_foundValue_124 1 rfl ?_
              refine tn_iload dX7_foundValue_126 0 rfl ?_
              refine tn_callSN (M := m_X7_foundValue) (pc := 128) (ix := 136) (M' := m_X11_reckon) (As := [.int (iI (w32 (v29 - 2))), .int (iI v104), .int (iI v50)]) (rest := []) dX7_foundValue_128 ok_X11_reckon stt_X11_reckon nl7_136 np_X11_reckon rfl (Nat.le_of_ble_eq_true rfl) (Nat.le_of_ble_eq_true rfl) rfl (k_X11_reckon_j (d + 2) (T := T) (σ := σ) (k := w32 (v29 - 2)) (x := v104) (y := v50) (by omega) (by omega) (by omega) hw ) (fun r114 T116 σ115 gt117 hp => ?_)
              obtain ⟨v120, rfl, rfl, rfl, f118, f119⟩ := hp
              clear gt117
              show Tn _ _ 131 T σ [(6, .int (iI v50)), (5, .int (iI v104)), (4, .int (iI v29)), (3, .ref xq17), (0, .ref a), (1, .ref p1), (2, .int (iI p2))] [.int (iI v120)] _
              exact tn_iret rfl dX7_foundValue_131 ⟨_, rfl, rfl, rfl, by omega, by have ex : xq17 = c := (by have z9 := JW.pos f14 (Int.natCast_nonneg _); omega); rw [← ex]; have e5 : adN σ 5 xq17 = xq19 := adN_of hx20; have e15 : adN σ 15 xq17 = xq31 := adN_of hx32; unfold jFV jOR; rw [e5, e15, ← f28, ← f40, ← f49, ← f56, ← f110, if_neg (by omega), if_neg (by omega), if_neg (by omega), if_pos (show v57 = 2 by omega), ← f103, if_neg (show ¬ v111 = 2 by omega)]; exact f119⟩
            · refine tn_aload_n dX7_foundValue_107 rfl 4 rfl ?_
              refine tn_iload dX7_foundValue_108 1 rfl ?_
              refine tn_callV (M := m_X7_foundValue) (pc := 110) (ix := 185) (ci := 7) (M' := m_X7_foundRegister) (As := [.int (iI v50)]) (rest := []) dX7_foundValue_110 ok_X7_foundRegister im_X7_foundRegister se_X7_foundRegister ml7_185 np_X7_foundRegister rfl rfl ha rfl (Nat.le_of_ble_eq_true rfl) (Nat.le_of_ble_eq_true rfl) rfl (k_X7_foundRegister_t (d + 1) (T := T) (σ := σ) (a := a) (p1 := v50) (xe := xe) ha (by omega) hw (hxe)) (fun r121 T123 σ122 gt124 hp => ?_)
              obtain ⟨v127, rfl, rfl, rfl, f125, f126⟩ := hp
              clear gt124
              show Tn _ _ 113 T σ [(5, .int (iI v104)), (6, .int (iI v50)), (4, .int (iI v29)), (3, .ref xq17), (0, .ref a), (1, .ref p1), (2, .int (iI p2))] [.int (iI v127)] _
              refine tn_goto (tgt := 118) dX7_foundValue_113 (by decide) ?_
              refine tn_istore (L' := [(6, .int (iI v127)), (5, .int (iI v104)), (4, .int (iI v29)), (3, .ref xq17), (0, .ref a), (1, .ref p1), (2, .int (iI p2))]) dX7_foundValue_118 (by decide) rfl ?_
              refine tn_iload dX7_foundValue_120 2 rfl ?_
              refine tn_iconst dX7_foundValue_122 ?_
              refine tn_isub dX7_foundValue_123 ?_
              rw [show iI (v29 - 2) = iI (w32 (v29 - 2)) from (iI_self _).symm]
              have g128r : -2147483648 ≤ w32 (v29 - 2) ∧ w32 (v29 - 2) ≤ 2147483647 := inR_toInt _
              refine tn_iload dX7_foundValue_124 1 rfl ?_
              refine tn_iload dX7_foundValue_126 0 rfl ?_
              refine tn_callSN (M := m_X7_foundValue) (pc := 128) (ix := 136) (M' := m_X11_reckon) (As := [.int (iI (w32 (v29 - 2))), .int (iI v104), .int (iI v127)]) (rest := []) dX7_foundValue_128 ok_X11_reckon stt_X11_reckon nl7_136 np_X11_reckon rfl (Nat.le_of_ble_eq_true rfl) (Nat.le_of_ble_eq_true rfl) rfl (k_X11_reckon_j (d + 2) (T := T) (σ := σ) (k := w32 (v29 - 2)) (x := v104) (y := v127) (by omega) (by omega) (by omega) hw ) (fun r129 T131 σ130 gt132 hp => ?_)
              obtain ⟨v135, rfl, rfl, rfl, f133, f134⟩ := hp
              clear gt132
              show Tn _ _ 131 T σ [(6, .int (iI v127)), (5, .int (iI v104)), (4, .int (iI v29)), (3, .ref xq17), (0, .ref a), (1, .ref p1), (2, .int (iI p2))] [.int (iI v135)] _
              exact tn_iret rfl dX7_foundValue_131 ⟨_, rfl, rfl, rfl, by omega, by have ex : xq17 = c := (by have z9 := JW.pos f14 (Int.natCast_nonneg _); omega); rw [← ex]; have e5 : adN σ 5 xq17 = xq19 := adN_of hx20; have e15 : adN σ 15 xq17 = xq31 := adN_of hx32; unfold jFV jOR; rw [e5, e15, ← f28, ← f40, ← f49, ← f56, ← f110, if_neg (by omega), if_neg (by omega), if_neg (by omega), if_pos (show v57 = 2 by omega), ← f103, if_pos (show v111 = 2 by omega), ← f126]; exact f134⟩
        · refine tn_aload_n dX7_foundValue_55 rfl 3 rfl ?_
          refine tn_iload dX7_foundValue_56 0 rfl ?_
          obtain ⟨hk138, hl139⟩ : AR T xe 1 1728 1728 := ar_of (wf_63 hw ha) hxe
          have hk138i : IA T xe := by unfold IA; omega
          refine tn_callV (M := m_X7_foundValue) (pc := 58) (ix := 185) (ci := 7) (M' := m_X7_foundRegister) (As := [.int (iI v41)]) (rest := []) dX7_foundValue_58 ok_X7_foundRegister im_X7_foundRegister se_X7_foundRegister ml7_185 np_X7_foundRegister rfl rfl ha rfl (Nat.le_of_ble_eq_true rfl) (Nat.le_of_ble_eq_true rfl) rfl (k_X7_foundRegister_t (d + 1) (T := T) (σ := σ) (a := a) (p1 := v41) (xe := xe) ha (by omega) hw (hxe)) (fun r140 T142 σ141 gt143 hp => ?_)
          obtain ⟨v146, rfl, rfl, rfl, f144, f145⟩ := hp
          clear gt143
          show Tn _ _ 61 T σ [(5, .int (iI v41)), (4, .int (iI v29)), (3, .ref xq17), (0, .ref a), (1, .ref p1), (2, .int (iI p2))] [.int (iI v146)] _
          exact tn_iret rfl dX7_foundValue_61 ⟨_, rfl, rfl, rfl, by omega, by have ex : xq17 = c := (by have z9 := JW.pos f14 (Int.natCast_nonneg _); omega); rw [← ex]; have e5 : adN σ 5 xq17 = xq19 := adN_of hx20; have e15 : adN σ 15 xq17 = xq31 := adN_of hx32; unfold jFV; rw [e5, e15, ← f28, ← f40, if_neg (by omega), if_neg (by omega), if_pos (by omega)]; exact f145⟩
      · refine tn_iload dX7_foundValue_46 0 rfl ?_
        exact tn_iret rfl dX7_foundValue_48 ⟨_, rfl, rfl, rfl, by omega, by have ex : xq17 = c := (by have z9 := JW.pos f14 (Int.natCast_nonneg _); omega); rw [← ex]; have e5 : adN σ 5 xq17 = xq19 := adN_of hx20; have e15 : adN σ 15 xq17 = xq31 := adN_of hx32; unfold jFV; rw [e5, e15, ← f28, ← f40, if_neg (by omega), if_pos (by omega)]⟩
    · refine tn_iconst dX7_foundValue_29 ?_
      exact tn_iret rfl dX7_foundValue_30 ⟨_, rfl, rfl, rfl, by omega, by have ex : xq17 = c := (by have z9 := JW.pos f14 (Int.natCast_nonneg _); omega); rw [← ex]; have e5 : adN σ 5 xq17 = xq19 := adN_of hx20; unfold jFV; rw [e5, ← f28, if_pos (by omega)]⟩
end
