/-- the routines that there are -/
def RTN (σ : MS) : Prop := (0 ≤ σ.1 10 ∧ σ.1 10 ≤ 6) ∧ ∀ r, 0 ≤ r → r < σ.1 10 → (1 ≤ σ.2.1 9 r ∧ σ.2.1 9 r ≤ 200) ∧ OKF σ r ∧ OKS σ (σ.2.1 14 r) r ∧ FR0 σ r ∧ LEX σ r

theorem ml12_404 : Cond.methodLink RX12 404 yX12_isRoutine ∈ pWW := pw9 (List.mem_of_getElem? (i := 37) rfl) rfl
theorem ml12_407 : Cond.methodLink RX12 407 yX12_acts ∈ pWW := pw9 (List.mem_of_getElem? (i := 41) rfl) rfl
theorem fl12_41 : Cond.fieldLink RX12 41 (TX12 13).1 (TX12 13).2.1 (TX12 13).2.2.1 ∈ pWW := pw7 (List.mem_of_getElem? (i := 20) rfl) rfl
theorem dX12_routine_0 : decode cX12_routine 0 = .ok (.aload_n 0, 1) := by decide +kernel
theorem dX12_routine_1 : decode cX12_routine 1 = .ok (.iconst 0, 1) := by decide +kernel
theorem dX12_routine_2 : decode cX12_routine 2 = .ok (.putfield 185, 3) := by decide +kernel
theorem dX12_routine_5 : decode cX12_routine 5 = .ok (.aload_n 0, 1) := by decide +kernel
theorem dX12_routine_6 : decode cX12_routine 6 = .ok (.iload_n 1, 1) := by decide +kernel
theorem dX12_routine_7 : decode cX12_routine 7 = .ok (.invokevirtual 404, 3) := by decide +kernel
theorem dX12_routine_10 : decode cX12_routine 10 = .ok (.ifCond .ne 5, 3) := by decide +kernel
theorem dX12_routine_15 : decode cX12_routine 15 = .ok (.iload_n 2, 1) := by decide +kernel
theorem dX12_routine_16 : decode cX12_routine 16 = .ok (.tableswitch 91 0 6 #[44, 51, 57, 64, 71, 77, 84], 44) := by decide +kernel
theorem dX12_routine_107 : decode cX12_routine 107 = .ok (.iload_n 2, 1) := by decide +kernel
theorem dX12_routine_108 : decode cX12_routine 108 = .ok (.bipush 7, 2) := by decide +kernel
theorem dX12_routine_110 : decode cX12_routine 110 = .ok (.bipush 6, 2) := by decide +kernel
theorem dX12_routine_112 : decode cX12_routine 112 = .ok (.aload_n 0, 1) := by decide +kernel
theorem dX12_routine_113 : decode cX12_routine 113 = .ok (.getfield 38, 3) := by decide +kernel
theorem dX12_routine_116 : decode cX12_routine 116 = .ok (.iload_n 1, 1) := by decide +kernel
theorem dX12_routine_117 : decode cX12_routine 117 = .ok (.iaload, 1) := by decide +kernel
theorem dX12_routine_118 : decode cX12_routine 118 = .ok (.iadd, 1) := by decide +kernel
theorem dX12_routine_119 : decode cX12_routine 119 = .ok (.invokestatic 188, 3) := by decide +kernel
theorem dX12_routine_122 : decode cX12_routine 122 = .ok (.ifCond .eq 21, 3) := by decide +kernel
theorem dX12_routine_143 : decode cX12_routine 143 = .ok (.iconst (-1), 1) := by decide +kernel
theorem dX12_routine_144 : decode cX12_routine 144 = .ok (.ireturn, 1) := by decide +kernel
theorem dX12_routine_125 : decode cX12_routine 125 = .ok (.aload_n 0, 1) := by decide +kernel
theorem dX12_routine_126 : decode cX12_routine 126 = .ok (.getfield 56, 3) := by decide +kernel
theorem dX12_routine_129 : decode cX12_routine 129 = .ok (.sipush 144, 3) := by decide +kernel
theorem dX12_routine_132 : decode cX12_routine 132 = .ok (.iload_n 1, 1) := by decide +kernel
theorem dX12_routine_133 : decode cX12_routine 133 = .ok (.imul, 1) := by decide +kernel
theorem dX12_routine_134 : decode cX12_routine 134 = .ok (.iload_n 2, 1) := by decide +kernel
theorem dX12_routine_135 : decode cX12_routine 135 = .ok (.iadd, 1) := by decide +kernel
theorem dX12_routine_136 : decode cX12_routine 136 = .ok (.bipush 7, 2) := by decide +kernel
theorem dX12_routine_138 : decode cX12_routine 138 = .ok (.isub, 1) := by decide +kernel
theorem dX12_routine_139 : decode cX12_routine 139 = .ok (.iaload, 1) := by decide +kernel
theorem dX12_routine_140 : decode cX12_routine 140 = .ok (.goto 4, 3) := by decide +kernel
theorem dX12_routine_60 : decode cX12_routine 60 = .ok (.aload_n 0, 1) := by decide +kernel
theorem dX12_routine_61 : decode cX12_routine 61 = .ok (.getfield 32, 3) := by decide +kernel
theorem dX12_routine_64 : decode cX12_routine 64 = .ok (.iload_n 1, 1) := by decide +kernel
theorem dX12_routine_65 : decode cX12_routine 65 = .ok (.iaload, 1) := by decide +kernel
theorem dX12_routine_66 : decode cX12_routine 66 = .ok (.ireturn, 1) := by decide +kernel
theorem dX12_routine_67 : decode cX12_routine 67 = .ok (.aload_n 0, 1) := by decide +kernel
theorem dX12_routine_68 : decode cX12_routine 68 = .ok (.iload_n 1, 1) := by decide +kernel
theorem dX12_routine_69 : decode cX12_routine 69 = .ok (.invokevirtual 407, 3) := by decide +kernel
theorem dX12_routine_72 : decode cX12_routine 72 = .ok (.ireturn, 1) := by decide +kernel
theorem dX12_routine_73 : decode cX12_routine 73 = .ok (.aload_n 0, 1) := by decide +kernel
theorem dX12_routine_74 : decode cX12_routine 74 = .ok (.getfield 38, 3) := by decide +kernel
theorem dX12_routine_77 : decode cX12_routine 77 = .ok (.iload_n 1, 1) := by decide +kernel
theorem dX12_routine_78 : decode cX12_routine 78 = .ok (.iaload, 1) := by decide +kernel
theorem dX12_routine_79 : decode cX12_routine 79 = .ok (.ireturn, 1) := by decide +kernel
theorem dX12_routine_80 : decode cX12_routine 80 = .ok (.aload_n 0, 1) := by decide +kernel
theorem dX12_routine_81 : decode cX12_routine 81 = .ok (.getfield 35, 3) := by decide +kernel
theorem dX12_routine_84 : decode cX12_routine 84 = .ok (.iload_n 1, 1) := by decide +kernel
theorem dX12_routine_85 : decode cX12_routine 85 = .ok (.iaload, 1) := by decide +kernel
theorem dX12_routine_86 : decode cX12_routine 86 = .ok (.ireturn, 1) := by decide +kernel
theorem dX12_routine_87 : decode cX12_routine 87 = .ok (.aload_n 0, 1) := by decide +kernel
theorem dX12_routine_88 : decode cX12_routine 88 = .ok (.iload_n 1, 1) := by decide +kernel
theorem dX12_routine_89 : decode cX12_routine 89 = .ok (.invokevirtual 410, 3) := by decide +kernel
theorem dX12_routine_92 : decode cX12_routine 92 = .ok (.ireturn, 1) := by decide +kernel
theorem dX12_routine_93 : decode cX12_routine 93 = .ok (.aload_n 0, 1) := by decide +kernel
theorem dX12_routine_94 : decode cX12_routine 94 = .ok (.getfield 44, 3) := by decide +kernel
theorem dX12_routine_97 : decode cX12_routine 97 = .ok (.iload_n 1, 1) := by decide +kernel
theorem dX12_routine_98 : decode cX12_routine 98 = .ok (.iaload, 1) := by decide +kernel
theorem dX12_routine_99 : decode cX12_routine 99 = .ok (.ireturn, 1) := by decide +kernel
theorem dX12_routine_100 : decode cX12_routine 100 = .ok (.aload_n 0, 1) := by decide +kernel
theorem dX12_routine_101 : decode cX12_routine 101 = .ok (.getfield 41, 3) := by decide +kernel
theorem dX12_routine_104 : decode cX12_routine 104 = .ok (.iload_n 1, 1) := by decide +kernel
theorem dX12_routine_105 : decode cX12_routine 105 = .ok (.iaload, 1) := by decide +kernel
theorem dX12_routine_106 : decode cX12_routine 106 = .ok (.ireturn, 1) := by decide +kernel
theorem dX12_routine_13 : decode cX12_routine 13 = .ok (.iconst (-1), 1) := by decide +kernel
theorem dX12_routine_14 : decode cX12_routine 14 = .ok (.ireturn, 1) := by decide +kernel
set_option maxHeartbeats 4000000 in
set_option maxRecDepth 20000 in
theorem c_X12_routine (d : Nat) {b : Nat} {σ : MS} {x : Int} {w : Int} (hR : RG σ) (hit : ITM σ) (hpar : PAR σ) (hnam : NAM σ) (hrt : RTN σ) (h_x : -2147483648 ≤ x ∧ x ≤ 2147483647) (h_w : -2147483648 ≤ w ∧ w ≤ 2147483647) : Tm (d + 5) m_X12_routine 0 b σ [(0, .ref b), (1, .int (iI x)), (2, .int (iI w))] [] (fun ro σ2 => ∃ v : Int, ro = some (.int (iI v)) ∧ (Fr [0] [] [] σ σ2) ∧ (RG σ2)) := by
  refine tm_aload_n dX12_routine_0 rfl 0 rfl ?_
  refine tm_iconst dX12_routine_1 ?_
  refine tm_putS (k := 0) (v := 0) lay_12 dX12_routine_2 (by decide) fl12_185 rfl (tyX12_ok 0 (by decide)) rfl rfl rfl ?_
  refine tm_aload_n dX12_routine_5 rfl 0 rfl ?_
  refine tm_iload_n dX12_routine_6 rfl 1 rfl ?_
  refine tm_callV (M := m_X12_routine) (pc := 7) (ix := 404) (M' := m_X12_isRoutine) (As := [.int (iI x)]) (rest := []) dX12_routine_7 ok_X12_isRoutine im_X12_isRoutine se_X12_isRoutine ml12_404 np_X12_isRoutine rfl rfl (Nat.le_of_ble_eq_true rfl) (Nat.le_of_ble_eq_true rfl) rfl (c_X12_isRoutine (d + 2) (σ := (sS 0 0 σ)) (x := x) (hR.S (by omega)) hrt.1 (by omega)) (fun r1 σ2 hp => ?_)
  obtain ⟨v3, rfl, rfl, f4, f5⟩ := hp
  show Tm _ _ 10 b (sS 0 0 σ) [(0, .ref b), (1, .int (iI x)), (2, .int (iI w))] [.int (iI v3)] _
  have e10 : (sS 0 0 σ).1 10 = σ.1 10 := rfl
  have hrt1 := hrt.1
  refine tm_if_ne (tgt := 15) dX12_routine_10 (by decide) ⟨by omega, by omega⟩ (fun h6 => ?_) (fun h6 => ?_)
  · have hri := hrt.2 x (by omega) (by omega)
    have hof := hri.2.1
    have hok := hri.2.2.1
    have q1 := hof.1
    have q2 := hnam x (by omega) (by omega)
    have q3 := hpar x (by omega) (by omega)
    refine tm_iload_n dX12_routine_15 rfl 2 rfl ?_
    by_cases h7 : w < 0 ∨ 6 < w
    · refine tm_tableOut (tgt := 107) dX12_routine_16 ⟨by omega, by omega⟩ h7 (by decide) ?_
      refine tm_iload_n dX12_routine_107 rfl 2 rfl ?_
      refine tm_bipush dX12_routine_108 (by decide) ?_
      refine tm_bipush dX12_routine_110 (by decide) ?_
      refine tm_aload_n dX12_routine_112 rfl 0 rfl ?_
      refine tm_get (k := 12) (v := .ref (b + 1 + 9)) lay_12 dX12_routine_113 (by decide) fl12_38 rfl ?_
      refine tm_iload_n dX12_routine_116 rfl 1 rfl ?_
      refine tm_iald (z := x) (v := σ.2.1 12 x) dX12_routine_117 (show mT[9]? = some (12, 0, 6) from rfl) (by omega) (by omega) (by decide) (ra_S (rfl)) ?_
      have g8 := RG.a hR 12 (x)
      refine tm_iadd dX12_routine_118 ?_
      refine tm_callS (M := m_X12_routine) (pc := 119) (ix := 188) (M' := m_X12_in) (As := [.int (iI w), .int (iI 7), .int (iI (6 + (σ.2.1 12 x)))]) (rest := []) dX12_routine_119 ok_X12_in stt_X12_in ml12_188 np_X12_in rfl (Nat.le_of_ble_eq_true rfl) (Nat.le_of_ble_eq_true rfl) rfl (c_X12_in (d + 3) (σ := (sS 0 0 σ)) (x := w) (lo := 7) (hi := 6 + (σ.2.1 12 x)) (by omega) (by omega) (by omega)) (fun r9 σ10 hp => ?_)
      obtain ⟨v11, rfl, rfl, f12, f13⟩ := hp
      show Tm _ _ 122 b (sS 0 0 σ) [(0, .ref b), (1, .int (iI x)), (2, .int (iI w))] [.int (iI v11)] _
      refine tm_if_eq (tgt := 143) dX12_routine_122 (by decide) ⟨by omega, by omega⟩ (fun h14 => ?_) (fun h14 => ?_)
      · refine tm_iconst dX12_routine_143 ?_
        exact tm_iret rfl dX12_routine_144 (⟨_, rfl, (Fr.rfl.S (by decide)), (hR.S (by omega))⟩)
      · refine tm_aload_n dX12_routine_125 rfl 0 rfl ?_
        refine tm_get (k := 18) (v := .ref (b + 1 + 15)) lay_12 dX12_routine_126 (by decide) fl12_56 rfl ?_
        refine tm_sipush dX12_routine_129 (by decide) ?_
        refine tm_iload_n dX12_routine_132 rfl 1 rfl ?_
        refine tm_imul dX12_routine_133 ?_
        refine tm_iload_n dX12_routine_134 rfl 2 rfl ?_
        refine tm_iadd dX12_routine_135 ?_
        refine tm_bipush dX12_routine_136 (by decide) ?_
        refine tm_isub dX12_routine_138 ?_
        refine tm_iald (z := ((144 * x) + w) - 7) (v := σ.2.1 18 (((144 * x) + w) - 7)) dX12_routine_139 (show mT[15]? = some (18, 0, 864) from rfl) (by omega) (by omega) (by decide) (ra_S (rfl)) ?_
        have g15 := RG.a hR 18 (((144 * x) + w) - 7)
        refine tm_goto (tgt := 144) dX12_routine_140 (by decide) ?_
        exact tm_iret rfl dX12_routine_144 (⟨_, rfl, (Fr.rfl.S (by decide)), (hR.S (by omega))⟩)
    · have h7c : w = 0 ∨ w = 1 ∨ w = 2 ∨ w = 3 ∨ w = 4 ∨ w = 5 ∨ w = 6 := by omega
      rcases h7c with h7v | h7v | h7v | h7v | h7v | h7v | h7v
      · refine tm_tableIn (tgt := 60) dX12_routine_16 ⟨by omega, by omega⟩ (by omega) (by omega) (show _ = some (44) by rw [h7v]; rfl) (by decide) ?_
        refine tm_aload_n dX12_routine_60 rfl 0 rfl ?_
        refine tm_get (k := 9) (v := .ref (b + 1 + 7)) lay_12 dX12_routine_61 (by decide) fl12_32 rfl ?_
        refine tm_iload_n dX12_routine_64 rfl 1 rfl ?_
        refine tm_iald (z := x) (v := σ.2.1 9 x) dX12_routine_65 (show mT[7]? = some (9, 0, 13) from rfl) (by omega) (by omega) (by decide) (ra_S (rfl)) ?_
        have g16 := RG.a hR 9 (x)
        exact tm_iret rfl dX12_routine_66 (⟨_, rfl, (Fr.rfl.S (by decide)), (hR.S (by omega))⟩)
      · refine tm_tableIn (tgt := 67) dX12_routine_16 ⟨by omega, by omega⟩ (by omega) (by omega) (show _ = some (51) by rw [h7v]; rfl) (by decide) ?_
        refine tm_aload_n dX12_routine_67 rfl 0 rfl ?_
        refine tm_iload_n dX12_routine_68 rfl 1 rfl ?_
        refine tm_callV (M := m_X12_routine) (pc := 69) (ix := 407) (M' := m_X12_acts) (As := [.int (iI x)]) (rest := []) dX12_routine_69 ok_X12_acts im_X12_acts se_X12_acts ml12_407 np_X12_acts rfl rfl (Nat.le_of_ble_eq_true rfl) (Nat.le_of_ble_eq_true rfl) rfl (c_X12_acts (d + 1) (σ := (sS 0 0 σ)) (r := x) (by omega) (hR.S (by omega)) (hit.fr (show Fr [0] [] [] σ (sS 0 0 σ) from (Fr.rfl.S (by decide))) (by decide))) (fun r17 σ18 hp => ?_)
        obtain ⟨v19, rfl, rfl, f20⟩ := hp
        show Tm _ _ 72 b (sS 0 0 σ) [(0, .ref b), (1, .int (iI x)), (2, .int (iI w))] [.int (iI v19)] _
        exact tm_iret rfl dX12_routine_72 (⟨_, rfl, (Fr.rfl.S (by decide)), (hR.S (by omega))⟩)
      · refine tm_tableIn (tgt := 73) dX12_routine_16 ⟨by omega, by omega⟩ (by omega) (by omega) (show _ = some (57) by rw [h7v]; rfl) (by decide) ?_
        refine tm_aload_n dX12_routine_73 rfl 0 rfl ?_
        refine tm_get (k := 12) (v := .ref (b + 1 + 9)) lay_12 dX12_routine_74 (by decide) fl12_38 rfl ?_
        refine tm_iload_n dX12_routine_77 rfl 1 rfl ?_
        refine tm_iald (z := x) (v := σ.2.1 12 x) dX12_routine_78 (show mT[9]? = some (12, 0, 6) from rfl) (by omega) (by omega) (by decide) (ra_S (rfl)) ?_
        have g21 := RG.a hR 12 (x)
        exact tm_iret rfl dX12_routine_79 (⟨_, rfl, (Fr.rfl.S (by decide)), (hR.S (by omega))⟩)
      · refine tm_tableIn (tgt := 80) dX12_routine_16 ⟨by omega, by omega⟩ (by omega) (by omega) (show _ = some (64) by rw [h7v]; rfl) (by decide) ?_
        refine tm_aload_n dX12_routine_80 rfl 0 rfl ?_
        refine tm_get (k := 11) (v := .ref (b + 1 + 8)) lay_12 dX12_routine_81 (by decide) fl12_35 rfl ?_
        refine tm_iload_n dX12_routine_84 rfl 1 rfl ?_
        refine tm_iald (z := x) (v := σ.2.1 11 x) dX12_routine_85 (show mT[8]? = some (11, 0, 6) from rfl) (by omega) (by omega) (by decide) (ra_S (rfl)) ?_
        have g22 := RG.a hR 11 (x)
        exact tm_iret rfl dX12_routine_86 (⟨_, rfl, (Fr.rfl.S (by decide)), (hR.S (by omega))⟩)
      · refine tm_tableIn (tgt := 87) dX12_routine_16 ⟨by omega, by omega⟩ (by omega) (by omega) (show _ = some (71) by rw [h7v]; rfl) (by decide) ?_
        refine tm_aload_n dX12_routine_87 rfl 0 rfl ?_
        refine tm_iload_n dX12_routine_88 rfl 1 rfl ?_
        refine tm_callV (M := m_X12_routine) (pc := 89) (ix := 410) (M' := m_X12_registers) (As := [.int (iI x)]) (rest := []) dX12_routine_89 ok_X12_registers im_X12_registers se_X12_registers ml12_410 np_X12_registers rfl rfl (Nat.le_of_ble_eq_true rfl) (Nat.le_of_ble_eq_true rfl) rfl (c_X12_registers (d) (σ := (sS 0 0 σ)) (r := x) (F := σ.2.1 14 x) (by omega) (hR.S (by omega)) (hof.fr (show Fr [0] [] [] σ (sS 0 0 σ) from (Fr.rfl.S (by decide))) (by decide)) (hnam.fr (show Fr [0] [] [] σ (sS 0 0 σ) from (Fr.rfl.S (by decide))) (by decide)) (hit.fr (show Fr [0] [] [] σ (sS 0 0 σ) from (Fr.rfl.S (by decide))) (by decide)) (hpar.fr (show Fr [0] [] [] σ (sS 0 0 σ) from (Fr.rfl.S (by decide))) (by decide)) (hok.fr (show Fr [0] [] [] σ (sS 0 0 σ) from (Fr.rfl.S (by decide))) (by decide))) (fun r23 σ24 hp => ?_)
        obtain ⟨v25, rfl, rfl, f26, f27, f28⟩ := hp
        show Tm _ _ 92 b (sS 0 0 σ) [(0, .ref b), (1, .int (iI x)), (2, .int (iI w))] [.int (iI v25)] _
        exact tm_iret rfl dX12_routine_92 (⟨_, rfl, (Fr.rfl.S (by decide)), (hR.S (by omega))⟩)
      · refine tm_tableIn (tgt := 93) dX12_routine_16 ⟨by omega, by omega⟩ (by omega) (by omega) (show _ = some (77) by rw [h7v]; rfl) (by decide) ?_
        refine tm_aload_n dX12_routine_93 rfl 0 rfl ?_
        refine tm_get (k := 14) (v := .ref (b + 1 + 11)) lay_12 dX12_routine_94 (by decide) fl12_44 rfl ?_
        refine tm_iload_n dX12_routine_97 rfl 1 rfl ?_
        refine tm_iald (z := x) (v := σ.2.1 14 x) dX12_routine_98 (show mT[11]? = some (14, 0, 6) from rfl) (by omega) (by omega) (by decide) (ra_S (rfl)) ?_
        have g29 := RG.a hR 14 (x)
        exact tm_iret rfl dX12_routine_99 (⟨_, rfl, (Fr.rfl.S (by decide)), (hR.S (by omega))⟩)
      · refine tm_tableIn (tgt := 100) dX12_routine_16 ⟨by omega, by omega⟩ (by omega) (by omega) (show _ = some (84) by rw [h7v]; rfl) (by decide) ?_
        refine tm_aload_n dX12_routine_100 rfl 0 rfl ?_
        refine tm_get (k := 13) (v := .ref (b + 1 + 10)) lay_12 dX12_routine_101 (by decide) fl12_41 rfl ?_
        refine tm_iload_n dX12_routine_104 rfl 1 rfl ?_
        refine tm_iald (z := x) (v := σ.2.1 13 x) dX12_routine_105 (show mT[10]? = some (13, 0, 6) from rfl) (by omega) (by omega) (by decide) (ra_S (rfl)) ?_
        have g30 := RG.a hR 13 (x)
        exact tm_iret rfl dX12_routine_106 (⟨_, rfl, (Fr.rfl.S (by decide)), (hR.S (by omega))⟩)
  · refine tm_iconst dX12_routine_13 ?_
    exact tm_iret rfl dX12_routine_14 (⟨_, rfl, (Fr.rfl.S (by decide)), (hR.S (by omega))⟩)
theorem dX12_item_0 : decode cX12_item 0 = .ok (.aload_n 0, 1) := by decide +kernel
theorem dX12_item_1 : decode cX12_item 1 = .ok (.iconst 0, 1) := by decide +kernel
theorem dX12_item_2 : decode cX12_item 2 = .ok (.putfield 185, 3) := by decide +kernel
theorem dX12_item_5 : decode cX12_item 5 = .ok (.aload_n 0, 1) := by decide +kernel
theorem dX12_item_6 : decode cX12_item 6 = .ok (.iload_n 1, 1) := by decide +kernel
theorem dX12_item_7 : decode cX12_item 7 = .ok (.invokevirtual 404, 3) := by decide +kernel
theorem dX12_item_10 : decode cX12_item 10 = .ok (.ifCond .eq 29, 3) := by decide +kernel
theorem dX12_item_39 : decode cX12_item 39 = .ok (.iconst (-1), 1) := by decide +kernel
theorem dX12_item_40 : decode cX12_item 40 = .ok (.ireturn, 1) := by decide +kernel
theorem dX12_item_13 : decode cX12_item 13 = .ok (.iload_n 2, 1) := by decide +kernel
theorem dX12_item_14 : decode cX12_item 14 = .ok (.iconst 0, 1) := by decide +kernel
theorem dX12_item_15 : decode cX12_item 15 = .ok (.aload_n 0, 1) := by decide +kernel
theorem dX12_item_16 : decode cX12_item 16 = .ok (.getfield 32, 3) := by decide +kernel
theorem dX12_item_19 : decode cX12_item 19 = .ok (.iload_n 1, 1) := by decide +kernel
theorem dX12_item_20 : decode cX12_item 20 = .ok (.iaload, 1) := by decide +kernel
theorem dX12_item_21 : decode cX12_item 21 = .ok (.iconst 1, 1) := by decide +kernel
theorem dX12_item_22 : decode cX12_item 22 = .ok (.isub, 1) := by decide +kernel
theorem dX12_item_23 : decode cX12_item 23 = .ok (.invokestatic 188, 3) := by decide +kernel
theorem dX12_item_26 : decode cX12_item 26 = .ok (.ifCond .eq 13, 3) := by decide +kernel
theorem dX12_item_29 : decode cX12_item 29 = .ok (.iload_n 3, 1) := by decide +kernel
theorem dX12_item_30 : decode cX12_item 30 = .ok (.iconst 0, 1) := by decide +kernel
theorem dX12_item_31 : decode cX12_item 31 = .ok (.bipush 7, 2) := by decide +kernel
theorem dX12_item_33 : decode cX12_item 33 = .ok (.invokestatic 188, 3) := by decide +kernel
theorem dX12_item_36 : decode cX12_item 36 = .ok (.ifCond .ne 5, 3) := by decide +kernel
theorem dX12_item_41 : decode cX12_item 41 = .ok (.aload_n 0, 1) := by decide +kernel
theorem dX12_item_42 : decode cX12_item 42 = .ok (.iload_n 1, 1) := by decide +kernel
theorem dX12_item_43 : decode cX12_item 43 = .ok (.iload_n 2, 1) := by decide +kernel
theorem dX12_item_44 : decode cX12_item 44 = .ok (.invokevirtual 203, 3) := by decide +kernel
theorem dX12_item_47 : decode cX12_item 47 = .ok (.istore 4, 2) := by decide +kernel
theorem dX12_item_49 : decode cX12_item 49 = .ok (.aload_n 0, 1) := by decide +kernel
theorem dX12_item_50 : decode cX12_item 50 = .ok (.iload 4, 2) := by decide +kernel
theorem dX12_item_52 : decode cX12_item 52 = .ok (.invokevirtual 199, 3) := by decide +kernel
theorem dX12_item_55 : decode cX12_item 55 = .ok (.istore 5, 2) := by decide +kernel
theorem dX12_item_57 : decode cX12_item 57 = .ok (.iload_n 3, 1) := by decide +kernel
theorem dX12_item_58 : decode cX12_item 58 = .ok (.tableswitch 204 0 6 #[42, 50, 86, 122, 141, 163, 182], 42) := by decide +kernel
theorem dX12_item_262 : decode cX12_item 262 = .ok (.aload_n 0, 1) := by decide +kernel
theorem dX12_item_263 : decode cX12_item 263 = .ok (.getfield 13, 3) := by decide +kernel
theorem dX12_item_266 : decode cX12_item 266 = .ok (.iload 4, 2) := by decide +kernel
theorem dX12_item_268 : decode cX12_item 268 = .ok (.iaload, 1) := by decide +kernel
theorem dX12_item_269 : decode cX12_item 269 = .ok (.bipush 12, 2) := by decide +kernel
theorem dX12_item_271 : decode cX12_item 271 = .ok (.if_icmp .ne 13, 3) := by decide +kernel
theorem dX12_item_284 : decode cX12_item 284 = .ok (.iconst 0, 1) := by decide +kernel
theorem dX12_item_285 : decode cX12_item 285 = .ok (.ireturn, 1) := by decide +kernel
theorem dX12_item_274 : decode cX12_item 274 = .ok (.aload_n 0, 1) := by decide +kernel
theorem dX12_item_275 : decode cX12_item 275 = .ok (.getfield 23, 3) := by decide +kernel
theorem dX12_item_278 : decode cX12_item 278 = .ok (.iload 4, 2) := by decide +kernel
theorem dX12_item_280 : decode cX12_item 280 = .ok (.iaload, 1) := by decide +kernel
theorem dX12_item_281 : decode cX12_item 281 = .ok (.goto 4, 3) := by decide +kernel
theorem dX12_item_100 : decode cX12_item 100 = .ok (.aload_n 0, 1) := by decide +kernel
theorem dX12_item_101 : decode cX12_item 101 = .ok (.getfield 13, 3) := by decide +kernel
theorem dX12_item_104 : decode cX12_item 104 = .ok (.iload 4, 2) := by decide +kernel
theorem dX12_item_106 : decode cX12_item 106 = .ok (.iaload, 1) := by decide +kernel
theorem dX12_item_107 : decode cX12_item 107 = .ok (.ireturn, 1) := by decide +kernel
theorem dX12_item_108 : decode cX12_item 108 = .ok (.aload_n 0, 1) := by decide +kernel
theorem dX12_item_109 : decode cX12_item 109 = .ok (.getfield 13, 3) := by decide +kernel
theorem dX12_item_112 : decode cX12_item 112 = .ok (.iload 4, 2) := by decide +kernel
theorem dX12_item_114 : decode cX12_item 114 = .ok (.iaload, 1) := by decide +kernel
theorem dX12_item_115 : decode cX12_item 115 = .ok (.bipush 6, 2) := by decide +kernel
theorem dX12_item_117 : decode cX12_item 117 = .ok (.if_icmp .eq 15, 3) := by decide +kernel
theorem dX12_item_132 : decode cX12_item 132 = .ok (.iconst 0, 1) := by decide +kernel
theorem dX12_item_133 : decode cX12_item 133 = .ok (.goto 10, 3) := by decide +kernel
theorem dX12_item_143 : decode cX12_item 143 = .ok (.ireturn, 1) := by decide +kernel
theorem dX12_item_120 : decode cX12_item 120 = .ok (.aload_n 0, 1) := by decide +kernel
theorem dX12_item_121 : decode cX12_item 121 = .ok (.getfield 13, 3) := by decide +kernel
theorem dX12_item_124 : decode cX12_item 124 = .ok (.iload 4, 2) := by decide +kernel
theorem dX12_item_126 : decode cX12_item 126 = .ok (.iaload, 1) := by decide +kernel
theorem dX12_item_127 : decode cX12_item 127 = .ok (.bipush 7, 2) := by decide +kernel
theorem dX12_item_129 : decode cX12_item 129 = .ok (.if_icmp .ne 7, 3) := by decide +kernel
theorem dX12_item_136 : decode cX12_item 136 = .ok (.aload_n 0, 1) := by decide +kernel
theorem dX12_item_137 : decode cX12_item 137 = .ok (.getfield 17, 3) := by decide +kernel
theorem dX12_item_140 : decode cX12_item 140 = .ok (.iload 4, 2) := by decide +kernel
theorem dX12_item_142 : decode cX12_item 142 = .ok (.iaload, 1) := by decide +kernel
theorem dX12_item_144 : decode cX12_item 144 = .ok (.aload_n 0, 1) := by decide +kernel
theorem dX12_item_145 : decode cX12_item 145 = .ok (.getfield 13, 3) := by decide +kernel
theorem dX12_item_148 : decode cX12_item 148 = .ok (.iload 4, 2) := by decide +kernel
theorem dX12_item_150 : decode cX12_item 150 = .ok (.iaload, 1) := by decide +kernel
theorem dX12_item_151 : decode cX12_item 151 = .ok (.bipush 10, 2) := by decide +kernel
theorem dX12_item_153 : decode cX12_item 153 = .ok (.if_icmp .lt 25, 3) := by decide +kernel
theorem dX12_item_178 : decode cX12_item 178 = .ok (.iconst 0, 1) := by decide +kernel
theorem dX12_item_179 : decode cX12_item 179 = .ok (.ireturn, 1) := by decide +kernel
theorem dX12_item_156 : decode cX12_item 156 = .ok (.aload_n 0, 1) := by decide +kernel
theorem dX12_item_157 : decode cX12_item 157 = .ok (.getfield 13, 3) := by decide +kernel
theorem dX12_item_160 : decode cX12_item 160 = .ok (.iload 4, 2) := by decide +kernel
theorem dX12_item_162 : decode cX12_item 162 = .ok (.iaload, 1) := by decide +kernel
theorem dX12_item_163 : decode cX12_item 163 = .ok (.bipush 12, 2) := by decide +kernel
theorem dX12_item_165 : decode cX12_item 165 = .ok (.if_icmp .gt 13, 3) := by decide +kernel
theorem dX12_item_168 : decode cX12_item 168 = .ok (.aload_n 0, 1) := by decide +kernel
theorem dX12_item_169 : decode cX12_item 169 = .ok (.getfield 20, 3) := by decide +kernel
theorem dX12_item_172 : decode cX12_item 172 = .ok (.iload 4, 2) := by decide +kernel
theorem dX12_item_174 : decode cX12_item 174 = .ok (.iaload, 1) := by decide +kernel
theorem dX12_item_175 : decode cX12_item 175 = .ok (.goto 4, 3) := by decide +kernel
theorem dX12_item_180 : decode cX12_item 180 = .ok (.iload 5, 2) := by decide +kernel
theorem dX12_item_182 : decode cX12_item 182 = .ok (.ifCond .le 15, 3) := by decide +kernel
theorem dX12_item_197 : decode cX12_item 197 = .ok (.iconst 0, 1) := by decide +kernel
theorem dX12_item_198 : decode cX12_item 198 = .ok (.ireturn, 1) := by decide +kernel
theorem dX12_item_185 : decode cX12_item 185 = .ok (.aload_n 0, 1) := by decide +kernel
theorem dX12_item_186 : decode cX12_item 186 = .ok (.getfield 26, 3) := by decide +kernel
theorem dX12_item_189 : decode cX12_item 189 = .ok (.iconst 4, 1) := by decide +kernel
theorem dX12_item_190 : decode cX12_item 190 = .ok (.iload 4, 2) := by decide +kernel
theorem dX12_item_192 : decode cX12_item 192 = .ok (.imul, 1) := by decide +kernel
theorem dX12_item_193 : decode cX12_item 193 = .ok (.iaload, 1) := by decide +kernel
theorem dX12_item_194 : decode cX12_item 194 = .ok (.goto 4, 3) := by decide +kernel
theorem dX12_item_199 : decode cX12_item 199 = .ok (.iload 5, 2) := by decide +kernel
theorem dX12_item_201 : decode cX12_item 201 = .ok (.iconst 1, 1) := by decide +kernel
theorem dX12_item_202 : decode cX12_item 202 = .ok (.if_icmp .le 17, 3) := by decide +kernel
theorem dX12_item_219 : decode cX12_item 219 = .ok (.iconst 0, 1) := by decide +kernel
theorem dX12_item_220 : decode cX12_item 220 = .ok (.ireturn, 1) := by decide +kernel
theorem dX12_item_205 : decode cX12_item 205 = .ok (.aload_n 0, 1) := by decide +kernel
theorem dX12_item_206 : decode cX12_item 206 = .ok (.getfield 26, 3) := by decide +kernel
theorem dX12_item_209 : decode cX12_item 209 = .ok (.iconst 4, 1) := by decide +kernel
theorem dX12_item_210 : decode cX12_item 210 = .ok (.iload 4, 2) := by decide +kernel
theorem dX12_item_212 : decode cX12_item 212 = .ok (.imul, 1) := by decide +kernel
theorem dX12_item_213 : decode cX12_item 213 = .ok (.iconst 1, 1) := by decide +kernel
theorem dX12_item_214 : decode cX12_item 214 = .ok (.iadd, 1) := by decide +kernel
theorem dX12_item_215 : decode cX12_item 215 = .ok (.iaload, 1) := by decide +kernel
theorem dX12_item_216 : decode cX12_item 216 = .ok (.goto 4, 3) := by decide +kernel
theorem dX12_item_221 : decode cX12_item 221 = .ok (.iload 5, 2) := by decide +kernel
theorem dX12_item_223 : decode cX12_item 223 = .ok (.ifCond .le 15, 3) := by decide +kernel
theorem dX12_item_238 : decode cX12_item 238 = .ok (.iconst 0, 1) := by decide +kernel
theorem dX12_item_239 : decode cX12_item 239 = .ok (.ireturn, 1) := by decide +kernel
theorem dX12_item_226 : decode cX12_item 226 = .ok (.aload_n 0, 1) := by decide +kernel
theorem dX12_item_227 : decode cX12_item 227 = .ok (.getfield 29, 3) := by decide +kernel
theorem dX12_item_230 : decode cX12_item 230 = .ok (.iconst 4, 1) := by decide +kernel
theorem dX12_item_231 : decode cX12_item 231 = .ok (.iload 4, 2) := by decide +kernel
theorem dX12_item_233 : decode cX12_item 233 = .ok (.imul, 1) := by decide +kernel
theorem dX12_item_234 : decode cX12_item 234 = .ok (.iaload, 1) := by decide +kernel
theorem dX12_item_235 : decode cX12_item 235 = .ok (.goto 4, 3) := by decide +kernel
theorem dX12_item_240 : decode cX12_item 240 = .ok (.iload 5, 2) := by decide +kernel
theorem dX12_item_242 : decode cX12_item 242 = .ok (.iconst 1, 1) := by decide +kernel
theorem dX12_item_243 : decode cX12_item 243 = .ok (.if_icmp .le 17, 3) := by decide +kernel
theorem dX12_item_260 : decode cX12_item 260 = .ok (.iconst 0, 1) := by decide +kernel
theorem dX12_item_261 : decode cX12_item 261 = .ok (.ireturn, 1) := by decide +kernel
theorem dX12_item_246 : decode cX12_item 246 = .ok (.aload_n 0, 1) := by decide +kernel
theorem dX12_item_247 : decode cX12_item 247 = .ok (.getfield 29, 3) := by decide +kernel
theorem dX12_item_250 : decode cX12_item 250 = .ok (.iconst 4, 1) := by decide +kernel
theorem dX12_item_251 : decode cX12_item 251 = .ok (.iload 4, 2) := by decide +kernel
theorem dX12_item_253 : decode cX12_item 253 = .ok (.imul, 1) := by decide +kernel
theorem dX12_item_254 : decode cX12_item 254 = .ok (.iconst 1, 1) := by decide +kernel
theorem dX12_item_255 : decode cX12_item 255 = .ok (.iadd, 1) := by decide +kernel
theorem dX12_item_256 : decode cX12_item 256 = .ok (.iaload, 1) := by decide +kernel
theorem dX12_item_257 : decode cX12_item 257 = .ok (.goto 4, 3) := by decide +kernel
set_option maxHeartbeats 4000000 in
set_option maxRecDepth 20000 in
theorem c_X12_item (d : Nat) {b : Nat} {σ : MS} {x : Int} {k : Int} {w : Int} (hR : RG σ) (hit : ITM σ) (hpar : PAR σ) (hnam : NAM σ) (hrt : RTN σ) (h_x : -2147483648 ≤ x ∧ x ≤ 2147483647) (h_k : -2147483648 ≤ k ∧ k ≤ 2147483647) (h_w : -2147483648 ≤ w ∧ w ≤ 2147483647) : Tm (d + 4) m_X12_item 0 b σ [(0, .ref b), (1, .int (iI x)), (2, .int (iI k)), (3, .int (iI w))] [] (fun ro σ2 => ∃ v : Int, ro = some (.int (iI v)) ∧ (Fr [0] [] [] σ σ2) ∧ (RG σ2)) := by
  refine tm_aload_n dX12_item_0 rfl 0 rfl ?_
  refine tm_iconst dX12_item_1 ?_
  refine tm_putS (k := 0) (v := 0) lay_12 dX12_item_2 (by decide) fl12_185 rfl (tyX12_ok 0 (by decide)) rfl rfl rfl ?_
  refine tm_aload_n dX12_item_5 rfl 0 rfl ?_
  refine tm_iload_n dX12_item_6 rfl 1 rfl ?_
  refine tm_callV (M := m_X12_item) (pc := 7) (ix := 404) (M' := m_X12_isRoutine) (As := [.int (iI x)]) (rest := []) dX12_item_7 ok_X12_isRoutine im_X12_isRoutine se_X12_isRoutine ml12_404 np_X12_isRoutine rfl rfl (Nat.le_of_ble_eq_true rfl) (Nat.le_of_ble_eq_true rfl) rfl (c_X12_isRoutine (d + 1) (σ := (sS 0 0 σ)) (x := x) (hR.S (by omega)) hrt.1 (by omega)) (fun r1 σ2 hp => ?_)
  obtain ⟨v3, rfl, rfl, f4, f5⟩ := hp
  show Tm _ _ 10 b (sS 0 0 σ) [(0, .ref b), (1, .int (iI x)), (2, .int (iI k)), (3, .int (iI w))] [.int (iI v3)] _
  have e10 : (sS 0 0 σ).1 10 = σ.1 10 := rfl
  have hrt1 := hrt.1
  refine tm_if_eq (tgt := 39) dX12_item_10 (by decide) ⟨by omega, by omega⟩ (fun h6 => ?_) (fun h6 => ?_)
  · refine tm_iconst dX12_item_39 ?_
    exact tm_iret rfl dX12_item_40 (⟨_, rfl, (Fr.rfl.S (by decide)), (hR.S (by omega))⟩)
  · have hri := hrt.2 x (by omega) (by omega)
    have hof := hri.2.1
    have hok := hri.2.2.1
    have q1 := hof.1
    have q2 := hnam x (by omega) (by omega)
    have q3 := hpar x (by omega) (by omega)
    refine tm_iload_n dX12_item_13 rfl 2 rfl ?_
    refine tm_iconst dX12_item_14 ?_
    refine tm_aload_n dX12_item_15 rfl 0 rfl ?_
    refine tm_get (k := 9) (v := .ref (b + 1 + 7)) lay_12 dX12_item_16 (by decide) fl12_32 rfl ?_
    refine tm_iload_n dX12_item_19 rfl 1 rfl ?_
    refine tm_iald (z := x) (v := σ.2.1 9 x) dX12_item_20 (show mT[7]? = some (9, 0, 13) from rfl) (by omega) (by omega) (by decide) (ra_S (rfl)) ?_
    have g7 := RG.a hR 9 (x)
    refine tm_iconst dX12_item_21 ?_
    refine tm_isub dX12_item_22 ?_
    refine tm_callS (M := m_X12_item) (pc := 23) (ix := 188) (M' := m_X12_in) (As := [.int (iI k), .int (iI 0), .int (iI ((σ.2.1 9 x) - 1))]) (rest := []) dX12_item_23 ok_X12_in stt_X12_in ml12_188 np_X12_in rfl (Nat.le_of_ble_eq_true rfl) (Nat.le_of_ble_eq_true rfl) rfl (c_X12_in (d + 2) (σ := (sS 0 0 σ)) (x := k) (lo := 0) (hi := (σ.2.1 9 x) - 1) (by omega) (by omega) (by omega)) (fun r8 σ9 hp => ?_)
    obtain ⟨v10, rfl, rfl, f11, f12⟩ := hp
    show Tm _ _ 26 b (sS 0 0 σ) [(0, .ref b), (1, .int (iI x)), (2, .int (iI k)), (3, .int (iI w))] [.int (iI v10)] _
    refine tm_if_eq (tgt := 39) dX12_item_26 (by decide) ⟨by omega, by omega⟩ (fun h13 => ?_) (fun h13 => ?_)
    · refine tm_iconst dX12_item_39 ?_
      exact tm_iret rfl dX12_item_40 (⟨_, rfl, (Fr.rfl.S (by decide)), (hR.S (by omega))⟩)
    · refine tm_iload_n dX12_item_29 rfl 3 rfl ?_
      refine tm_iconst dX12_item_30 ?_
      refine tm_bipush dX12_item_31 (by decide) ?_
      refine tm_callS (M := m_X12_item) (pc := 33) (ix := 188) (M' := m_X12_in) (As := [.int (iI w), .int (iI 0), .int (iI 7)]) (rest := []) dX12_item_33 ok_X12_in stt_X12_in ml12_188 np_X12_in rfl (Nat.le_of_ble_eq_true rfl) (Nat.le_of_ble_eq_true rfl) rfl (c_X12_in (d + 2) (σ := (sS 0 0 σ)) (x := w) (lo := 0) (hi := 7) (by omega) (by omega) (by omega)) (fun r14 σ15 hp => ?_)
      obtain ⟨v16, rfl, rfl, f17, f18⟩ := hp
      show Tm _ _ 36 b (sS 0 0 σ) [(0, .ref b), (1, .int (iI x)), (2, .int (iI k)), (3, .int (iI w))] [.int (iI v16)] _
      refine tm_if_ne (tgt := 41) dX12_item_36 (by decide) ⟨by omega, by omega⟩ (fun h19 => ?_) (fun h19 => ?_)
      · refine tm_aload_n dX12_item_41 rfl 0 rfl ?_
        refine tm_iload_n dX12_item_42 rfl 1 rfl ?_
        refine tm_iload_n dX12_item_43 rfl 2 rfl ?_
        refine tm_callV (M := m_X12_item) (pc := 44) (ix := 203) (M' := m_X12_at) (As := [.int (iI x), .int (iI k)]) (rest := []) dX12_item_44 ok_X12_at im_X12_at se_X12_at ml12_203 np_X12_at rfl rfl (Nat.le_of_ble_eq_true rfl) (Nat.le_of_ble_eq_true rfl) rfl (c_X12_at (d + 2) (σ := (sS 0 0 σ)) (x := x) (k := k) ) (fun r20 σ21 hp => ?_)
        obtain ⟨v22, rfl, rfl, f23⟩ := hp
        subst f23
        show Tm _ _ 47 b (sS 0 0 σ) [(0, .ref b), (1, .int (iI x)), (2, .int (iI k)), (3, .int (iI w))] [.int (iI (220 * x + k))] _
        refine tm_istore (L' := [(4, .int (iI (220 * x + k))), (0, .ref b), (1, .int (iI x)), (2, .int (iI k)), (3, .int (iI w))]) dX12_item_47 (by decide) rfl ?_
        refine tm_aload_n dX12_item_49 rfl 1 rfl ?_
        refine tm_iload dX12_item_50 0 rfl ?_
        refine tm_callV (M := m_X12_item) (pc := 52) (ix := 199) (M' := m_X12_args) (As := [.int (iI (220 * x + k))]) (rest := []) dX12_item_52 ok_X12_args im_X12_args se_X12_args ml12_199 np_X12_args rfl rfl (Nat.le_of_ble_eq_true rfl) (Nat.le_of_ble_eq_true rfl) rfl (c_X12_args (d) (σ := (sS 0 0 σ)) (x := 220 * x + k) (by omega) (hR.S (by omega)) (OKS.of (hok.fr (show Fr [0] [] [] σ (sS 0 0 σ) from (Fr.rfl.S (by decide))) (by decide)) (by omega) (by rw [((show Fr [0] [] [] σ (sS 0 0 σ) from (Fr.rfl.S (by decide)))).2.1 9 (by decide)]; omega)) (hpar.fr (show Fr [0] [] [] σ (sS 0 0 σ) from (Fr.rfl.S (by decide))) (by decide))) (fun r24 σ25 hp => ?_)
        obtain ⟨v26, rfl, rfl, f27, f28⟩ := hp
        show Tm _ _ 55 b (sS 0 0 σ) [(4, .int (iI (220 * x + k))), (0, .ref b), (1, .int (iI x)), (2, .int (iI k)), (3, .int (iI w))] [.int (iI v26)] _
        refine tm_istore (L' := [(5, .int (iI v26)), (4, .int (iI (220 * x + k))), (0, .ref b), (1, .int (iI x)), (2, .int (iI k)), (3, .int (iI w))]) dX12_item_55 (by decide) rfl ?_
        refine tm_iload_n dX12_item_57 rfl 5 rfl ?_
        by_cases h29 : w < 0 ∨ 6 < w
        · refine tm_tableOut (tgt := 262) dX12_item_58 ⟨by omega, by omega⟩ h29 (by decide) ?_
          refine tm_aload_n dX12_item_262 rfl 2 rfl ?_
          refine tm_get (k := 3) (v := .ref (b + 1 + 1)) lay_12 dX12_item_263 (by decide) fl12_13 rfl ?_
          refine tm_iload dX12_item_266 1 rfl ?_
          refine tm_iald (z := 220 * x + k) (v := σ.2.1 3 (220 * x + k)) dX12_item_268 (show mT[1]? = some (3, 0, 2860) from rfl) (by omega) (by omega) (by decide) (ra_S (rfl)) ?_
          have g30 := RG.a hR 3 (220 * x + k)
          refine tm_bipush dX12_item_269 (by decide) ?_
          refine tm_icmp_ne (tgt := 284) dX12_item_271 (by decide) ⟨by omega, by omega⟩ ⟨by decide, by decide⟩ (fun h31 => ?_) (fun h31 => ?_)
          · refine tm_iconst dX12_item_284 ?_
            exact tm_iret rfl dX12_item_285 (⟨_, rfl, (Fr.rfl.S (by decide)), (hR.S (by omega))⟩)
          · refine tm_aload_n dX12_item_274 rfl 2 rfl ?_
            refine tm_get (k := 6) (v := .ref (b + 1 + 4)) lay_12 dX12_item_275 (by decide) fl12_23 rfl ?_
            refine tm_iload dX12_item_278 1 rfl ?_
            refine tm_iald (z := 220 * x + k) (v := σ.2.1 6 (220 * x + k)) dX12_item_280 (show mT[4]? = some (6, 0, 2860) from rfl) (by omega) (by omega) (by decide) (ra_S (rfl)) ?_
            have g32 := RG.a hR 6 (220 * x + k)
            refine tm_goto (tgt := 285) dX12_item_281 (by decide) ?_
            exact tm_iret rfl dX12_item_285 (⟨_, rfl, (Fr.rfl.S (by decide)), (hR.S (by omega))⟩)
        · have h29c : w = 0 ∨ w = 1 ∨ w = 2 ∨ w = 3 ∨ w = 4 ∨ w = 5 ∨ w = 6 := by omega
          rcases h29c with h29v | h29v | h29v | h29v | h29v | h29v | h29v
          · refine tm_tableIn (tgt := 100) dX12_item_58 ⟨by omega, by omega⟩ (by omega) (by omega) (show _ = some (42) by rw [h29v]; rfl) (by decide) ?_
            refine tm_aload_n dX12_item_100 rfl 2 rfl ?_
            refine tm_get (k := 3) (v := .ref (b + 1 + 1)) lay_12 dX12_item_101 (by decide) fl12_13 rfl ?_
            refine tm_iload dX12_item_104 1 rfl ?_
            refine tm_iald (z := 220 * x + k) (v := σ.2.1 3 (220 * x + k)) dX12_item_106 (show mT[1]? = some (3, 0, 2860) from rfl) (by omega) (by omega) (by decide) (ra_S (rfl)) ?_
            have g33 := RG.a hR 3 (220 * x + k)
            exact tm_iret rfl dX12_item_107 (⟨_, rfl, (Fr.rfl.S (by decide)), (hR.S (by omega))⟩)
          · refine tm_tableIn (tgt := 108) dX12_item_58 ⟨by omega, by omega⟩ (by omega) (by omega) (show _ = some (50) by rw [h29v]; rfl) (by decide) ?_
            refine tm_aload_n dX12_item_108 rfl 2 rfl ?_
            refine tm_get (k := 3) (v := .ref (b + 1 + 1)) lay_12 dX12_item_109 (by decide) fl12_13 rfl ?_
            refine tm_iload dX12_item_112 1 rfl ?_
            refine tm_iald (z := 220 * x + k) (v := σ.2.1 3 (220 * x + k)) dX12_item_114 (show mT[1]? = some (3, 0, 2860) from rfl) (by omega) (by omega) (by decide) (ra_S (rfl)) ?_
            have g34 := RG.a hR 3 (220 * x + k)
            refine tm_bipush dX12_item_115 (by decide) ?_
            refine tm_icmp_eq (tgt := 132) dX12_item_117 (by decide) ⟨by omega, by omega⟩ ⟨by decide, by decide⟩ (fun h35 => ?_) (fun h35 => ?_)
            · refine tm_iconst dX12_item_132 ?_
              refine tm_goto (tgt := 143) dX12_item_133 (by decide) ?_
              exact tm_iret rfl dX12_item_143 (⟨_, rfl, (Fr.rfl.S (by decide)), (hR.S (by omega))⟩)
            · refine tm_aload_n dX12_item_120 rfl 2 rfl ?_
              refine tm_get (k := 3) (v := .ref (b + 1 + 1)) lay_12 dX12_item_121 (by decide) fl12_13 rfl ?_
              refine tm_iload dX12_item_124 1 rfl ?_
              refine tm_iald (z := 220 * x + k) (v := σ.2.1 3 (220 * x + k)) dX12_item_126 (show mT[1]? = some (3, 0, 2860) from rfl) (by omega) (by omega) (by decide) (ra_S (rfl)) ?_
              have g36 := RG.a hR 3 (220 * x + k)
              refine tm_bipush dX12_item_127 (by decide) ?_
              refine tm_icmp_ne (tgt := 136) dX12_item_129 (by decide) ⟨by omega, by omega⟩ ⟨by decide, by decide⟩ (fun h37 => ?_) (fun h37 => ?_)
              · refine tm_aload_n dX12_item_136 rfl 2 rfl ?_
                refine tm_get (k := 4) (v := .ref (b + 1 + 2)) lay_12 dX12_item_137 (by decide) fl12_17 rfl ?_
                refine tm_iload dX12_item_140 1 rfl ?_
                refine tm_iald (z := 220 * x + k) (v := σ.2.1 4 (220 * x + k)) dX12_item_142 (show mT[2]? = some (4, 0, 2860) from rfl) (by omega) (by omega) (by decide) (ra_S (rfl)) ?_
                have g38 := RG.a hR 4 (220 * x + k)
                exact tm_iret rfl dX12_item_143 (⟨_, rfl, (Fr.rfl.S (by decide)), (hR.S (by omega))⟩)
              · refine tm_iconst dX12_item_132 ?_
                refine tm_goto (tgt := 143) dX12_item_133 (by decide) ?_
                exact tm_iret rfl dX12_item_143 (⟨_, rfl, (Fr.rfl.S (by decide)), (hR.S (by omega))⟩)
          · refine tm_tableIn (tgt := 144) dX12_item_58 ⟨by omega, by omega⟩ (by omega) (by omega) (show _ = some (86) by rw [h29v]; rfl) (by decide) ?_
            refine tm_aload_n dX12_item_144 rfl 2 rfl ?_
            refine tm_get (k := 3) (v := .ref (b + 1 + 1)) lay_12 dX12_item_145 (by decide) fl12_13 rfl ?_
            refine tm_iload dX12_item_148 1 rfl ?_
            refine tm_iald (z := 220 * x + k) (v := σ.2.1 3 (220 * x + k)) dX12_item_150 (show mT[1]? = some (3, 0, 2860) from rfl) (by omega) (by omega) (by decide) (ra_S (rfl)) ?_
            have g39 := RG.a hR 3 (220 * x + k)
            refine tm_bipush dX12_item_151 (by decide) ?_
            refine tm_icmp_lt (tgt := 178) dX12_item_153 (by decide) ⟨by omega, by omega⟩ ⟨by decide, by decide⟩ (fun h40 => ?_) (fun h40 => ?_)
            · refine tm_iconst dX12_item_178 ?_
              exact tm_iret rfl dX12_item_179 (⟨_, rfl, (Fr.rfl.S (by decide)), (hR.S (by omega))⟩)
            · refine tm_aload_n dX12_item_156 rfl 2 rfl ?_
              refine tm_get (k := 3) (v := .ref (b + 1 + 1)) lay_12 dX12_item_157 (by decide) fl12_13 rfl ?_
              refine tm_iload dX12_item_160 1 rfl ?_
              refine tm_iald (z := 220 * x + k) (v := σ.2.1 3 (220 * x + k)) dX12_item_162 (show mT[1]? = some (3, 0, 2860) from rfl) (by omega) (by omega) (by decide) (ra_S (rfl)) ?_
              have g41 := RG.a hR 3 (220 * x + k)
              refine tm_bipush dX12_item_163 (by decide) ?_
              refine tm_icmp_gt (tgt := 178) dX12_item_165 (by decide) ⟨by omega, by omega⟩ ⟨by decide, by decide⟩ (fun h42 => ?_) (fun h42 => ?_)
              · refine tm_iconst dX12_item_178 ?_
                exact tm_iret rfl dX12_item_179 (⟨_, rfl, (Fr.rfl.S (by decide)), (hR.S (by omega))⟩)
              · refine tm_aload_n dX12_item_168 rfl 2 rfl ?_
                refine tm_get (k := 5) (v := .ref (b + 1 + 3)) lay_12 dX12_item_169 (by decide) fl12_20 rfl ?_
                refine tm_iload dX12_item_172 1 rfl ?_
                refine tm_iald (z := 220 * x + k) (v := σ.2.1 5 (220 * x + k)) dX12_item_174 (show mT[3]? = some (5, 0, 2860) from rfl) (by omega) (by omega) (by decide) (ra_S (rfl)) ?_
                have g43 := RG.a hR 5 (220 * x + k)
                refine tm_goto (tgt := 179) dX12_item_175 (by decide) ?_
                exact tm_iret rfl dX12_item_179 (⟨_, rfl, (Fr.rfl.S (by decide)), (hR.S (by omega))⟩)
          · refine tm_tableIn (tgt := 180) dX12_item_58 ⟨by omega, by omega⟩ (by omega) (by omega) (show _ = some (122) by rw [h29v]; rfl) (by decide) ?_
            refine tm_iload dX12_item_180 0 rfl ?_
            refine tm_if_le (tgt := 197) dX12_item_182 (by decide) ⟨by omega, by omega⟩ (fun h44 => ?_) (fun h44 => ?_)
            · refine tm_iconst dX12_item_197 ?_
              exact tm_iret rfl dX12_item_198 (⟨_, rfl, (Fr.rfl.S (by decide)), (hR.S (by omega))⟩)
            · refine tm_aload_n dX12_item_185 rfl 2 rfl ?_
              refine tm_get (k := 7) (v := .ref (b + 1 + 5)) lay_12 dX12_item_186 (by decide) fl12_26 rfl ?_
              refine tm_iconst dX12_item_189 ?_
              refine tm_iload dX12_item_190 1 rfl ?_
              refine tm_imul dX12_item_192 ?_
              refine tm_iald (z := 4 * (220 * x + k)) (v := σ.2.1 7 (4 * (220 * x + k))) dX12_item_193 (show mT[5]? = some (7, 0, 11440) from rfl) (by omega) (by omega) (by decide) (ra_S (rfl)) ?_
              have g45 := RG.a hR 7 (4 * (220 * x + k))
              refine tm_goto (tgt := 198) dX12_item_194 (by decide) ?_
              exact tm_iret rfl dX12_item_198 (⟨_, rfl, (Fr.rfl.S (by decide)), (hR.S (by omega))⟩)
          · refine tm_tableIn (tgt := 199) dX12_item_58 ⟨by omega, by omega⟩ (by omega) (by omega) (show _ = some (141) by rw [h29v]; rfl) (by decide) ?_
            refine tm_iload dX12_item_199 0 rfl ?_
            refine tm_iconst dX12_item_201 ?_
            refine tm_icmp_le (tgt := 219) dX12_item_202 (by decide) ⟨by omega, by omega⟩ ⟨by decide, by decide⟩ (fun h46 => ?_) (fun h46 => ?_)
            · refine tm_iconst dX12_item_219 ?_
              exact tm_iret rfl dX12_item_220 (⟨_, rfl, (Fr.rfl.S (by decide)), (hR.S (by omega))⟩)
            · refine tm_aload_n dX12_item_205 rfl 2 rfl ?_
              refine tm_get (k := 7) (v := .ref (b + 1 + 5)) lay_12 dX12_item_206 (by decide) fl12_26 rfl ?_
              refine tm_iconst dX12_item_209 ?_
              refine tm_iload dX12_item_210 1 rfl ?_
              refine tm_imul dX12_item_212 ?_
              refine tm_iconst dX12_item_213 ?_
              refine tm_iadd dX12_item_214 ?_
              refine tm_iald (z := (4 * (220 * x + k)) + 1) (v := σ.2.1 7 ((4 * (220 * x + k)) + 1)) dX12_item_215 (show mT[5]? = some (7, 0, 11440) from rfl) (by omega) (by omega) (by decide) (ra_S (rfl)) ?_
              have g47 := RG.a hR 7 ((4 * (220 * x + k)) + 1)
              refine tm_goto (tgt := 220) dX12_item_216 (by decide) ?_
              exact tm_iret rfl dX12_item_220 (⟨_, rfl, (Fr.rfl.S (by decide)), (hR.S (by omega))⟩)
          · refine tm_tableIn (tgt := 221) dX12_item_58 ⟨by omega, by omega⟩ (by omega) (by omega) (show _ = some (163) by rw [h29v]; rfl) (by decide) ?_
            refine tm_iload dX12_item_221 0 rfl ?_
            refine tm_if_le (tgt := 238) dX12_item_223 (by decide) ⟨by omega, by omega⟩ (fun h48 => ?_) (fun h48 => ?_)
            · refine tm_iconst dX12_item_238 ?_
              exact tm_iret rfl dX12_item_239 (⟨_, rfl, (Fr.rfl.S (by decide)), (hR.S (by omega))⟩)
            · refine tm_aload_n dX12_item_226 rfl 2 rfl ?_
              refine tm_get (k := 8) (v := .ref (b + 1 + 6)) lay_12 dX12_item_227 (by decide) fl12_29 rfl ?_
              refine tm_iconst dX12_item_230 ?_
              refine tm_iload dX12_item_231 1 rfl ?_
              refine tm_imul dX12_item_233 ?_
              refine tm_iald (z := 4 * (220 * x + k)) (v := σ.2.1 8 (4 * (220 * x + k))) dX12_item_234 (show mT[6]? = some (8, 0, 11440) from rfl) (by omega) (by omega) (by decide) (ra_S (rfl)) ?_
              have g49 := RG.a hR 8 (4 * (220 * x + k))
              refine tm_goto (tgt := 239) dX12_item_235 (by decide) ?_
              exact tm_iret rfl dX12_item_239 (⟨_, rfl, (Fr.rfl.S (by decide)), (hR.S (by omega))⟩)
          · refine tm_tableIn (tgt := 240) dX12_item_58 ⟨by omega, by omega⟩ (by omega) (by omega) (show _ = some (182) by rw [h29v]; rfl) (by decide) ?_
            refine tm_iload dX12_item_240 0 rfl ?_
            refine tm_iconst dX12_item_242 ?_
            refine tm_icmp_le (tgt := 260) dX12_item_243 (by decide) ⟨by omega, by omega⟩ ⟨by decide, by decide⟩ (fun h50 => ?_) (fun h50 => ?_)
            · refine tm_iconst dX12_item_260 ?_
              exact tm_iret rfl dX12_item_261 (⟨_, rfl, (Fr.rfl.S (by decide)), (hR.S (by omega))⟩)
            · refine tm_aload_n dX12_item_246 rfl 2 rfl ?_
              refine tm_get (k := 8) (v := .ref (b + 1 + 6)) lay_12 dX12_item_247 (by decide) fl12_29 rfl ?_
              refine tm_iconst dX12_item_250 ?_
              refine tm_iload dX12_item_251 1 rfl ?_
              refine tm_imul dX12_item_253 ?_
              refine tm_iconst dX12_item_254 ?_
              refine tm_iadd dX12_item_255 ?_
              refine tm_iald (z := (4 * (220 * x + k)) + 1) (v := σ.2.1 8 ((4 * (220 * x + k)) + 1)) dX12_item_256 (show mT[6]? = some (8, 0, 11440) from rfl) (by omega) (by omega) (by decide) (ra_S (rfl)) ?_
              have g51 := RG.a hR 8 ((4 * (220 * x + k)) + 1)
              refine tm_goto (tgt := 261) dX12_item_257 (by decide) ?_
              exact tm_iret rfl dX12_item_261 (⟨_, rfl, (Fr.rfl.S (by decide)), (hR.S (by omega))⟩)
      · refine tm_iconst dX12_item_39 ?_
        exact tm_iret rfl dX12_item_40 (⟨_, rfl, (Fr.rfl.S (by decide)), (hR.S (by omega))⟩)
theorem fl12_53 : Cond.fieldLink RX12 53 (TX12 17).1 (TX12 17).2.1 (TX12 17).2.2.1 ∈ pWW := pw7 (List.mem_of_getElem? (i := 24) rfl) rfl
theorem fl12_50 : Cond.fieldLink RX12 50 (TX12 16).1 (TX12 16).2.1 (TX12 16).2.2.1 ∈ pWW := pw7 (List.mem_of_getElem? (i := 23) rfl) rfl
theorem dX12_frame_0 : decode cX12_frame 0 = .ok (.aload_n 0, 1) := by decide +kernel
theorem dX12_frame_1 : decode cX12_frame 1 = .ok (.iconst 0, 1) := by decide +kernel
theorem dX12_frame_2 : decode cX12_frame 2 = .ok (.putfield 185, 3) := by decide +kernel
theorem dX12_frame_5 : decode cX12_frame 5 = .ok (.aload_n 0, 1) := by decide +kernel
theorem dX12_frame_6 : decode cX12_frame 6 = .ok (.iload_n 1, 1) := by decide +kernel
theorem dX12_frame_7 : decode cX12_frame 7 = .ok (.invokevirtual 404, 3) := by decide +kernel
theorem dX12_frame_10 : decode cX12_frame 10 = .ok (.ifCond .eq 19, 3) := by decide +kernel
theorem dX12_frame_29 : decode cX12_frame 29 = .ok (.iconst (-1), 1) := by decide +kernel
theorem dX12_frame_30 : decode cX12_frame 30 = .ok (.ireturn, 1) := by decide +kernel
theorem dX12_frame_13 : decode cX12_frame 13 = .ok (.iload_n 2, 1) := by decide +kernel
theorem dX12_frame_14 : decode cX12_frame 14 = .ok (.iconst 0, 1) := by decide +kernel
theorem dX12_frame_15 : decode cX12_frame 15 = .ok (.aload_n 0, 1) := by decide +kernel
theorem dX12_frame_16 : decode cX12_frame 16 = .ok (.getfield 44, 3) := by decide +kernel
theorem dX12_frame_19 : decode cX12_frame 19 = .ok (.iload_n 1, 1) := by decide +kernel
theorem dX12_frame_20 : decode cX12_frame 20 = .ok (.iaload, 1) := by decide +kernel
theorem dX12_frame_21 : decode cX12_frame 21 = .ok (.iconst 1, 1) := by decide +kernel
theorem dX12_frame_22 : decode cX12_frame 22 = .ok (.isub, 1) := by decide +kernel
theorem dX12_frame_23 : decode cX12_frame 23 = .ok (.invokestatic 188, 3) := by decide +kernel
theorem dX12_frame_26 : decode cX12_frame 26 = .ok (.ifCond .ne 5, 3) := by decide +kernel
theorem dX12_frame_31 : decode cX12_frame 31 = .ok (.bipush 12, 2) := by decide +kernel
theorem dX12_frame_33 : decode cX12_frame 33 = .ok (.iload_n 1, 1) := by decide +kernel
theorem dX12_frame_34 : decode cX12_frame 34 = .ok (.imul, 1) := by decide +kernel
theorem dX12_frame_35 : decode cX12_frame 35 = .ok (.iload_n 2, 1) := by decide +kernel
theorem dX12_frame_36 : decode cX12_frame 36 = .ok (.iadd, 1) := by decide +kernel
theorem dX12_frame_37 : decode cX12_frame 37 = .ok (.istore 4, 2) := by decide +kernel
theorem dX12_frame_39 : decode cX12_frame 39 = .ok (.iload_n 3, 1) := by decide +kernel
theorem dX12_frame_40 : decode cX12_frame 40 = .ok (.ifCond .ne 13, 3) := by decide +kernel
theorem dX12_frame_53 : decode cX12_frame 53 = .ok (.iload_n 3, 1) := by decide +kernel
theorem dX12_frame_54 : decode cX12_frame 54 = .ok (.iconst 1, 1) := by decide +kernel
theorem dX12_frame_55 : decode cX12_frame 55 = .ok (.if_icmp .ne 13, 3) := by decide +kernel
theorem dX12_frame_68 : decode cX12_frame 68 = .ok (.iload_n 3, 1) := by decide +kernel
theorem dX12_frame_69 : decode cX12_frame 69 = .ok (.iconst 2, 1) := by decide +kernel
theorem dX12_frame_70 : decode cX12_frame 70 = .ok (.if_icmp .ne 13, 3) := by decide +kernel
theorem dX12_frame_83 : decode cX12_frame 83 = .ok (.iconst (-1), 1) := by decide +kernel
theorem dX12_frame_84 : decode cX12_frame 84 = .ok (.ireturn, 1) := by decide +kernel
theorem dX12_frame_73 : decode cX12_frame 73 = .ok (.aload_n 0, 1) := by decide +kernel
theorem dX12_frame_74 : decode cX12_frame 74 = .ok (.getfield 53, 3) := by decide +kernel
theorem dX12_frame_77 : decode cX12_frame 77 = .ok (.iload 4, 2) := by decide +kernel
theorem dX12_frame_79 : decode cX12_frame 79 = .ok (.iaload, 1) := by decide +kernel
theorem dX12_frame_80 : decode cX12_frame 80 = .ok (.goto 4, 3) := by decide +kernel
theorem dX12_frame_58 : decode cX12_frame 58 = .ok (.aload_n 0, 1) := by decide +kernel
theorem dX12_frame_59 : decode cX12_frame 59 = .ok (.getfield 50, 3) := by decide +kernel
theorem dX12_frame_62 : decode cX12_frame 62 = .ok (.iload 4, 2) := by decide +kernel
theorem dX12_frame_64 : decode cX12_frame 64 = .ok (.iaload, 1) := by decide +kernel
theorem dX12_frame_65 : decode cX12_frame 65 = .ok (.goto 19, 3) := by decide +kernel
theorem dX12_frame_43 : decode cX12_frame 43 = .ok (.aload_n 0, 1) := by decide +kernel
theorem dX12_frame_44 : decode cX12_frame 44 = .ok (.getfield 47, 3) := by decide +kernel
theorem dX12_frame_47 : decode cX12_frame 47 = .ok (.iload 4, 2) := by decide +kernel
theorem dX12_frame_49 : decode cX12_frame 49 = .ok (.iaload, 1) := by decide +kernel
theorem dX12_frame_50 : decode cX12_frame 50 = .ok (.goto 34, 3) := by decide +kernel
set_option maxHeartbeats 4000000 in
set_option maxRecDepth 20000 in
theorem c_X12_frame (d : Nat) {b : Nat} {σ : MS} {x : Int} {f : Int} {w : Int} (hR : RG σ) (hit : ITM σ) (hpar : PAR σ) (hnam : NAM σ) (hrt : RTN σ) (h_x : -2147483648 ≤ x ∧ x ≤ 2147483647) (h_f : -2147483648 ≤ f ∧ f ≤ 2147483647) (h_w : -2147483648 ≤ w ∧ w ≤ 2147483647) : Tm (d + 4) m_X12_frame 0 b σ [(0, .ref b), (1, .int (iI x)), (2, .int (iI f)), (3, .int (iI w))] [] (fun ro σ2 => ∃ v : Int, ro = some (.int (iI v)) ∧ (Fr [0] [] [] σ σ2) ∧ (RG σ2)) := by
  refine tm_aload_n dX12_frame_0 rfl 0 rfl ?_
  refine tm_iconst dX12_frame_1 ?_
  refine tm_putS (k := 0) (v := 0) lay_12 dX12_frame_2 (by decide) fl12_185 rfl (tyX12_ok 0 (by decide)) rfl rfl rfl ?_
  refine tm_aload_n dX12_frame_5 rfl 0 rfl ?_
  refine tm_iload_n dX12_frame_6 rfl 1 rfl ?_
  refine tm_callV (M := m_X12_frame) (pc := 7) (ix := 404) (M' := m_X12_isRoutine) (As := [.int (iI x)]) (rest := []) dX12_frame_7 ok_X12_isRoutine im_X12_isRoutine se_X12_isRoutine ml12_404 np_X12_isRoutine rfl rfl (Nat.le_of_ble_eq_true rfl) (Nat.le_of_ble_eq_true rfl) rfl (c_X12_isRoutine (d + 1) (σ := (sS 0 0 σ)) (x := x) (hR.S (by omega)) hrt.1 (by omega)) (fun r1 σ2 hp => ?_)
  obtain ⟨v3, rfl, rfl, f4, f5⟩ := hp
  show Tm _ _ 10 b (sS 0 0 σ) [(0, .ref b), (1, .int (iI x)), (2, .int (iI f)), (3, .int (iI w))] [.int (iI v3)] _
  have e10 : (sS 0 0 σ).1 10 = σ.1 10 := rfl
  have hrt1 := hrt.1
  refine tm_if_eq (tgt := 29) dX12_frame_10 (by decide) ⟨by omega, by omega⟩ (fun h6 => ?_) (fun h6 => ?_)
  · refine tm_iconst dX12_frame_29 ?_
    exact tm_iret rfl dX12_frame_30 (⟨_, rfl, (Fr.rfl.S (by decide)), (hR.S (by omega))⟩)
  · have hri := hrt.2 x (by omega) (by omega)
    have hof := hri.2.1
    have hok := hri.2.2.1
    have q1 := hof.1
    have q2 := hnam x (by omega) (by omega)
    have q3 := hpar x (by omega) (by omega)
    refine tm_iload_n dX12_frame_13 rfl 2 rfl ?_
    refine tm_iconst dX12_frame_14 ?_
    refine tm_aload_n dX12_frame_15 rfl 0 rfl ?_
    refine tm_get (k := 14) (v := .ref (b + 1 + 11)) lay_12 dX12_frame_16 (by decide) fl12_44 rfl ?_
    refine tm_iload_n dX12_frame_19 rfl 1 rfl ?_
    refine tm_iald (z := x) (v := σ.2.1 14 x) dX12_frame_20 (show mT[11]? = some (14, 0, 6) from rfl) (by omega) (by omega) (by decide) (ra_S (rfl)) ?_
    have g7 := RG.a hR 14 (x)
    refine tm_iconst dX12_frame_21 ?_
    refine tm_isub dX12_frame_22 ?_
    refine tm_callS (M := m_X12_frame) (pc := 23) (ix := 188) (M' := m_X12_in) (As := [.int (iI f), .int (iI 0), .int (iI ((σ.2.1 14 x) - 1))]) (rest := []) dX12_frame_23 ok_X12_in stt_X12_in ml12_188 np_X12_in rfl (Nat.le_of_ble_eq_true rfl) (Nat.le_of_ble_eq_true rfl) rfl (c_X12_in (d + 2) (σ := (sS 0 0 σ)) (x := f) (lo := 0) (hi := (σ.2.1 14 x) - 1) (by omega) (by omega) (by omega)) (fun r8 σ9 hp => ?_)
    obtain ⟨v10, rfl, rfl, f11, f12⟩ := hp
    show Tm _ _ 26 b (sS 0 0 σ) [(0, .ref b), (1, .int (iI x)), (2, .int (iI f)), (3, .int (iI w))] [.int (iI v10)] _
    refine tm_if_ne (tgt := 31) dX12_frame_26 (by decide) ⟨by omega, by omega⟩ (fun h13 => ?_) (fun h13 => ?_)
    · refine tm_bipush dX12_frame_31 (by decide) ?_
      refine tm_iload_n dX12_frame_33 rfl 1 rfl ?_
      refine tm_imul dX12_frame_34 ?_
      refine tm_iload_n dX12_frame_35 rfl 2 rfl ?_
      refine tm_iadd dX12_frame_36 ?_
      refine tm_istore (L' := [(4, .int (iI ((12 * x) + f))), (0, .ref b), (1, .int (iI x)), (2, .int (iI f)), (3, .int (iI w))]) dX12_frame_37 (by decide) rfl ?_
      refine tm_iload_n dX12_frame_39 rfl 4 rfl ?_
      refine tm_if_ne (tgt := 53) dX12_frame_40 (by decide) ⟨by omega, by omega⟩ (fun h14 => ?_) (fun h14 => ?_)
      · refine tm_iload_n dX12_frame_53 rfl 4 rfl ?_
        refine tm_iconst dX12_frame_54 ?_
        refine tm_icmp_ne (tgt := 68) dX12_frame_55 (by decide) ⟨by omega, by omega⟩ ⟨by decide, by decide⟩ (fun h15 => ?_) (fun h15 => ?_)
        · refine tm_iload_n dX12_frame_68 rfl 4 rfl ?_
          refine tm_iconst dX12_frame_69 ?_
          refine tm_icmp_ne (tgt := 83) dX12_frame_70 (by decide) ⟨by omega, by omega⟩ ⟨by decide, by decide⟩ (fun h16 => ?_) (fun h16 => ?_)
          · refine tm_iconst dX12_frame_83 ?_
            exact tm_iret rfl dX12_frame_84 (⟨_, rfl, (Fr.rfl.S (by decide)), (hR.S (by omega))⟩)
          · refine tm_aload_n dX12_frame_73 rfl 1 rfl ?_
            refine tm_get (k := 17) (v := .ref (b + 1 + 14)) lay_12 dX12_frame_74 (by decide) fl12_53 rfl ?_
            refine tm_iload dX12_frame_77 0 rfl ?_
            refine tm_iald (z := (12 * x) + f) (v := σ.2.1 17 ((12 * x) + f)) dX12_frame_79 (show mT[14]? = some (17, 0, 72) from rfl) (by omega) (by omega) (by decide) (ra_S (rfl)) ?_
            have g17 := RG.a hR 17 ((12 * x) + f)
            refine tm_goto (tgt := 84) dX12_frame_80 (by decide) ?_
            exact tm_iret rfl dX12_frame_84 (⟨_, rfl, (Fr.rfl.S (by decide)), (hR.S (by omega))⟩)
        · refine tm_aload_n dX12_frame_58 rfl 1 rfl ?_
          refine tm_get (k := 16) (v := .ref (b + 1 + 13)) lay_12 dX12_frame_59 (by decide) fl12_50 rfl ?_
          refine tm_iload dX12_frame_62 0 rfl ?_
          refine tm_iald (z := (12 * x) + f) (v := σ.2.1 16 ((12 * x) + f)) dX12_frame_64 (show mT[13]? = some (16, 0, 72) from rfl) (by omega) (by omega) (by decide) (ra_S (rfl)) ?_
          have g18 := RG.a hR 16 ((12 * x) + f)
          refine tm_goto (tgt := 84) dX12_frame_65 (by decide) ?_
          exact tm_iret rfl dX12_frame_84 (⟨_, rfl, (Fr.rfl.S (by decide)), (hR.S (by omega))⟩)
      · refine tm_aload_n dX12_frame_43 rfl 1 rfl ?_
        refine tm_get (k := 15) (v := .ref (b + 1 + 12)) lay_12 dX12_frame_44 (by decide) fl12_47 rfl ?_
        refine tm_iload dX12_frame_47 0 rfl ?_
        refine tm_iald (z := (12 * x) + f) (v := σ.2.1 15 ((12 * x) + f)) dX12_frame_49 (show mT[12]? = some (15, 0, 72) from rfl) (by omega) (by omega) (by decide) (ra_S (rfl)) ?_
        have g19 := RG.a hR 15 ((12 * x) + f)
        refine tm_goto (tgt := 84) dX12_frame_50 (by decide) ?_
        exact tm_iret rfl dX12_frame_84 (⟨_, rfl, (Fr.rfl.S (by decide)), (hR.S (by omega))⟩)
    · refine tm_iconst dX12_frame_29 ?_
      exact tm_iret rfl dX12_frame_30 (⟨_, rfl, (Fr.rfl.S (by decide)), (hR.S (by omega))⟩)
theorem ml12_430 : Cond.methodLink RX12 430 yX12_findStates ∈ pWW := pw9 (List.mem_of_getElem? (i := 74) rfl) rfl
theorem dX12_told_0 : decode cX12_told 0 = .ok (.aload_n 0, 1) := by decide +kernel
theorem dX12_told_1 : decode cX12_told 1 = .ok (.iconst 0, 1) := by decide +kernel
theorem dX12_told_2 : decode cX12_told 2 = .ok (.putfield 185, 3) := by decide +kernel
theorem dX12_told_5 : decode cX12_told 5 = .ok (.aload_n 0, 1) := by decide +kernel
theorem dX12_told_6 : decode cX12_told 6 = .ok (.iload_n 1, 1) := by decide +kernel
theorem dX12_told_7 : decode cX12_told 7 = .ok (.invokevirtual 404, 3) := by decide +kernel
theorem dX12_told_10 : decode cX12_told 10 = .ok (.ifCond .eq 70, 3) := by decide +kernel
theorem dX12_told_80 : decode cX12_told 80 = .ok (.iconst (-1), 1) := by decide +kernel
theorem dX12_told_81 : decode cX12_told 81 = .ok (.ireturn, 1) := by decide +kernel
theorem dX12_told_13 : decode cX12_told 13 = .ok (.iload_n 2, 1) := by decide +kernel
theorem dX12_told_14 : decode cX12_told 14 = .ok (.iconst 0, 1) := by decide +kernel
theorem dX12_told_15 : decode cX12_told 15 = .ok (.aload_n 0, 1) := by decide +kernel
theorem dX12_told_16 : decode cX12_told 16 = .ok (.getfield 32, 3) := by decide +kernel
theorem dX12_told_19 : decode cX12_told 19 = .ok (.iload_n 1, 1) := by decide +kernel
theorem dX12_told_20 : decode cX12_told 20 = .ok (.iaload, 1) := by decide +kernel
theorem dX12_told_21 : decode cX12_told 21 = .ok (.invokestatic 188, 3) := by decide +kernel
theorem dX12_told_24 : decode cX12_told 24 = .ok (.ifCond .eq 56, 3) := by decide +kernel
theorem dX12_told_27 : decode cX12_told 27 = .ok (.iload_n 3, 1) := by decide +kernel
theorem dX12_told_28 : decode cX12_told 28 = .ok (.iconst 0, 1) := by decide +kernel
theorem dX12_told_29 : decode cX12_told 29 = .ok (.aload_n 0, 1) := by decide +kernel
theorem dX12_told_30 : decode cX12_told 30 = .ok (.getfield 44, 3) := by decide +kernel
theorem dX12_told_33 : decode cX12_told 33 = .ok (.iload_n 1, 1) := by decide +kernel
theorem dX12_told_34 : decode cX12_told 34 = .ok (.iaload, 1) := by decide +kernel
theorem dX12_told_35 : decode cX12_told 35 = .ok (.iconst 1, 1) := by decide +kernel
theorem dX12_told_36 : decode cX12_told 36 = .ok (.isub, 1) := by decide +kernel
theorem dX12_told_37 : decode cX12_told 37 = .ok (.invokestatic 188, 3) := by decide +kernel
theorem dX12_told_40 : decode cX12_told 40 = .ok (.ifCond .eq 40, 3) := by decide +kernel
theorem dX12_told_43 : decode cX12_told 43 = .ok (.iload 4, 2) := by decide +kernel
theorem dX12_told_45 : decode cX12_told 45 = .ok (.iconst 0, 1) := by decide +kernel
theorem dX12_told_46 : decode cX12_told 46 = .ok (.aload_n 0, 1) := by decide +kernel
theorem dX12_told_47 : decode cX12_told 47 = .ok (.getfield 38, 3) := by decide +kernel
theorem dX12_told_50 : decode cX12_told 50 = .ok (.aload_n 0, 1) := by decide +kernel
theorem dX12_told_51 : decode cX12_told 51 = .ok (.getfield 47, 3) := by decide +kernel
theorem dX12_told_54 : decode cX12_told 54 = .ok (.bipush 12, 2) := by decide +kernel
theorem dX12_told_56 : decode cX12_told 56 = .ok (.iload_n 1, 1) := by decide +kernel
theorem dX12_told_57 : decode cX12_told 57 = .ok (.imul, 1) := by decide +kernel
theorem dX12_told_58 : decode cX12_told 58 = .ok (.iload_n 3, 1) := by decide +kernel
theorem dX12_told_59 : decode cX12_told 59 = .ok (.iadd, 1) := by decide +kernel
theorem dX12_told_60 : decode cX12_told 60 = .ok (.iaload, 1) := by decide +kernel
theorem dX12_told_61 : decode cX12_told 61 = .ok (.iaload, 1) := by decide +kernel
theorem dX12_told_62 : decode cX12_told 62 = .ok (.iconst 1, 1) := by decide +kernel
theorem dX12_told_63 : decode cX12_told 63 = .ok (.isub, 1) := by decide +kernel
theorem dX12_told_64 : decode cX12_told 64 = .ok (.invokestatic 188, 3) := by decide +kernel
theorem dX12_told_67 : decode cX12_told 67 = .ok (.ifCond .eq 13, 3) := by decide +kernel
theorem dX12_told_70 : decode cX12_told 70 = .ok (.iload 5, 2) := by decide +kernel
theorem dX12_told_72 : decode cX12_told 72 = .ok (.iconst 0, 1) := by decide +kernel
theorem dX12_told_73 : decode cX12_told 73 = .ok (.iconst 4, 1) := by decide +kernel
theorem dX12_told_74 : decode cX12_told 74 = .ok (.invokestatic 188, 3) := by decide +kernel
theorem dX12_told_77 : decode cX12_told 77 = .ok (.ifCond .ne 5, 3) := by decide +kernel
theorem dX12_told_82 : decode cX12_told 82 = .ok (.aload_n 0, 1) := by decide +kernel
theorem dX12_told_83 : decode cX12_told 83 = .ok (.iload_n 1, 1) := by decide +kernel
theorem dX12_told_84 : decode cX12_told 84 = .ok (.invokevirtual 430, 3) := by decide +kernel
theorem dX12_told_87 : decode cX12_told 87 = .ok (.sipush 31824, 3) := by decide +kernel
theorem dX12_told_90 : decode cX12_told 90 = .ok (.iload_n 1, 1) := by decide +kernel
theorem dX12_told_91 : decode cX12_told 91 = .ok (.imul, 1) := by decide +kernel
theorem dX12_told_92 : decode cX12_told 92 = .ok (.sipush 144, 3) := by decide +kernel
theorem dX12_told_95 : decode cX12_told 95 = .ok (.iload_n 2, 1) := by decide +kernel
theorem dX12_told_96 : decode cX12_told 96 = .ok (.imul, 1) := by decide +kernel
theorem dX12_told_97 : decode cX12_told 97 = .ok (.iadd, 1) := by decide +kernel
theorem dX12_told_98 : decode cX12_told 98 = .ok (.bipush 12, 2) := by decide +kernel
theorem dX12_told_100 : decode cX12_told 100 = .ok (.iload_n 3, 1) := by decide +kernel
theorem dX12_told_101 : decode cX12_told 101 = .ok (.imul, 1) := by decide +kernel
theorem dX12_told_102 : decode cX12_told 102 = .ok (.iadd, 1) := by decide +kernel
theorem dX12_told_103 : decode cX12_told 103 = .ok (.iload 4, 2) := by decide +kernel
theorem dX12_told_105 : decode cX12_told 105 = .ok (.iadd, 1) := by decide +kernel
theorem dX12_told_106 : decode cX12_told 106 = .ok (.istore 6, 2) := by decide +kernel
theorem dX12_told_108 : decode cX12_told 108 = .ok (.iload 5, 2) := by decide +kernel
theorem dX12_told_110 : decode cX12_told 110 = .ok (.tableswitch 62 0 3 #[30, 38, 46, 54], 30) := by decide +kernel
theorem dX12_told_172 : decode cX12_told 172 = .ok (.aload_n 0, 1) := by decide +kernel
theorem dX12_told_173 : decode cX12_told 173 = .ok (.getfield 111, 3) := by decide +kernel
theorem dX12_told_176 : decode cX12_told 176 = .ok (.iload 6, 2) := by decide +kernel
theorem dX12_told_178 : decode cX12_told 178 = .ok (.iaload, 1) := by decide +kernel
theorem dX12_told_179 : decode cX12_told 179 = .ok (.ireturn, 1) := by decide +kernel
theorem dX12_told_140 : decode cX12_told 140 = .ok (.aload_n 0, 1) := by decide +kernel
theorem dX12_told_141 : decode cX12_told 141 = .ok (.getfield 99, 3) := by decide +kernel
theorem dX12_told_144 : decode cX12_told 144 = .ok (.iload 6, 2) := by decide +kernel
theorem dX12_told_146 : decode cX12_told 146 = .ok (.iaload, 1) := by decide +kernel
theorem dX12_told_147 : decode cX12_told 147 = .ok (.ireturn, 1) := by decide +kernel
theorem dX12_told_148 : decode cX12_told 148 = .ok (.aload_n 0, 1) := by decide +kernel
theorem dX12_told_149 : decode cX12_told 149 = .ok (.getfield 102, 3) := by decide +kernel
theorem dX12_told_152 : decode cX12_told 152 = .ok (.iload 6, 2) := by decide +kernel
theorem dX12_told_154 : decode cX12_told 154 = .ok (.iaload, 1) := by decide +kernel
theorem dX12_told_155 : decode cX12_told 155 = .ok (.ireturn, 1) := by decide +kernel
theorem dX12_told_156 : decode cX12_told 156 = .ok (.aload_n 0, 1) := by decide +kernel
theorem dX12_told_157 : decode cX12_told 157 = .ok (.getfield 108, 3) := by decide +kernel
theorem dX12_told_160 : decode cX12_told 160 = .ok (.iload 6, 2) := by decide +kernel
theorem dX12_told_162 : decode cX12_told 162 = .ok (.iaload, 1) := by decide +kernel
theorem dX12_told_163 : decode cX12_told 163 = .ok (.ireturn, 1) := by decide +kernel
theorem dX12_told_164 : decode cX12_told 164 = .ok (.aload_n 0, 1) := by decide +kernel
theorem dX12_told_165 : decode cX12_told 165 = .ok (.getfield 105, 3) := by decide +kernel
theorem dX12_told_168 : decode cX12_told 168 = .ok (.iload 6, 2) := by decide +kernel
theorem dX12_told_170 : decode cX12_told 170 = .ok (.iaload, 1) := by decide +kernel
theorem dX12_told_171 : decode cX12_told 171 = .ok (.ireturn, 1) := by decide +kernel
set_option maxHeartbeats 4000000 in
set_option maxRecDepth 20000 in
theorem c_X12_told (d : Nat) {b : Nat} {σ : MS} {x : Int} {k : Int} {f : Int} {n : Int} {w : Int} (hR : RG σ) (hit : ITM σ) (hpar : PAR σ) (hnam : NAM σ) (hrt : RTN σ) (hl : LAB σ) (hbo : BO 47 σ) (hbh : BO 48 σ) (hss : SSA σ) (hsc : SCA σ) (h_x : -2147483648 ≤ x ∧ x ≤ 2147483647) (h_k : -2147483648 ≤ k ∧ k ≤ 2147483647) (h_f : -2147483648 ≤ f ∧ f ≤ 2147483647) (h_n : -2147483648 ≤ n ∧ n ≤ 2147483647) (h_w : -2147483648 ≤ w ∧ w ≤ 2147483647) : Tm (d + 6) m_X12_told 0 b σ [(0, .ref b), (1, .int (iI x)), (2, .int (iI k)), (3, .int (iI f)), (4, .int (iI n)), (5, .int (iI w))] [] (fun ro σ2 => ∃ v : Int, ro = some (.int (iI v)) ∧ (Fr [0] [46, 47, 48, 49, 50, 51, 52, 53, 54, 55, 56, 57, 58] [] σ σ2) ∧ (RG σ2) ∧ (LAB σ2) ∧ (BO 47 σ2) ∧ (BO 48 σ2) ∧ (SSA σ2) ∧ (SCA σ2)) := by
  refine tm_aload_n dX12_told_0 rfl 0 rfl ?_
  refine tm_iconst dX12_told_1 ?_
  refine tm_putS (k := 0) (v := 0) lay_12 dX12_told_2 (by decide) fl12_185 rfl (tyX12_ok 0 (by decide)) rfl rfl rfl ?_
  refine tm_aload_n dX12_told_5 rfl 0 rfl ?_
  refine tm_iload_n dX12_told_6 rfl 1 rfl ?_
  refine tm_callV (M := m_X12_told) (pc := 7) (ix := 404) (M' := m_X12_isRoutine) (As := [.int (iI x)]) (rest := []) dX12_told_7 ok_X12_isRoutine im_X12_isRoutine se_X12_isRoutine ml12_404 np_X12_isRoutine rfl rfl (Nat.le_of_ble_eq_true rfl) (Nat.le_of_ble_eq_true rfl) rfl (c_X12_isRoutine (d + 3) (σ := (sS 0 0 σ)) (x := x) (hR.S (by omega)) hrt.1 (by omega)) (fun r1 σ2 hp => ?_)
  obtain ⟨v3, rfl, rfl, f4, f5⟩ := hp
  show Tm _ _ 10 b (sS 0 0 σ) [(0, .ref b), (1, .int (iI x)), (2, .int (iI k)), (3, .int (iI f)), (4, .int (iI n)), (5, .int (iI w))] [.int (iI v3)] _
  have e10 : (sS 0 0 σ).1 10 = σ.1 10 := rfl
  have hrt1 := hrt.1
  refine tm_if_eq (tgt := 80) dX12_told_10 (by decide) ⟨by omega, by omega⟩ (fun h6 => ?_) (fun h6 => ?_)
  · refine tm_iconst dX12_told_80 ?_
    exact tm_iret rfl dX12_told_81 (⟨_, rfl, (Fr.rfl.S (by decide)), (hR.S (by omega)), hl, hbo, hbh, hss, hsc⟩)
  · have hri := hrt.2 x (by omega) (by omega)
    have hof := hri.2.1
    have hok := hri.2.2.1
    have q1 := hof.1
    have q2 := hnam x (by omega) (by omega)
    have q3 := hpar x (by omega) (by omega)
    refine tm_iload_n dX12_told_13 rfl 2 rfl ?_
    refine tm_iconst dX12_told_14 ?_
    refine tm_aload_n dX12_told_15 rfl 0 rfl ?_
    refine tm_get (k := 9) (v := .ref (b + 1 + 7)) lay_12 dX12_told_16 (by decide) fl12_32 rfl ?_
    refine tm_iload_n dX12_told_19 rfl 1 rfl ?_
    refine tm_iald (z := x) (v := σ.2.1 9 x) dX12_told_20 (show mT[7]? = some (9, 0, 13) from rfl) (by omega) (by omega) (by decide) (ra_S (rfl)) ?_
    have g7 := RG.a hR 9 (x)
    refine tm_callS (M := m_X12_told) (pc := 21) (ix := 188) (M' := m_X12_in) (As := [.int (iI k), .int (iI 0), .int (iI (σ.2.1 9 x))]) (rest := []) dX12_told_21 ok_X12_in stt_X12_in ml12_188 np_X12_in rfl (Nat.le_of_ble_eq_true rfl) (Nat.le_of_ble_eq_true rfl) rfl (c_X12_in (d + 4) (σ := (sS 0 0 σ)) (x := k) (lo := 0) (hi := σ.2.1 9 x) (by omega) (by omega) (by omega)) (fun r8 σ9 hp => ?_)
    obtain ⟨v10, rfl, rfl, f11, f12⟩ := hp
    show Tm _ _ 24 b (sS 0 0 σ) [(0, .ref b), (1, .int (iI x)), (2, .int (iI k)), (3, .int (iI f)), (4, .int (iI n)), (5, .int (iI w))] [.int (iI v10)] _
    refine tm_if_eq (tgt := 80) dX12_told_24 (by decide) ⟨by omega, by omega⟩ (fun h13 => ?_) (fun h13 => ?_)
    · refine tm_iconst dX12_told_80 ?_
      exact tm_iret rfl dX12_told_81 (⟨_, rfl, (Fr.rfl.S (by decide)), (hR.S (by omega)), hl, hbo, hbh, hss, hsc⟩)
    · refine tm_iload_n dX12_told_27 rfl 3 rfl ?_
      refine tm_iconst dX12_told_28 ?_
      refine tm_aload_n dX12_told_29 rfl 0 rfl ?_
      refine tm_get (k := 14) (v := .ref (b + 1 + 11)) lay_12 dX12_told_30 (by decide) fl12_44 rfl ?_
      refine tm_iload_n dX12_told_33 rfl 1 rfl ?_
      refine tm_iald (z := x) (v := σ.2.1 14 x) dX12_told_34 (show mT[11]? = some (14, 0, 6) from rfl) (by omega) (by omega) (by decide) (ra_S (rfl)) ?_
      have g14 := RG.a hR 14 (x)
      refine tm_iconst dX12_told_35 ?_
      refine tm_isub dX12_told_36 ?_
      refine tm_callS (M := m_X12_told) (pc := 37) (ix := 188) (M' := m_X12_in) (As := [.int (iI f), .int (iI 0), .int (iI ((σ.2.1 14 x) - 1))]) (rest := []) dX12_told_37 ok_X12_in stt_X12_in ml12_188 np_X12_in rfl (Nat.le_of_ble_eq_true rfl) (Nat.le_of_ble_eq_true rfl) rfl (c_X12_in (d + 4) (σ := (sS 0 0 σ)) (x := f) (lo := 0) (hi := (σ.2.1 14 x) - 1) (by omega) (by omega) (by omega)) (fun r15 σ16 hp => ?_)
      obtain ⟨v17, rfl, rfl, f18, f19⟩ := hp
      show Tm _ _ 40 b (sS 0 0 σ) [(0, .ref b), (1, .int (iI x)), (2, .int (iI k)), (3, .int (iI f)), (4, .int (iI n)), (5, .int (iI w))] [.int (iI v17)] _
      refine tm_if_eq (tgt := 80) dX12_told_40 (by decide) ⟨by omega, by omega⟩ (fun h20 => ?_) (fun h20 => ?_)
      · refine tm_iconst dX12_told_80 ?_
        exact tm_iret rfl dX12_told_81 (⟨_, rfl, (Fr.rfl.S (by decide)), (hR.S (by omega)), hl, hbo, hbh, hss, hsc⟩)
      · have q4 := (hof.2 f (by omega) (by omega)).1
        have q5 := hnam _ q4.1 q4.2
        refine tm_iload dX12_told_43 4 rfl ?_
        refine tm_iconst dX12_told_45 ?_
        refine tm_aload_n dX12_told_46 rfl 0 rfl ?_
        refine tm_get (k := 12) (v := .ref (b + 1 + 9)) lay_12 dX12_told_47 (by decide) fl12_38 rfl ?_
        refine tm_aload_n dX12_told_50 rfl 0 rfl ?_
        refine tm_get (k := 15) (v := .ref (b + 1 + 12)) lay_12 dX12_told_51 (by decide) fl12_47 rfl ?_
        refine tm_bipush dX12_told_54 (by decide) ?_
        refine tm_iload_n dX12_told_56 rfl 1 rfl ?_
        refine tm_imul dX12_told_57 ?_
        refine tm_iload_n dX12_told_58 rfl 3 rfl ?_
        refine tm_iadd dX12_told_59 ?_
        refine tm_iald (z := (12 * x) + f) (v := σ.2.1 15 ((12 * x) + f)) dX12_told_60 (show mT[12]? = some (15, 0, 72) from rfl) (by omega) (by omega) (by decide) (ra_S (rfl)) ?_
        have g21 := RG.a hR 15 ((12 * x) + f)
        refine tm_iald (z := σ.2.1 15 ((12 * x) + f)) (v := σ.2.1 12 (σ.2.1 15 ((12 * x) + f))) dX12_told_61 (show mT[9]? = some (12, 0, 6) from rfl) (by omega) (by omega) (by decide) (ra_S (rfl)) ?_
        have g22 := RG.a hR 12 (σ.2.1 15 ((12 * x) + f))
        refine tm_iconst dX12_told_62 ?_
        refine tm_isub dX12_told_63 ?_
        refine tm_callS (M := m_X12_told) (pc := 64) (ix := 188) (M' := m_X12_in) (As := [.int (iI n), .int (iI 0), .int (iI ((σ.2.1 12 (σ.2.1 15 ((12 * x) + f))) - 1))]) (rest := []) dX12_told_64 ok_X12_in stt_X12_in ml12_188 np_X12_in rfl (Nat.le_of_ble_eq_true rfl) (Nat.le_of_ble_eq_true rfl) rfl (c_X12_in (d + 4) (σ := (sS 0 0 σ)) (x := n) (lo := 0) (hi := (σ.2.1 12 (σ.2.1 15 ((12 * x) + f))) - 1) (by omega) (by omega) (by omega)) (fun r23 σ24 hp => ?_)
        obtain ⟨v25, rfl, rfl, f26, f27⟩ := hp
        show Tm _ _ 67 b (sS 0 0 σ) [(0, .ref b), (1, .int (iI x)), (2, .int (iI k)), (3, .int (iI f)), (4, .int (iI n)), (5, .int (iI w))] [.int (iI v25)] _
        refine tm_if_eq (tgt := 80) dX12_told_67 (by decide) ⟨by omega, by omega⟩ (fun h28 => ?_) (fun h28 => ?_)
        · refine tm_iconst dX12_told_80 ?_
          exact tm_iret rfl dX12_told_81 (⟨_, rfl, (Fr.rfl.S (by decide)), (hR.S (by omega)), hl, hbo, hbh, hss, hsc⟩)
        · refine tm_iload dX12_told_70 5 rfl ?_
          refine tm_iconst dX12_told_72 ?_
          refine tm_iconst dX12_told_73 ?_
          refine tm_callS (M := m_X12_told) (pc := 74) (ix := 188) (M' := m_X12_in) (As := [.int (iI w), .int (iI 0), .int (iI 4)]) (rest := []) dX12_told_74 ok_X12_in stt_X12_in ml12_188 np_X12_in rfl (Nat.le_of_ble_eq_true rfl) (Nat.le_of_ble_eq_true rfl) rfl (c_X12_in (d + 4) (σ := (sS 0 0 σ)) (x := w) (lo := 0) (hi := 4) (by omega) (by omega) (by omega)) (fun r29 σ30 hp => ?_)
          obtain ⟨v31, rfl, rfl, f32, f33⟩ := hp
          show Tm _ _ 77 b (sS 0 0 σ) [(0, .ref b), (1, .int (iI x)), (2, .int (iI k)), (3, .int (iI f)), (4, .int (iI n)), (5, .int (iI w))] [.int (iI v31)] _
          refine tm_if_ne (tgt := 82) dX12_told_77 (by decide) ⟨by omega, by omega⟩ (fun h34 => ?_) (fun h34 => ?_)
          · refine tm_aload_n dX12_told_82 rfl 0 rfl ?_
            refine tm_iload_n dX12_told_83 rfl 1 rfl ?_
            refine tm_callV (M := m_X12_told) (pc := 84) (ix := 430) (M' := m_X12_findStates) (As := [.int (iI x)]) (rest := []) dX12_told_84 ok_X12_findStates im_X12_findStates se_X12_findStates ml12_430 np_X12_findStates rfl rfl (Nat.le_of_ble_eq_true rfl) (Nat.le_of_ble_eq_true rfl) rfl (c_X12_findStates (d) (σ := (sS 0 0 σ)) (r := x) (F := σ.2.1 14 x) (by omega) (hR.S (by omega)) (hit.fr (show Fr [0] [] [] σ (sS 0 0 σ) from (Fr.rfl.S (by decide))) (by decide)) (hpar.fr (show Fr [0] [] [] σ (sS 0 0 σ) from (Fr.rfl.S (by decide))) (by decide)) (hnam.fr (show Fr [0] [] [] σ (sS 0 0 σ) from (Fr.rfl.S (by decide))) (by decide)) (hok.fr (show Fr [0] [] [] σ (sS 0 0 σ) from (Fr.rfl.S (by decide))) (by decide)) (by omega) (hof.fr (show Fr [0] [] [] σ (sS 0 0 σ) from (Fr.rfl.S (by decide))) (by decide)) hri.2.2.2.1 (hl.fr (show Fr [0] [] [] σ (sS 0 0 σ) from (Fr.rfl.S (by decide))) (by decide)) (hbo.fr (show Fr [0] [] [] σ (sS 0 0 σ) from (Fr.rfl.S (by decide))) (by decide)) (hbh.fr (show Fr [0] [] [] σ (sS 0 0 σ) from (Fr.rfl.S (by decide))) (by decide)) (hss.fr (show Fr [0] [] [] σ (sS 0 0 σ) from (Fr.rfl.S (by decide))) (by decide)) (hsc.fr (show Fr [0] [] [] σ (sS 0 0 σ) from (Fr.rfl.S (by decide))) (by decide)) (LEX.fr hri.2.2.2.2 (show Fr [0] [] [] σ (sS 0 0 σ) from (Fr.rfl.S (by decide))) (by decide))) (fun r35 σ36 hp => ?_)
            obtain ⟨rfl, f38, f39, f40, f41, f42, f43, f44⟩ := hp
            show Tm _ _ 87 b σ36 [(0, .ref b), (1, .int (iI x)), (2, .int (iI k)), (3, .int (iI f)), (4, .int (iI n)), (5, .int (iI w))] [] _
            have k2 := f40
            have k3 := f41
            have k4 := f42
            have k5 := f43
            have k6 := f44
            refine tm_sipush dX12_told_87 (by decide) ?_
            refine tm_iload_n dX12_told_90 rfl 1 rfl ?_
            refine tm_imul dX12_told_91 ?_
            refine tm_sipush dX12_told_92 (by decide) ?_
            refine tm_iload_n dX12_told_95 rfl 2 rfl ?_
            refine tm_imul dX12_told_96 ?_
            refine tm_iadd dX12_told_97 ?_
            refine tm_bipush dX12_told_98 (by decide) ?_
            refine tm_iload_n dX12_told_100 rfl 3 rfl ?_
            refine tm_imul dX12_told_101 ?_
            refine tm_iadd dX12_told_102 ?_
            refine tm_iload dX12_told_103 4 rfl ?_
            refine tm_iadd dX12_told_105 ?_
            refine tm_istore (L' := [(6, .int (iI ((((31824 * x) + (144 * k)) + (12 * f)) + n))), (0, .ref b), (1, .int (iI x)), (2, .int (iI k)), (3, .int (iI f)), (4, .int (iI n)), (5, .int (iI w))]) dX12_told_106 (by decide) rfl ?_
            refine tm_iload dX12_told_108 6 rfl ?_
            by_cases h45 : w < 0 ∨ 3 < w
            · refine tm_tableOut (tgt := 172) dX12_told_110 ⟨by omega, by omega⟩ h45 (by decide) ?_
              refine tm_aload_n dX12_told_172 rfl 1 rfl ?_
              refine tm_get (k := 53) (v := .ref (b + 1 + 31)) lay_12 dX12_told_173 (by decide) fl12_111 rfl ?_
              refine tm_iload dX12_told_176 0 rfl ?_
              refine tm_iald (z := (((31824 * x) + (144 * k)) + (12 * f)) + n) (v := σ36.2.1 53 ((((31824 * x) + (144 * k)) + (12 * f)) + n)) dX12_told_178 (show mT[31]? = some (53, 0, 190944) from rfl) (by omega) (by omega) (by decide) (rfl) ?_
              have g46 := RG.a f39 53 ((((31824 * x) + (144 * k)) + (12 * f)) + n)
              exact tm_iret rfl dX12_told_179 (⟨_, rfl, ((Fr.rfl.S (by decide)).trans (Fr.sub f38 (by decide) (by decide) (by decide))), f39, k2, k3, k4, k5, k6⟩)
            · have h45c : w = 0 ∨ w = 1 ∨ w = 2 ∨ w = 3 := by omega
              rcases h45c with h45v | h45v | h45v | h45v
              · refine tm_tableIn (tgt := 140) dX12_told_110 ⟨by omega, by omega⟩ (by omega) (by omega) (show _ = some (30) by rw [h45v]; rfl) (by decide) ?_
                refine tm_aload_n dX12_told_140 rfl 1 rfl ?_
                refine tm_get (k := 49) (v := .ref (b + 1 + 27)) lay_12 dX12_told_141 (by decide) fl12_99 rfl ?_
                refine tm_iload dX12_told_144 0 rfl ?_
                refine tm_iald (z := (((31824 * x) + (144 * k)) + (12 * f)) + n) (v := σ36.2.1 49 ((((31824 * x) + (144 * k)) + (12 * f)) + n)) dX12_told_146 (show mT[27]? = some (49, 0, 190944) from rfl) (by omega) (by omega) (by decide) (rfl) ?_
                have g47 := RG.a f39 49 ((((31824 * x) + (144 * k)) + (12 * f)) + n)
                exact tm_iret rfl dX12_told_147 (⟨_, rfl, ((Fr.rfl.S (by decide)).trans (Fr.sub f38 (by decide) (by decide) (by decide))), f39, k2, k3, k4, k5, k6⟩)
              · refine tm_tableIn (tgt := 148) dX12_told_110 ⟨by omega, by omega⟩ (by omega) (by omega) (show _ = some (38) by rw [h45v]; rfl) (by decide) ?_
                refine tm_aload_n dX12_told_148 rfl 1 rfl ?_
                refine tm_get (k := 50) (v := .ref (b + 1 + 28)) lay_12 dX12_told_149 (by decide) fl12_102 rfl ?_
                refine tm_iload dX12_told_152 0 rfl ?_
                refine tm_iald (z := (((31824 * x) + (144 * k)) + (12 * f)) + n) (v := σ36.2.1 50 ((((31824 * x) + (144 * k)) + (12 * f)) + n)) dX12_told_154 (show mT[28]? = some (50, 0, 190944) from rfl) (by omega) (by omega) (by decide) (rfl) ?_
                have g48 := RG.a f39 50 ((((31824 * x) + (144 * k)) + (12 * f)) + n)
                exact tm_iret rfl dX12_told_155 (⟨_, rfl, ((Fr.rfl.S (by decide)).trans (Fr.sub f38 (by decide) (by decide) (by decide))), f39, k2, k3, k4, k5, k6⟩)
              · refine tm_tableIn (tgt := 156) dX12_told_110 ⟨by omega, by omega⟩ (by omega) (by omega) (show _ = some (46) by rw [h45v]; rfl) (by decide) ?_
                refine tm_aload_n dX12_told_156 rfl 1 rfl ?_
                refine tm_get (k := 52) (v := .ref (b + 1 + 30)) lay_12 dX12_told_157 (by decide) fl12_108 rfl ?_
                refine tm_iload dX12_told_160 0 rfl ?_
                refine tm_iald (z := (((31824 * x) + (144 * k)) + (12 * f)) + n) (v := σ36.2.1 52 ((((31824 * x) + (144 * k)) + (12 * f)) + n)) dX12_told_162 (show mT[30]? = some (52, 0, 190944) from rfl) (by omega) (by omega) (by decide) (rfl) ?_
                have g49 := RG.a f39 52 ((((31824 * x) + (144 * k)) + (12 * f)) + n)
                exact tm_iret rfl dX12_told_163 (⟨_, rfl, ((Fr.rfl.S (by decide)).trans (Fr.sub f38 (by decide) (by decide) (by decide))), f39, k2, k3, k4, k5, k6⟩)
              · refine tm_tableIn (tgt := 164) dX12_told_110 ⟨by omega, by omega⟩ (by omega) (by omega) (show _ = some (54) by rw [h45v]; rfl) (by decide) ?_
                refine tm_aload_n dX12_told_164 rfl 1 rfl ?_
                refine tm_get (k := 51) (v := .ref (b + 1 + 29)) lay_12 dX12_told_165 (by decide) fl12_105 rfl ?_
                refine tm_iload dX12_told_168 0 rfl ?_
                refine tm_iald (z := (((31824 * x) + (144 * k)) + (12 * f)) + n) (v := σ36.2.1 51 ((((31824 * x) + (144 * k)) + (12 * f)) + n)) dX12_told_170 (show mT[29]? = some (51, 0, 190944) from rfl) (by omega) (by omega) (by decide) (rfl) ?_
                have g50 := RG.a f39 51 ((((31824 * x) + (144 * k)) + (12 * f)) + n)
                exact tm_iret rfl dX12_told_171 (⟨_, rfl, ((Fr.rfl.S (by decide)).trans (Fr.sub f38 (by decide) (by decide) (by decide))), f39, k2, k3, k4, k5, k6⟩)
          · refine tm_iconst dX12_told_80 ?_
            exact tm_iret rfl dX12_told_81 (⟨_, rfl, (Fr.rfl.S (by decide)), (hR.S (by omega)), hl, hbo, hbh, hss, hsc⟩)
