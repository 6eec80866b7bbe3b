theorem fl12_566 : Cond.fieldLink RX12 566 (TX12 70).1 (TX12 70).2.1 (TX12 70).2.2.1 ∈ pWW := pw7 (List.mem_of_getElem? (i := 77) rfl) rfl
theorem ml12_554 : Cond.methodLink RX12 554 yX12_depth ∈ pWW := pw10 (List.mem_of_getElem? (i := 13) rfl) rfl
theorem fl12_563 : Cond.fieldLink RX12 563 (TX12 69).1 (TX12 69).2.1 (TX12 69).2.2.1 ∈ pWW := pw7 (List.mem_of_getElem? (i := 76) rfl) rfl
theorem dX12_run_0 : decode cX12_run 0 = .ok (.aload_n 0, 1) := by decide +kernel
theorem dX12_run_1 : decode cX12_run 1 = .ok (.iconst 0, 1) := by decide +kernel
theorem dX12_run_2 : decode cX12_run 2 = .ok (.putfield 185, 3) := by decide +kernel
theorem dX12_run_5 : decode cX12_run 5 = .ok (.aload_n 0, 1) := by decide +kernel
theorem dX12_run_6 : decode cX12_run 6 = .ok (.getfield 397, 3) := by decide +kernel
theorem dX12_run_9 : decode cX12_run 9 = .ok (.ifCond .ne 5, 3) := by decide +kernel
theorem dX12_run_14 : decode cX12_run 14 = .ok (.iload_n 1, 1) := by decide +kernel
theorem dX12_run_15 : decode cX12_run 15 = .ok (.tableswitch 111 0 5 #[37, 62, 69, 74, 81, 98], 37) := by decide +kernel
theorem dX12_run_126 : decode cX12_run 126 = .ok (.iconst (-1), 1) := by decide +kernel
theorem dX12_run_127 : decode cX12_run 127 = .ok (.ireturn, 1) := by decide +kernel
theorem dX12_run_52 : decode cX12_run 52 = .ok (.aload_n 0, 1) := by decide +kernel
theorem dX12_run_53 : decode cX12_run 53 = .ok (.getfield 560, 3) := by decide +kernel
theorem dX12_run_56 : decode cX12_run 56 = .ok (.ifCond .eq 7, 3) := by decide +kernel
theorem dX12_run_63 : decode cX12_run 63 = .ok (.aload_n 0, 1) := by decide +kernel
theorem dX12_run_64 : decode cX12_run 64 = .ok (.getfield 170, 3) := by decide +kernel
theorem dX12_run_67 : decode cX12_run 67 = .ok (.aload_n 0, 1) := by decide +kernel
theorem dX12_run_68 : decode cX12_run 68 = .ok (.getfield 152, 3) := by decide +kernel
theorem dX12_run_71 : decode cX12_run 71 = .ok (.iconst 0, 1) := by decide +kernel
theorem dX12_run_72 : decode cX12_run 72 = .ok (.iaload, 1) := by decide +kernel
theorem dX12_run_73 : decode cX12_run 73 = .ok (.iconst 1, 1) := by decide +kernel
theorem dX12_run_74 : decode cX12_run 74 = .ok (.isub, 1) := by decide +kernel
theorem dX12_run_75 : decode cX12_run 75 = .ok (.iaload, 1) := by decide +kernel
theorem dX12_run_76 : decode cX12_run 76 = .ok (.ireturn, 1) := by decide +kernel
theorem dX12_run_59 : decode cX12_run 59 = .ok (.iconst (-1), 1) := by decide +kernel
theorem dX12_run_60 : decode cX12_run 60 = .ok (.goto 16, 3) := by decide +kernel
theorem dX12_run_77 : decode cX12_run 77 = .ok (.aload_n 0, 1) := by decide +kernel
theorem dX12_run_78 : decode cX12_run 78 = .ok (.getfield 161, 3) := by decide +kernel
theorem dX12_run_81 : decode cX12_run 81 = .ok (.iconst 0, 1) := by decide +kernel
theorem dX12_run_82 : decode cX12_run 82 = .ok (.iaload, 1) := by decide +kernel
theorem dX12_run_83 : decode cX12_run 83 = .ok (.ireturn, 1) := by decide +kernel
theorem dX12_run_84 : decode cX12_run 84 = .ok (.aload_n 0, 1) := by decide +kernel
theorem dX12_run_85 : decode cX12_run 85 = .ok (.getfield 566, 3) := by decide +kernel
theorem dX12_run_88 : decode cX12_run 88 = .ok (.ireturn, 1) := by decide +kernel
theorem dX12_run_89 : decode cX12_run 89 = .ok (.aload_n 0, 1) := by decide +kernel
theorem dX12_run_90 : decode cX12_run 90 = .ok (.getfield 158, 3) := by decide +kernel
theorem dX12_run_93 : decode cX12_run 93 = .ok (.iconst 0, 1) := by decide +kernel
theorem dX12_run_94 : decode cX12_run 94 = .ok (.iaload, 1) := by decide +kernel
theorem dX12_run_95 : decode cX12_run 95 = .ok (.ireturn, 1) := by decide +kernel
theorem dX12_run_96 : decode cX12_run 96 = .ok (.aload_n 0, 1) := by decide +kernel
theorem dX12_run_97 : decode cX12_run 97 = .ok (.getfield 560, 3) := by decide +kernel
theorem dX12_run_100 : decode cX12_run 100 = .ok (.ifCond .eq 7, 3) := by decide +kernel
theorem dX12_run_107 : decode cX12_run 107 = .ok (.aload_n 0, 1) := by decide +kernel
theorem dX12_run_108 : decode cX12_run 108 = .ok (.iconst 0, 1) := by decide +kernel
theorem dX12_run_109 : decode cX12_run 109 = .ok (.invokevirtual 554, 3) := by decide +kernel
theorem dX12_run_112 : decode cX12_run 112 = .ok (.ireturn, 1) := by decide +kernel
theorem dX12_run_103 : decode cX12_run 103 = .ok (.iconst 0, 1) := by decide +kernel
theorem dX12_run_104 : decode cX12_run 104 = .ok (.goto 8, 3) := by decide +kernel
theorem dX12_run_113 : decode cX12_run 113 = .ok (.aload_n 0, 1) := by decide +kernel
theorem dX12_run_114 : decode cX12_run 114 = .ok (.getfield 563, 3) := by decide +kernel
theorem dX12_run_117 : decode cX12_run 117 = .ok (.ifCond .eq 7, 3) := by decide +kernel
theorem dX12_run_124 : decode cX12_run 124 = .ok (.iconst 0, 1) := by decide +kernel
theorem dX12_run_125 : decode cX12_run 125 = .ok (.ireturn, 1) := by decide +kernel
theorem dX12_run_120 : decode cX12_run 120 = .ok (.iconst 1, 1) := by decide +kernel
theorem dX12_run_121 : decode cX12_run 121 = .ok (.goto 4, 3) := by decide +kernel
theorem dX12_run_12 : decode cX12_run 12 = .ok (.iconst (-1), 1) := by decide +kernel
theorem dX12_run_13 : decode cX12_run 13 = .ok (.ireturn, 1) := by decide +kernel
set_option maxHeartbeats 4000000 in
set_option maxRecDepth 20000 in
theorem c_X12_run (d : Nat) {b : Nat} {σ : MS} {w : Int} (hR : RG σ) (hr7 : σ.1 67 ≠ 0 → σ.1 68 = 0 → RUD σ 0 ∧ 1 ≤ σ.2.1 73 0) (h_w : -2147483648 ≤ w ∧ w ≤ 2147483647) : Tm (d + 2) m_X12_run 0 b σ [(0, .ref b), (1, .int (iI w))] [] (fun ro σ2 => ∃ v : Int, ro = some (.int (iI v)) ∧ (Fr [0] [] [] σ σ2) ∧ (RG σ2)) := by
  refine tm_aload_n dX12_run_0 rfl 0 rfl ?_
  refine tm_iconst dX12_run_1 ?_
  refine tm_putS (k := 0) (v := 0) lay_12 dX12_run_2 (by decide) fl12_185 rfl (tyX12_ok 0 (by decide)) rfl rfl rfl ?_
  refine tm_aload_n dX12_run_5 rfl 0 rfl ?_
  refine tm_getS (k := 67) (t := σ.1 67) dX12_run_6 (by decide) fl12_397 rfl (rs_o (by decide) (rfl)) ?_
  have g1 := RG.s hR 67
  refine tm_if_ne (tgt := 14) dX12_run_9 (by decide) ⟨by omega, by omega⟩ (fun h2 => ?_) (fun h2 => ?_)
  · refine tm_iload_n dX12_run_14 rfl 1 rfl ?_
    by_cases h3 : w < 0 ∨ 5 < w
    · refine tm_tableOut (tgt := 126) dX12_run_15 ⟨by omega, by omega⟩ h3 (by decide) ?_
      refine tm_iconst dX12_run_126 ?_
      exact tm_iret rfl dX12_run_127 (⟨_, rfl, (Fr.rfl.S (by decide)), (hR.S (by omega))⟩)
    · have h3c : w = 0 ∨ w = 1 ∨ w = 2 ∨ w = 3 ∨ w = 4 ∨ w = 5 := by omega
      rcases h3c with h3v | h3v | h3v | h3v | h3v | h3v
      · refine tm_tableIn (tgt := 52) dX12_run_15 ⟨by omega, by omega⟩ (by omega) (by omega) (show _ = some (37) by rw [h3v]; rfl) (by decide) ?_
        refine tm_aload_n dX12_run_52 rfl 0 rfl ?_
        refine tm_getS (k := 68) (t := σ.1 68) dX12_run_53 (by decide) fl12_560 rfl (rs_o (by decide) (rfl)) ?_
        have g4 := RG.s hR 68
        refine tm_if_eq (tgt := 63) dX12_run_56 (by decide) ⟨by omega, by omega⟩ (fun h5 => ?_) (fun h5 => ?_)
        · have hrr := hr7 (by omega) (by omega)
          have hmc := hrr.1.1
          refine tm_aload_n dX12_run_63 rfl 0 rfl ?_
          refine tm_get (k := 79) (v := .ref (b + 1 + 50)) lay_12 dX12_run_64 (by decide) fl12_170 rfl ?_
          refine tm_aload_n dX12_run_67 rfl 0 rfl ?_
          refine tm_get (k := 73) (v := .ref (b + 1 + 44)) lay_12 dX12_run_68 (by decide) fl12_152 rfl ?_
          refine tm_iconst dX12_run_71 ?_
          refine tm_iald (z := 0) (v := σ.2.1 73 0) dX12_run_72 (show mT[44]? = some (73, 0, 3) from rfl) (by omega) (by omega) (by decide) (ra_S (rfl)) ?_
          have g6 := RG.a hR 73 (0)
          refine tm_iconst dX12_run_73 ?_
          refine tm_isub dX12_run_74 ?_
          refine tm_iald (z := (σ.2.1 73 0) - 1) (v := σ.2.1 79 ((σ.2.1 73 0) - 1)) dX12_run_75 (show mT[50]? = some (79, 0, 27) from rfl) (by omega) (by omega) (by decide) (ra_S (rfl)) ?_
          have g7 := RG.a hR 79 ((σ.2.1 73 0) - 1)
          exact tm_iret rfl dX12_run_76 (⟨_, rfl, (Fr.rfl.S (by decide)), (hR.S (by omega))⟩)
        · refine tm_iconst dX12_run_59 ?_
          refine tm_goto (tgt := 76) dX12_run_60 (by decide) ?_
          exact tm_iret rfl dX12_run_76 (⟨_, rfl, (Fr.rfl.S (by decide)), (hR.S (by omega))⟩)
      · refine tm_tableIn (tgt := 77) dX12_run_15 ⟨by omega, by omega⟩ (by omega) (by omega) (show _ = some (62) by rw [h3v]; rfl) (by decide) ?_
        refine tm_aload_n dX12_run_77 rfl 0 rfl ?_
        refine tm_get (k := 76) (v := .ref (b + 1 + 47)) lay_12 dX12_run_78 (by decide) fl12_161 rfl ?_
        refine tm_iconst dX12_run_81 ?_
        refine tm_iald (z := 0) (v := σ.2.1 76 0) dX12_run_82 (show mT[47]? = some (76, 0, 3) from rfl) (by omega) (by omega) (by decide) (ra_S (rfl)) ?_
        have g8 := RG.a hR 76 (0)
        exact tm_iret rfl dX12_run_83 (⟨_, rfl, (Fr.rfl.S (by decide)), (hR.S (by omega))⟩)
      · refine tm_tableIn (tgt := 84) dX12_run_15 ⟨by omega, by omega⟩ (by omega) (by omega) (show _ = some (69) by rw [h3v]; rfl) (by decide) ?_
        refine tm_aload_n dX12_run_84 rfl 0 rfl ?_
        refine tm_getS (k := 70) (t := σ.1 70) dX12_run_85 (by decide) fl12_566 rfl (rs_o (by decide) (rfl)) ?_
        have g9 := RG.s hR 70
        exact tm_iret rfl dX12_run_88 (⟨_, rfl, (Fr.rfl.S (by decide)), (hR.S (by omega))⟩)
      · refine tm_tableIn (tgt := 89) dX12_run_15 ⟨by omega, by omega⟩ (by omega) (by omega) (show _ = some (74) by rw [h3v]; rfl) (by decide) ?_
        refine tm_aload_n dX12_run_89 rfl 0 rfl ?_
        refine tm_get (k := 75) (v := .ref (b + 1 + 46)) lay_12 dX12_run_90 (by decide) fl12_158 rfl ?_
        refine tm_iconst dX12_run_93 ?_
        refine tm_iald (z := 0) (v := σ.2.1 75 0) dX12_run_94 (show mT[46]? = some (75, 0, 3) from rfl) (by omega) (by omega) (by decide) (ra_S (rfl)) ?_
        have g10 := RG.a hR 75 (0)
        exact tm_iret rfl dX12_run_95 (⟨_, rfl, (Fr.rfl.S (by decide)), (hR.S (by omega))⟩)
      · refine tm_tableIn (tgt := 96) dX12_run_15 ⟨by omega, by omega⟩ (by omega) (by omega) (show _ = some (81) by rw [h3v]; rfl) (by decide) ?_
        refine tm_aload_n dX12_run_96 rfl 0 rfl ?_
        refine tm_getS (k := 68) (t := σ.1 68) dX12_run_97 (by decide) fl12_560 rfl (rs_o (by decide) (rfl)) ?_
        have g11 := RG.s hR 68
        refine tm_if_eq (tgt := 107) dX12_run_100 (by decide) ⟨by omega, by omega⟩ (fun h12 => ?_) (fun h12 => ?_)
        · have hrr := hr7 (by omega) (by omega)
          have hmc := hrr.1.1
          refine tm_aload_n dX12_run_107 rfl 0 rfl ?_
          refine tm_iconst dX12_run_108 ?_
          refine tm_callV (M := m_X12_run) (pc := 109) (ix := 554) (M' := m_X12_depth) (As := [.int (iI 0)]) (rest := []) dX12_run_109 ok_X12_depth im_X12_depth se_X12_depth ml12_554 np_X12_depth rfl rfl (Nat.le_of_ble_eq_true rfl) (Nat.le_of_ble_eq_true rfl) rfl (c_X12_depth (d) (σ := (sS 0 0 σ)) (m := 0) (hR.S (by omega)) (by decide) hmc (fun c a e => ⟨_, hrr.1.2 c a e⟩)) (fun r13 σ14 hp => ?_)
          obtain ⟨v15, rfl, rfl, f16, f17⟩ := hp
          show Tm _ _ 112 b (sS 0 0 σ) [(0, .ref b), (1, .int (iI w))] [.int (iI v15)] _
          exact tm_iret rfl dX12_run_112 (⟨_, rfl, (Fr.rfl.S (by decide)), (hR.S (by omega))⟩)
        · refine tm_iconst dX12_run_103 ?_
          refine tm_goto (tgt := 112) dX12_run_104 (by decide) ?_
          exact tm_iret rfl dX12_run_112 (⟨_, rfl, (Fr.rfl.S (by decide)), (hR.S (by omega))⟩)
      · refine tm_tableIn (tgt := 113) dX12_run_15 ⟨by omega, by omega⟩ (by omega) (by omega) (show _ = some (98) by rw [h3v]; rfl) (by decide) ?_
        refine tm_aload_n dX12_run_113 rfl 0 rfl ?_
        refine tm_getS (k := 69) (t := σ.1 69) dX12_run_114 (by decide) fl12_563 rfl (rs_o (by decide) (rfl)) ?_
        have g18 := RG.s hR 69
        refine tm_if_eq (tgt := 124) dX12_run_117 (by decide) ⟨by omega, by omega⟩ (fun h19 => ?_) (fun h19 => ?_)
        · refine tm_iconst dX12_run_124 ?_
          exact tm_iret rfl dX12_run_125 (⟨_, rfl, (Fr.rfl.S (by decide)), (hR.S (by omega))⟩)
        · refine tm_iconst dX12_run_120 ?_
          refine tm_goto (tgt := 125) dX12_run_121 (by decide) ?_
          exact tm_iret rfl dX12_run_125 (⟨_, rfl, (Fr.rfl.S (by decide)), (hR.S (by omega))⟩)
  · refine tm_iconst dX12_run_12 ?_
    exact tm_iret rfl dX12_run_13 (⟨_, rfl, (Fr.rfl.S (by decide)), (hR.S (by omega))⟩)
