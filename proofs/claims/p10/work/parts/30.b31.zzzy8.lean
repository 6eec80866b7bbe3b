set_option maxHeartbeats 4000000 in
set_option maxRecDepth 20000 in
theorem f_X12_run (d : Nat) {b : Nat} {σ : MS} {w : Int} (hR : RG σ) (hr7 : σ.1 67 ≠ 0 → σ.1 68 = 0 → RUD σ 0 ∧ 1 ≤ σ.2.1 73 0) (h_w : -2147483648 ≤ w ∧ w ≤ 2147483647) : Tm (d + 2) m_X12_run 0 b σ [(0, .ref b), (1, .int (iI w))] [] (fun ro σ2 => ∃ v : Int, ro = some (.int (iI v)) ∧ (Fr [0] [] [] σ σ2) ∧ (RG σ2) ∧ (RNA σ w v)) := by
  refine tm_aload_n dX12_run_0 rfl 0 rfl ?_
  refine tm_iconst dX12_run_1 ?_
  refine tm_putS (k := 0) (v := 0) lay_12 dX12_run_2 (by decide) fl12_185 rfl (tyX12_ok 0 (by decide)) rfl rfl rfl ?_
  refine tm_aload_n dX12_run_5 rfl 0 rfl ?_
  refine tm_getS (k := 67) (t := σ.1 67) dX12_run_6 (by decide) fl12_397 rfl (rs_o (by decide) (rfl)) ?_
  have g1 := RG.s hR 67
  refine tm_if_ne (tgt := 14) dX12_run_9 (by decide) ⟨by omega, by omega⟩ (fun h2 => ?_) (fun h2 => ?_)
  · refine tm_iload_n dX12_run_14 rfl 1 rfl ?_
    by_cases h3 : w < 0 ∨ 5 < w
    · refine tm_tableOut (tgt := 126) dX12_run_15 ⟨by omega, by omega⟩ h3 (by decide) ?_
      refine tm_iconst dX12_run_126 ?_
      exact tm_iret rfl dX12_run_127 (⟨_, rfl, (Fr.rfl.S (by decide)), (hR.S (by omega)), by first | exact Or.inl ⟨by omega, by omega⟩ | exact Or.inr ⟨by omega, Or.inl ⟨by omega, by omega, by omega⟩⟩ | exact Or.inr ⟨by omega, Or.inr (Or.inl ⟨by omega, by omega, by omega⟩)⟩ | exact Or.inr ⟨by omega, Or.inr (Or.inr (Or.inl ⟨by omega, by omega⟩))⟩ | exact Or.inr ⟨by omega, Or.inr (Or.inr (Or.inr (Or.inl ⟨by omega, by omega⟩)))⟩ | exact Or.inr ⟨by omega, Or.inr (Or.inr (Or.inr (Or.inr (Or.inl ⟨by omega, by omega⟩))))⟩ | exact Or.inr ⟨by omega, Or.inr (Or.inr (Or.inr (Or.inr (Or.inr (Or.inl ⟨by omega, by omega, by omega⟩)))))⟩ | exact Or.inr ⟨by omega, Or.inr (Or.inr (Or.inr (Or.inr (Or.inr (Or.inr (Or.inl ⟨by omega, by omega, by omega⟩))))))⟩ | exact Or.inr ⟨by omega, Or.inr (Or.inr (Or.inr (Or.inr (Or.inr (Or.inr (Or.inr (Or.inl ⟨by omega, by omega, by omega⟩)))))))⟩ | exact Or.inr ⟨by omega, Or.inr (Or.inr (Or.inr (Or.inr (Or.inr (Or.inr (Or.inr (Or.inr (Or.inl ⟨by omega, by omega, by omega⟩))))))))⟩ | exact Or.inr ⟨by omega, Or.inr (Or.inr (Or.inr (Or.inr (Or.inr (Or.inr (Or.inr (Or.inr (Or.inr (⟨by omega, by omega⟩)))))))))⟩⟩)
    · have h3c : w = 0 ∨ w = 1 ∨ w = 2 ∨ w = 3 ∨ w = 4 ∨ w = 5 := by omega
      rcases h3c with h3v | h3v | h3v | h3v | h3v | h3v
      · refine tm_tableIn (tgt := 52) dX12_run_15 ⟨by omega, by omega⟩ (by omega) (by omega) (show _ = some (37) by rw [h3v]; rfl) (by decide) ?_
        refine tm_aload_n dX12_run_52 rfl 0 rfl ?_
        refine tm_getS (k := 68) (t := σ.1 68) dX12_run_53 (by decide) fl12_560 rfl (rs_o (by decide) (rfl)) ?_
        have g4 := RG.s hR 68
        refine tm_if_eq (tgt := 63) dX12_run_56 (by decide) ⟨by omega, by omega⟩ (fun h5 => ?_) (fun h5 => ?_)
        · have hrr := hr7 (by omega) (by omega)
          have hmc := hrr.1.1
          refine tm_aload_n dX12_run_63 rfl 0 rfl ?_
          refine tm_get (k := 79) (v := .ref (b + 1 + 50)) lay_12 dX12_run_64 (by decide) fl12_170 rfl ?_
          refine tm_aload_n dX12_run_67 rfl 0 rfl ?_
          refine tm_get (k := 73) (v := .ref (b + 1 + 44)) lay_12 dX12_run_68 (by decide) fl12_152 rfl ?_
          refine tm_iconst dX12_run_71 ?_
          refine tm_iald (z := 0) (v := σ.2.1 73 0) dX12_run_72 (show mT[44]? = some (73, 0, 3) from rfl) (by omega) (by omega) (by decide) (ra_S (rfl)) ?_
          have g6 := RG.a hR 73 (0)
          refine tm_iconst dX12_run_73 ?_
          refine tm_isub dX12_run_74 ?_
          refine tm_iald (z := (σ.2.1 73 0) - 1) (v := σ.2.1 79 ((σ.2.1 73 0) - 1)) dX12_run_75 (show mT[50]? = some (79, 0, 27) from rfl) (by omega) (by omega) (by decide) (ra_S (rfl)) ?_
          have g7 := RG.a hR 79 ((σ.2.1 73 0) - 1)
          exact tm_iret rfl dX12_run_76 (⟨_, rfl, (Fr.rfl.S (by decide)), (hR.S (by omega)), by first | exact Or.inl ⟨by omega, by omega⟩ | exact Or.inr ⟨by omega, Or.inl ⟨by omega, by omega, by omega⟩⟩ | exact Or.inr ⟨by omega, Or.inr (Or.inl ⟨by omega, by omega, by omega⟩)⟩ | exact Or.inr ⟨by omega, Or.inr (Or.inr (Or.inl ⟨by omega, by omega⟩))⟩ | exact Or.inr ⟨by omega, Or.inr (Or.inr (Or.inr (Or.inl ⟨by omega, by omega⟩)))⟩ | exact Or.inr ⟨by omega, Or.inr (Or.inr (Or.inr (Or.inr (Or.inl ⟨by omega, by omega⟩))))⟩ | exact Or.inr ⟨by omega, Or.inr (Or.inr (Or.inr (Or.inr (Or.inr (Or.inl ⟨by omega, by omega, by omega⟩)))))⟩ | exact Or.inr ⟨by omega, Or.inr (Or.inr (Or.inr (Or.inr (Or.inr (Or.inr (Or.inl ⟨by omega, by omega, by omega⟩))))))⟩ | exact Or.inr ⟨by omega, Or.inr (Or.inr (Or.inr (Or.inr (Or.inr (Or.inr (Or.inr (Or.inl ⟨by omega, by omega, by omega⟩)))))))⟩ | exact Or.inr ⟨by omega, Or.inr (Or.inr (Or.inr (Or.inr (Or.inr (Or.inr (Or.inr (Or.inr (Or.inl ⟨by omega, by omega, by omega⟩))))))))⟩ | exact Or.inr ⟨by omega, Or.inr (Or.inr (Or.inr (Or.inr (Or.inr (Or.inr (Or.inr (Or.inr (Or.inr (⟨by omega, by omega⟩)))))))))⟩⟩)
        · refine tm_iconst dX12_run_59 ?_
          refine tm_goto (tgt := 76) dX12_run_60 (by decide) ?_
          exact tm_iret rfl dX12_run_76 (⟨_, rfl, (Fr.rfl.S (by decide)), (hR.S (by omega)), by first | exact Or.inl ⟨by omega, by omega⟩ | exact Or.inr ⟨by omega, Or.inl ⟨by omega, by omega, by omega⟩⟩ | exact Or.inr ⟨by omega, Or.inr (Or.inl ⟨by omega, by omega, by omega⟩)⟩ | exact Or.inr ⟨by omega, Or.inr (Or.inr (Or.inl ⟨by omega, by omega⟩))⟩ | exact Or.inr ⟨by omega, Or.inr (Or.inr (Or.inr (Or.inl ⟨by omega, by omega⟩)))⟩ | exact Or.inr ⟨by omega, Or.inr (Or.inr (Or.inr (Or.inr (Or.inl ⟨by omega, by omega⟩))))⟩ | exact Or.inr ⟨by omega, Or.inr (Or.inr (Or.inr (Or.inr (Or.inr (Or.inl ⟨by omega, by omega, by omega⟩)))))⟩ | exact Or.inr ⟨by omega, Or.inr (Or.inr (Or.inr (Or.inr (Or.inr (Or.inr (Or.inl ⟨by omega, by omega, by omega⟩))))))⟩ | exact Or.inr ⟨by omega, Or.inr (Or.inr (Or.inr (Or.inr (Or.inr (Or.inr (Or.inr (Or.inl ⟨by omega, by omega, by omega⟩)))))))⟩ | exact Or.inr ⟨by omega, Or.inr (Or.inr (Or.inr (Or.inr (Or.inr (Or.inr (Or.inr (Or.inr (Or.inl ⟨by omega, by omega, by omega⟩))))))))⟩ | exact Or.inr ⟨by omega, Or.inr (Or.inr (Or.inr (Or.inr (Or.inr (Or.inr (Or.inr (Or.inr (Or.inr (⟨by omega, by omega⟩)))))))))⟩⟩)
      · refine tm_tableIn (tgt := 77) dX12_run_15 ⟨by omega, by omega⟩ (by omega) (by omega) (show _ = some (62) by rw [h3v]; rfl) (by decide) ?_
        refine tm_aload_n dX12_run_77 rfl 0 rfl ?_
        refine tm_get (k := 76) (v := .ref (b + 1 + 47)) lay_12 dX12_run_78 (by decide) fl12_161 rfl ?_
        refine tm_iconst dX12_run_81 ?_
        refine tm_iald (z := 0) (v := σ.2.1 76 0) dX12_run_82 (show mT[47]? = some (76, 0, 3) from rfl) (by omega) (by omega) (by decide) (ra_S (rfl)) ?_
        have g8 := RG.a hR 76 (0)
        exact tm_iret rfl dX12_run_83 (⟨_, rfl, (Fr.rfl.S (by decide)), (hR.S (by omega)), by first | exact Or.inl ⟨by omega, by omega⟩ | exact Or.inr ⟨by omega, Or.inl ⟨by omega, by omega, by omega⟩⟩ | exact Or.inr ⟨by omega, Or.inr (Or.inl ⟨by omega, by omega, by omega⟩)⟩ | exact Or.inr ⟨by omega, Or.inr (Or.inr (Or.inl ⟨by omega, by omega⟩))⟩ | exact Or.inr ⟨by omega, Or.inr (Or.inr (Or.inr (Or.inl ⟨by omega, by omega⟩)))⟩ | exact Or.inr ⟨by omega, Or.inr (Or.inr (Or.inr (Or.inr (Or.inl ⟨by omega, by omega⟩))))⟩ | exact Or.inr ⟨by omega, Or.inr (Or.inr (Or.inr (Or.inr (Or.inr (Or.inl ⟨by omega, by omega, by omega⟩)))))⟩ | exact Or.inr ⟨by omega, Or.inr (Or.inr (Or.inr (Or.inr (Or.inr (Or.inr (Or.inl ⟨by omega, by omega, by omega⟩))))))⟩ | exact Or.inr ⟨by omega, Or.inr (Or.inr (Or.inr (Or.inr (Or.inr (Or.inr (Or.inr (Or.inl ⟨by omega, by omega, by omega⟩)))))))⟩ | exact Or.inr ⟨by omega, Or.inr (Or.inr (Or.inr (Or.inr (Or.inr (Or.inr (Or.inr (Or.inr (Or.inl ⟨by omega, by omega, by omega⟩))))))))⟩ | exact Or.inr ⟨by omega, Or.inr (Or.inr (Or.inr (Or.inr (Or.inr (Or.inr (Or.inr (Or.inr (Or.inr (⟨by omega, by omega⟩)))))))))⟩⟩)
      · refine tm_tableIn (tgt := 84) dX12_run_15 ⟨by omega, by omega⟩ (by omega) (by omega) (show _ = some (69) by rw [h3v]; rfl) (by decide) ?_
        refine tm_aload_n dX12_run_84 rfl 0 rfl ?_
        refine tm_getS (k := 70) (t := σ.1 70) dX12_run_85 (by decide) fl12_566 rfl (rs_o (by decide) (rfl)) ?_
        have g9 := RG.s hR 70
        exact tm_iret rfl dX12_run_88 (⟨_, rfl, (Fr.rfl.S (by decide)), (hR.S (by omega)), by first | exact Or.inl ⟨by omega, by omega⟩ | exact Or.inr ⟨by omega, Or.inl ⟨by omega, by omega, by omega⟩⟩ | exact Or.inr ⟨by omega, Or.inr (Or.inl ⟨by omega, by omega, by omega⟩)⟩ | exact Or.inr ⟨by omega, Or.inr (Or.inr (Or.inl ⟨by omega, by omega⟩))⟩ | exact Or.inr ⟨by omega, Or.inr (Or.inr (Or.inr (Or.inl ⟨by omega, by omega⟩)))⟩ | exact Or.inr ⟨by omega, Or.inr (Or.inr (Or.inr (Or.inr (Or.inl ⟨by omega, by omega⟩))))⟩ | exact Or.inr ⟨by omega, Or.inr (Or.inr (Or.inr (Or.inr (Or.inr (Or.inl ⟨by omega, by omega, by omega⟩)))))⟩ | exact Or.inr ⟨by omega, Or.inr (Or.inr (Or.inr (Or.inr (Or.inr (Or.inr (Or.inl ⟨by omega, by omega, by omega⟩))))))⟩ | exact Or.inr ⟨by omega, Or.inr (Or.inr (Or.inr (Or.inr (Or.inr (Or.inr (Or.inr (Or.inl ⟨by omega, by omega, by omega⟩)))))))⟩ | exact Or.inr ⟨by omega, Or.inr (Or.inr (Or.inr (Or.inr (Or.inr (Or.inr (Or.inr (Or.inr (Or.inl ⟨by omega, by omega, by omega⟩))))))))⟩ | exact Or.inr ⟨by omega, Or.inr (Or.inr (Or.inr (Or.inr (Or.inr (Or.inr (Or.inr (Or.inr (Or.inr (⟨by omega, by omega⟩)))))))))⟩⟩)
      · refine tm_tableIn (tgt := 89) dX12_run_15 ⟨by omega, by omega⟩ (by omega) (by omega) (show _ = some (74) by rw [h3v]; rfl) (by decide) ?_
        refine tm_aload_n dX12_run_89 rfl 0 rfl ?_
        refine tm_get (k := 75) (v := .ref (b + 1 + 46)) lay_12 dX12_run_90 (by decide) fl12_158 rfl ?_
        refine tm_iconst dX12_run_93 ?_
        refine tm_iald (z := 0) (v := σ.2.1 75 0) dX12_run_94 (show mT[46]? = some (75, 0, 3) from rfl) (by omega) (by omega) (by decide) (ra_S (rfl)) ?_
        have g10 := RG.a hR 75 (0)
        exact tm_iret rfl dX12_run_95 (⟨_, rfl, (Fr.rfl.S (by decide)), (hR.S (by omega)), by first | exact Or.inl ⟨by omega, by omega⟩ | exact Or.inr ⟨by omega, Or.inl ⟨by omega, by omega, by omega⟩⟩ | exact Or.inr ⟨by omega, Or.inr (Or.inl ⟨by omega, by omega, by omega⟩)⟩ | exact Or.inr ⟨by omega, Or.inr (Or.inr (Or.inl ⟨by omega, by omega⟩))⟩ | exact Or.inr ⟨by omega, Or.inr (Or.inr (Or.inr (Or.inl ⟨by omega, by omega⟩)))⟩ | exact Or.inr ⟨by omega, Or.inr (Or.inr (Or.inr (Or.inr (Or.inl ⟨by omega, by omega⟩))))⟩ | exact Or.inr ⟨by omega, Or.inr (Or.inr (Or.inr (Or.inr (Or.inr (Or.inl ⟨by omega, by omega, by omega⟩)))))⟩ | exact Or.inr ⟨by omega, Or.inr (Or.inr (Or.inr (Or.inr (Or.inr (Or.inr (Or.inl ⟨by omega, by omega, by omega⟩))))))⟩ | exact Or.inr ⟨by omega, Or.inr (Or.inr (Or.inr (Or.inr (Or.inr (Or.inr (Or.inr (Or.inl ⟨by omega, by omega, by omega⟩)))))))⟩ | exact Or.inr ⟨by omega, Or.inr (Or.inr (Or.inr (Or.inr (Or.inr (Or.inr (Or.inr (Or.inr (Or.inl ⟨by omega, by omega, by omega⟩))))))))⟩ | exact Or.inr ⟨by omega, Or.inr (Or.inr (Or.inr (Or.inr (Or.inr (Or.inr (Or.inr (Or.inr (Or.inr (⟨by omega, by omega⟩)))))))))⟩⟩)
      · refine tm_tableIn (tgt := 96) dX12_run_15 ⟨by omega, by omega⟩ (by omega) (by omega) (show _ = some (81) by rw [h3v]; rfl) (by decide) ?_
        refine tm_aload_n dX12_run_96 rfl 0 rfl ?_
        refine tm_getS (k := 68) (t := σ.1 68) dX12_run_97 (by decide) fl12_560 rfl (rs_o (by decide) (rfl)) ?_
        have g11 := RG.s hR 68
        refine tm_if_eq (tgt := 107) dX12_run_100 (by decide) ⟨by omega, by omega⟩ (fun h12 => ?_) (fun h12 => ?_)
        · have hrr := hr7 (by omega) (by omega)
          have hmc := hrr.1.1
          have ed9 : dpt (sS 0 0 σ) 0 = dpt σ 0 := rfl
          refine tm_aload_n dX12_run_107 rfl 0 rfl ?_
          refine tm_iconst dX12_run_108 ?_
          refine tm_callV (M := m_X12_run) (pc := 109) (ix := 554) (M' := m_X12_depth) (As := [.int (iI 0)]) (rest := []) dX12_run_109 ok_X12_depth im_X12_depth se_X12_depth ml12_554 np_X12_depth rfl rfl (Nat.le_of_ble_eq_true rfl) (Nat.le_of_ble_eq_true rfl) rfl (c_X12_depth (d) (σ := (sS 0 0 σ)) (m := 0) (hR.S (by omega)) (by decide) hmc (fun c a e => ⟨_, hrr.1.2 c a e⟩)) (fun r13 σ14 hp => ?_)
          obtain ⟨v15, rfl, rfl, f16, f17⟩ := hp
          show Tm _ _ 112 b (sS 0 0 σ) [(0, .ref b), (1, .int (iI w))] [.int (iI v15)] _
          exact tm_iret rfl dX12_run_112 (⟨_, rfl, (Fr.rfl.S (by decide)), (hR.S (by omega)), by first | exact Or.inl ⟨by omega, by omega⟩ | exact Or.inr ⟨by omega, Or.inl ⟨by omega, by omega, by omega⟩⟩ | exact Or.inr ⟨by omega, Or.inr (Or.inl ⟨by omega, by omega, by omega⟩)⟩ | exact Or.inr ⟨by omega, Or.inr (Or.inr (Or.inl ⟨by omega, by omega⟩))⟩ | exact Or.inr ⟨by omega, Or.inr (Or.inr (Or.inr (Or.inl ⟨by omega, by omega⟩)))⟩ | exact Or.inr ⟨by omega, Or.inr (Or.inr (Or.inr (Or.inr (Or.inl ⟨by omega, by omega⟩))))⟩ | exact Or.inr ⟨by omega, Or.inr (Or.inr (Or.inr (Or.inr (Or.inr (Or.inl ⟨by omega, by omega, by omega⟩)))))⟩ | exact Or.inr ⟨by omega, Or.inr (Or.inr (Or.inr (Or.inr (Or.inr (Or.inr (Or.inl ⟨by omega, by omega, by omega⟩))))))⟩ | exact Or.inr ⟨by omega, Or.inr (Or.inr (Or.inr (Or.inr (Or.inr (Or.inr (Or.inr (Or.inl ⟨by omega, by omega, by omega⟩)))))))⟩ | exact Or.inr ⟨by omega, Or.inr (Or.inr (Or.inr (Or.inr (Or.inr (Or.inr (Or.inr (Or.inr (Or.inl ⟨by omega, by omega, by omega⟩))))))))⟩ | exact Or.inr ⟨by omega, Or.inr (Or.inr (Or.inr (Or.inr (Or.inr (Or.inr (Or.inr (Or.inr (Or.inr (⟨by omega, by omega⟩)))))))))⟩⟩)
        · refine tm_iconst dX12_run_103 ?_
          refine tm_goto (tgt := 112) dX12_run_104 (by decide) ?_
          exact tm_iret rfl dX12_run_112 (⟨_, rfl, (Fr.rfl.S (by decide)), (hR.S (by omega)), by first | exact Or.inl ⟨by omega, by omega⟩ | exact Or.inr ⟨by omega, Or.inl ⟨by omega, by omega, by omega⟩⟩ | exact Or.inr ⟨by omega, Or.inr (Or.inl ⟨by omega, by omega, by omega⟩)⟩ | exact Or.inr ⟨by omega, Or.inr (Or.inr (Or.inl ⟨by omega, by omega⟩))⟩ | exact Or.inr ⟨by omega, Or.inr (Or.inr (Or.inr (Or.inl ⟨by omega, by omega⟩)))⟩ | exact Or.inr ⟨by omega, Or.inr (Or.inr (Or.inr (Or.inr (Or.inl ⟨by omega, by omega⟩))))⟩ | exact Or.inr ⟨by omega, Or.inr (Or.inr (Or.inr (Or.inr (Or.inr (Or.inl ⟨by omega, by omega, by omega⟩)))))⟩ | exact Or.inr ⟨by omega, Or.inr (Or.inr (Or.inr (Or.inr (Or.inr (Or.inr (Or.inl ⟨by omega, by omega, by omega⟩))))))⟩ | exact Or.inr ⟨by omega, Or.inr (Or.inr (Or.inr (Or.inr (Or.inr (Or.inr (Or.inr (Or.inl ⟨by omega, by omega, by omega⟩)))))))⟩ | exact Or.inr ⟨by omega, Or.inr (Or.inr (Or.inr (Or.inr (Or.inr (Or.inr (Or.inr (Or.inr (Or.inl ⟨by omega, by omega, by omega⟩))))))))⟩ | exact Or.inr ⟨by omega, Or.inr (Or.inr (Or.inr (Or.inr (Or.inr (Or.inr (Or.inr (Or.inr (Or.inr (⟨by omega, by omega⟩)))))))))⟩⟩)
      · refine tm_tableIn (tgt := 113) dX12_run_15 ⟨by omega, by omega⟩ (by omega) (by omega) (show _ = some (98) by rw [h3v]; rfl) (by decide) ?_
        refine tm_aload_n dX12_run_113 rfl 0 rfl ?_
        refine tm_getS (k := 69) (t := σ.1 69) dX12_run_114 (by decide) fl12_563 rfl (rs_o (by decide) (rfl)) ?_
        have g18 := RG.s hR 69
        refine tm_if_eq (tgt := 124) dX12_run_117 (by decide) ⟨by omega, by omega⟩ (fun h19 => ?_) (fun h19 => ?_)
        · refine tm_iconst dX12_run_124 ?_
          exact tm_iret rfl dX12_run_125 (⟨_, rfl, (Fr.rfl.S (by decide)), (hR.S (by omega)), by first | exact Or.inl ⟨by omega, by omega⟩ | exact Or.inr ⟨by omega, Or.inl ⟨by omega, by omega, by omega⟩⟩ | exact Or.inr ⟨by omega, Or.inr (Or.inl ⟨by omega, by omega, by omega⟩)⟩ | exact Or.inr ⟨by omega, Or.inr (Or.inr (Or.inl ⟨by omega, by omega⟩))⟩ | exact Or.inr ⟨by omega, Or.inr (Or.inr (Or.inr (Or.inl ⟨by omega, by omega⟩)))⟩ | exact Or.inr ⟨by omega, Or.inr (Or.inr (Or.inr (Or.inr (Or.inl ⟨by omega, by omega⟩))))⟩ | exact Or.inr ⟨by omega, Or.inr (Or.inr (Or.inr (Or.inr (Or.inr (Or.inl ⟨by omega, by omega, by omega⟩)))))⟩ | exact Or.inr ⟨by omega, Or.inr (Or.inr (Or.inr (Or.inr (Or.inr (Or.inr (Or.inl ⟨by omega, by omega, by omega⟩))))))⟩ | exact Or.inr ⟨by omega, Or.inr (Or.inr (Or.inr (Or.inr (Or.inr (Or.inr (Or.inr (Or.inl ⟨by omega, by omega, by omega⟩)))))))⟩ | exact Or.inr ⟨by omega, Or.inr (Or.inr (Or.inr (Or.inr (Or.inr (Or.inr (Or.inr (Or.inr (Or.inl ⟨by omega, by omega, by omega⟩))))))))⟩ | exact Or.inr ⟨by omega, Or.inr (Or.inr (Or.inr (Or.inr (Or.inr (Or.inr (Or.inr (Or.inr (Or.inr (⟨by omega, by omega⟩)))))))))⟩⟩)
        · refine tm_iconst dX12_run_120 ?_
          refine tm_goto (tgt := 125) dX12_run_121 (by decide) ?_
          exact tm_iret rfl dX12_run_125 (⟨_, rfl, (Fr.rfl.S (by decide)), (hR.S (by omega)), by first | exact Or.inl ⟨by omega, by omega⟩ | exact Or.inr ⟨by omega, Or.inl ⟨by omega, by omega, by omega⟩⟩ | exact Or.inr ⟨by omega, Or.inr (Or.inl ⟨by omega, by omega, by omega⟩)⟩ | exact Or.inr ⟨by omega, Or.inr (Or.inr (Or.inl ⟨by omega, by omega⟩))⟩ | exact Or.inr ⟨by omega, Or.inr (Or.inr (Or.inr (Or.inl ⟨by omega, by omega⟩)))⟩ | exact Or.inr ⟨by omega, Or.inr (Or.inr (Or.inr (Or.inr (Or.inl ⟨by omega, by omega⟩))))⟩ | exact Or.inr ⟨by omega, Or.inr (Or.inr (Or.inr (Or.inr (Or.inr (Or.inl ⟨by omega, by omega, by omega⟩)))))⟩ | exact Or.inr ⟨by omega, Or.inr (Or.inr (Or.inr (Or.inr (Or.inr (Or.inr (Or.inl ⟨by omega, by omega, by omega⟩))))))⟩ | exact Or.inr ⟨by omega, Or.inr (Or.inr (Or.inr (Or.inr (Or.inr (Or.inr (Or.inr (Or.inl ⟨by omega, by omega, by omega⟩)))))))⟩ | exact Or.inr ⟨by omega, Or.inr (Or.inr (Or.inr (Or.inr (Or.inr (Or.inr (Or.inr (Or.inr (Or.inl ⟨by omega, by omega, by omega⟩))))))))⟩ | exact Or.inr ⟨by omega, Or.inr (Or.inr (Or.inr (Or.inr (Or.inr (Or.inr (Or.inr (Or.inr (Or.inr (⟨by omega, by omega⟩)))))))))⟩⟩)
  · refine tm_iconst dX12_run_12 ?_
    exact tm_iret rfl dX12_run_13 (⟨_, rfl, (Fr.rfl.S (by decide)), (hR.S (by omega)), by first | exact Or.inl ⟨by omega, by omega⟩ | exact Or.inr ⟨by omega, Or.inl ⟨by omega, by omega, by omega⟩⟩ | exact Or.inr ⟨by omega, Or.inr (Or.inl ⟨by omega, by omega, by omega⟩)⟩ | exact Or.inr ⟨by omega, Or.inr (Or.inr (Or.inl ⟨by omega, by omega⟩))⟩ | exact Or.inr ⟨by omega, Or.inr (Or.inr (Or.inr (Or.inl ⟨by omega, by omega⟩)))⟩ | exact Or.inr ⟨by omega, Or.inr (Or.inr (Or.inr (Or.inr (Or.inl ⟨by omega, by omega⟩))))⟩ | exact Or.inr ⟨by omega, Or.inr (Or.inr (Or.inr (Or.inr (Or.inr (Or.inl ⟨by omega, by omega, by omega⟩)))))⟩ | exact Or.inr ⟨by omega, Or.inr (Or.inr (Or.inr (Or.inr (Or.inr (Or.inr (Or.inl ⟨by omega, by omega, by omega⟩))))))⟩ | exact Or.inr ⟨by omega, Or.inr (Or.inr (Or.inr (Or.inr (Or.inr (Or.inr (Or.inr (Or.inl ⟨by omega, by omega, by omega⟩)))))))⟩ | exact Or.inr ⟨by omega, Or.inr (Or.inr (Or.inr (Or.inr (Or.inr (Or.inr (Or.inr (Or.inr (Or.inl ⟨by omega, by omega, by omega⟩))))))))⟩ | exact Or.inr ⟨by omega, Or.inr (Or.inr (Or.inr (Or.inr (Or.inr (Or.inr (Or.inr (Or.inr (Or.inr (⟨by omega, by omega⟩)))))))))⟩⟩)
set_option maxHeartbeats 4000000 in
set_option maxRecDepth 20000 in
theorem f_X12_printed (d : Nat) {b : Nat} {σ : MS} {x : Int} (hR : RG σ) (h_x : -2147483648 ≤ x ∧ x ≤ 2147483647) : Tm (d + 1) m_X12_printed 0 b σ [(0, .ref b), (1, .int (iI x))] [] (fun ro σ2 => ∃ v : Int, ro = some (.int (iI v)) ∧ (Fr [0] [] [] σ σ2) ∧ (RG σ2) ∧ (PRA σ x v)) := by
  refine tm_aload_n dX12_printed_0 rfl 0 rfl ?_
  refine tm_iconst dX12_printed_1 ?_
  refine tm_putS (k := 0) (v := 0) lay_12 dX12_printed_2 (by decide) fl12_185 rfl (tyX12_ok 0 (by decide)) rfl rfl rfl ?_
  refine tm_aload_n dX12_printed_5 rfl 0 rfl ?_
  refine tm_getS (k := 67) (t := σ.1 67) dX12_printed_6 (by decide) fl12_397 rfl (rs_o (by decide) (rfl)) ?_
  have g1 := RG.s hR 67
  refine tm_if_eq (tgt := 42) dX12_printed_9 (by decide) ⟨by omega, by omega⟩ (fun h2 => ?_) (fun h2 => ?_)
  · refine tm_iconst dX12_printed_42 ?_
    exact tm_iret rfl dX12_printed_43 (⟨_, rfl, (Fr.rfl.S (by decide)), (hR.S (by omega)), by first | exact Or.inl ⟨⟨by omega, by omega, by omega, by omega⟩, rfl⟩ | exact Or.inr ⟨by omega, by omega⟩⟩)
  · refine tm_iload_n dX12_printed_12 rfl 1 rfl ?_
    refine tm_if_lt (tgt := 42) dX12_printed_13 (by decide) ⟨by omega, by omega⟩ (fun h3 => ?_) (fun h3 => ?_)
    · refine tm_iconst dX12_printed_42 ?_
      exact tm_iret rfl dX12_printed_43 (⟨_, rfl, (Fr.rfl.S (by decide)), (hR.S (by omega)), by first | exact Or.inl ⟨⟨by omega, by omega, by omega, by omega⟩, rfl⟩ | exact Or.inr ⟨by omega, by omega⟩⟩)
    · refine tm_iload_n dX12_printed_16 rfl 1 rfl ?_
      refine tm_sipush dX12_printed_17 (by decide) ?_
      refine tm_icmp_ge (tgt := 42) dX12_printed_20 (by decide) ⟨by omega, by omega⟩ ⟨by decide, by decide⟩ (fun h4 => ?_) (fun h4 => ?_)
      · refine tm_iconst dX12_printed_42 ?_
        exact tm_iret rfl dX12_printed_43 (⟨_, rfl, (Fr.rfl.S (by decide)), (hR.S (by omega)), by first | exact Or.inl ⟨⟨by omega, by omega, by omega, by omega⟩, rfl⟩ | exact Or.inr ⟨by omega, by omega⟩⟩)
      · refine tm_iload_n dX12_printed_23 rfl 1 rfl ?_
        refine tm_aload_n dX12_printed_24 rfl 0 rfl ?_
        refine tm_get (k := 76) (v := .ref (b + 1 + 47)) lay_12 dX12_printed_25 (by decide) fl12_161 rfl ?_
        refine tm_iconst dX12_printed_28 ?_
        refine tm_iald (z := 0) (v := σ.2.1 76 0) dX12_printed_29 (show mT[47]? = some (76, 0, 3) from rfl) (by omega) (by omega) (by decide) (ra_S (rfl)) ?_
        have g5 := RG.a hR 76 (0)
        refine tm_icmp_ge (tgt := 42) dX12_printed_30 (by decide) ⟨by omega, by omega⟩ ⟨by omega, by omega⟩ (fun h6 => ?_) (fun h6 => ?_)
        · refine tm_iconst dX12_printed_42 ?_
          exact tm_iret rfl dX12_printed_43 (⟨_, rfl, (Fr.rfl.S (by decide)), (hR.S (by omega)), by first | exact Or.inl ⟨⟨by omega, by omega, by omega, by omega⟩, rfl⟩ | exact Or.inr ⟨by omega, by omega⟩⟩)
        · refine tm_aload_n dX12_printed_33 rfl 0 rfl ?_
          refine tm_get (k := 77) (v := .ref (b + 1 + 48)) lay_12 dX12_printed_34 (by decide) fl12_164 rfl ?_
          refine tm_iload_n dX12_printed_37 rfl 1 rfl ?_
          refine tm_iald (z := x) (v := σ.2.1 77 x) dX12_printed_38 (show mT[48]? = some (77, 0, 600) from rfl) (by omega) (by omega) (by decide) (ra_S (rfl)) ?_
          have g7 := RG.a hR 77 (x)
          refine tm_goto (tgt := 43) dX12_printed_39 (by decide) ?_
          exact tm_iret rfl dX12_printed_43 (⟨_, rfl, (Fr.rfl.S (by decide)), (hR.S (by omega)), by first | exact Or.inl ⟨⟨by omega, by omega, by omega, by omega⟩, rfl⟩ | exact Or.inr ⟨by omega, by omega⟩⟩)
