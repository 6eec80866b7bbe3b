theorem fl12_304 : Cond.fieldLink RX12 304 (TX12 28).1 (TX12 28).2.1 (TX12 28).2.2.1 ∈ pWW := pw7 (List.mem_of_getElem? (i := 35) rfl) rfl
theorem ml12_307 : Cond.methodLink RX12 307 yX12_sum ∈ pWW := pw8 (List.mem_of_getElem? (i := 221) rfl) rfl
theorem dX12_expression_0 : decode cX12_expression 0 = .ok (.aload_n 0, 1) := by decide +kernel
theorem dX12_expression_1 : decode cX12_expression 1 = .ok (.getfield 304, 3) := by decide +kernel
theorem dX12_expression_4 : decode cX12_expression 4 = .ok (.bipush 8, 2) := by decide +kernel
theorem dX12_expression_6 : decode cX12_expression 6 = .ok (.if_icmp .ne 8, 3) := by decide +kernel
theorem dX12_expression_14 : decode cX12_expression 14 = .ok (.aload_n 0, 1) := by decide +kernel
theorem dX12_expression_15 : decode cX12_expression 15 = .ok (.dup, 1) := by decide +kernel
theorem dX12_expression_16 : decode cX12_expression 16 = .ok (.getfield 304, 3) := by decide +kernel
theorem dX12_expression_19 : decode cX12_expression 19 = .ok (.iconst 1, 1) := by decide +kernel
theorem dX12_expression_20 : decode cX12_expression 20 = .ok (.iadd, 1) := by decide +kernel
theorem dX12_expression_21 : decode cX12_expression 21 = .ok (.putfield 304, 3) := by decide +kernel
theorem dX12_expression_24 : decode cX12_expression 24 = .ok (.aload_n 0, 1) := by decide +kernel
theorem dX12_expression_25 : decode cX12_expression 25 = .ok (.invokevirtual 307, 3) := by decide +kernel
theorem dX12_expression_28 : decode cX12_expression 28 = .ok (.istore_n 1, 1) := by decide +kernel
theorem dX12_expression_29 : decode cX12_expression 29 = .ok (.iload_n 1, 1) := by decide +kernel
theorem dX12_expression_30 : decode cX12_expression 30 = .ok (.ifCond .eq 76, 3) := by decide +kernel
theorem dX12_expression_106 : decode cX12_expression 106 = .ok (.aload_n 0, 1) := by decide +kernel
theorem dX12_expression_107 : decode cX12_expression 107 = .ok (.dup, 1) := by decide +kernel
theorem dX12_expression_108 : decode cX12_expression 108 = .ok (.getfield 304, 3) := by decide +kernel
theorem dX12_expression_111 : decode cX12_expression 111 = .ok (.iconst 1, 1) := by decide +kernel
theorem dX12_expression_112 : decode cX12_expression 112 = .ok (.isub, 1) := by decide +kernel
theorem dX12_expression_113 : decode cX12_expression 113 = .ok (.putfield 304, 3) := by decide +kernel
theorem dX12_expression_116 : decode cX12_expression 116 = .ok (.iload_n 1, 1) := by decide +kernel
theorem dX12_expression_117 : decode cX12_expression 117 = .ok (.ireturn, 1) := by decide +kernel
theorem dX12_expression_33 : decode cX12_expression 33 = .ok (.aload_n 0, 1) := by decide +kernel
theorem dX12_expression_34 : decode cX12_expression 34 = .ok (.bipush 61, 2) := by decide +kernel
theorem dX12_expression_36 : decode cX12_expression 36 = .ok (.invokevirtual 258, 3) := by decide +kernel
theorem dX12_expression_39 : decode cX12_expression 39 = .ok (.ifCond .ne 12, 3) := by decide +kernel
theorem dX12_expression_51 : decode cX12_expression 51 = .ok (.aload_n 0, 1) := by decide +kernel
theorem dX12_expression_52 : decode cX12_expression 52 = .ok (.bipush 61, 2) := by decide +kernel
theorem dX12_expression_54 : decode cX12_expression 54 = .ok (.invokevirtual 258, 3) := by decide +kernel
theorem dX12_expression_57 : decode cX12_expression 57 = .ok (.ifCond .eq 7, 3) := by decide +kernel
theorem dX12_expression_64 : decode cX12_expression 64 = .ok (.iconst 5, 1) := by decide +kernel
theorem dX12_expression_65 : decode cX12_expression 65 = .ok (.istore_n 2, 1) := by decide +kernel
theorem dX12_expression_66 : decode cX12_expression 66 = .ok (.aload_n 0, 1) := by decide +kernel
theorem dX12_expression_67 : decode cX12_expression 67 = .ok (.getfield 285, 3) := by decide +kernel
theorem dX12_expression_70 : decode cX12_expression 70 = .ok (.istore_n 3, 1) := by decide +kernel
theorem dX12_expression_71 : decode cX12_expression 71 = .ok (.aload_n 0, 1) := by decide +kernel
theorem dX12_expression_72 : decode cX12_expression 72 = .ok (.getfield 288, 3) := by decide +kernel
theorem dX12_expression_75 : decode cX12_expression 75 = .ok (.istore 4, 2) := by decide +kernel
theorem dX12_expression_77 : decode cX12_expression 77 = .ok (.aload_n 0, 1) := by decide +kernel
theorem dX12_expression_78 : decode cX12_expression 78 = .ok (.invokevirtual 265, 3) := by decide +kernel
theorem dX12_expression_81 : decode cX12_expression 81 = .ok (.aload_n 0, 1) := by decide +kernel
theorem dX12_expression_82 : decode cX12_expression 82 = .ok (.invokevirtual 307, 3) := by decide +kernel
theorem dX12_expression_85 : decode cX12_expression 85 = .ok (.istore_n 1, 1) := by decide +kernel
theorem dX12_expression_86 : decode cX12_expression 86 = .ok (.iload_n 1, 1) := by decide +kernel
theorem dX12_expression_87 : decode cX12_expression 87 = .ok (.ifCond .eq 19, 3) := by decide +kernel
theorem dX12_expression_90 : decode cX12_expression 90 = .ok (.aload_n 0, 1) := by decide +kernel
theorem dX12_expression_91 : decode cX12_expression 91 = .ok (.iload_n 2, 1) := by decide +kernel
theorem dX12_expression_92 : decode cX12_expression 92 = .ok (.iload_n 3, 1) := by decide +kernel
theorem dX12_expression_93 : decode cX12_expression 93 = .ok (.iload 4, 2) := by decide +kernel
theorem dX12_expression_95 : decode cX12_expression 95 = .ok (.aload_n 0, 1) := by decide +kernel
theorem dX12_expression_96 : decode cX12_expression 96 = .ok (.getfield 285, 3) := by decide +kernel
theorem dX12_expression_99 : decode cX12_expression 99 = .ok (.aload_n 0, 1) := by decide +kernel
theorem dX12_expression_100 : decode cX12_expression 100 = .ok (.getfield 288, 3) := by decide +kernel
theorem dX12_expression_103 : decode cX12_expression 103 = .ok (.invokevirtual 310, 3) := by decide +kernel
theorem dX12_expression_60 : decode cX12_expression 60 = .ok (.iconst 4, 1) := by decide +kernel
theorem dX12_expression_61 : decode cX12_expression 61 = .ok (.goto 4, 3) := by decide +kernel
theorem dX12_expression_42 : decode cX12_expression 42 = .ok (.aload_n 0, 1) := by decide +kernel
theorem dX12_expression_43 : decode cX12_expression 43 = .ok (.bipush 60, 2) := by decide +kernel
theorem dX12_expression_45 : decode cX12_expression 45 = .ok (.invokevirtual 258, 3) := by decide +kernel
theorem dX12_expression_48 : decode cX12_expression 48 = .ok (.ifCond .eq 58, 3) := by decide +kernel
theorem dX12_expression_9 : decode cX12_expression 9 = .ok (.aload_n 0, 1) := by decide +kernel
theorem dX12_expression_10 : decode cX12_expression 10 = .ok (.invokevirtual 261, 3) := by decide +kernel
theorem dX12_expression_13 : decode cX12_expression 13 = .ok (.ireturn, 1) := by decide +kernel
set_option maxHeartbeats 4000000 in
set_option maxRecDepth 20000 in
theorem cs_X12_expression (d : Nat) {b : Nat} {σ : MS} {lv : Nat} (hce : ∀ (d : Nat) {b : Nat} {σ : MS} (hR : RG σ) (hrd : RDY σ) (hnn : NN σ) (h28 : σ.1 28 = 8 - (lv : Int)), Tm (d + 4 * lv + 8) m_X12_expression 0 b σ [(0, .ref b)] [] (fun ro σ2 => ∃ v : Int, ro = some (.int (iI v)) ∧ ((v = 0 ∨ v = 1)) ∧ (Fr [19, 20, 22, 23, 26, 27, 28, 32, 34, 39, 40] [3, 4, 5, 6, 7, 8, 35] [24, 38] σ σ2) ∧ (RG σ2) ∧ (PBF σ σ2) ∧ (Im v 1 (EXS σ σ2)) ∧ (PRS 2 v σ σ2) ∧ (σ2.1 28 = σ.1 28))) (hR : RG σ) (hrd : RDY σ) (hnn : NN σ) (h28 : σ.1 28 = 7 - (lv : Int)) : Tm (d + 4 * lv + 12) m_X12_expression 0 b σ [(0, .ref b)] [] (fun ro σ2 => ∃ v : Int, ro = some (.int (iI v)) ∧ ((v = 0 ∨ v = 1)) ∧ (Fr [19, 20, 22, 23, 26, 27, 28, 32, 34, 39, 40] [3, 4, 5, 6, 7, 8, 35] [24, 38] σ σ2) ∧ (RG σ2) ∧ (PBF σ σ2) ∧ (Im v 1 (EXS σ σ2)) ∧ (PRS 2 v σ σ2) ∧ (σ2.1 28 = σ.1 28)) := by
  have rd0 := hrd
  unfold RDY at rd0
  have tr0 : TRm 2 0 σ [2] σ := TRm.start hrd hnn
  refine tm_aload_n dX12_expression_0 rfl 0 rfl ?_
  refine tm_getS (k := 28) (t := σ.1 28) dX12_expression_1 (by decide) fl12_304 rfl (rfl) ?_
  have g1 := RG.s hR 28
  refine tm_bipush dX12_expression_4 (by decide) ?_
  refine tm_icmp_ne (tgt := 14) dX12_expression_6 (by decide) ⟨by omega, by omega⟩ ⟨by decide, by decide⟩ (fun h2 => ?_) (fun h2 => ?_)
  · refine tm_aload_n dX12_expression_14 rfl 0 rfl ?_
    refine tm_dup dX12_expression_15 rfl ?_
    refine tm_getS (k := 28) (t := σ.1 28) dX12_expression_16 (by decide) fl12_304 rfl (rfl) ?_
    have g3 := RG.s hR 28
    refine tm_iconst dX12_expression_19 ?_
    refine tm_iadd dX12_expression_20 ?_
    refine tm_putS (k := 28) (v := (σ.1 28) + 1) lay_12 dX12_expression_21 (by decide) fl12_304 rfl (tyX12_ok 28 (by decide)) rfl rfl rfl ?_
    have tr1 := tr0.chg (show Fr [28] [] [] σ (sS 28 ((σ.1 28) + 1) σ) from (Fr.rfl.S (by decide))) (fun q => g2 (by omega) ⟨rfl, rfl, rfl, rfl⟩)
    refine tm_aload_n dX12_expression_24 rfl 0 rfl ?_
    refine tm_callV (M := m_X12_expression) (pc := 25) (ix := 307) (M' := m_X12_sum) (As := []) (rest := []) dX12_expression_25 ok_X12_sum im_X12_sum se_X12_sum ml12_307 np_X12_sum rfl rfl (Nat.le_of_ble_eq_true rfl) (Nat.le_of_ble_eq_true rfl) rfl (c_X12_sum (d) (σ := (sS 28 ((σ.1 28) + 1) σ))  hce (hR.S (by omega)) tr1.2.2.1 tr1.nn (by show σ.1 28 + 1 = _; omega)) (fun r4 σ5 hp => ?_)
    obtain ⟨v6, rfl, f7, f8, f9, f10, f11, f12, f13⟩ := hp
    show Tm _ _ 28 b σ5 [(0, .ref b)] [.int (iI v6)] _
    have xp0 := f7
    have xp1 := f8
    have xp2 := f9
    have xp3 := f10
    have xp4 := f11
    have xp5 := f12
    have xp6 := f13
    have e28o : σ5.1 28 = σ.1 28 + 1 := xp6
    refine tm_istore_n (L' := [(1, .int (iI v6)), (0, .ref b)]) dX12_expression_28 rfl (by decide) rfl ?_
    refine tm_iload_n dX12_expression_29 rfl 0 rfl ?_
    refine tm_if_eq (tgt := 106) dX12_expression_30 (by decide) ⟨by omega, by omega⟩ (fun h14 => ?_) (fun h14 => ?_)
    · refine tm_aload_n dX12_expression_106 rfl 1 rfl ?_
      refine tm_dup dX12_expression_107 rfl ?_
      refine tm_getS (k := 28) (t := σ5.1 28) dX12_expression_108 (by decide) fl12_304 rfl (rfl) ?_
      have g15 := RG.s f9 28
      refine tm_iconst dX12_expression_111 ?_
      refine tm_isub dX12_expression_112 ?_
      refine tm_putS (k := 28) (v := (σ5.1 28) - 1) lay_12 dX12_expression_113 (by decide) fl12_304 rfl (tyX12_ok 28 (by decide)) rfl rfl rfl ?_
      refine tm_iload_n dX12_expression_116 rfl 0 rfl ?_
      exact tm_zret (v := v6) rfl (by omega) dX12_expression_117 (⟨_, rfl, by omega, (((Fr.rfl.S (by decide)).trans (Fr.sub f8 (by decide) (by decide) (by decide))).S (by decide)), (f9.S (by omega)), (tr1.fail xp3 (xp5.2 (by omega))).1.trans (PBF.nop (tr1.fail xp3 (xp5.2 (by omega))).1.2.2.1 (show Fr [28] [] [] σ5 (sS 28 ((σ5.1 28) - 1) σ5) from (Fr.rfl.S (by decide))) (by decide) (by decide) (by decide)), fun q => absurd q (by omega), by rw [show v6 = 0 by omega]; exact PRS.no (fun q => ((tr1.fail xp3 (xp5.2 (by omega))).2 q).mv ((show Fr [28] [] [] σ5 (sS 28 ((σ5.1 28) - 1) σ5) from (Fr.rfl.S (by decide))).1 26 (by decide)) ((show Fr [28] [] [] σ5 (sS 28 ((σ5.1 28) - 1) σ5) from (Fr.rfl.S (by decide))).1 27 (by decide))), by show σ5.1 28 - 1 = σ.1 28; omega⟩)
    · have tr2 := tr1.sub xp3 (xp4 (by omega)) (xp5.1 (by omega))
      have gta := (xp4 (by omega)).2.2.1
      have e28a : σ5.1 28 = σ.1 28 + 1 := (xp4 (by omega)).2.2.2.2
      have rda := tr2.2.2.1
      unfold RDY at rda
      refine tm_aload_n dX12_expression_33 rfl 1 rfl ?_
      refine tm_bipush dX12_expression_34 (by decide) ?_
      refine tm_callV (M := m_X12_expression) (pc := 36) (ix := 258) (M' := m_X12_isSign) (As := [.int (iI 61)]) (rest := []) dX12_expression_36 ok_X12_isSign im_X12_isSign se_X12_isSign ml12_258 np_X12_isSign rfl rfl (Nat.le_of_ble_eq_true rfl) (Nat.le_of_ble_eq_true rfl) rfl (c2_X12_isSign (d + 4 * lv + 10) (σ := σ5) (c := 61) f9 (by omega)) (fun r16 σ17 hp => ?_)
      obtain ⟨v18, rfl, rfl, f19, f20, f21⟩ := hp
      show Tm _ _ 39 b σ5 [(1, .int (iI v6)), (0, .ref b)] [.int (iI v18)] _
      have i61 := f20
      have n61_ := f21
      refine tm_if_ne (tgt := 51) dX12_expression_39 (by decide) ⟨by omega, by omega⟩ (fun h22 => ?_) (fun h22 => ?_)
      · refine tm_aload_n dX12_expression_51 rfl 1 rfl ?_
        refine tm_bipush dX12_expression_52 (by decide) ?_
        refine tm_callV (M := m_X12_expression) (pc := 54) (ix := 258) (M' := m_X12_isSign) (As := [.int (iI 61)]) (rest := []) dX12_expression_54 ok_X12_isSign im_X12_isSign se_X12_isSign ml12_258 np_X12_isSign rfl rfl (Nat.le_of_ble_eq_true rfl) (Nat.le_of_ble_eq_true rfl) rfl (c2_X12_isSign (d + 4 * lv + 10) (σ := σ5) (c := 61) f9 (by omega)) (fun r23 σ24 hp => ?_)
        obtain ⟨v25, rfl, rfl, f26, f27, f28⟩ := hp
        show Tm _ _ 57 b σ5 [(1, .int (iI v6)), (0, .ref b)] [.int (iI v25)] _
        refine tm_if_eq (tgt := 64) dX12_expression_57 (by decide) ⟨by omega, by omega⟩ (fun h29 => ?_) (fun h29 => ?_)
        · refine tm_iconst dX12_expression_64 ?_
          refine tm_istore_n (L' := [(2, .int (iI 5)), (1, .int (iI v6)), (0, .ref b)]) dX12_expression_65 rfl (by decide) rfl ?_
          refine tm_aload_n dX12_expression_66 rfl 2 rfl ?_
          refine tm_getS (k := 39) (t := σ5.1 39) dX12_expression_67 (by decide) fl12_285 rfl (rfl) ?_
          have g30 := RG.s f9 39
          refine tm_istore_n (L' := [(3, .int (iI (σ5.1 39))), (2, .int (iI 5)), (1, .int (iI v6)), (0, .ref b)]) dX12_expression_70 rfl (by decide) rfl ?_
          refine tm_aload_n dX12_expression_71 rfl 3 rfl ?_
          refine tm_getS (k := 40) (t := σ5.1 40) dX12_expression_72 (by decide) fl12_288 rfl (rfl) ?_
          have g31 := RG.s f9 40
          refine tm_istore (L' := [(4, .int (iI (σ5.1 40))), (3, .int (iI (σ5.1 39))), (2, .int (iI 5)), (1, .int (iI v6)), (0, .ref b)]) dX12_expression_75 (by decide) rfl ?_
          refine tm_aload_n dX12_expression_77 rfl 4 rfl ?_
          refine tm_callV (M := m_X12_expression) (pc := 78) (ix := 265) (M' := m_X12_advance) (As := []) (rest := []) dX12_expression_78 ok_X12_advance im_X12_advance se_X12_advance ml12_265 np_X12_advance rfl rfl (Nat.le_of_ble_eq_true rfl) (Nat.le_of_ble_eq_true rfl) rfl (c_X12_advance (d + 4 * lv + 6) (σ := σ5)  f9 (by have z := tr2.2.2.1.1.1; omega)) (fun r32 σ33 hp => ?_)
          obtain ⟨rfl, f35, f36, f37, f38, f39⟩ := hp
          show Tm _ _ 81 b σ33 [(4, .int (iI (σ5.1 40))), (3, .int (iI (σ5.1 39))), (2, .int (iI 5)), (1, .int (iI v6)), (0, .ref b)] [] _
          have tr3 := tr2.adv f36 f38 f39 (by first | (have z := (i61 (by omega)).1; omega) | (have z := (i60 (by omega)).1; omega)) (fun q => g6y (by first | exact Or.inl (i61 (by omega)) | exact Or.inr (i60 (by omega))) f35)
          have e28b : σ33.1 28 = σ.1 28 + 1 := by rw [f36.1 28 (by decide)]; exact e28a
          have m34a := f36.1 34 (by decide)
          refine tm_aload_n dX12_expression_81 rfl 4 rfl ?_
          refine tm_callV (M := m_X12_expression) (pc := 82) (ix := 307) (M' := m_X12_sum) (As := []) (rest := []) dX12_expression_82 ok_X12_sum im_X12_sum se_X12_sum ml12_307 np_X12_sum rfl rfl (Nat.le_of_ble_eq_true rfl) (Nat.le_of_ble_eq_true rfl) rfl (c_X12_sum (d) (σ := σ33)  hce f37 tr3.2.2.1 tr3.nn (by omega)) (fun r40 σ41 hp => ?_)
          obtain ⟨v42, rfl, f43, f44, f45, f46, f47, f48, f49⟩ := hp
          show Tm _ _ 85 b σ41 [(4, .int (iI (σ5.1 40))), (3, .int (iI (σ5.1 39))), (2, .int (iI 5)), (1, .int (iI v6)), (0, .ref b)] [.int (iI v42)] _
          have yp0 := f43
          have yp1 := f44
          have yp2 := f45
          have yp3 := f46
          have yp4 := f47
          have yp5 := f48
          have yp6 := f49
          have e28y : σ41.1 28 = σ.1 28 + 1 := yp6.trans e28b
          refine tm_istore_n (L' := [(1, .int (iI v42)), (4, .int (iI (σ5.1 40))), (3, .int (iI (σ5.1 39))), (2, .int (iI 5)), (0, .ref b)]) dX12_expression_85 rfl (by decide) rfl ?_
          refine tm_iload_n dX12_expression_86 rfl 0 rfl ?_
          refine tm_if_eq (tgt := 106) dX12_expression_87 (by decide) ⟨by omega, by omega⟩ (fun h50 => ?_) (fun h50 => ?_)
          · refine tm_aload_n dX12_expression_106 rfl 4 rfl ?_
            refine tm_dup dX12_expression_107 rfl ?_
            refine tm_getS (k := 28) (t := σ41.1 28) dX12_expression_108 (by decide) fl12_304 rfl (rfl) ?_
            have g51 := RG.s f45 28
            refine tm_iconst dX12_expression_111 ?_
            refine tm_isub dX12_expression_112 ?_
            refine tm_putS (k := 28) (v := (σ41.1 28) - 1) lay_12 dX12_expression_113 (by decide) fl12_304 rfl (tyX12_ok 28 (by decide)) rfl rfl rfl ?_
            refine tm_iload_n dX12_expression_116 rfl 0 rfl ?_
            exact tm_zret (v := v42) rfl (by omega) dX12_expression_117 (⟨_, rfl, by omega, (((((Fr.rfl.S (by decide)).trans (Fr.sub f8 (by decide) (by decide) (by decide))).trans (Fr.sub f36 (by decide) (by decide) (by decide))).trans (Fr.sub f44 (by decide) (by decide) (by decide))).S (by decide)), (f45.S (by omega)), (tr3.fail yp3 (yp5.2 (by omega))).1.trans (PBF.nop (tr3.fail yp3 (yp5.2 (by omega))).1.2.2.1 (show Fr [28] [] [] σ41 (sS 28 ((σ41.1 28) - 1) σ41) from (Fr.rfl.S (by decide))) (by decide) (by decide) (by decide)), fun q => absurd q (by omega), by rw [show v42 = 0 by omega]; exact PRS.no (fun q => ((tr3.fail yp3 (yp5.2 (by omega))).2 q).mv ((show Fr [28] [] [] σ41 (sS 28 ((σ41.1 28) - 1) σ41) from (Fr.rfl.S (by decide))).1 26 (by decide)) ((show Fr [28] [] [] σ41 (sS 28 ((σ41.1 28) - 1) σ41) from (Fr.rfl.S (by decide))).1 27 (by decide))), by show σ41.1 28 - 1 = σ.1 28; omega⟩)
          · have tr4 := tr3.sub yp3 (yp4 (by omega)) (yp5.1 (by omega))
            have gt := (yp4 (by omega)).2.2.1
            have gtz := gta
            unfold GTm at gtz
            have e28c : σ41.1 28 = σ.1 28 + 1 := by rw [(yp4 (by omega)).2.2.2.2]; exact e28b
            have m34b := yp3.2.2.2.2.2.1
            have rdj := tr4.2.2.1.2
            have tkj := tr4.2.2.1.1.1
            refine tm_aload_n dX12_expression_90 rfl 4 rfl ?_
            refine tm_iload_n dX12_expression_91 rfl 3 rfl ?_
            refine tm_iload_n dX12_expression_92 rfl 2 rfl ?_
            refine tm_iload dX12_expression_93 1 rfl ?_
            refine tm_aload_n dX12_expression_95 rfl 4 rfl ?_
            refine tm_getS (k := 39) (t := σ41.1 39) dX12_expression_96 (by decide) fl12_285 rfl (rfl) ?_
            have g52 := RG.s f45 39
            refine tm_aload_n dX12_expression_99 rfl 4 rfl ?_
            refine tm_getS (k := 40) (t := σ41.1 40) dX12_expression_100 (by decide) fl12_288 rfl (rfl) ?_
            have g53 := RG.s f45 40
            refine tm_callV (M := m_X12_expression) (pc := 103) (ix := 310) (M' := m_X12_joins) (As := [.int (iI 5), .int (iI (σ5.1 39)), .int (iI (σ5.1 40)), .int (iI (σ41.1 39)), .int (iI (σ41.1 40))]) (rest := []) dX12_expression_103 ok_X12_joins im_X12_joins se_X12_joins ml12_310 np_X12_joins rfl rfl (Nat.le_of_ble_eq_true rfl) (Nat.le_of_ble_eq_true rfl) rfl (c_X12_joins (d + 4 * lv + 8) (σ := σ41) (k := 5) (ak := σ5.1 39) (a := σ5.1 40) (bk := σ41.1 39) (c := σ41.1 40) f45 (by omega) (by decide) (by omega) (by have z := gt; unfold GTm at z; omega) (by omega) (by omega) (by omega)) (fun r54 σ55 hp => ?_)
            obtain ⟨rfl, f57, f58, f59, f60, f61⟩ := hp
            show Tm _ _ 106 b σ55 [(1, .int (iI v42)), (4, .int (iI (σ5.1 40))), (3, .int (iI (σ5.1 39))), (2, .int (iI 5)), (0, .ref b)] [] _
            have tr5 := tr4.join f57 ⟨f59.1, f59.2.1⟩ f60 f61 (by decide) hrd
            have gtf : GTm σ55 := by unfold GTm; rw [f59.2.2.1, f59.2.2.2, f59.1]; exact ⟨Or.inr rfl, fun _ => by omega⟩
            have e28f : σ55.1 28 = σ.1 28 + 1 := by rw [f57.1 28 (by decide)]; exact e28c
            refine tm_aload_n dX12_expression_106 rfl 4 rfl ?_
            refine tm_dup dX12_expression_107 rfl ?_
            refine tm_getS (k := 28) (t := σ41.1 28) dX12_expression_108 (by decide) fl12_304 rfl (rs_F f57 (by decide) (rfl)) ?_
            have g62 := RG.s f45 28
            refine tm_iconst dX12_expression_111 ?_
            refine tm_isub dX12_expression_112 ?_
            refine tm_putS (k := 28) (v := (σ41.1 28) - 1) lay_12 dX12_expression_113 (by decide) fl12_304 rfl (tyX12_ok 28 (by decide)) rfl rfl rfl ?_
            have tr6 := tr5.chg (show Fr [28] [] [] σ55 (sS 28 ((σ41.1 28) - 1) σ55) from (Fr.rfl.S (by decide))) (fun q => g7 ⟨rfl, by rw [show σ55.1 28 = σ41.1 28 from rs_F f57 (by decide) (rfl)]; rfl, rfl, rfl⟩)
            refine tm_iload_n dX12_expression_116 rfl 0 rfl ?_
            exact tm_zret (v := v42) rfl (by omega) dX12_expression_117 (⟨_, rfl, by omega, ((((((Fr.rfl.S (by decide)).trans (Fr.sub f8 (by decide) (by decide) (by decide))).trans (Fr.sub f36 (by decide) (by decide) (by decide))).trans (Fr.sub f44 (by decide) (by decide) (by decide))).trans (Fr.sub f57 (by decide) (by decide) (by decide))).S (by decide)), (f58.S (by omega)), tr6.1, fun _ => tr6.exs (by decide) (gtf.fr (show Fr [28] [] [] σ55 (sS 28 ((σ41.1 28) - 1) σ55) from (Fr.rfl.S (by decide))) (by decide)) (by show σ41.1 28 - 1 = σ.1 28; omega), by rw [show v42 = 1 by omega]; exact tr6.prs, by show σ41.1 28 - 1 = σ.1 28; omega⟩)
        · refine tm_iconst dX12_expression_60 ?_
          refine tm_goto (tgt := 65) dX12_expression_61 (by decide) ?_
          refine tm_istore_n (L' := [(2, .int (iI 4)), (1, .int (iI v6)), (0, .ref b)]) dX12_expression_65 rfl (by decide) rfl ?_
          refine tm_aload_n dX12_expression_66 rfl 2 rfl ?_
          refine tm_getS (k := 39) (t := σ5.1 39) dX12_expression_67 (by decide) fl12_285 rfl (rfl) ?_
          have g63 := RG.s f9 39
          refine tm_istore_n (L' := [(3, .int (iI (σ5.1 39))), (2, .int (iI 4)), (1, .int (iI v6)), (0, .ref b)]) dX12_expression_70 rfl (by decide) rfl ?_
          refine tm_aload_n dX12_expression_71 rfl 3 rfl ?_
          refine tm_getS (k := 40) (t := σ5.1 40) dX12_expression_72 (by decide) fl12_288 rfl (rfl) ?_
          have g64 := RG.s f9 40
          refine tm_istore (L' := [(4, .int (iI (σ5.1 40))), (3, .int (iI (σ5.1 39))), (2, .int (iI 4)), (1, .int (iI v6)), (0, .ref b)]) dX12_expression_75 (by decide) rfl ?_
          refine tm_aload_n dX12_expression_77 rfl 4 rfl ?_
          refine tm_callV (M := m_X12_expression) (pc := 78) (ix := 265) (M' := m_X12_advance) (As := []) (rest := []) dX12_expression_78 ok_X12_advance im_X12_advance se_X12_advance ml12_265 np_X12_advance rfl rfl (Nat.le_of_ble_eq_true rfl) (Nat.le_of_ble_eq_true rfl) rfl (c_X12_advance (d + 4 * lv + 6) (σ := σ5)  f9 (by have z := tr2.2.2.1.1.1; omega)) (fun r65 σ66 hp => ?_)
          obtain ⟨rfl, f68, f69, f70, f71, f72⟩ := hp
          show Tm _ _ 81 b σ66 [(4, .int (iI (σ5.1 40))), (3, .int (iI (σ5.1 39))), (2, .int (iI 4)), (1, .int (iI v6)), (0, .ref b)] [] _
          have tr7 := tr2.adv f69 f71 f72 (by first | (have z := (i61 (by omega)).1; omega) | (have z := (i60 (by omega)).1; omega)) (fun q => g6y (by first | exact Or.inl (i61 (by omega)) | exact Or.inr (i60 (by omega))) f68)
          have e28b : σ66.1 28 = σ.1 28 + 1 := by rw [f69.1 28 (by decide)]; exact e28a
          have m34a := f69.1 34 (by decide)
          refine tm_aload_n dX12_expression_81 rfl 4 rfl ?_
          refine tm_callV (M := m_X12_expression) (pc := 82) (ix := 307) (M' := m_X12_sum) (As := []) (rest := []) dX12_expression_82 ok_X12_sum im_X12_sum se_X12_sum ml12_307 np_X12_sum rfl rfl (Nat.le_of_ble_eq_true rfl) (Nat.le_of_ble_eq_true rfl) rfl (c_X12_sum (d) (σ := σ66)  hce f70 tr7.2.2.1 tr7.nn (by omega)) (fun r73 σ74 hp => ?_)
          obtain ⟨v75, rfl, f76, f77, f78, f79, f80, f81, f82⟩ := hp
          show Tm _ _ 85 b σ74 [(4, .int (iI (σ5.1 40))), (3, .int (iI (σ5.1 39))), (2, .int (iI 4)), (1, .int (iI v6)), (0, .ref b)] [.int (iI v75)] _
          have yp0 := f76
          have yp1 := f77
          have yp2 := f78
          have yp3 := f79
          have yp4 := f80
          have yp5 := f81
          have yp6 := f82
          have e28y : σ74.1 28 = σ.1 28 + 1 := yp6.trans e28b
          refine tm_istore_n (L' := [(1, .int (iI v75)), (4, .int (iI (σ5.1 40))), (3, .int (iI (σ5.1 39))), (2, .int (iI 4)), (0, .ref b)]) dX12_expression_85 rfl (by decide) rfl ?_
          refine tm_iload_n dX12_expression_86 rfl 0 rfl ?_
          refine tm_if_eq (tgt := 106) dX12_expression_87 (by decide) ⟨by omega, by omega⟩ (fun h83 => ?_) (fun h83 => ?_)
          · refine tm_aload_n dX12_expression_106 rfl 4 rfl ?_
            refine tm_dup dX12_expression_107 rfl ?_
            refine tm_getS (k := 28) (t := σ74.1 28) dX12_expression_108 (by decide) fl12_304 rfl (rfl) ?_
            have g84 := RG.s f78 28
            refine tm_iconst dX12_expression_111 ?_
            refine tm_isub dX12_expression_112 ?_
            refine tm_putS (k := 28) (v := (σ74.1 28) - 1) lay_12 dX12_expression_113 (by decide) fl12_304 rfl (tyX12_ok 28 (by decide)) rfl rfl rfl ?_
            refine tm_iload_n dX12_expression_116 rfl 0 rfl ?_
            exact tm_zret (v := v75) rfl (by omega) dX12_expression_117 (⟨_, rfl, by omega, (((((Fr.rfl.S (by decide)).trans (Fr.sub f8 (by decide) (by decide) (by decide))).trans (Fr.sub f69 (by decide) (by decide) (by decide))).trans (Fr.sub f77 (by decide) (by decide) (by decide))).S (by decide)), (f78.S (by omega)), (tr7.fail yp3 (yp5.2 (by omega))).1.trans (PBF.nop (tr7.fail yp3 (yp5.2 (by omega))).1.2.2.1 (show Fr [28] [] [] σ74 (sS 28 ((σ74.1 28) - 1) σ74) from (Fr.rfl.S (by decide))) (by decide) (by decide) (by decide)), fun q => absurd q (by omega), by rw [show v75 = 0 by omega]; exact PRS.no (fun q => ((tr7.fail yp3 (yp5.2 (by omega))).2 q).mv ((show Fr [28] [] [] σ74 (sS 28 ((σ74.1 28) - 1) σ74) from (Fr.rfl.S (by decide))).1 26 (by decide)) ((show Fr [28] [] [] σ74 (sS 28 ((σ74.1 28) - 1) σ74) from (Fr.rfl.S (by decide))).1 27 (by decide))), by show σ74.1 28 - 1 = σ.1 28; omega⟩)
          · have tr8 := tr7.sub yp3 (yp4 (by omega)) (yp5.1 (by omega))
            have gt := (yp4 (by omega)).2.2.1
            have gtz := gta
            unfold GTm at gtz
            have e28c : σ74.1 28 = σ.1 28 + 1 := by rw [(yp4 (by omega)).2.2.2.2]; exact e28b
            have m34b := yp3.2.2.2.2.2.1
            have rdj := tr8.2.2.1.2
            have tkj := tr8.2.2.1.1.1
            refine tm_aload_n dX12_expression_90 rfl 4 rfl ?_
            refine tm_iload_n dX12_expression_91 rfl 3 rfl ?_
            refine tm_iload_n dX12_expression_92 rfl 2 rfl ?_
            refine tm_iload dX12_expression_93 1 rfl ?_
            refine tm_aload_n dX12_expression_95 rfl 4 rfl ?_
            refine tm_getS (k := 39) (t := σ74.1 39) dX12_expression_96 (by decide) fl12_285 rfl (rfl) ?_
            have g85 := RG.s f78 39
            refine tm_aload_n dX12_expression_99 rfl 4 rfl ?_
            refine tm_getS (k := 40) (t := σ74.1 40) dX12_expression_100 (by decide) fl12_288 rfl (rfl) ?_
            have g86 := RG.s f78 40
            refine tm_callV (M := m_X12_expression) (pc := 103) (ix := 310) (M' := m_X12_joins) (As := [.int (iI 4), .int (iI (σ5.1 39)), .int (iI (σ5.1 40)), .int (iI (σ74.1 39)), .int (iI (σ74.1 40))]) (rest := []) dX12_expression_103 ok_X12_joins im_X12_joins se_X12_joins ml12_310 np_X12_joins rfl rfl (Nat.le_of_ble_eq_true rfl) (Nat.le_of_ble_eq_true rfl) rfl (c_X12_joins (d + 4 * lv + 8) (σ := σ74) (k := 4) (ak := σ5.1 39) (a := σ5.1 40) (bk := σ74.1 39) (c := σ74.1 40) f78 (by omega) (by decide) (by omega) (by have z := gt; unfold GTm at z; omega) (by omega) (by omega) (by omega)) (fun r87 σ88 hp => ?_)
            obtain ⟨rfl, f90, f91, f92, f93, f94⟩ := hp
            show Tm _ _ 106 b σ88 [(1, .int (iI v75)), (4, .int (iI (σ5.1 40))), (3, .int (iI (σ5.1 39))), (2, .int (iI 4)), (0, .ref b)] [] _
            have tr9 := tr8.join f90 ⟨f92.1, f92.2.1⟩ f93 f94 (by decide) hrd
            have gtf : GTm σ88 := by unfold GTm; rw [f92.2.2.1, f92.2.2.2, f92.1]; exact ⟨Or.inr rfl, fun _ => by omega⟩
            have e28f : σ88.1 28 = σ.1 28 + 1 := by rw [f90.1 28 (by decide)]; exact e28c
            refine tm_aload_n dX12_expression_106 rfl 4 rfl ?_
            refine tm_dup dX12_expression_107 rfl ?_
            refine tm_getS (k := 28) (t := σ74.1 28) dX12_expression_108 (by decide) fl12_304 rfl (rs_F f90 (by decide) (rfl)) ?_
            have g95 := RG.s f78 28
            refine tm_iconst dX12_expression_111 ?_
            refine tm_isub dX12_expression_112 ?_
            refine tm_putS (k := 28) (v := (σ74.1 28) - 1) lay_12 dX12_expression_113 (by decide) fl12_304 rfl (tyX12_ok 28 (by decide)) rfl rfl rfl ?_
            have tr10 := tr9.chg (show Fr [28] [] [] σ88 (sS 28 ((σ74.1 28) - 1) σ88) from (Fr.rfl.S (by decide))) (fun q => g7 ⟨rfl, by rw [show σ88.1 28 = σ74.1 28 from rs_F f90 (by decide) (rfl)]; rfl, rfl, rfl⟩)
            refine tm_iload_n dX12_expression_116 rfl 0 rfl ?_
            exact tm_zret (v := v75) rfl (by omega) dX12_expression_117 (⟨_, rfl, by omega, ((((((Fr.rfl.S (by decide)).trans (Fr.sub f8 (by decide) (by decide) (by decide))).trans (Fr.sub f69 (by decide) (by decide) (by decide))).trans (Fr.sub f77 (by decide) (by decide) (by decide))).trans (Fr.sub f90 (by decide) (by decide) (by decide))).S (by decide)), (f91.S (by omega)), tr10.1, fun _ => tr10.exs (by decide) (gtf.fr (show Fr [28] [] [] σ88 (sS 28 ((σ74.1 28) - 1) σ88) from (Fr.rfl.S (by decide))) (by decide)) (by show σ74.1 28 - 1 = σ.1 28; omega), by rw [show v75 = 1 by omega]; exact tr10.prs, by show σ74.1 28 - 1 = σ.1 28; omega⟩)
      · refine tm_aload_n dX12_expression_42 rfl 1 rfl ?_
        refine tm_bipush dX12_expression_43 (by decide) ?_
        refine tm_callV (M := m_X12_expression) (pc := 45) (ix := 258) (M' := m_X12_isSign) (As := [.int (iI 60)]) (rest := []) dX12_expression_45 ok_X12_isSign im_X12_isSign se_X12_isSign ml12_258 np_X12_isSign rfl rfl (Nat.le_of_ble_eq_true rfl) (Nat.le_of_ble_eq_true rfl) rfl (c2_X12_isSign (d + 4 * lv + 10) (σ := σ5) (c := 60) f9 (by omega)) (fun r96 σ97 hp => ?_)
        obtain ⟨v98, rfl, rfl, f99, f100, f101⟩ := hp
        show Tm _ _ 48 b σ5 [(1, .int (iI v6)), (0, .ref b)] [.int (iI v98)] _
        have i60 := f100
        have n60_ := f101
        refine tm_if_eq (tgt := 106) dX12_expression_48 (by decide) ⟨by omega, by omega⟩ (fun h102 => ?_) (fun h102 => ?_)
        · have tr11 := tr2.nxt (fun q => g6n (n61_ (by omega)) (n60_ (by omega)))
          have gtf := gta
          have e28f := e28a
          refine tm_aload_n dX12_expression_106 rfl 1 rfl ?_
          refine tm_dup dX12_expression_107 rfl ?_
          refine tm_getS (k := 28) (t := σ5.1 28) dX12_expression_108 (by decide) fl12_304 rfl (rfl) ?_
          have g103 := RG.s f9 28
          refine tm_iconst dX12_expression_111 ?_
          refine tm_isub dX12_expression_112 ?_
          refine tm_putS (k := 28) (v := (σ5.1 28) - 1) lay_12 dX12_expression_113 (by decide) fl12_304 rfl (tyX12_ok 28 (by decide)) rfl rfl rfl ?_
          have tr12 := tr11.chg (show Fr [28] [] [] σ5 (sS 28 ((σ5.1 28) - 1) σ5) from (Fr.rfl.S (by decide))) (fun q => g7 ⟨rfl, by rw [show σ5.1 28 = σ5.1 28 from rfl]; rfl, rfl, rfl⟩)
          refine tm_iload_n dX12_expression_116 rfl 0 rfl ?_
          exact tm_zret (v := v6) rfl (by omega) dX12_expression_117 (⟨_, rfl, by omega, (((Fr.rfl.S (by decide)).trans (Fr.sub f8 (by decide) (by decide) (by decide))).S (by decide)), (f9.S (by omega)), tr12.1, fun _ => tr12.exs (by decide) (gtf.fr (show Fr [28] [] [] σ5 (sS 28 ((σ5.1 28) - 1) σ5) from (Fr.rfl.S (by decide))) (by decide)) (by show σ5.1 28 - 1 = σ.1 28; omega), by rw [show v6 = 1 by omega]; exact tr12.prs, by show σ5.1 28 - 1 = σ.1 28; omega⟩)
        · refine tm_aload_n dX12_expression_51 rfl 1 rfl ?_
          refine tm_bipush dX12_expression_52 (by decide) ?_
          refine tm_callV (M := m_X12_expression) (pc := 54) (ix := 258) (M' := m_X12_isSign) (As := [.int (iI 61)]) (rest := []) dX12_expression_54 ok_X12_isSign im_X12_isSign se_X12_isSign ml12_258 np_X12_isSign rfl rfl (Nat.le_of_ble_eq_true rfl) (Nat.le_of_ble_eq_true rfl) rfl (c2_X12_isSign (d + 4 * lv + 10) (σ := σ5) (c := 61) f9 (by omega)) (fun r104 σ105 hp => ?_)
          obtain ⟨v106, rfl, rfl, f107, f108, f109⟩ := hp
          show Tm _ _ 57 b σ5 [(1, .int (iI v6)), (0, .ref b)] [.int (iI v106)] _
          refine tm_if_eq (tgt := 64) dX12_expression_57 (by decide) ⟨by omega, by omega⟩ (fun h110 => ?_) (fun h110 => ?_)
          · refine tm_iconst dX12_expression_64 ?_
            refine tm_istore_n (L' := [(2, .int (iI 5)), (1, .int (iI v6)), (0, .ref b)]) dX12_expression_65 rfl (by decide) rfl ?_
            refine tm_aload_n dX12_expression_66 rfl 2 rfl ?_
            refine tm_getS (k := 39) (t := σ5.1 39) dX12_expression_67 (by decide) fl12_285 rfl (rfl) ?_
            have g111 := RG.s f9 39
            refine tm_istore_n (L' := [(3, .int (iI (σ5.1 39))), (2, .int (iI 5)), (1, .int (iI v6)), (0, .ref b)]) dX12_expression_70 rfl (by decide) rfl ?_
            refine tm_aload_n dX12_expression_71 rfl 3 rfl ?_
            refine tm_getS (k := 40) (t := σ5.1 40) dX12_expression_72 (by decide) fl12_288 rfl (rfl) ?_
            have g112 := RG.s f9 40
            refine tm_istore (L' := [(4, .int (iI (σ5.1 40))), (3, .int (iI (σ5.1 39))), (2, .int (iI 5)), (1, .int (iI v6)), (0, .ref b)]) dX12_expression_75 (by decide) rfl ?_
            refine tm_aload_n dX12_expression_77 rfl 4 rfl ?_
            refine tm_callV (M := m_X12_expression) (pc := 78) (ix := 265) (M' := m_X12_advance) (As := []) (rest := []) dX12_expression_78 ok_X12_advance im_X12_advance se_X12_advance ml12_265 np_X12_advance rfl rfl (Nat.le_of_ble_eq_true rfl) (Nat.le_of_ble_eq_true rfl) rfl (c_X12_advance (d + 4 * lv + 6) (σ := σ5)  f9 (by have z := tr2.2.2.1.1.1; omega)) (fun r113 σ114 hp => ?_)
            obtain ⟨rfl, f116, f117, f118, f119, f120⟩ := hp
            show Tm _ _ 81 b σ114 [(4, .int (iI (σ5.1 40))), (3, .int (iI (σ5.1 39))), (2, .int (iI 5)), (1, .int (iI v6)), (0, .ref b)] [] _
            have tr13 := tr2.adv f117 f119 f120 (by first | (have z := (i61 (by omega)).1; omega) | (have z := (i60 (by omega)).1; omega)) (fun q => g6y (by first | exact Or.inl (i61 (by omega)) | exact Or.inr (i60 (by omega))) f116)
            have e28b : σ114.1 28 = σ.1 28 + 1 := by rw [f117.1 28 (by decide)]; exact e28a
            have m34a := f117.1 34 (by decide)
            refine tm_aload_n dX12_expression_81 rfl 4 rfl ?_
            refine tm_callV (M := m_X12_expression) (pc := 82) (ix := 307) (M' := m_X12_sum) (As := []) (rest := []) dX12_expression_82 ok_X12_sum im_X12_sum se_X12_sum ml12_307 np_X12_sum rfl rfl (Nat.le_of_ble_eq_true rfl) (Nat.le_of_ble_eq_true rfl) rfl (c_X12_sum (d) (σ := σ114)  hce f118 tr13.2.2.1 tr13.nn (by omega)) (fun r121 σ122 hp => ?_)
            obtain ⟨v123, rfl, f124, f125, f126, f127, f128, f129, f130⟩ := hp
            show Tm _ _ 85 b σ122 [(4, .int (iI (σ5.1 40))), (3, .int (iI (σ5.1 39))), (2, .int (iI 5)), (1, .int (iI v6)), (0, .ref b)] [.int (iI v123)] _
            have yp0 := f124
            have yp1 := f125
            have yp2 := f126
            have yp3 := f127
            have yp4 := f128
            have yp5 := f129
            have yp6 := f130
            have e28y : σ122.1 28 = σ.1 28 + 1 := yp6.trans e28b
            refine tm_istore_n (L' := [(1, .int (iI v123)), (4, .int (iI (σ5.1 40))), (3, .int (iI (σ5.1 39))), (2, .int (iI 5)), (0, .ref b)]) dX12_expression_85 rfl (by decide) rfl ?_
            refine tm_iload_n dX12_expression_86 rfl 0 rfl ?_
            refine tm_if_eq (tgt := 106) dX12_expression_87 (by decide) ⟨by omega, by omega⟩ (fun h131 => ?_) (fun h131 => ?_)
            · refine tm_aload_n dX12_expression_106 rfl 4 rfl ?_
              refine tm_dup dX12_expression_107 rfl ?_
              refine tm_getS (k := 28) (t := σ122.1 28) dX12_expression_108 (by decide) fl12_304 rfl (rfl) ?_
              have g132 := RG.s f126 28
              refine tm_iconst dX12_expression_111 ?_
              refine tm_isub dX12_expression_112 ?_
              refine tm_putS (k := 28) (v := (σ122.1 28) - 1) lay_12 dX12_expression_113 (by decide) fl12_304 rfl (tyX12_ok 28 (by decide)) rfl rfl rfl ?_
              refine tm_iload_n dX12_expression_116 rfl 0 rfl ?_
              exact tm_zret (v := v123) rfl (by omega) dX12_expression_117 (⟨_, rfl, by omega, (((((Fr.rfl.S (by decide)).trans (Fr.sub f8 (by decide) (by decide) (by decide))).trans (Fr.sub f117 (by decide) (by decide) (by decide))).trans (Fr.sub f125 (by decide) (by decide) (by decide))).S (by decide)), (f126.S (by omega)), (tr13.fail yp3 (yp5.2 (by omega))).1.trans (PBF.nop (tr13.fail yp3 (yp5.2 (by omega))).1.2.2.1 (show Fr [28] [] [] σ122 (sS 28 ((σ122.1 28) - 1) σ122) from (Fr.rfl.S (by decide))) (by decide) (by decide) (by decide)), fun q => absurd q (by omega), by rw [show v123 = 0 by omega]; exact PRS.no (fun q => ((tr13.fail yp3 (yp5.2 (by omega))).2 q).mv ((show Fr [28] [] [] σ122 (sS 28 ((σ122.1 28) - 1) σ122) from (Fr.rfl.S (by decide))).1 26 (by decide)) ((show Fr [28] [] [] σ122 (sS 28 ((σ122.1 28) - 1) σ122) from (Fr.rfl.S (by decide))).1 27 (by decide))), by show σ122.1 28 - 1 = σ.1 28; omega⟩)
            · have tr14 := tr13.sub yp3 (yp4 (by omega)) (yp5.1 (by omega))
              have gt := (yp4 (by omega)).2.2.1
              have gtz := gta
              unfold GTm at gtz
              have e28c : σ122.1 28 = σ.1 28 + 1 := by rw [(yp4 (by omega)).2.2.2.2]; exact e28b
              have m34b := yp3.2.2.2.2.2.1
              have rdj := tr14.2.2.1.2
              have tkj := tr14.2.2.1.1.1
              refine tm_aload_n dX12_expression_90 rfl 4 rfl ?_
              refine tm_iload_n dX12_expression_91 rfl 3 rfl ?_
              refine tm_iload_n dX12_expression_92 rfl 2 rfl ?_
              refine tm_iload dX12_expression_93 1 rfl ?_
              refine tm_aload_n dX12_expression_95 rfl 4 rfl ?_
              refine tm_getS (k := 39) (t := σ122.1 39) dX12_expression_96 (by decide) fl12_285 rfl (rfl) ?_
              have g133 := RG.s f126 39
              refine tm_aload_n dX12_expression_99 rfl 4 rfl ?_
              refine tm_getS (k := 40) (t := σ122.1 40) dX12_expression_100 (by decide) fl12_288 rfl (rfl) ?_
              have g134 := RG.s f126 40
              refine tm_callV (M := m_X12_expression) (pc := 103) (ix := 310) (M' := m_X12_joins) (As := [.int (iI 5), .int (iI (σ5.1 39)), .int (iI (σ5.1 40)), .int (iI (σ122.1 39)), .int (iI (σ122.1 40))]) (rest := []) dX12_expression_103 ok_X12_joins im_X12_joins se_X12_joins ml12_310 np_X12_joins rfl rfl (Nat.le_of_ble_eq_true rfl) (Nat.le_of_ble_eq_true rfl) rfl (c_X12_joins (d + 4 * lv + 8) (σ := σ122) (k := 5) (ak := σ5.1 39) (a := σ5.1 40) (bk := σ122.1 39) (c := σ122.1 40) f126 (by omega) (by decide) (by omega) (by have z := gt; unfold GTm at z; omega) (by omega) (by omega) (by omega)) (fun r135 σ136 hp => ?_)
              obtain ⟨rfl, f138, f139, f140, f141, f142⟩ := hp
              show Tm _ _ 106 b σ136 [(1, .int (iI v123)), (4, .int (iI (σ5.1 40))), (3, .int (iI (σ5.1 39))), (2, .int (iI 5)), (0, .ref b)] [] _
              have tr15 := tr14.join f138 ⟨f140.1, f140.2.1⟩ f141 f142 (by decide) hrd
              have gtf : GTm σ136 := by unfold GTm; rw [f140.2.2.1, f140.2.2.2, f140.1]; exact ⟨Or.inr rfl, fun _ => by omega⟩
              have e28f : σ136.1 28 = σ.1 28 + 1 := by rw [f138.1 28 (by decide)]; exact e28c
              refine tm_aload_n dX12_expression_106 rfl 4 rfl ?_
              refine tm_dup dX12_expression_107 rfl ?_
              refine tm_getS (k := 28) (t := σ122.1 28) dX12_expression_108 (by decide) fl12_304 rfl (rs_F f138 (by decide) (rfl)) ?_
              have g143 := RG.s f126 28
              refine tm_iconst dX12_expression_111 ?_
              refine tm_isub dX12_expression_112 ?_
              refine tm_putS (k := 28) (v := (σ122.1 28) - 1) lay_12 dX12_expression_113 (by decide) fl12_304 rfl (tyX12_ok 28 (by decide)) rfl rfl rfl ?_
              have tr16 := tr15.chg (show Fr [28] [] [] σ136 (sS 28 ((σ122.1 28) - 1) σ136) from (Fr.rfl.S (by decide))) (fun q => g7 ⟨rfl, by rw [show σ136.1 28 = σ122.1 28 from rs_F f138 (by decide) (rfl)]; rfl, rfl, rfl⟩)
              refine tm_iload_n dX12_expression_116 rfl 0 rfl ?_
              exact tm_zret (v := v123) rfl (by omega) dX12_expression_117 (⟨_, rfl, by omega, ((((((Fr.rfl.S (by decide)).trans (Fr.sub f8 (by decide) (by decide) (by decide))).trans (Fr.sub f117 (by decide) (by decide) (by decide))).trans (Fr.sub f125 (by decide) (by decide) (by decide))).trans (Fr.sub f138 (by decide) (by decide) (by decide))).S (by decide)), (f139.S (by omega)), tr16.1, fun _ => tr16.exs (by decide) (gtf.fr (show Fr [28] [] [] σ136 (sS 28 ((σ122.1 28) - 1) σ136) from (Fr.rfl.S (by decide))) (by decide)) (by show σ122.1 28 - 1 = σ.1 28; omega), by rw [show v123 = 1 by omega]; exact tr16.prs, by show σ122.1 28 - 1 = σ.1 28; omega⟩)
          · refine tm_iconst dX12_expression_60 ?_
            refine tm_goto (tgt := 65) dX12_expression_61 (by decide) ?_
            refine tm_istore_n (L' := [(2, .int (iI 4)), (1, .int (iI v6)), (0, .ref b)]) dX12_expression_65 rfl (by decide) rfl ?_
            refine tm_aload_n dX12_expression_66 rfl 2 rfl ?_
            refine tm_getS (k := 39) (t := σ5.1 39) dX12_expression_67 (by decide) fl12_285 rfl (rfl) ?_
            have g144 := RG.s f9 39
            refine tm_istore_n (L' := [(3, .int (iI (σ5.1 39))), (2, .int (iI 4)), (1, .int (iI v6)), (0, .ref b)]) dX12_expression_70 rfl (by decide) rfl ?_
            refine tm_aload_n dX12_expression_71 rfl 3 rfl ?_
            refine tm_getS (k := 40) (t := σ5.1 40) dX12_expression_72 (by decide) fl12_288 rfl (rfl) ?_
            have g145 := RG.s f9 40
            refine tm_istore (L' := [(4, .int (iI (σ5.1 40))), (3, .int (iI (σ5.1 39))), (2, .int (iI 4)), (1, .int (iI v6)), (0, .ref b)]) dX12_expression_75 (by decide) rfl ?_
            refine tm_aload_n dX12_expression_77 rfl 4 rfl ?_
            refine tm_callV (M := m_X12_expression) (pc := 78) (ix := 265) (M' := m_X12_advance) (As := []) (rest := []) dX12_expression_78 ok_X12_advance im_X12_advance se_X12_advance ml12_265 np_X12_advance rfl rfl (Nat.le_of_ble_eq_true rfl) (Nat.le_of_ble_eq_true rfl) rfl (c_X12_advance (d + 4 * lv + 6) (σ := σ5)  f9 (by have z := tr2.2.2.1.1.1; omega)) (fun r146 σ147 hp => ?_)
            obtain ⟨rfl, f149, f150, f151, f152, f153⟩ := hp
            show Tm _ _ 81 b σ147 [(4, .int (iI (σ5.1 40))), (3, .int (iI (σ5.1 39))), (2, .int (iI 4)), (1, .int (iI v6)), (0, .ref b)] [] _
            have tr17 := tr2.adv f150 f152 f153 (by first | (have z := (i61 (by omega)).1; omega) | (have z := (i60 (by omega)).1; omega)) (fun q => g6y (by first | exact Or.inl (i61 (by omega)) | exact Or.inr (i60 (by omega))) f149)
            have e28b : σ147.1 28 = σ.1 28 + 1 := by rw [f150.1 28 (by decide)]; exact e28a
            have m34a := f150.1 34 (by decide)
            refine tm_aload_n dX12_expression_81 rfl 4 rfl ?_
            refine tm_callV (M := m_X12_expression) (pc := 82) (ix := 307) (M' := m_X12_sum) (As := []) (rest := []) dX12_expression_82 ok_X12_sum im_X12_sum se_X12_sum ml12_307 np_X12_sum rfl rfl (Nat.le_of_ble_eq_true rfl) (Nat.le_of_ble_eq_true rfl) rfl (c_X12_sum (d) (σ := σ147)  hce f151 tr17.2.2.1 tr17.nn (by omega)) (fun r154 σ155 hp => ?_)
            obtain ⟨v156, rfl, f157, f158, f159, f160, f161, f162, f163⟩ := hp
            show Tm _ _ 85 b σ155 [(4, .int (iI (σ5.1 40))), (3, .int (iI (σ5.1 39))), (2, .int (iI 4)), (1, .int (iI v6)), (0, .ref b)] [.int (iI v156)] _
            have yp0 := f157
            have yp1 := f158
            have yp2 := f159
            have yp3 := f160
            have yp4 := f161
            have yp5 := f162
            have yp6 := f163
            have e28y : σ155.1 28 = σ.1 28 + 1 := yp6.trans e28b
            refine tm_istore_n (L' := [(1, .int (iI v156)), (4, .int (iI (σ5.1 40))), (3, .int (iI (σ5.1 39))), (2, .int (iI 4)), (0, .ref b)]) dX12_expression_85 rfl (by decide) rfl ?_
            refine tm_iload_n dX12_expression_86 rfl 0 rfl ?_
            refine tm_if_eq (tgt := 106) dX12_expression_87 (by decide) ⟨by omega, by omega⟩ (fun h164 => ?_) (fun h164 => ?_)
            · refine tm_aload_n dX12_expression_106 rfl 4 rfl ?_
              refine tm_dup dX12_expression_107 rfl ?_
              refine tm_getS (k := 28) (t := σ155.1 28) dX12_expression_108 (by decide) fl12_304 rfl (rfl) ?_
              have g165 := RG.s f159 28
              refine tm_iconst dX12_expression_111 ?_
              refine tm_isub dX12_expression_112 ?_
              refine tm_putS (k := 28) (v := (σ155.1 28) - 1) lay_12 dX12_expression_113 (by decide) fl12_304 rfl (tyX12_ok 28 (by decide)) rfl rfl rfl ?_
              refine tm_iload_n dX12_expression_116 rfl 0 rfl ?_
              exact tm_zret (v := v156) rfl (by omega) dX12_expression_117 (⟨_, rfl, by omega, (((((Fr.rfl.S (by decide)).trans (Fr.sub f8 (by decide) (by decide) (by decide))).trans (Fr.sub f150 (by decide) (by decide) (by decide))).trans (Fr.sub f158 (by decide) (by decide) (by decide))).S (by decide)), (f159.S (by omega)), (tr17.fail yp3 (yp5.2 (by omega))).1.trans (PBF.nop (tr17.fail yp3 (yp5.2 (by omega))).1.2.2.1 (show Fr [28] [] [] σ155 (sS 28 ((σ155.1 28) - 1) σ155) from (Fr.rfl.S (by decide))) (by decide) (by decide) (by decide)), fun q => absurd q (by omega), by rw [show v156 = 0 by omega]; exact PRS.no (fun q => ((tr17.fail yp3 (yp5.2 (by omega))).2 q).mv ((show Fr [28] [] [] σ155 (sS 28 ((σ155.1 28) - 1) σ155) from (Fr.rfl.S (by decide))).1 26 (by decide)) ((show Fr [28] [] [] σ155 (sS 28 ((σ155.1 28) - 1) σ155) from (Fr.rfl.S (by decide))).1 27 (by decide))), by show σ155.1 28 - 1 = σ.1 28; omega⟩)
            · have tr18 := tr17.sub yp3 (yp4 (by omega)) (yp5.1 (by omega))
              have gt := (yp4 (by omega)).2.2.1
              have gtz := gta
              unfold GTm at gtz
              have e28c : σ155.1 28 = σ.1 28 + 1 := by rw [(yp4 (by omega)).2.2.2.2]; exact e28b
              have m34b := yp3.2.2.2.2.2.1
              have rdj := tr18.2.2.1.2
              have tkj := tr18.2.2.1.1.1
              refine tm_aload_n dX12_expression_90 rfl 4 rfl ?_
              refine tm_iload_n dX12_expression_91 rfl 3 rfl ?_
              refine tm_iload_n dX12_expression_92 rfl 2 rfl ?_
              refine tm_iload dX12_expression_93 1 rfl ?_
              refine tm_aload_n dX12_expression_95 rfl 4 rfl ?_
              refine tm_getS (k := 39) (t := σ155.1 39) dX12_expression_96 (by decide) fl12_285 rfl (rfl) ?_
              have g166 := RG.s f159 39
              refine tm_aload_n dX12_expression_99 rfl 4 rfl ?_
              refine tm_getS (k := 40) (t := σ155.1 40) dX12_expression_100 (by decide) fl12_288 rfl (rfl) ?_
              have g167 := RG.s f159 40
              refine tm_callV (M := m_X12_expression) (pc := 103) (ix := 310) (M' := m_X12_joins) (As := [.int (iI 4), .int (iI (σ5.1 39)), .int (iI (σ5.1 40)), .int (iI (σ155.1 39)), .int (iI (σ155.1 40))]) (rest := []) dX12_expression_103 ok_X12_joins im_X12_joins se_X12_joins ml12_310 np_X12_joins rfl rfl (Nat.le_of_ble_eq_true rfl) (Nat.le_of_ble_eq_true rfl) rfl (c_X12_joins (d + 4 * lv + 8) (σ := σ155) (k := 4) (ak := σ5.1 39) (a := σ5.1 40) (bk := σ155.1 39) (c := σ155.1 40) f159 (by omega) (by decide) (by omega) (by have z := gt; unfold GTm at z; omega) (by omega) (by omega) (by omega)) (fun r168 σ169 hp => ?_)
              obtain ⟨rfl, f171, f172, f173, f174, f175⟩ := hp
              show Tm _ _ 106 b σ169 [(1, .int (iI v156)), (4, .int (iI (σ5.1 40))), (3, .int (iI (σ5.1 39))), (2, .int (iI 4)), (0, .ref b)] [] _
              have tr19 := tr18.join f171 ⟨f173.1, f173.2.1⟩ f174 f175 (by decide) hrd
              have gtf : GTm σ169 := by unfold GTm; rw [f173.2.2.1, f173.2.2.2, f173.1]; exact ⟨Or.inr rfl, fun _ => by omega⟩
              have e28f : σ169.1 28 = σ.1 28 + 1 := by rw [f171.1 28 (by decide)]; exact e28c
              refine tm_aload_n dX12_expression_106 rfl 4 rfl ?_
              refine tm_dup dX12_expression_107 rfl ?_
              refine tm_getS (k := 28) (t := σ155.1 28) dX12_expression_108 (by decide) fl12_304 rfl (rs_F f171 (by decide) (rfl)) ?_
              have g176 := RG.s f159 28
              refine tm_iconst dX12_expression_111 ?_
              refine tm_isub dX12_expression_112 ?_
              refine tm_putS (k := 28) (v := (σ155.1 28) - 1) lay_12 dX12_expression_113 (by decide) fl12_304 rfl (tyX12_ok 28 (by decide)) rfl rfl rfl ?_
              have tr20 := tr19.chg (show Fr [28] [] [] σ169 (sS 28 ((σ155.1 28) - 1) σ169) from (Fr.rfl.S (by decide))) (fun q => g7 ⟨rfl, by rw [show σ169.1 28 = σ155.1 28 from rs_F f171 (by decide) (rfl)]; rfl, rfl, rfl⟩)
              refine tm_iload_n dX12_expression_116 rfl 0 rfl ?_
              exact tm_zret (v := v156) rfl (by omega) dX12_expression_117 (⟨_, rfl, by omega, ((((((Fr.rfl.S (by decide)).trans (Fr.sub f8 (by decide) (by decide) (by decide))).trans (Fr.sub f150 (by decide) (by decide) (by decide))).trans (Fr.sub f158 (by decide) (by decide) (by decide))).trans (Fr.sub f171 (by decide) (by decide) (by decide))).S (by decide)), (f172.S (by omega)), tr20.1, fun _ => tr20.exs (by decide) (gtf.fr (show Fr [28] [] [] σ169 (sS 28 ((σ155.1 28) - 1) σ169) from (Fr.rfl.S (by decide))) (by decide)) (by show σ155.1 28 - 1 = σ.1 28; omega), by rw [show v156 = 1 by omega]; exact tr20.prs, by show σ155.1 28 - 1 = σ.1 28; omega⟩)
  · refine tm_aload_n dX12_expression_9 rfl 0 rfl ?_
    refine tm_callV (M := m_X12_expression) (pc := 10) (ix := 261) (M' := m_X12_wrong) (As := []) (rest := []) dX12_expression_10 ok_X12_wrong im_X12_wrong se_X12_wrong ml12_261 np_X12_wrong rfl rfl (Nat.le_of_ble_eq_true rfl) (Nat.le_of_ble_eq_true rfl) rfl (c_X12_wrong (d + 4 * lv + 10) (σ := σ)  hR) (fun r177 σ178 hp => ?_)
    obtain ⟨v179, rfl, f180, f181, f182, f183, f184, f185⟩ := hp
    show Tm _ _ 13 b σ178 [(0, .ref b)] [.int (iI v179)] _
    exact tm_zret (v := v179) rfl (by omega) dX12_expression_13 (⟨_, rfl, by omega, (Fr.rfl.trans (Fr.sub f181 (by decide) (by decide) (by decide))), f182, (tr0.fail (PBF.of tr0.nn f181 (by decide) (by decide) (by decide) (FLT.wr f184 f185)) (fun q => g2f (by omega) (WRG.of f185))).1, fun q => absurd q (by omega), by rw [show v179 = 0 from f180]; exact PRS.no (tr0.fail (PBF.of tr0.nn f181 (by decide) (by decide) (by decide) (FLT.wr f184 f185)) (fun q => g2f (by omega) (WRG.of f185))).2, rs_F f181 (by decide) (rfl)⟩)
set_option maxHeartbeats 4000000 in
set_option maxRecDepth 20000 in
theorem c0_X12_expression (d : Nat) {b : Nat} {σ : MS} (hR : RG σ) (hrd : RDY σ) (hnn : NN σ) (h28 : σ.1 28 = 8) : Tm (d + 8) m_X12_expression 0 b σ [(0, .ref b)] [] (fun ro σ2 => ∃ v : Int, ro = some (.int (iI v)) ∧ ((v = 0 ∨ v = 1)) ∧ (Fr [19, 20, 22, 23, 26, 27, 28, 32, 34, 39, 40] [3, 4, 5, 6, 7, 8, 35] [24, 38] σ σ2) ∧ (RG σ2) ∧ (PBF σ σ2) ∧ (Im v 1 (EXS σ σ2)) ∧ (PRS 2 v σ σ2) ∧ (σ2.1 28 = σ.1 28)) := by
  have tr0 : TRm 2 0 σ [2] σ := TRm.start hrd hnn
  refine tm_aload_n dX12_expression_0 rfl 0 rfl ?_
  refine tm_getS (k := 28) (t := σ.1 28) dX12_expression_1 (by decide) fl12_304 rfl (rfl) ?_
  have g1 := RG.s hR 28
  refine tm_bipush dX12_expression_4 (by decide) ?_
  refine tm_icmp_ne (tgt := 14) dX12_expression_6 (by decide) ⟨by omega, by omega⟩ ⟨by decide, by decide⟩ (fun h2 => ?_) (fun h2 => ?_)
  · exfalso; omega
  · refine tm_aload_n dX12_expression_9 rfl 0 rfl ?_
    refine tm_callV (M := m_X12_expression) (pc := 10) (ix := 261) (M' := m_X12_wrong) (As := []) (rest := []) dX12_expression_10 ok_X12_wrong im_X12_wrong se_X12_wrong ml12_261 np_X12_wrong rfl rfl (Nat.le_of_ble_eq_true rfl) (Nat.le_of_ble_eq_true rfl) rfl (c_X12_wrong (d + 6) (σ := σ)  hR) (fun r3 σ4 hp => ?_)
    obtain ⟨v5, rfl, f6, f7, f8, f9, f10, f11⟩ := hp
    show Tm _ _ 13 b σ4 [(0, .ref b)] [.int (iI v5)] _
    exact tm_zret (v := v5) rfl (by omega) dX12_expression_13 (⟨_, rfl, by omega, (Fr.rfl.trans (Fr.sub f7 (by decide) (by decide) (by decide))), f8, (tr0.fail (PBF.of tr0.nn f7 (by decide) (by decide) (by decide) (FLT.wr f10 f11)) (fun q => g2f (by omega) (WRG.of f11))).1, fun q => absurd q (by omega), by rw [show v5 = 0 from f6]; exact PRS.no (tr0.fail (PBF.of tr0.nn f7 (by decide) (by decide) (by decide) (FLT.wr f10 f11)) (fun q => g2f (by omega) (WRG.of f11))).2, rs_F f7 (by decide) (rfl)⟩)
theorem c_exp : ∀ (lv : Nat), ∀ (d : Nat) {b : Nat} {σ : MS} (hR : RG σ) (hrd : RDY σ) (hnn : NN σ) (h28 : σ.1 28 = 8 - (lv : Int)), Tm (d + 4 * lv + 8) m_X12_expression 0 b σ [(0, .ref b)] [] (fun ro σ2 => ∃ v : Int, ro = some (.int (iI v)) ∧ ((v = 0 ∨ v = 1)) ∧ (Fr [19, 20, 22, 23, 26, 27, 28, 32, 34, 39, 40] [3, 4, 5, 6, 7, 8, 35] [24, 38] σ σ2) ∧ (RG σ2) ∧ (PBF σ σ2) ∧ (Im v 1 (EXS σ σ2)) ∧ (PRS 2 v σ σ2) ∧ (σ2.1 28 = σ.1 28)) := by
  intro lv
  induction lv with
  | zero =>
    intro d b σ hR hrd hnn h28
    exact c0_X12_expression d hR hrd hnn (by omega)
  | succ lv ih =>
    intro d b σ hR hrd hnn h28
    rw [show d + 4 * (lv + 1) + 8 = d + 4 * lv + 12 by omega]
    exact cs_X12_expression d (lv := lv) ih hR hrd hnn (by omega)
theorem c_exp8 (d : Nat) {b : Nat} {σ : MS} (hR : RG σ) (hrd : RDY σ) (hnn : NN σ) (h28 : σ.1 28 = 0) : Tm (d + 40) m_X12_expression 0 b σ [(0, .ref b)] [] (fun ro σ2 => ∃ v : Int, ro = some (.int (iI v)) ∧ ((v = 0 ∨ v = 1)) ∧ (Fr [19, 20, 22, 23, 26, 27, 28, 32, 34, 39, 40] [3, 4, 5, 6, 7, 8, 35] [24, 38] σ σ2) ∧ (RG σ2) ∧ (PBF σ σ2) ∧ (Im v 1 (EXS σ σ2)) ∧ (PRS 2 v σ σ2) ∧ (σ2.1 28 = σ.1 28)) := c_exp 8 d hR hrd hnn (by omega)

