theorem fl12_304 : Cond.fieldLink RX12 304 (TX12 28).1 (TX12 28).2.1 (TX12 28).2.2.1 ∈ pWW := pw7 (List.mem_of_getElem? (i := 35) rfl) rfl
theorem ml12_307 : Cond.methodLink RX12 307 yX12_sum ∈ pWW := pw8 (List.mem_of_getElem? (i := 221) rfl) rfl
theorem dX12_expression_0 : decode cX12_expression 0 = .ok (.aload_n 0, 1) := by decide +kernel
theorem dX12_expression_1 : decode cX12_expression 1 = .ok (.getfield 304, 3) := by decide +kernel
theorem dX12_expression_4 : decode cX12_expression 4 = .ok (.bipush 8, 2) := by decide +kernel
theorem dX12_expression_6 : decode cX12_expression 6 = .ok (.if_icmp .ne 8, 3) := by decide +kernel
theorem dX12_expression_14 : decode cX12_expression 14 = .ok (.aload_n 0, 1) := by decide +kernel
theorem dX12_expression_15 : decode cX12_expression 15 = .ok (.dup, 1) := by decide +kernel
theorem dX12_expression_16 : decode cX12_expression 16 = .ok (.getfield 304, 3) := by decide +kernel
theorem dX12_expression_19 : decode cX12_expression 19 = .ok (.iconst 1, 1) := by decide +kernel
theorem dX12_expression_20 : decode cX12_expression 20 = .ok (.iadd, 1) := by decide +kernel
theorem dX12_expression_21 : decode cX12_expression 21 = .ok (.putfield 304, 3) := by decide +kernel
theorem dX12_expression_24 : decode cX12_expression 24 = .ok (.aload_n 0, 1) := by decide +kernel
theorem dX12_expression_25 : decode cX12_expression 25 = .ok (.invokevirtual 307, 3) := by decide +kernel
theorem dX12_expression_28 : decode cX12_expression 28 = .ok (.istore_n 1, 1) := by decide +kernel
theorem dX12_expression_29 : decode cX12_expression 29 = .ok (.iload_n 1, 1) := by decide +kernel
theorem dX12_expression_30 : decode cX12_expression 30 = .ok (.ifCond .eq 76, 3) := by decide +kernel
theorem dX12_expression_106 : decode cX12_expression 106 = .ok (.aload_n 0, 1) := by decide +kernel
theorem dX12_expression_107 : decode cX12_expression 107 = .ok (.dup, 1) := by decide +kernel
theorem dX12_expression_108 : decode cX12_expression 108 = .ok (.getfield 304, 3) := by decide +kernel
theorem dX12_expression_111 : decode cX12_expression 111 = .ok (.iconst 1, 1) := by decide +kernel
theorem dX12_expression_112 : decode cX12_expression 112 = .ok (.isub, 1) := by decide +kernel
theorem dX12_expression_113 : decode cX12_expression 113 = .ok (.putfield 304, 3) := by decide +kernel
theorem dX12_expression_116 : decode cX12_expression 116 = .ok (.iload_n 1, 1) := by decide +kernel
theorem dX12_expression_117 : decode cX12_expression 117 = .ok (.ireturn, 1) := by decide +kernel
theorem dX12_expression_33 : decode cX12_expression 33 = .ok (.aload_n 0, 1) := by decide +kernel
theorem dX12_expression_34 : decode cX12_expression 34 = .ok (.bipush 61, 2) := by decide +kernel
theorem dX12_expression_36 : decode cX12_expression 36 = .ok (.invokevirtual 258, 3) := by decide +kernel
theorem dX12_expression_39 : decode cX12_expression 39 = .ok (.ifCond .ne 12, 3) := by decide +kernel
theorem dX12_expression_51 : decode cX12_expression 51 = .ok (.aload_n 0, 1) := by decide +kernel
theorem dX12_expression_52 : decode cX12_expression 52 = .ok (.bipush 61, 2) := by decide +kernel
theorem dX12_expression_54 : decode cX12_expression 54 = .ok (.invokevirtual 258, 3) := by decide +kernel
theorem dX12_expression_57 : decode cX12_expression 57 = .ok (.ifCond .eq 7, 3) := by decide +kernel
theorem dX12_expression_64 : decode cX12_expression 64 = .ok (.iconst 5, 1) := by decide +kernel
theorem dX12_expression_65 : decode cX12_expression 65 = .ok (.istore_n 2, 1) := by decide +kernel
theorem dX12_expression_66 : decode cX12_expression 66 = .ok (.aload_n 0, 1) := by decide +kernel
theorem dX12_expression_67 : decode cX12_expression 67 = .ok (.getfield 285, 3) := by decide +kernel
theorem dX12_expression_70 : decode cX12_expression 70 = .ok (.istore_n 3, 1) := by decide +kernel
theorem dX12_expression_71 : decode cX12_expression 71 = .ok (.aload_n 0, 1) := by decide +kernel
theorem dX12_expression_72 : decode cX12_expression 72 = .ok (.getfield 288, 3) := by decide +kernel
theorem dX12_expression_75 : decode cX12_expression 75 = .ok (.istore 4, 2) := by decide +kernel
theorem dX12_expression_77 : decode cX12_expression 77 = .ok (.aload_n 0, 1) := by decide +kernel
theorem dX12_expression_78 : decode cX12_expression 78 = .ok (.invokevirtual 265, 3) := by decide +kernel
theorem dX12_expression_81 : decode cX12_expression 81 = .ok (.aload_n 0, 1) := by decide +kernel
theorem dX12_expression_82 : decode cX12_expression 82 = .ok (.invokevirtual 307, 3) := by decide +kernel
theorem dX12_expression_85 : decode cX12_expression 85 = .ok (.istore_n 1, 1) := by decide +kernel
theorem dX12_expression_86 : decode cX12_expression 86 = .ok (.iload_n 1, 1) := by decide +kernel
theorem dX12_expression_87 : decode cX12_expression 87 = .ok (.ifCond .eq 19, 3) := by decide +kernel
theorem dX12_expression_90 : decode cX12_expression 90 = .ok (.aload_n 0, 1) := by decide +kernel
theorem dX12_expression_91 : decode cX12_expression 91 = .ok (.iload_n 2, 1) := by decide +kernel
theorem dX12_expression_92 : decode cX12_expression 92 = .ok (.iload_n 3, 1) := by decide +kernel
theorem dX12_expression_93 : decode cX12_expression 93 = .ok (.iload 4, 2) := by decide +kernel
theorem dX12_expression_95 : decode cX12_expression 95 = .ok (.aload_n 0, 1) := by decide +kernel
theorem dX12_expression_96 : decode cX12_expression 96 = .ok (.getfield 285, 3) := by decide +kernel
theorem dX12_expression_99 : decode cX12_expression 99 = .ok (.aload_n 0, 1) := by decide +kernel
theorem dX12_expression_100 : decode cX12_expression 100 = .ok (.getfield 288, 3) := by decide +kernel
theorem dX12_expression_103 : decode cX12_expression 103 = .ok (.invokevirtual 310, 3) := by decide +kernel
theorem dX12_expression_60 : decode cX12_expression 60 = .ok (.iconst 4, 1) := by decide +kernel
theorem dX12_expression_61 : decode cX12_expression 61 = .ok (.goto 4, 3) := by decide +kernel
theorem dX12_expression_42 : decode cX12_expression 42 = .ok (.aload_n 0, 1) := by decide +kernel
theorem dX12_expression_43 : decode cX12_expression 43 = .ok (.bipush 60, 2) := by decide +kernel
theorem dX12_expression_45 : decode cX12_expression 45 = .ok (.invokevirtual 258, 3) := by decide +kernel
theorem dX12_expression_48 : decode cX12_expression 48 = .ok (.ifCond .eq 58, 3) := by decide +kernel
theorem dX12_expression_9 : decode cX12_expression 9 = .ok (.aload_n 0, 1) := by decide +kernel
theorem dX12_expression_10 : decode cX12_expression 10 = .ok (.invokevirtual 261, 3) := by decide +kernel
theorem dX12_expression_13 : decode cX12_expression 13 = .ok (.ireturn, 1) := by decide +kernel
set_option maxHeartbeats 4000000 in
set_option maxRecDepth 20000 in
theorem cs_X12_expression (d : Nat) {b : Nat} {σ : MS} {lv : Nat} (hce : ∀ (d : Nat) {b : Nat} {σ : MS} (hR : RG σ) (hrd : RDY σ) (hnn : NN σ) (h28 : σ.1 28 = 8 - (lv : Int)), Tm (d + 4 * lv + 8) m_X12_expression 0 b σ [(0, .ref b)] [] (fun ro σ2 => ∃ v : Int, ro = some (.int (iI v)) ∧ ((v = 0 ∨ v = 1)) ∧ (Fr [19, 20, 22, 23, 26, 27, 28, 32, 34, 39, 40] [3, 4, 5, 6, 7, 8, 35] [24, 38] σ σ2) ∧ (RG σ2) ∧ (PBF σ σ2) ∧ (v = 1 → EXS σ σ2) ∧ (PRS 2 v σ σ2))) (hR : RG σ) (hrd : RDY σ) (hnn : NN σ) (h28 : σ.1 28 = 7 - (lv : Int)) : Tm (d + 4 * lv + 12) m_X12_expression 0 b σ [(0, .ref b)] [] (fun ro σ2 => ∃ v : Int, ro = some (.int (iI v)) ∧ ((v = 0 ∨ v = 1)) ∧ (Fr [19, 20, 22, 23, 26, 27, 28, 32, 34, 39, 40] [3, 4, 5, 6, 7, 8, 35] [24, 38] σ σ2) ∧ (RG σ2) ∧ (PBF σ σ2) ∧ (v = 1 → EXS σ σ2) ∧ (PRS 2 v σ σ2)) := by
  have rd0 := hrd
  unfold RDY at rd0
  have tr0 : TR 2 0 σ [2] σ := TR.start hrd hnn
  refine tm_aload_n dX12_expression_0 rfl 0 rfl ?_
  refine tm_getS (k := 28) (t := σ.1 28) dX12_expression_1 (by decide) fl12_304 rfl (rfl) ?_
  have g1 := RG.s hR 28
  refine tm_bipush dX12_expression_4 (by decide) ?_
  refine tm_icmp_ne (tgt := 14) dX12_expression_6 (by decide) ⟨by omega, by omega⟩ ⟨by decide, by decide⟩ (fun h2 => ?_) (fun h2 => ?_)
  · refine tm_aload_n dX12_expression_14 rfl 0 rfl ?_
    refine tm_dup dX12_expression_15 rfl ?_
    refine tm_getS (k := 28) (t := σ.1 28) dX12_expression_16 (by decide) fl12_304 rfl (rfl) ?_
    have g3 := RG.s hR 28
    refine tm_iconst dX12_expression_19 ?_
    refine tm_iadd dX12_expression_20 ?_
    refine tm_putS (k := 28) (v := (σ.1 28) + 1) lay_12 dX12_expression_21 (by decide) fl12_304 rfl (tyX12_ok 28 (by decide)) rfl rfl rfl ?_
    have tr1 := tr0.chg (show Fr [28] [] [] σ (sS 28 ((σ.1 28) + 1) σ) from (Fr.rfl.S (by decide))) (fun q => g2 (by omega) ⟨rfl, rfl, rfl⟩)
    refine tm_aload_n dX12_expression_24 rfl 0 rfl ?_
    refine tm_callV (M' := m_X12_sum) (As := []) (rest := []) dX12_expression_25 ok_X12_sum im_X12_sum se_X12_sum ml12_307 np_X12_sum rfl rfl (Nat.le_of_ble_eq_true rfl) (Nat.le_of_ble_eq_true rfl) rfl (c_X12_sum (d) (σ := (sS 28 ((σ.1 28) + 1) σ))  hce (hR.S (by omega)) tr1.2.2.1 tr1.nn (by show σ.1 28 + 1 = _; omega)) (fun r4 σ5 hp => ?_)
    obtain ⟨v6, rfl, f7, f8, f9, f10, f11, f12⟩ := hp
    show Tm _ _ 28 b σ5 [(0, .ref b)] [.int (iI v6)] _
    have xp0 := f7
    have xp1 := f8
    have xp2 := f9
    have xp3 := f10
    have xp4 := f11
    have xp5 := f12
    refine tm_istore_n (L' := [(1, .int (iI v6)), (0, .ref b)]) dX12_expression_28 rfl (by decide) rfl ?_
    refine tm_iload_n dX12_expression_29 rfl 0 rfl ?_
    refine tm_if_eq (tgt := 106) dX12_expression_30 (by decide) ⟨by omega, by omega⟩ (fun h13 => ?_) (fun h13 => ?_)
    · refine tm_aload_n dX12_expression_106 rfl 1 rfl ?_
      refine tm_dup dX12_expression_107 rfl ?_
      refine tm_getS (k := 28) (t := σ5.1 28) dX12_expression_108 (by decide) fl12_304 rfl (rfl) ?_
      have g14 := RG.s f9 28
      refine tm_iconst dX12_expression_111 ?_
      refine tm_isub dX12_expression_112 ?_
      refine tm_putS (k := 28) (v := (σ5.1 28) - 1) lay_12 dX12_expression_113 (by decide) fl12_304 rfl (tyX12_ok 28 (by decide)) rfl rfl rfl ?_
      refine tm_iload_n dX12_expression_116 rfl 0 rfl ?_
      exact tm_zret (v := v6) rfl (by omega) dX12_expression_117 (⟨_, rfl, by omega, (((Fr.rfl.S (by decide)).trans (Fr.sub f8 (by decide) (by decide) (by decide))).S (by decide)), (f9.S (by omega)), (tr1.fail xp3 (xp5.2 (by omega))).1.trans (PBF.nop (tr1.fail xp3 (xp5.2 (by omega))).1.2.2.1 (show Fr [28] [] [] σ5 (sS 28 ((σ5.1 28) - 1) σ5) from (Fr.rfl.S (by decide))) (by decide) (by decide) (by decide)), fun q => absurd q (by omega), by rw [show v6 = 0 by omega]; exact PRS.no (tr1.fail xp3 (xp5.2 (by omega))).2⟩)
    · have tr2 := tr1.sub xp3 (xp4 (by omega)) (xp5.1 (by omega))
      have gta := (xp4 (by omega)).2.2.1
      have e28a : σ5.1 28 = σ.1 28 + 1 := (xp4 (by omega)).2.2.2.2
      have rda := tr2.2.2.1
      unfold RDY at rda
      refine tm_aload_n dX12_expression_33 rfl 1 rfl ?_
      refine tm_bipush dX12_expression_34 (by decide) ?_
      refine tm_callV (M' := m_X12_isSign) (As := [.int (iI 61)]) (rest := []) dX12_expression_36 ok_X12_isSign im_X12_isSign se_X12_isSign ml12_258 np_X12_isSign rfl rfl (Nat.le_of_ble_eq_true rfl) (Nat.le_of_ble_eq_true rfl) rfl (c2_X12_isSign (d + 4 * lv + 10) (σ := σ5) (c := 61) f9 (by omega)) (fun r15 σ16 hp => ?_)
      obtain ⟨v17, rfl, rfl, f18, f19, f20⟩ := hp
      show Tm _ _ 39 b σ5 [(1, .int (iI v6)), (0, .ref b)] [.int (iI v17)] _
      have i61 := f19
      have n61_ := f20
      refine tm_if_ne (tgt := 51) dX12_expression_39 (by decide) ⟨by omega, by omega⟩ (fun h21 => ?_) (fun h21 => ?_)
      · refine tm_aload_n dX12_expression_51 rfl 1 rfl ?_
        refine tm_bipush dX12_expression_52 (by decide) ?_
        refine tm_callV (M' := m_X12_isSign) (As := [.int (iI 61)]) (rest := []) dX12_expression_54 ok_X12_isSign im_X12_isSign se_X12_isSign ml12_258 np_X12_isSign rfl rfl (Nat.le_of_ble_eq_true rfl) (Nat.le_of_ble_eq_true rfl) rfl (c2_X12_isSign (d + 4 * lv + 10) (σ := σ5) (c := 61) f9 (by omega)) (fun r22 σ23 hp => ?_)
        obtain ⟨v24, rfl, rfl, f25, f26, f27⟩ := hp
        show Tm _ _ 57 b σ5 [(1, .int (iI v6)), (0, .ref b)] [.int (iI v24)] _
        refine tm_if_eq (tgt := 64) dX12_expression_57 (by decide) ⟨by omega, by omega⟩ (fun h28 => ?_) (fun h28 => ?_)
        · refine tm_iconst dX12_expression_64 ?_
          refine tm_istore_n (L' := [(2, .int (iI 5)), (1, .int (iI v6)), (0, .ref b)]) dX12_expression_65 rfl (by decide) rfl ?_
          refine tm_aload_n dX12_expression_66 rfl 2 rfl ?_
          refine tm_getS (k := 39) (t := σ5.1 39) dX12_expression_67 (by decide) fl12_285 rfl (rfl) ?_
          have g29 := RG.s f9 39
          refine tm_istore_n (L' := [(3, .int (iI (σ5.1 39))), (2, .int (iI 5)), (1, .int (iI v6)), (0, .ref b)]) dX12_expression_70 rfl (by decide) rfl ?_
          refine tm_aload_n dX12_expression_71 rfl 3 rfl ?_
          refine tm_getS (k := 40) (t := σ5.1 40) dX12_expression_72 (by decide) fl12_288 rfl (rfl) ?_
          have g30 := RG.s f9 40
          refine tm_istore (L' := [(4, .int (iI (σ5.1 40))), (3, .int (iI (σ5.1 39))), (2, .int (iI 5)), (1, .int (iI v6)), (0, .ref b)]) dX12_expression_75 (by decide) rfl ?_
          refine tm_aload_n dX12_expression_77 rfl 4 rfl ?_
          refine tm_callV (M' := m_X12_advance) (As := []) (rest := []) dX12_expression_78 ok_X12_advance im_X12_advance se_X12_advance ml12_265 np_X12_advance rfl rfl (Nat.le_of_ble_eq_true rfl) (Nat.le_of_ble_eq_true rfl) rfl (c_X12_advance (d + 4 * lv + 6) (σ := σ5)  f9 (by have z := tr2.2.2.1.1.1; omega)) (fun r31 σ32 hp => ?_)
          obtain ⟨rfl, f34, f35, f36, f37, f38⟩ := hp
          show Tm _ _ 81 b σ32 [(4, .int (iI (σ5.1 40))), (3, .int (iI (σ5.1 39))), (2, .int (iI 5)), (1, .int (iI v6)), (0, .ref b)] [] _
          have tr3 := tr2.adv f35 f37 f38 (by first | (have z := (i61 (by omega)).1; omega) | (have z := (i60 (by omega)).1; omega)) (fun q => g6y (by first | exact Or.inl (i61 (by omega)) | exact Or.inr (i60 (by omega))) f34)
          have e28b : σ32.1 28 = σ.1 28 + 1 := by rw [f35.1 28 (by decide)]; exact e28a
          have m34a := f35.1 34 (by decide)
          refine tm_aload_n dX12_expression_81 rfl 4 rfl ?_
          refine tm_callV (M' := m_X12_sum) (As := []) (rest := []) dX12_expression_82 ok_X12_sum im_X12_sum se_X12_sum ml12_307 np_X12_sum rfl rfl (Nat.le_of_ble_eq_true rfl) (Nat.le_of_ble_eq_true rfl) rfl (c_X12_sum (d) (σ := σ32)  hce f36 tr3.2.2.1 tr3.nn (by omega)) (fun r39 σ40 hp => ?_)
          obtain ⟨v41, rfl, f42, f43, f44, f45, f46, f47⟩ := hp
          show Tm _ _ 85 b σ40 [(4, .int (iI (σ5.1 40))), (3, .int (iI (σ5.1 39))), (2, .int (iI 5)), (1, .int (iI v6)), (0, .ref b)] [.int (iI v41)] _
          have yp0 := f42
          have yp1 := f43
          have yp2 := f44
          have yp3 := f45
          have yp4 := f46
          have yp5 := f47
          refine tm_istore_n (L' := [(1, .int (iI v41)), (4, .int (iI (σ5.1 40))), (3, .int (iI (σ5.1 39))), (2, .int (iI 5)), (0, .ref b)]) dX12_expression_85 rfl (by decide) rfl ?_
          refine tm_iload_n dX12_expression_86 rfl 0 rfl ?_
          refine tm_if_eq (tgt := 106) dX12_expression_87 (by decide) ⟨by omega, by omega⟩ (fun h48 => ?_) (fun h48 => ?_)
          · refine tm_aload_n dX12_expression_106 rfl 4 rfl ?_
            refine tm_dup dX12_expression_107 rfl ?_
            refine tm_getS (k := 28) (t := σ40.1 28) dX12_expression_108 (by decide) fl12_304 rfl (rfl) ?_
            have g49 := RG.s f44 28
            refine tm_iconst dX12_expression_111 ?_
            refine tm_isub dX12_expression_112 ?_
            refine tm_putS (k := 28) (v := (σ40.1 28) - 1) lay_12 dX12_expression_113 (by decide) fl12_304 rfl (tyX12_ok 28 (by decide)) rfl rfl rfl ?_
            refine tm_iload_n dX12_expression_116 rfl 0 rfl ?_
            exact tm_zret (v := v41) rfl (by omega) dX12_expression_117 (⟨_, rfl, by omega, (((((Fr.rfl.S (by decide)).trans (Fr.sub f8 (by decide) (by decide) (by decide))).trans (Fr.sub f35 (by decide) (by decide) (by decide))).trans (Fr.sub f43 (by decide) (by decide) (by decide))).S (by decide)), (f44.S (by omega)), (tr3.fail yp3 (yp5.2 (by omega))).1.trans (PBF.nop (tr3.fail yp3 (yp5.2 (by omega))).1.2.2.1 (show Fr [28] [] [] σ40 (sS 28 ((σ40.1 28) - 1) σ40) from (Fr.rfl.S (by decide))) (by decide) (by decide) (by decide)), fun q => absurd q (by omega), by rw [show v41 = 0 by omega]; exact PRS.no (tr3.fail yp3 (yp5.2 (by omega))).2⟩)
          · have tr4 := tr3.sub yp3 (yp4 (by omega)) (yp5.1 (by omega))
            have gt := (yp4 (by omega)).2.2.1
            have gtz := gta
            unfold GT at gtz
            have e28c : σ40.1 28 = σ.1 28 + 1 := by rw [(yp4 (by omega)).2.2.2.2]; exact e28b
            have m34b := yp3.2.2.2.2.2.1
            have rdj := tr4.2.2.1.2
            have tkj := tr4.2.2.1.1.1
            refine tm_aload_n dX12_expression_90 rfl 4 rfl ?_
            refine tm_iload_n dX12_expression_91 rfl 3 rfl ?_
            refine tm_iload_n dX12_expression_92 rfl 2 rfl ?_
            refine tm_iload dX12_expression_93 1 rfl ?_
            refine tm_aload_n dX12_expression_95 rfl 4 rfl ?_
            refine tm_getS (k := 39) (t := σ40.1 39) dX12_expression_96 (by decide) fl12_285 rfl (rfl) ?_
            have g50 := RG.s f44 39
            refine tm_aload_n dX12_expression_99 rfl 4 rfl ?_
            refine tm_getS (k := 40) (t := σ40.1 40) dX12_expression_100 (by decide) fl12_288 rfl (rfl) ?_
            have g51 := RG.s f44 40
            refine tm_callV (M' := m_X12_joins) (As := [.int (iI 5), .int (iI (σ5.1 39)), .int (iI (σ5.1 40)), .int (iI (σ40.1 39)), .int (iI (σ40.1 40))]) (rest := []) dX12_expression_103 ok_X12_joins im_X12_joins se_X12_joins ml12_310 np_X12_joins rfl rfl (Nat.le_of_ble_eq_true rfl) (Nat.le_of_ble_eq_true rfl) rfl (c_X12_joins (d + 4 * lv + 8) (σ := σ40) (k := 5) (ak := σ5.1 39) (a := σ5.1 40) (bk := σ40.1 39) (c := σ40.1 40) f44 (by omega) (by decide) (by omega) (by have z := gt; unfold GT at z; omega) (by omega) (by omega) (by omega)) (fun r52 σ53 hp => ?_)
            obtain ⟨rfl, f55, f56, f57, f58, f59⟩ := hp
            show Tm _ _ 106 b σ53 [(1, .int (iI v41)), (4, .int (iI (σ5.1 40))), (3, .int (iI (σ5.1 39))), (2, .int (iI 5)), (0, .ref b)] [] _
            have tr5 := tr4.join f55 ⟨f57.1, f57.2.1⟩ f58 f59 (by decide) hrd
            have gtf : GT σ53 := by unfold GT; rw [f57.2.2.1, f57.2.2.2, f57.1]; exact ⟨Or.inr rfl, fun _ => by omega⟩
            have e28f : σ53.1 28 = σ.1 28 + 1 := by rw [f55.1 28 (by decide)]; exact e28c
            refine tm_aload_n dX12_expression_106 rfl 4 rfl ?_
            refine tm_dup dX12_expression_107 rfl ?_
            refine tm_getS (k := 28) (t := σ40.1 28) dX12_expression_108 (by decide) fl12_304 rfl (rs_F f55 (by decide) (rfl)) ?_
            have g60 := RG.s f44 28
            refine tm_iconst dX12_expression_111 ?_
            refine tm_isub dX12_expression_112 ?_
            refine tm_putS (k := 28) (v := (σ40.1 28) - 1) lay_12 dX12_expression_113 (by decide) fl12_304 rfl (tyX12_ok 28 (by decide)) rfl rfl rfl ?_
            have tr6 := tr5.chg (show Fr [28] [] [] σ53 (sS 28 ((σ40.1 28) - 1) σ53) from (Fr.rfl.S (by decide))) (fun q => g7 ⟨rfl, rfl, rfl⟩)
            refine tm_iload_n dX12_expression_116 rfl 0 rfl ?_
            exact tm_zret (v := v41) rfl (by omega) dX12_expression_117 (⟨_, rfl, by omega, ((((((Fr.rfl.S (by decide)).trans (Fr.sub f8 (by decide) (by decide) (by decide))).trans (Fr.sub f35 (by decide) (by decide) (by decide))).trans (Fr.sub f43 (by decide) (by decide) (by decide))).trans (Fr.sub f55 (by decide) (by decide) (by decide))).S (by decide)), (f56.S (by omega)), tr6.1, fun _ => tr6.exs (by decide) (gtf.fr (show Fr [28] [] [] σ53 (sS 28 ((σ40.1 28) - 1) σ53) from (Fr.rfl.S (by decide))) (by decide)) (by show σ53.1 28 - 1 = σ.1 28; omega), by rw [show v41 = 1 by omega]; exact tr6.prs⟩)
        · refine tm_iconst dX12_expression_60 ?_
          refine tm_goto (tgt := 65) dX12_expression_61 (by decide) ?_
          refine tm_istore_n (L' := [(2, .int (iI 4)), (1, .int (iI v6)), (0, .ref b)]) dX12_expression_65 rfl (by decide) rfl ?_
          refine tm_aload_n dX12_expression_66 rfl 2 rfl ?_
          refine tm_getS (k := 39) (t := σ5.1 39) dX12_expression_67 (by decide) fl12_285 rfl (rfl) ?_
          have g61 := RG.s f9 39
          refine tm_istore_n (L' := [(3, .int (iI (σ5.1 39))), (2, .int (iI 4)), (1, .int (iI v6)), (0, .ref b)]) dX12_expression_70 rfl (by decide) rfl ?_
          refine tm_aload_n dX12_expression_71 rfl 3 rfl ?_
          refine tm_getS (k := 40) (t := σ5.1 40) dX12_expression_72 (by decide) fl12_288 rfl (rfl) ?_
          have g62 := RG.s f9 40
          refine tm_istore (L' := [(4, .int (iI (σ5.1 40))), (3, .int (iI (σ5.1 39))), (2, .int (iI 4)), (1, .int (iI v6)), (0, .ref b)]) dX12_expression_75 (by decide) rfl ?_
          refine tm_aload_n dX12_expression_77 rfl 4 rfl ?_
          refine tm_callV (M' := m_X12_advance) (As := []) (rest := []) dX12_expression_78 ok_X12_advance im_X12_advance se_X12_advance ml12_265 np_X12_advance rfl rfl (Nat.le_of_ble_eq_true rfl) (Nat.le_of_ble_eq_true rfl) rfl (c_X12_advance (d + 4 * lv + 6) (σ := σ5)  f9 (by have z := tr2.2.2.1.1.1; omega)) (fun r63 σ64 hp => ?_)
          obtain ⟨rfl, f66, f67, f68, f69, f70⟩ := hp
          show Tm _ _ 81 b σ64 [(4, .int (iI (σ5.1 40))), (3, .int (iI (σ5.1 39))), (2, .int (iI 4)), (1, .int (iI v6)), (0, .ref b)] [] _
          have tr7 := tr2.adv f67 f69 f70 (by first | (have z := (i61 (by omega)).1; omega) | (have z := (i60 (by omega)).1; omega)) (fun q => g6y (by first | exact Or.inl (i61 (by omega)) | exact Or.inr (i60 (by omega))) f66)
          have e28b : σ64.1 28 = σ.1 28 + 1 := by rw [f67.1 28 (by decide)]; exact e28a
          have m34a := f67.1 34 (by decide)
          refine tm_aload_n dX12_expression_81 rfl 4 rfl ?_
          refine tm_callV (M' := m_X12_sum) (As := []) (rest := []) dX12_expression_82 ok_X12_sum im_X12_sum se_X12_sum ml12_307 np_X12_sum rfl rfl (Nat.le_of_ble_eq_true rfl) (Nat.le_of_ble_eq_true rfl) rfl (c_X12_sum (d) (σ := σ64)  hce f68 tr7.2.2.1 tr7.nn (by omega)) (fun r71 σ72 hp => ?_)
          obtain ⟨v73, rfl, f74, f75, f76, f77, f78, f79⟩ := hp
          show Tm _ _ 85 b σ72 [(4, .int (iI (σ5.1 40))), (3, .int (iI (σ5.1 39))), (2, .int (iI 4)), (1, .int (iI v6)), (0, .ref b)] [.int (iI v73)] _
          have yp0 := f74
          have yp1 := f75
          have yp2 := f76
          have yp3 := f77
          have yp4 := f78
          have yp5 := f79
          refine tm_istore_n (L' := [(1, .int (iI v73)), (4, .int (iI (σ5.1 40))), (3, .int (iI (σ5.1 39))), (2, .int (iI 4)), (0, .ref b)]) dX12_expression_85 rfl (by decide) rfl ?_
          refine tm_iload_n dX12_expression_86 rfl 0 rfl ?_
          refine tm_if_eq (tgt := 106) dX12_expression_87 (by decide) ⟨by omega, by omega⟩ (fun h80 => ?_) (fun h80 => ?_)
          · refine tm_aload_n dX12_expression_106 rfl 4 rfl ?_
            refine tm_dup dX12_expression_107 rfl ?_
            refine tm_getS (k := 28) (t := σ72.1 28) dX12_expression_108 (by decide) fl12_304 rfl (rfl) ?_
            have g81 := RG.s f76 28
            refine tm_iconst dX12_expression_111 ?_
            refine tm_isub dX12_expression_112 ?_
            refine tm_putS (k := 28) (v := (σ72.1 28) - 1) lay_12 dX12_expression_113 (by decide) fl12_304 rfl (tyX12_ok 28 (by decide)) rfl rfl rfl ?_
            refine tm_iload_n dX12_expression_116 rfl 0 rfl ?_
            exact tm_zret (v := v73) rfl (by omega) dX12_expression_117 (⟨_, rfl, by omega, (((((Fr.rfl.S (by decide)).trans (Fr.sub f8 (by decide) (by decide) (by decide))).trans (Fr.sub f67 (by decide) (by decide) (by decide))).trans (Fr.sub f75 (by decide) (by decide) (by decide))).S (by decide)), (f76.S (by omega)), (tr7.fail yp3 (yp5.2 (by omega))).1.trans (PBF.nop (tr7.fail yp3 (yp5.2 (by omega))).1.2.2.1 (show Fr [28] [] [] σ72 (sS 28 ((σ72.1 28) - 1) σ72) from (Fr.rfl.S (by decide))) (by decide) (by decide) (by decide)), fun q => absurd q (by omega), by rw [show v73 = 0 by omega]; exact PRS.no (tr7.fail yp3 (yp5.2 (by omega))).2⟩)
          · have tr8 := tr7.sub yp3 (yp4 (by omega)) (yp5.1 (by omega))
            have gt := (yp4 (by omega)).2.2.1
            have gtz := gta
            unfold GT at gtz
            have e28c : σ72.1 28 = σ.1 28 + 1 := by rw [(yp4 (by omega)).2.2.2.2]; exact e28b
            have m34b := yp3.2.2.2.2.2.1
            have rdj := tr8.2.2.1.2
            have tkj := tr8.2.2.1.1.1
            refine tm_aload_n dX12_expression_90 rfl 4 rfl ?_
            refine tm_iload_n dX12_expression_91 rfl 3 rfl ?_
            refine tm_iload_n dX12_expression_92 rfl 2 rfl ?_
            refine tm_iload dX12_expression_93 1 rfl ?_
            refine tm_aload_n dX12_expression_95 rfl 4 rfl ?_
            refine tm_getS (k := 39) (t := σ72.1 39) dX12_expression_96 (by decide) fl12_285 rfl (rfl) ?_
            have g82 := RG.s f76 39
            refine tm_aload_n dX12_expression_99 rfl 4 rfl ?_
            refine tm_getS (k := 40) (t := σ72.1 40) dX12_expression_100 (by decide) fl12_288 rfl (rfl) ?_
            have g83 := RG.s f76 40
            refine tm_callV (M' := m_X12_joins) (As := [.int (iI 4), .int (iI (σ5.1 39)), .int (iI (σ5.1 40)), .int (iI (σ72.1 39)), .int (iI (σ72.1 40))]) (rest := []) dX12_expression_103 ok_X12_joins im_X12_joins se_X12_joins ml12_310 np_X12_joins rfl rfl (Nat.le_of_ble_eq_true rfl) (Nat.le_of_ble_eq_true rfl) rfl (c_X12_joins (d + 4 * lv + 8) (σ := σ72) (k := 4) (ak := σ5.1 39) (a := σ5.1 40) (bk := σ72.1 39) (c := σ72.1 40) f76 (by omega) (by decide) (by omega) (by have z := gt; unfold GT at z; omega) (by omega) (by omega) (by omega)) (fun r84 σ85 hp => ?_)
            obtain ⟨rfl, f87, f88, f89, f90, f91⟩ := hp
            show Tm _ _ 106 b σ85 [(1, .int (iI v73)), (4, .int (iI (σ5.1 40))), (3, .int (iI (σ5.1 39))), (2, .int (iI 4)), (0, .ref b)] [] _
            have tr9 := tr8.join f87 ⟨f89.1, f89.2.1⟩ f90 f91 (by decide) hrd
            have gtf : GT σ85 := by unfold GT; rw [f89.2.2.1, f89.2.2.2, f89.1]; exact ⟨Or.inr rfl, fun _ => by omega⟩
            have e28f : σ85.1 28 = σ.1 28 + 1 := by rw [f87.1 28 (by decide)]; exact e28c
            refine tm_aload_n dX12_expression_106 rfl 4 rfl ?_
            refine tm_dup dX12_expression_107 rfl ?_
            refine tm_getS (k := 28) (t := σ72.1 28) dX12_expression_108 (by decide) fl12_304 rfl (rs_F f87 (by decide) (rfl)) ?_
            have g92 := RG.s f76 28
            refine tm_iconst dX12_expression_111 ?_
            refine tm_isub dX12_expression_112 ?_
            refine tm_putS (k := 28) (v := (σ72.1 28) - 1) lay_12 dX12_expression_113 (by decide) fl12_304 rfl (tyX12_ok 28 (by decide)) rfl rfl rfl ?_
            have tr10 := tr9.chg (show Fr [28] [] [] σ85 (sS 28 ((σ72.1 28) - 1) σ85) from (Fr.rfl.S (by decide))) (fun q => g7 ⟨rfl, rfl, rfl⟩)
            refine tm_iload_n dX12_expression_116 rfl 0 rfl ?_
            exact tm_zret (v := v73) rfl (by omega) dX12_expression_117 (⟨_, rfl, by omega, ((((((Fr.rfl.S (by decide)).trans (Fr.sub f8 (by decide) (by decide) (by decide))).trans (Fr.sub f67 (by decide) (by decide) (by decide))).trans (Fr.sub f75 (by decide) (by decide) (by decide))).trans (Fr.sub f87 (by decide) (by decide) (by decide))).S (by decide)), (f88.S (by omega)), tr10.1, fun _ => tr10.exs (by decide) (gtf.fr (show Fr [28] [] [] σ85 (sS 28 ((σ72.1 28) - 1) σ85) from (Fr.rfl.S (by decide))) (by decide)) (by show σ85.1 28 - 1 = σ.1 28; omega), by rw [show v73 = 1 by omega]; exact tr10.prs⟩)
      · refine tm_aload_n dX12_expression_42 rfl 1 rfl ?_
        refine tm_bipush dX12_expression_43 (by decide) ?_
        refine tm_callV (M' := m_X12_isSign) (As := [.int (iI 60)]) (rest := []) dX12_expression_45 ok_X12_isSign im_X12_isSign se_X12_isSign ml12_258 np_X12_isSign rfl rfl (Nat.le_of_ble_eq_true rfl) (Nat.le_of_ble_eq_true rfl) rfl (c2_X12_isSign (d + 4 * lv + 10) (σ := σ5) (c := 60) f9 (by omega)) (fun r93 σ94 hp => ?_)
        obtain ⟨v95, rfl, rfl, f96, f97, f98⟩ := hp
        show Tm _ _ 48 b σ5 [(1, .int (iI v6)), (0, .ref b)] [.int (iI v95)] _
        have i60 := f97
        have n60_ := f98
        refine tm_if_eq (tgt := 106) dX12_expression_48 (by decide) ⟨by omega, by omega⟩ (fun h99 => ?_) (fun h99 => ?_)
        · have tr11 := tr2.nxt (fun q => g6n (n61_ (by omega)) (n60_ (by omega)))
          have gtf := gta
          have e28f := e28a
          refine tm_aload_n dX12_expression_106 rfl 1 rfl ?_
          refine tm_dup dX12_expression_107 rfl ?_
          refine tm_getS (k := 28) (t := σ5.1 28) dX12_expression_108 (by decide) fl12_304 rfl (rfl) ?_
          have g100 := RG.s f9 28
          refine tm_iconst dX12_expression_111 ?_
          refine tm_isub dX12_expression_112 ?_
          refine tm_putS (k := 28) (v := (σ5.1 28) - 1) lay_12 dX12_expression_113 (by decide) fl12_304 rfl (tyX12_ok 28 (by decide)) rfl rfl rfl ?_
          have tr12 := tr11.chg (show Fr [28] [] [] σ5 (sS 28 ((σ5.1 28) - 1) σ5) from (Fr.rfl.S (by decide))) (fun q => g7 ⟨rfl, rfl, rfl⟩)
          refine tm_iload_n dX12_expression_116 rfl 0 rfl ?_
          exact tm_zret (v := v6) rfl (by omega) dX12_expression_117 (⟨_, rfl, by omega, (((Fr.rfl.S (by decide)).trans (Fr.sub f8 (by decide) (by decide) (by decide))).S (by decide)), (f9.S (by omega)), tr12.1, fun _ => tr12.exs (by decide) (gtf.fr (show Fr [28] [] [] σ5 (sS 28 ((σ5.1 28) - 1) σ5) from (Fr.rfl.S (by decide))) (by decide)) (by show σ5.1 28 - 1 = σ.1 28; omega), by rw [show v6 = 1 by omega]; exact tr12.prs⟩)
        · refine tm_aload_n dX12_expression_51 rfl 1 rfl ?_
          refine tm_bipush dX12_expression_52 (by decide) ?_
          refine tm_callV (M' := m_X12_isSign) (As := [.int (iI 61)]) (rest := []) dX12_expression_54 ok_X12_isSign im_X12_isSign se_X12_isSign ml12_258 np_X12_isSign rfl rfl (Nat.le_of_ble_eq_true rfl) (Nat.le_of_ble_eq_true rfl) rfl (c2_X12_isSign (d + 4 * lv + 10) (σ := σ5) (c := 61) f9 (by omega)) (fun r101 σ102 hp => ?_)
          obtain ⟨v103, rfl, rfl, f104, f105, f106⟩ := hp
          show Tm _ _ 57 b σ5 [(1, .int (iI v6)), (0, .ref b)] [.int (iI v103)] _
          refine tm_if_eq (tgt := 64) dX12_expression_57 (by decide) ⟨by omega, by omega⟩ (fun h107 => ?_) (fun h107 => ?_)
          · refine tm_iconst dX12_expression_64 ?_
            refine tm_istore_n (L' := [(2, .int (iI 5)), (1, .int (iI v6)), (0, .ref b)]) dX12_expression_65 rfl (by decide) rfl ?_
            refine tm_aload_n dX12_expression_66 rfl 2 rfl ?_
            refine tm_getS (k := 39) (t := σ5.1 39) dX12_expression_67 (by decide) fl12_285 rfl (rfl) ?_
            have g108 := RG.s f9 39
            refine tm_istore_n (L' := [(3, .int (iI (σ5.1 39))), (2, .int (iI 5)), (1, .int (iI v6)), (0, .ref b)]) dX12_expression_70 rfl (by decide) rfl ?_
            refine tm_aload_n dX12_expression_71 rfl 3 rfl ?_
            refine tm_getS (k := 40) (t := σ5.1 40) dX12_expression_72 (by decide) fl12_288 rfl (rfl) ?_
            have g109 := RG.s f9 40
            refine tm_istore (L' := [(4, .int (iI (σ5.1 40))), (3, .int (iI (σ5.1 39))), (2, .int (iI 5)), (1, .int (iI v6)), (0, .ref b)]) dX12_expression_75 (by decide) rfl ?_
            refine tm_aload_n dX12_expression_77 rfl 4 rfl ?_
            refine tm_callV (M' := m_X12_advance) (As := []) (rest := []) dX12_expression_78 ok_X12_advance im_X12_advance se_X12_advance ml12_265 np_X12_advance rfl rfl (Nat.le_of_ble_eq_true rfl) (Nat.le_of_ble_eq_true rfl) rfl (c_X12_advance (d + 4 * lv + 6) (σ := σ5)  f9 (by have z := tr2.2.2.1.1.1; omega)) (fun r110 σ111 hp => ?_)
            obtain ⟨rfl, f113, f114, f115, f116, f117⟩ := hp
            show Tm _ _ 81 b σ111 [(4, .int (iI (σ5.1 40))), (3, .int (iI (σ5.1 39))), (2, .int (iI 5)), (1, .int (iI v6)), (0, .ref b)] [] _
            have tr13 := tr2.adv f114 f116 f117 (by first | (have z := (i61 (by omega)).1; omega) | (have z := (i60 (by omega)).1; omega)) (fun q => g6y (by first | exact Or.inl (i61 (by omega)) | exact Or.inr (i60 (by omega))) f113)
            have e28b : σ111.1 28 = σ.1 28 + 1 := by rw [f114.1 28 (by decide)]; exact e28a
            have m34a := f114.1 34 (by decide)
            refine tm_aload_n dX12_expression_81 rfl 4 rfl ?_
            refine tm_callV (M' := m_X12_sum) (As := []) (rest := []) dX12_expression_82 ok_X12_sum im_X12_sum se_X12_sum ml12_307 np_X12_sum rfl rfl (Nat.le_of_ble_eq_true rfl) (Nat.le_of_ble_eq_true rfl) rfl (c_X12_sum (d) (σ := σ111)  hce f115 tr13.2.2.1 tr13.nn (by omega)) (fun r118 σ119 hp => ?_)
            obtain ⟨v120, rfl, f121, f122, f123, f124, f125, f126⟩ := hp
            show Tm _ _ 85 b σ119 [(4, .int (iI (σ5.1 40))), (3, .int (iI (σ5.1 39))), (2, .int (iI 5)), (1, .int (iI v6)), (0, .ref b)] [.int (iI v120)] _
            have yp0 := f121
            have yp1 := f122
            have yp2 := f123
            have yp3 := f124
            have yp4 := f125
            have yp5 := f126
            refine tm_istore_n (L' := [(1, .int (iI v120)), (4, .int (iI (σ5.1 40))), (3, .int (iI (σ5.1 39))), (2, .int (iI 5)), (0, .ref b)]) dX12_expression_85 rfl (by decide) rfl ?_
            refine tm_iload_n dX12_expression_86 rfl 0 rfl ?_
            refine tm_if_eq (tgt := 106) dX12_expression_87 (by decide) ⟨by omega, by omega⟩ (fun h127 => ?_) (fun h127 => ?_)
            · refine tm_aload_n dX12_expression_106 rfl 4 rfl ?_
              refine tm_dup dX12_expression_107 rfl ?_
              refine tm_getS (k := 28) (t := σ119.1 28) dX12_expression_108 (by decide) fl12_304 rfl (rfl) ?_
              have g128 := RG.s f123 28
              refine tm_iconst dX12_expression_111 ?_
              refine tm_isub dX12_expression_112 ?_
              refine tm_putS (k := 28) (v := (σ119.1 28) - 1) lay_12 dX12_expression_113 (by decide) fl12_304 rfl (tyX12_ok 28 (by decide)) rfl rfl rfl ?_
              refine tm_iload_n dX12_expression_116 rfl 0 rfl ?_
              exact tm_zret (v := v120) rfl (by omega) dX12_expression_117 (⟨_, rfl, by omega, (((((Fr.rfl.S (by decide)).trans (Fr.sub f8 (by decide) (by decide) (by decide))).trans (Fr.sub f114 (by decide) (by decide) (by decide))).trans (Fr.sub f122 (by decide) (by decide) (by decide))).S (by decide)), (f123.S (by omega)), (tr13.fail yp3 (yp5.2 (by omega))).1.trans (PBF.nop (tr13.fail yp3 (yp5.2 (by omega))).1.2.2.1 (show Fr [28] [] [] σ119 (sS 28 ((σ119.1 28) - 1) σ119) from (Fr.rfl.S (by decide))) (by decide) (by decide) (by decide)), fun q => absurd q (by omega), by rw [show v120 = 0 by omega]; exact PRS.no (tr13.fail yp3 (yp5.2 (by omega))).2⟩)
            · have tr14 := tr13.sub yp3 (yp4 (by omega)) (yp5.1 (by omega))
              have gt := (yp4 (by omega)).2.2.1
              have gtz := gta
              unfold GT at gtz
              have e28c : σ119.1 28 = σ.1 28 + 1 := by rw [(yp4 (by omega)).2.2.2.2]; exact e28b
              have m34b := yp3.2.2.2.2.2.1
              have rdj := tr14.2.2.1.2
              have tkj := tr14.2.2.1.1.1
              refine tm_aload_n dX12_expression_90 rfl 4 rfl ?_
              refine tm_iload_n dX12_expression_91 rfl 3 rfl ?_
              refine tm_iload_n dX12_expression_92 rfl 2 rfl ?_
              refine tm_iload dX12_expression_93 1 rfl ?_
              refine tm_aload_n dX12_expression_95 rfl 4 rfl ?_
              refine tm_getS (k := 39) (t := σ119.1 39) dX12_expression_96 (by decide) fl12_285 rfl (rfl) ?_
              have g129 := RG.s f123 39
              refine tm_aload_n dX12_expression_99 rfl 4 rfl ?_
              refine tm_getS (k := 40) (t := σ119.1 40) dX12_expression_100 (by decide) fl12_288 rfl (rfl) ?_
              have g130 := RG.s f123 40
              refine tm_callV (M' := m_X12_joins) (As := [.int (iI 5), .int (iI (σ5.1 39)), .int (iI (σ5.1 40)), .int (iI (σ119.1 39)), .int (iI (σ119.1 40))]) (rest := []) dX12_expression_103 ok_X12_joins im_X12_joins se_X12_joins ml12_310 np_X12_joins rfl rfl (Nat.le_of_ble_eq_true rfl) (Nat.le_of_ble_eq_true rfl) rfl (c_X12_joins (d + 4 * lv + 8) (σ := σ119) (k := 5) (ak := σ5.1 39) (a := σ5.1 40) (bk := σ119.1 39) (c := σ119.1 40) f123 (by omega) (by decide) (by omega) (by have z := gt; unfold GT at z; omega) (by omega) (by omega) (by omega)) (fun r131 σ132 hp => ?_)
              obtain ⟨rfl, f134, f135, f136, f137, f138⟩ := hp
              show Tm _ _ 106 b σ132 [(1, .int (iI v120)), (4, .int (iI (σ5.1 40))), (3, .int (iI (σ5.1 39))), (2, .int (iI 5)), (0, .ref b)] [] _
              have tr15 := tr14.join f134 ⟨f136.1, f136.2.1⟩ f137 f138 (by decide) hrd
              have gtf : GT σ132 := by unfold GT; rw [f136.2.2.1, f136.2.2.2, f136.1]; exact ⟨Or.inr rfl, fun _ => by omega⟩
              have e28f : σ132.1 28 = σ.1 28 + 1 := by rw [f134.1 28 (by decide)]; exact e28c
              refine tm_aload_n dX12_expression_106 rfl 4 rfl ?_
              refine tm_dup dX12_expression_107 rfl ?_
              refine tm_getS (k := 28) (t := σ119.1 28) dX12_expression_108 (by decide) fl12_304 rfl (rs_F f134 (by decide) (rfl)) ?_
              have g139 := RG.s f123 28
              refine tm_iconst dX12_expression_111 ?_
              refine tm_isub dX12_expression_112 ?_
              refine tm_putS (k := 28) (v := (σ119.1 28) - 1) lay_12 dX12_expression_113 (by decide) fl12_304 rfl (tyX12_ok 28 (by decide)) rfl rfl rfl ?_
              have tr16 := tr15.chg (show Fr [28] [] [] σ132 (sS 28 ((σ119.1 28) - 1) σ132) from (Fr.rfl.S (by decide))) (fun q => g7 ⟨rfl, rfl, rfl⟩)
              refine tm_iload_n dX12_expression_116 rfl 0 rfl ?_
              exact tm_zret (v := v120) rfl (by omega) dX12_expression_117 (⟨_, rfl, by omega, ((((((Fr.rfl.S (by decide)).trans (Fr.sub f8 (by decide) (by decide) (by decide))).trans (Fr.sub f114 (by decide) (by decide) (by decide))).trans (Fr.sub f122 (by decide) (by decide) (by decide))).trans (Fr.sub f134 (by decide) (by decide) (by decide))).S (by decide)), (f135.S (by omega)), tr16.1, fun _ => tr16.exs (by decide) (gtf.fr (show Fr [28] [] [] σ132 (sS 28 ((σ119.1 28) - 1) σ132) from (Fr.rfl.S (by decide))) (by decide)) (by show σ132.1 28 - 1 = σ.1 28; omega), by rw [show v120 = 1 by omega]; exact tr16.prs⟩)
          · refine tm_iconst dX12_expression_60 ?_
            refine tm_goto (tgt := 65) dX12_expression_61 (by decide) ?_
            refine tm_istore_n (L' := [(2, .int (iI 4)), (1, .int (iI v6)), (0, .ref b)]) dX12_expression_65 rfl (by decide) rfl ?_
            refine tm_aload_n dX12_expression_66 rfl 2 rfl ?_
            refine tm_getS (k := 39) (t := σ5.1 39) dX12_expression_67 (by decide) fl12_285 rfl (rfl) ?_
            have g140 := RG.s f9 39
            refine tm_istore_n (L' := [(3, .int (iI (σ5.1 39))), (2, .int (iI 4)), (1, .int (iI v6)), (0, .ref b)]) dX12_expression_70 rfl (by decide) rfl ?_
            refine tm_aload_n dX12_expression_71 rfl 3 rfl ?_
            refine tm_getS (k := 40) (t := σ5.1 40) dX12_expression_72 (by decide) fl12_288 rfl (rfl) ?_
            have g141 := RG.s f9 40
            refine tm_istore (L' := [(4, .int (iI (σ5.1 40))), (3, .int (iI (σ5.1 39))), (2, .int (iI 4)), (1, .int (iI v6)), (0, .ref b)]) dX12_expression_75 (by decide) rfl ?_
            refine tm_aload_n dX12_expression_77 rfl 4 rfl ?_
            refine tm_callV (M' := m_X12_advance) (As := []) (rest := []) dX12_expression_78 ok_X12_advance im_X12_advance se_X12_advance ml12_265 np_X12_advance rfl rfl (Nat.le_of_ble_eq_true rfl) (Nat.le_of_ble_eq_true rfl) rfl (c_X12_advance (d + 4 * lv + 6) (σ := σ5)  f9 (by have z := tr2.2.2.1.1.1; omega)) (fun r142 σ143 hp => ?_)
            obtain ⟨rfl, f145, f146, f147, f148, f149⟩ := hp
            show Tm _ _ 81 b σ143 [(4, .int (iI (σ5.1 40))), (3, .int (iI (σ5.1 39))), (2, .int (iI 4)), (1, .int (iI v6)), (0, .ref b)] [] _
            have tr17 := tr2.adv f146 f148 f149 (by first | (have z := (i61 (by omega)).1; omega) | (have z := (i60 (by omega)).1; omega)) (fun q => g6y (by first | exact Or.inl (i61 (by omega)) | exact Or.inr (i60 (by omega))) f145)
            have e28b : σ143.1 28 = σ.1 28 + 1 := by rw [f146.1 28 (by decide)]; exact e28a
            have m34a := f146.1 34 (by decide)
            refine tm_aload_n dX12_expression_81 rfl 4 rfl ?_
            refine tm_callV (M' := m_X12_sum) (As := []) (rest := []) dX12_expression_82 ok_X12_sum im_X12_sum se_X12_sum ml12_307 np_X12_sum rfl rfl (Nat.le_of_ble_eq_true rfl) (Nat.le_of_ble_eq_true rfl) rfl (c_X12_sum (d) (σ := σ143)  hce f147 tr17.2.2.1 tr17.nn (by omega)) (fun r150 σ151 hp => ?_)
            obtain ⟨v152, rfl, f153, f154, f155, f156, f157, f158⟩ := hp
            show Tm _ _ 85 b σ151 [(4, .int (iI (σ5.1 40))), (3, .int (iI (σ5.1 39))), (2, .int (iI 4)), (1, .int (iI v6)), (0, .ref b)] [.int (iI v152)] _
            have yp0 := f153
            have yp1 := f154
            have yp2 := f155
            have yp3 := f156
            have yp4 := f157
            have yp5 := f158
            refine tm_istore_n (L' := [(1, .int (iI v152)), (4, .int (iI (σ5.1 40))), (3, .int (iI (σ5.1 39))), (2, .int (iI 4)), (0, .ref b)]) dX12_expression_85 rfl (by decide) rfl ?_
            refine tm_iload_n dX12_expression_86 rfl 0 rfl ?_
            refine tm_if_eq (tgt := 106) dX12_expression_87 (by decide) ⟨by omega, by omega⟩ (fun h159 => ?_) (fun h159 => ?_)
            · refine tm_aload_n dX12_expression_106 rfl 4 rfl ?_
              refine tm_dup dX12_expression_107 rfl ?_
              refine tm_getS (k := 28) (t := σ151.1 28) dX12_expression_108 (by decide) fl12_304 rfl (rfl) ?_
              have g160 := RG.s f155 28
              refine tm_iconst dX12_expression_111 ?_
              refine tm_isub dX12_expression_112 ?_
              refine tm_putS (k := 28) (v := (σ151.1 28) - 1) lay_12 dX12_expression_113 (by decide) fl12_304 rfl (tyX12_ok 28 (by decide)) rfl rfl rfl ?_
              refine tm_iload_n dX12_expression_116 rfl 0 rfl ?_
              exact tm_zret (v := v152) rfl (by omega) dX12_expression_117 (⟨_, rfl, by omega, (((((Fr.rfl.S (by decide)).trans (Fr.sub f8 (by decide) (by decide) (by decide))).trans (Fr.sub f146 (by decide) (by decide) (by decide))).trans (Fr.sub f154 (by decide) (by decide) (by decide))).S (by decide)), (f155.S (by omega)), (tr17.fail yp3 (yp5.2 (by omega))).1.trans (PBF.nop (tr17.fail yp3 (yp5.2 (by omega))).1.2.2.1 (show Fr [28] [] [] σ151 (sS 28 ((σ151.1 28) - 1) σ151) from (Fr.rfl.S (by decide))) (by decide) (by decide) (by decide)), fun q => absurd q (by omega), by rw [show v152 = 0 by omega]; exact PRS.no (tr17.fail yp3 (yp5.2 (by omega))).2⟩)
            · have tr18 := tr17.sub yp3 (yp4 (by omega)) (yp5.1 (by omega))
              have gt := (yp4 (by omega)).2.2.1
              have gtz := gta
              unfold GT at gtz
              have e28c : σ151.1 28 = σ.1 28 + 1 := by rw [(yp4 (by omega)).2.2.2.2]; exact e28b
              have m34b := yp3.2.2.2.2.2.1
              have rdj := tr18.2.2.1.2
              have tkj := tr18.2.2.1.1.1
              refine tm_aload_n dX12_expression_90 rfl 4 rfl ?_
              refine tm_iload_n dX12_expression_91 rfl 3 rfl ?_
              refine tm_iload_n dX12_expression_92 rfl 2 rfl ?_
              refine tm_iload dX12_expression_93 1 rfl ?_
              refine tm_aload_n dX12_expression_95 rfl 4 rfl ?_
              refine tm_getS (k := 39) (t := σ151.1 39) dX12_expression_96 (by decide) fl12_285 rfl (rfl) ?_
              have g161 := RG.s f155 39
              refine tm_aload_n dX12_expression_99 rfl 4 rfl ?_
              refine tm_getS (k := 40) (t := σ151.1 40) dX12_expression_100 (by decide) fl12_288 rfl (rfl) ?_
              have g162 := RG.s f155 40
              refine tm_callV (M' := m_X12_joins) (As := [.int (iI 4), .int (iI (σ5.1 39)), .int (iI (σ5.1 40)), .int (iI (σ151.1 39)), .int (iI (σ151.1 40))]) (rest := []) dX12_expression_103 ok_X12_joins im_X12_joins se_X12_joins ml12_310 np_X12_joins rfl rfl (Nat.le_of_ble_eq_true rfl) (Nat.le_of_ble_eq_true rfl) rfl (c_X12_joins (d + 4 * lv + 8) (σ := σ151) (k := 4) (ak := σ5.1 39) (a := σ5.1 40) (bk := σ151.1 39) (c := σ151.1 40) f155 (by omega) (by decide) (by omega) (by have z := gt; unfold GT at z; omega) (by omega) (by omega) (by omega)) (fun r163 σ164 hp => ?_)
              obtain ⟨rfl, f166, f167, f168, f169, f170⟩ := hp
              show Tm _ _ 106 b σ164 [(1, .int (iI v152)), (4, .int (iI (σ5.1 40))), (3, .int (iI (σ5.1 39))), (2, .int (iI 4)), (0, .ref b)] [] _
              have tr19 := tr18.join f166 ⟨f168.1, f168.2.1⟩ f169 f170 (by decide) hrd
              have gtf : GT σ164 := by unfold GT; rw [f168.2.2.1, f168.2.2.2, f168.1]; exact ⟨Or.inr rfl, fun _ => by omega⟩
              have e28f : σ164.1 28 = σ.1 28 + 1 := by rw [f166.1 28 (by decide)]; exact e28c
              refine tm_aload_n dX12_expression_106 rfl 4 rfl ?_
              refine tm_dup dX12_expression_107 rfl ?_
              refine tm_getS (k := 28) (t := σ151.1 28) dX12_expression_108 (by decide) fl12_304 rfl (rs_F f166 (by decide) (rfl)) ?_
              have g171 := RG.s f155 28
              refine tm_iconst dX12_expression_111 ?_
              refine tm_isub dX12_expression_112 ?_
              refine tm_putS (k := 28) (v := (σ151.1 28) - 1) lay_12 dX12_expression_113 (by decide) fl12_304 rfl (tyX12_ok 28 (by decide)) rfl rfl rfl ?_
              have tr20 := tr19.chg (show Fr [28] [] [] σ164 (sS 28 ((σ151.1 28) - 1) σ164) from (Fr.rfl.S (by decide))) (fun q => g7 ⟨rfl, rfl, rfl⟩)
              refine tm_iload_n dX12_expression_116 rfl 0 rfl ?_
              exact tm_zret (v := v152) rfl (by omega) dX12_expression_117 (⟨_, rfl, by omega, ((((((Fr.rfl.S (by decide)).trans (Fr.sub f8 (by decide) (by decide) (by decide))).trans (Fr.sub f146 (by decide) (by decide) (by decide))).trans (Fr.sub f154 (by decide) (by decide) (by decide))).trans (Fr.sub f166 (by decide) (by decide) (by decide))).S (by decide)), (f167.S (by omega)), tr20.1, fun _ => tr20.exs (by decide) (gtf.fr (show Fr [28] [] [] σ164 (sS 28 ((σ151.1 28) - 1) σ164) from (Fr.rfl.S (by decide))) (by decide)) (by show σ164.1 28 - 1 = σ.1 28; omega), by rw [show v152 = 1 by omega]; exact tr20.prs⟩)
  · refine tm_aload_n dX12_expression_9 rfl 0 rfl ?_
    refine tm_callV (M' := m_X12_wrong) (As := []) (rest := []) dX12_expression_10 ok_X12_wrong im_X12_wrong se_X12_wrong ml12_261 np_X12_wrong rfl rfl (Nat.le_of_ble_eq_true rfl) (Nat.le_of_ble_eq_true rfl) rfl (c_X12_wrong (d + 4 * lv + 10) (σ := σ)  hR) (fun r172 σ173 hp => ?_)
    obtain ⟨v174, rfl, f175, f176, f177, f178, f179, f180⟩ := hp
    show Tm _ _ 13 b σ173 [(0, .ref b)] [.int (iI v174)] _
    exact tm_zret (v := v174) rfl (by omega) dX12_expression_13 (⟨_, rfl, by omega, (Fr.rfl.trans (Fr.sub f176 (by decide) (by decide) (by decide))), f177, (tr0.fail (PBF.of tr0.nn f176 (by decide) (by decide) (by decide) (fun _ => f178)) (fun q => g2f (by omega))).1, fun q => absurd q (by omega), by rw [show v174 = 0 from f175]; exact PRS.no (tr0.fail (PBF.of tr0.nn f176 (by decide) (by decide) (by decide) (fun _ => f178)) (fun q => g2f (by omega))).2⟩)
set_option maxHeartbeats 4000000 in
set_option maxRecDepth 20000 in
theorem c0_X12_expression (d : Nat) {b : Nat} {σ : MS} (hR : RG σ) (hrd : RDY σ) (hnn : NN σ) (h28 : σ.1 28 = 8) : Tm (d + 8) m_X12_expression 0 b σ [(0, .ref b)] [] (fun ro σ2 => ∃ v : Int, ro = some (.int (iI v)) ∧ ((v = 0 ∨ v = 1)) ∧ (Fr [19, 20, 22, 23, 26, 27, 28, 32, 34, 39, 40] [3, 4, 5, 6, 7, 8, 35] [24, 38] σ σ2) ∧ (RG σ2) ∧ (PBF σ σ2) ∧ (v = 1 → EXS σ σ2) ∧ (PRS 2 v σ σ2)) := by
  have tr0 : TR 2 0 σ [2] σ := TR.start hrd hnn
  refine tm_aload_n dX12_expression_0 rfl 0 rfl ?_
  refine tm_getS (k := 28) (t := σ.1 28) dX12_expression_1 (by decide) fl12_304 rfl (rfl) ?_
  have g1 := RG.s hR 28
  refine tm_bipush dX12_expression_4 (by decide) ?_
  refine tm_icmp_ne (tgt := 14) dX12_expression_6 (by decide) ⟨by omega, by omega⟩ ⟨by decide, by decide⟩ (fun h2 => ?_) (fun h2 => ?_)
  · exfalso; omega
  · refine tm_aload_n dX12_expression_9 rfl 0 rfl ?_
    refine tm_callV (M' := m_X12_wrong) (As := []) (rest := []) dX12_expression_10 ok_X12_wrong im_X12_wrong se_X12_wrong ml12_261 np_X12_wrong rfl rfl (Nat.le_of_ble_eq_true rfl) (Nat.le_of_ble_eq_true rfl) rfl (c_X12_wrong (d + 6) (σ := σ)  hR) (fun r3 σ4 hp => ?_)
    obtain ⟨v5, rfl, f6, f7, f8, f9, f10, f11⟩ := hp
    show Tm _ _ 13 b σ4 [(0, .ref b)] [.int (iI v5)] _
    exact tm_zret (v := v5) rfl (by omega) dX12_expression_13 (⟨_, rfl, by omega, (Fr.rfl.trans (Fr.sub f7 (by decide) (by decide) (by decide))), f8, (tr0.fail (PBF.of tr0.nn f7 (by decide) (by decide) (by decide) (fun _ => f9)) (fun q => g2f (by omega))).1, fun q => absurd q (by omega), by rw [show v5 = 0 from f6]; exact PRS.no (tr0.fail (PBF.of tr0.nn f7 (by decide) (by decide) (by decide) (fun _ => f9)) (fun q => g2f (by omega))).2⟩)
theorem c_exp : ∀ (lv : Nat), ∀ (d : Nat) {b : Nat} {σ : MS} (hR : RG σ) (hrd : RDY σ) (hnn : NN σ) (h28 : σ.1 28 = 8 - (lv : Int)), Tm (d + 4 * lv + 8) m_X12_expression 0 b σ [(0, .ref b)] [] (fun ro σ2 => ∃ v : Int, ro = some (.int (iI v)) ∧ ((v = 0 ∨ v = 1)) ∧ (Fr [19, 20, 22, 23, 26, 27, 28, 32, 34, 39, 40] [3, 4, 5, 6, 7, 8, 35] [24, 38] σ σ2) ∧ (RG σ2) ∧ (PBF σ σ2) ∧ (v = 1 → EXS σ σ2) ∧ (PRS 2 v σ σ2)) := by
  intro lv
  induction lv with
  | zero =>
    intro d b σ hR hrd hnn h28
    exact c0_X12_expression d hR hrd hnn (by omega)
  | succ lv ih =>
    intro d b σ hR hrd hnn h28
    rw [show d + 4 * (lv + 1) + 8 = d + 4 * lv + 12 by omega]
    exact cs_X12_expression d (lv := lv) ih hR hrd hnn (by omega)
theorem c_exp8 (d : Nat) {b : Nat} {σ : MS} (hR : RG σ) (hrd : RDY σ) (hnn : NN σ) (h28 : σ.1 28 = 0) : Tm (d + 40) m_X12_expression 0 b σ [(0, .ref b)] [] (fun ro σ2 => ∃ v : Int, ro = some (.int (iI v)) ∧ ((v = 0 ∨ v = 1)) ∧ (Fr [19, 20, 22, 23, 26, 27, 28, 32, 34, 39, 40] [3, 4, 5, 6, 7, 8, 35] [24, 38] σ σ2) ∧ (RG σ2) ∧ (PBF σ σ2) ∧ (v = 1 → EXS σ σ2) ∧ (PRS 2 v σ σ2)) := c_exp 8 d hR hrd hnn (by omega)

