theorem fl12_304 : Cond.fieldLink RX12 304 (TX12 28).1 (TX12 28).2.1 (TX12 28).2.2.1 ∈ pWW := pw7 (List.mem_of_getElem? (i := 35) rfl) rfl
theorem ml12_307 : Cond.methodLink RX12 307 yX12_sum ∈ pWW := pw8 (List.mem_of_getElem? (i := 221) rfl) rfl
theorem dX12_expression_0 : decode cX12_expression 0 = .ok (.aload_n 0, 1) := by decide +kernel
theorem dX12_expression_1 : decode cX12_expression 1 = .ok (.getfield 304, 3) := by decide +kernel
theorem dX12_expression_4 : decode cX12_expression 4 = .ok (.bipush 8, 2) := by decide +kernel
theorem dX12_expression_6 : decode cX12_expression 6 = .ok (.if_icmp .ne 8, 3) := by decide +kernel
theorem dX12_expression_14 : decode cX12_expression 14 = .ok (.aload_n 0, 1) := by decide +kernel
theorem dX12_expression_15 : decode cX12_expression 15 = .ok (.dup, 1) := by decide +kernel
theorem dX12_expression_16 : decode cX12_expression 16 = .ok (.getfield 304, 3) := by decide +kernel
theorem dX12_expression_19 : decode cX12_expression 19 = .ok (.iconst 1, 1) := by decide +kernel
theorem dX12_expression_20 : decode cX12_expression 20 = .ok (.iadd, 1) := by decide +kernel
theorem dX12_expression_21 : decode cX12_expression 21 = .ok (.putfield 304, 3) := by decide +kernel
theorem dX12_expression_24 : decode cX12_expression 24 = .ok (.aload_n 0, 1) := by decide +kernel
theorem dX12_expression_25 : decode cX12_expression 25 = .ok (.invokevirtual 307, 3) := by decide +kernel
theorem dX12_expression_28 : decode cX12_expression 28 = .ok (.istore_n 1, 1) := by decide +kernel
theorem dX12_expression_29 : decode cX12_expression 29 = .ok (.iload_n 1, 1) := by decide +kernel
theorem dX12_expression_30 : decode cX12_expression 30 = .ok (.ifCond .eq 76, 3) := by decide +kernel
theorem dX12_expression_106 : decode cX12_expression 106 = .ok (.aload_n 0, 1) := by decide +kernel
theorem dX12_expression_107 : decode cX12_expression 107 = .ok (.dup, 1) := by decide +kernel
theorem dX12_expression_108 : decode cX12_expression 108 = .ok (.getfield 304, 3) := by decide +kernel
theorem dX12_expression_111 : decode cX12_expression 111 = .ok (.iconst 1, 1) := by decide +kernel
theorem dX12_expression_112 : decode cX12_expression 112 = .ok (.isub, 1) := by decide +kernel
theorem dX12_expression_113 : decode cX12_expression 113 = .ok (.putfield 304, 3) := by decide +kernel
theorem dX12_expression_116 : decode cX12_expression 116 = .ok (.iload_n 1, 1) := by decide +kernel
theorem dX12_expression_117 : decode cX12_expression 117 = .ok (.ireturn, 1) := by decide +kernel
theorem dX12_expression_33 : decode cX12_expression 33 = .ok (.aload_n 0, 1) := by decide +kernel
theorem dX12_expression_34 : decode cX12_expression 34 = .ok (.bipush 61, 2) := by decide +kernel
theorem dX12_expression_36 : decode cX12_expression 36 = .ok (.invokevirtual 258, 3) := by decide +kernel
theorem dX12_expression_39 : decode cX12_expression 39 = .ok (.ifCond .ne 12, 3) := by decide +kernel
theorem dX12_expression_51 : decode cX12_expression 51 = .ok (.aload_n 0, 1) := by decide +kernel
theorem dX12_expression_52 : decode cX12_expression 52 = .ok (.bipush 61, 2) := by decide +kernel
theorem dX12_expression_54 : decode cX12_expression 54 = .ok (.invokevirtual 258, 3) := by decide +kernel
theorem dX12_expression_57 : decode cX12_expression 57 = .ok (.ifCond .eq 7, 3) := by decide +kernel
theorem dX12_expression_64 : decode cX12_expression 64 = .ok (.iconst 5, 1) := by decide +kernel
theorem dX12_expression_65 : decode cX12_expression 65 = .ok (.istore_n 2, 1) := by decide +kernel
theorem dX12_expression_66 : decode cX12_expression 66 = .ok (.aload_n 0, 1) := by decide +kernel
theorem dX12_expression_67 : decode cX12_expression 67 = .ok (.getfield 285, 3) := by decide +kernel
theorem dX12_expression_70 : decode cX12_expression 70 = .ok (.istore_n 3, 1) := by decide +kernel
theorem dX12_expression_71 : decode cX12_expression 71 = .ok (.aload_n 0, 1) := by decide +kernel
theorem dX12_expression_72 : decode cX12_expression 72 = .ok (.getfield 288, 3) := by decide +kernel
theorem dX12_expression_75 : decode cX12_expression 75 = .ok (.istore 4, 2) := by decide +kernel
theorem dX12_expression_77 : decode cX12_expression 77 = .ok (.aload_n 0, 1) := by decide +kernel
theorem dX12_expression_78 : decode cX12_expression 78 = .ok (.invokevirtual 265, 3) := by decide +kernel
theorem dX12_expression_81 : decode cX12_expression 81 = .ok (.aload_n 0, 1) := by decide +kernel
theorem dX12_expression_82 : decode cX12_expression 82 = .ok (.invokevirtual 307, 3) := by decide +kernel
theorem dX12_expression_85 : decode cX12_expression 85 = .ok (.istore_n 1, 1) := by decide +kernel
theorem dX12_expression_86 : decode cX12_expression 86 = .ok (.iload_n 1, 1) := by decide +kernel
theorem dX12_expression_87 : decode cX12_expression 87 = .ok (.ifCond .eq 19, 3) := by decide +kernel
theorem dX12_expression_90 : decode cX12_expression 90 = .ok (.aload_n 0, 1) := by decide +kernel
theorem dX12_expression_91 : decode cX12_expression 91 = .ok (.iload_n 2, 1) := by decide +kernel
theorem dX12_expression_92 : decode cX12_expression 92 = .ok (.iload_n 3, 1) := by decide +kernel
theorem dX12_expression_93 : decode cX12_expression 93 = .ok (.iload 4, 2) := by decide +kernel
theorem dX12_expression_95 : decode cX12_expression 95 = .ok (.aload_n 0, 1) := by decide +kernel
theorem dX12_expression_96 : decode cX12_expression 96 = .ok (.getfield 285, 3) := by decide +kernel
theorem dX12_expression_99 : decode cX12_expression 99 = .ok (.aload_n 0, 1) := by decide +kernel
theorem dX12_expression_100 : decode cX12_expression 100 = .ok (.getfield 288, 3) := by decide +kernel
theorem dX12_expression_103 : decode cX12_expression 103 = .ok (.invokevirtual 310, 3) := by decide +kernel
theorem dX12_expression_60 : decode cX12_expression 60 = .ok (.iconst 4, 1) := by decide +kernel
theorem dX12_expression_61 : decode cX12_expression 61 = .ok (.goto 4, 3) := by decide +kernel
theorem dX12_expression_42 : decode cX12_expression 42 = .ok (.aload_n 0, 1) := by decide +kernel
theorem dX12_expression_43 : decode cX12_expression 43 = .ok (.bipush 60, 2) := by decide +kernel
theorem dX12_expression_45 : decode cX12_expression 45 = .ok (.invokevirtual 258, 3) := by decide +kernel
theorem dX12_expression_48 : decode cX12_expression 48 = .ok (.ifCond .eq 58, 3) := by decide +kernel
theorem dX12_expression_9 : decode cX12_expression 9 = .ok (.aload_n 0, 1) := by decide +kernel
theorem dX12_expression_10 : decode cX12_expression 10 = .ok (.invokevirtual 261, 3) := by decide +kernel
theorem dX12_expression_13 : decode cX12_expression 13 = .ok (.ireturn, 1) := by decide +kernel
set_option maxHeartbeats 4000000 in
set_option maxRecDepth 20000 in
theorem cs_X12_expression (d : Nat) {b : Nat} {σ : MS} {lv : Nat} (hce : ∀ (d : Nat) {b : Nat} {σ : MS} (hR : RG σ) (hrd : RDY σ) (hnn : NN σ) (h28 : σ.1 28 = 8 - (lv : Int)), Tm (d + 4 * lv + 8) m_X12_expression 0 b σ [(0, .ref b)] [] (fun ro σ2 => ∃ v : Int, ro = some (.int (iI v)) ∧ ((v = 0 ∨ v = 1)) ∧ (Fr [19, 20, 22, 23, 26, 27, 28, 32, 34, 39, 40] [3, 4, 5, 6, 7, 8, 35] [24, 38] σ σ2) ∧ (RG σ2) ∧ (PBF σ σ2) ∧ (v = 1 → EXS σ σ2) ∧ (PRS 2 v σ σ2))) (hR : RG σ) (hrd : RDY σ) (hnn : NN σ) (h28 : σ.1 28 = 7 - (lv : Int)) : Tm (d + 4 * lv + 4 * lv + 12) m_X12_expression 0 b σ [(0, .ref b)] [] (fun ro σ2 => ∃ v : Int, ro = some (.int (iI v)) ∧ ((v = 0 ∨ v = 1)) ∧ (Fr [19, 20, 22, 23, 26, 27, 28, 32, 34, 39, 40] [3, 4, 5, 6, 7, 8, 35] [24, 38] σ σ2) ∧ (RG σ2) ∧ (PBF σ σ2) ∧ (v = 1 → EXS σ σ2) ∧ (PRS 2 v σ σ2)) := by
  have rd0 := hrd
  unfold RDY at rd0
  have tr0 : TR 2 0 σ [2] σ := TR.start hrd hnn
  refine tm_aload_n dX12_expression_0 rfl 0 rfl ?_
  refine tm_getS (k := 28) (t := σ.1 28) dX12_expression_1 (by decide) fl12_304 rfl (rfl) ?_
  have g1 := RG.s hR 28
  refine tm_bipush dX12_expression_4 (by decide) ?_
  refine tm_icmp_ne (tgt := 14) dX12_expression_6 (by decide) ⟨by omega, by omega⟩ ⟨by decide, by decide⟩ (fun h2 => ?_) (fun h2 => ?_)
  · refine tm_aload_n dX12_expression_14 rfl 0 rfl ?_
    refine tm_dup dX12_expression_15 rfl ?_
    refine tm_getS (k := 28) (t := σ.1 28) dX12_expression_16 (by decide) fl12_304 rfl (rfl) ?_
    have g3 := RG.s hR 28
    refine tm_iconst dX12_expression_19 ?_
    refine tm_iadd dX12_expression_20 ?_
    refine tm_putS (k := 28) (v := (σ.1 28) + 1) lay_12 dX12_expression_21 (by decide) fl12_304 rfl (tyX12_ok 28 (by decide)) rfl rfl rfl ?_
    have tr1 := tr0.chg (show Fr [28] [] [] σ (sS 28 ((σ.1 28) + 1) σ) from (Fr.rfl.S (by decide))) (fun q => g2 (by omega) ⟨rfl, rfl, rfl⟩)
    refine tm_aload_n dX12_expression_24 rfl 0 rfl ?_
    refine tm_callV (M' := m_X12_sum) (As := []) (rest := []) dX12_expression_25 ok_X12_sum im_X12_sum se_X12_sum ml12_307 np_X12_sum rfl rfl (Nat.le_of_ble_eq_true rfl) (Nat.le_of_ble_eq_true rfl) rfl (c_X12_sum (d) (σ := (sS 28 ((σ.1 28) + 1) σ))  hce (hR.S (by omega)) tr1.2.2.1 tr1.nn (by show σ.1 28 + 1 = _; omega)) (fun r4 σ5 hp => ?_)
    obtain ⟨v6, rfl, f7, f8, f9, f10, f11, f12⟩ := hp
    show Tm _ _ 28 b σ5 [(0, .ref b)] [.int (iI v6)] _
    have xp0 := f7
    have xp1 := f8
    have xp2 := f9
    have xp3 := f10
    have xp4 := f11
    have xp5 := f12
    refine tm_istore_n (L' := [(1, .int (iI v6)), (0, .ref b)]) dX12_expression_28 rfl (by decide) rfl ?_
    refine tm_iload_n dX12_expression_29 rfl 0 rfl ?_
    refine tm_if_eq (tgt := 106) dX12_expression_30 (by decide) ⟨by omega, by omega⟩ (fun h13 => ?_) (fun h13 => ?_)
    · refine tm_aload_n dX12_expression_106 rfl 1 rfl ?_
      refine tm_dup dX12_expression_107 rfl ?_
      refine tm_getS (k := 28) (t := σ5.1 28) dX12_expression_108 (by decide) fl12_304 rfl (rfl) ?_
      have g14 := RG.s f9 28
      refine tm_iconst dX12_expression_111 ?_
      refine tm_isub dX12_expression_112 ?_
      refine tm_putS (k := 28) (v := (σ5.1 28) - 1) lay_12 dX12_expression_113 (by decide) fl12_304 rfl (tyX12_ok 28 (by decide)) rfl rfl rfl ?_
      refine tm_iload_n dX12_expression_116 rfl 0 rfl ?_
      exact tm_zret (v := v6) rfl (by omega) dX12_expression_117 (⟨_, rfl, by omega, (((Fr.rfl.S (by decide)).trans (Fr.sub f8 (by decide) (by decide) (by decide))).S (by decide)), (f9.S (by omega)), (tr1.fail xp3 (xp5.2 (by omega))).1.trans (PBF.nop (tr1.fail xp3 (xp5.2 (by omega))).1.2.2.1 (show Fr [28] [] [] σ5 (sS 28 ((σ5.1 28) - 1) σ5) from (Fr.rfl.S (by decide))) (by decide) (by decide) (by decide)), fun q => absurd q (by omega), by rw [show v6 = 0 by omega]; exact PRS.no (tr1.fail xp3 (xp5.2 (by omega))).2⟩)
    · have tr2 := tr1.sub xp3 (xp4 (by omega)) (xp5.1 (by omega))
      have gta := (xp4 (by omega)).2.2.1
      have e28a : σ5.1 28 = σ.1 28 + 1 := (xp4 (by omega)).2.2.2.2
      have rda := tr2.2.2.1
      unfold RDY at rda
      refine tm_aload_n dX12_expression_33 rfl 1 rfl ?_
      refine tm_bipush dX12_expression_34 (by decide) ?_
      refine tm_callV (M' := m_X12_isSign) (As := [.int (iI 61)]) (rest := []) dX12_expression_36 ok_X12_isSign im_X12_isSign se_X12_isSign ml12_258 np_X12_isSign rfl rfl (Nat.le_of_ble_eq_true rfl) (Nat.le_of_ble_eq_true rfl) rfl (c_X12_isSign (d + 4 * lv + 10) (σ := σ5) (c := 61) f9 (by omega)) (fun r15 σ16 hp => ?_)
      obtain ⟨v17, rfl, rfl, f18, f19⟩ := hp
      show Tm _ _ 39 b σ5 [(1, .int (iI v6)), (0, .ref b)] [.int (iI v17)] _
      have i61 := f19
      refine tm_if_ne (tgt := 51) dX12_expression_39 (by decide) ⟨by omega, by omega⟩ (fun h20 => ?_) (fun h20 => ?_)
      · refine tm_aload_n dX12_expression_51 rfl 1 rfl ?_
        refine tm_bipush dX12_expression_52 (by decide) ?_
        refine tm_callV (M' := m_X12_isSign) (As := [.int (iI 61)]) (rest := []) dX12_expression_54 ok_X12_isSign im_X12_isSign se_X12_isSign ml12_258 np_X12_isSign rfl rfl (Nat.le_of_ble_eq_true rfl) (Nat.le_of_ble_eq_true rfl) rfl (c_X12_isSign (d + 4 * lv + 10) (σ := σ5) (c := 61) f9 (by omega)) (fun r21 σ22 hp => ?_)
        obtain ⟨v23, rfl, rfl, f24, f25⟩ := hp
        show Tm _ _ 57 b σ5 [(1, .int (iI v6)), (0, .ref b)] [.int (iI v23)] _
        refine tm_if_eq (tgt := 64) dX12_expression_57 (by decide) ⟨by omega, by omega⟩ (fun h26 => ?_) (fun h26 => ?_)
        · refine tm_iconst dX12_expression_64 ?_
          refine tm_istore_n (L' := [(2, .int (iI 5)), (1, .int (iI v6)), (0, .ref b)]) dX12_expression_65 rfl (by decide) rfl ?_
          refine tm_aload_n dX12_expression_66 rfl 2 rfl ?_
          refine tm_getS (k := 39) (t := σ5.1 39) dX12_expression_67 (by decide) fl12_285 rfl (rfl) ?_
          have g27 := RG.s f9 39
          refine tm_istore_n (L' := [(3, .int (iI (σ5.1 39))), (2, .int (iI 5)), (1, .int (iI v6)), (0, .ref b)]) dX12_expression_70 rfl (by decide) rfl ?_
          refine tm_aload_n dX12_expression_71 rfl 3 rfl ?_
          refine tm_getS (k := 40) (t := σ5.1 40) dX12_expression_72 (by decide) fl12_288 rfl (rfl) ?_
          have g28 := RG.s f9 40
          refine tm_istore (L' := [(4, .int (iI (σ5.1 40))), (3, .int (iI (σ5.1 39))), (2, .int (iI 5)), (1, .int (iI v6)), (0, .ref b)]) dX12_expression_75 (by decide) rfl ?_
          refine tm_aload_n dX12_expression_77 rfl 4 rfl ?_
          refine tm_callV (M' := m_X12_advance) (As := []) (rest := []) dX12_expression_78 ok_X12_advance im_X12_advance se_X12_advance ml12_265 np_X12_advance rfl rfl (Nat.le_of_ble_eq_true rfl) (Nat.le_of_ble_eq_true rfl) rfl (c_X12_advance (d + 4 * lv + 6) (σ := σ5)  f9 (by have z := tr2.2.2.1.1; omega)) (fun r29 σ30 hp => ?_)
          obtain ⟨rfl, f32, f33, f34, f35, f36⟩ := hp
          show Tm _ _ 81 b σ30 [(4, .int (iI (σ5.1 40))), (3, .int (iI (σ5.1 39))), (2, .int (iI 5)), (1, .int (iI v6)), (0, .ref b)] [] _
          have tr3 := tr2.adv f33 f35 f36 (by omega) (fun q => g6y (by first | exact Or.inl (i61.mp (by omega)) | exact Or.inr (i60.mp (by omega))) f32)
          have e28b : σ30.1 28 = σ.1 28 + 1 := by rw [f33.1 28 (by decide)]; exact e28a
          have m34a := f33.1 34 (by decide)
          refine tm_aload_n dX12_expression_81 rfl 4 rfl ?_
          refine tm_callV (M' := m_X12_sum) (As := []) (rest := []) dX12_expression_82 ok_X12_sum im_X12_sum se_X12_sum ml12_307 np_X12_sum rfl rfl (Nat.le_of_ble_eq_true rfl) (Nat.le_of_ble_eq_true rfl) rfl (c_X12_sum (d) (σ := σ30)  hce f34 tr3.2.2.1 tr3.nn (by omega)) (fun r37 σ38 hp => ?_)
          obtain ⟨v39, rfl, f40, f41, f42, f43, f44, f45⟩ := hp
          show Tm _ _ 85 b σ38 [(4, .int (iI (σ5.1 40))), (3, .int (iI (σ5.1 39))), (2, .int (iI 5)), (1, .int (iI v6)), (0, .ref b)] [.int (iI v39)] _
          have yp0 := f40
          have yp1 := f41
          have yp2 := f42
          have yp3 := f43
          have yp4 := f44
          have yp5 := f45
          refine tm_istore_n (L' := [(1, .int (iI v39)), (4, .int (iI (σ5.1 40))), (3, .int (iI (σ5.1 39))), (2, .int (iI 5)), (0, .ref b)]) dX12_expression_85 rfl (by decide) rfl ?_
          refine tm_iload_n dX12_expression_86 rfl 0 rfl ?_
          refine tm_if_eq (tgt := 106) dX12_expression_87 (by decide) ⟨by omega, by omega⟩ (fun h46 => ?_) (fun h46 => ?_)
          · refine tm_aload_n dX12_expression_106 rfl 4 rfl ?_
            refine tm_dup dX12_expression_107 rfl ?_
            refine tm_getS (k := 28) (t := σ38.1 28) dX12_expression_108 (by decide) fl12_304 rfl (rfl) ?_
            have g47 := RG.s f42 28
            refine tm_iconst dX12_expression_111 ?_
            refine tm_isub dX12_expression_112 ?_
            refine tm_putS (k := 28) (v := (σ38.1 28) - 1) lay_12 dX12_expression_113 (by decide) fl12_304 rfl (tyX12_ok 28 (by decide)) rfl rfl rfl ?_
            refine tm_iload_n dX12_expression_116 rfl 0 rfl ?_
            exact tm_zret (v := v39) rfl (by omega) dX12_expression_117 (⟨_, rfl, by omega, (((((Fr.rfl.S (by decide)).trans (Fr.sub f8 (by decide) (by decide) (by decide))).trans (Fr.sub f33 (by decide) (by decide) (by decide))).trans (Fr.sub f41 (by decide) (by decide) (by decide))).S (by decide)), (f42.S (by omega)), (tr3.fail yp3 (yp5.2 (by omega))).1.trans (PBF.nop (tr3.fail yp3 (yp5.2 (by omega))).1.2.2.1 (show Fr [28] [] [] σ38 (sS 28 ((σ38.1 28) - 1) σ38) from (Fr.rfl.S (by decide))) (by decide) (by decide) (by decide)), fun q => absurd q (by omega), by rw [show v39 = 0 by omega]; exact PRS.no (tr3.fail yp3 (yp5.2 (by omega))).2⟩)
          · have tr4 := tr3.sub yp3 (yp4 (by omega)) (yp5.1 (by omega))
            have gt := (yp4 (by omega)).2.2.1
            have gtz := gta
            unfold GT at gtz
            have e28c : σ38.1 28 = σ.1 28 + 1 := by rw [(yp4 (by omega)).2.2.2.2]; exact e28b
            have m34b := yp3.2.2.2.2.2.1
            have rdj := tr4.2.2.1
            unfold RDY at rdj
            refine tm_aload_n dX12_expression_90 rfl 4 rfl ?_
            refine tm_iload_n dX12_expression_91 rfl 3 rfl ?_
            refine tm_iload_n dX12_expression_92 rfl 2 rfl ?_
            refine tm_iload dX12_expression_93 1 rfl ?_
            refine tm_aload_n dX12_expression_95 rfl 4 rfl ?_
            refine tm_getS (k := 39) (t := σ38.1 39) dX12_expression_96 (by decide) fl12_285 rfl (rfl) ?_
            have g48 := RG.s f42 39
            refine tm_aload_n dX12_expression_99 rfl 4 rfl ?_
            refine tm_getS (k := 40) (t := σ38.1 40) dX12_expression_100 (by decide) fl12_288 rfl (rfl) ?_
            have g49 := RG.s f42 40
            refine tm_callV (M' := m_X12_joins) (As := [.int (iI 5), .int (iI (σ5.1 39)), .int (iI (σ5.1 40)), .int (iI (σ38.1 39)), .int (iI (σ38.1 40))]) (rest := []) dX12_expression_103 ok_X12_joins im_X12_joins se_X12_joins ml12_310 np_X12_joins rfl rfl (Nat.le_of_ble_eq_true rfl) (Nat.le_of_ble_eq_true rfl) rfl (c_X12_joins (d + 4 * lv + 8) (σ := σ38) (k := 5) (ak := σ5.1 39) (a := σ5.1 40) (bk := σ38.1 39) (c := σ38.1 40) f42 (by omega) (by decide) (by omega) (by have z := gt; unfold GT at z; omega) (by omega) (by omega) (by omega)) (fun r50 σ51 hp => ?_)
            obtain ⟨rfl, f53, f54, f55, f56, f57⟩ := hp
            show Tm _ _ 106 b σ51 [(1, .int (iI v39)), (4, .int (iI (σ5.1 40))), (3, .int (iI (σ5.1 39))), (2, .int (iI 5)), (0, .ref b)] [] _
            have tr5 := tr4.join f53 ⟨f55.1, f55.2.1⟩ f56 f57 (by decide) hrd
            have gtf : GT σ51 := by unfold GT; rw [f55.2.2.1, f55.2.2.2, f55.1]; exact ⟨Or.inr rfl, fun _ => by omega⟩
            have e28f : σ51.1 28 = σ.1 28 + 1 := by rw [f53.1 28 (by decide)]; exact e28c
            refine tm_aload_n dX12_expression_106 rfl 4 rfl ?_
            refine tm_dup dX12_expression_107 rfl ?_
            refine tm_getS (k := 28) (t := σ38.1 28) dX12_expression_108 (by decide) fl12_304 rfl (rs_F f53 (by decide) (rfl)) ?_
            have g58 := RG.s f42 28
            refine tm_iconst dX12_expression_111 ?_
            refine tm_isub dX12_expression_112 ?_
            refine tm_putS (k := 28) (v := (σ38.1 28) - 1) lay_12 dX12_expression_113 (by decide) fl12_304 rfl (tyX12_ok 28 (by decide)) rfl rfl rfl ?_
            have tr6 := tr5.chg (show Fr [28] [] [] σ51 (sS 28 ((σ38.1 28) - 1) σ51) from (Fr.rfl.S (by decide))) (fun q => g7 ⟨rfl, rfl, rfl⟩)
            refine tm_iload_n dX12_expression_116 rfl 0 rfl ?_
            exact tm_zret (v := v39) rfl (by omega) dX12_expression_117 (⟨_, rfl, by omega, ((((((Fr.rfl.S (by decide)).trans (Fr.sub f8 (by decide) (by decide) (by decide))).trans (Fr.sub f33 (by decide) (by decide) (by decide))).trans (Fr.sub f41 (by decide) (by decide) (by decide))).trans (Fr.sub f53 (by decide) (by decide) (by decide))).S (by decide)), (f54.S (by omega)), tr6.1, fun _ => tr6.exs (by decide) (gtf.fr (show Fr [28] [] [] σ51 (sS 28 ((σ38.1 28) - 1) σ51) from (Fr.rfl.S (by decide))) (by decide)) (by show σ51.1 28 - 1 = σ.1 28; omega), by rw [show v39 = 1 by omega]; exact tr6.prs⟩)
        · refine tm_iconst dX12_expression_60 ?_
          refine tm_goto (tgt := 65) dX12_expression_61 (by decide) ?_
          refine tm_istore_n (L' := [(2, .int (iI 4)), (1, .int (iI v6)), (0, .ref b)]) dX12_expression_65 rfl (by decide) rfl ?_
          refine tm_aload_n dX12_expression_66 rfl 2 rfl ?_
          refine tm_getS (k := 39) (t := σ5.1 39) dX12_expression_67 (by decide) fl12_285 rfl (rfl) ?_
          have g59 := RG.s f9 39
          refine tm_istore_n (L' := [(3, .int (iI (σ5.1 39))), (2, .int (iI 4)), (1, .int (iI v6)), (0, .ref b)]) dX12_expression_70 rfl (by decide) rfl ?_
          refine tm_aload_n dX12_expression_71 rfl 3 rfl ?_
          refine tm_getS (k := 40) (t := σ5.1 40) dX12_expression_72 (by decide) fl12_288 rfl (rfl) ?_
          have g60 := RG.s f9 40
          refine tm_istore (L' := [(4, .int (iI (σ5.1 40))), (3, .int (iI (σ5.1 39))), (2, .int (iI 4)), (1, .int (iI v6)), (0, .ref b)]) dX12_expression_75 (by decide) rfl ?_
          refine tm_aload_n dX12_expression_77 rfl 4 rfl ?_
          refine tm_callV (M' := m_X12_advance) (As := []) (rest := []) dX12_expression_78 ok_X12_advance im_X12_advance se_X12_advance ml12_265 np_X12_advance rfl rfl (Nat.le_of_ble_eq_true rfl) (Nat.le_of_ble_eq_true rfl) rfl (c_X12_advance (d + 4 * lv + 6) (σ := σ5)  f9 (by have z := tr2.2.2.1.1; omega)) (fun r61 σ62 hp => ?_)
          obtain ⟨rfl, f64, f65, f66, f67, f68⟩ := hp
          show Tm _ _ 81 b σ62 [(4, .int (iI (σ5.1 40))), (3, .int (iI (σ5.1 39))), (2, .int (iI 4)), (1, .int (iI v6)), (0, .ref b)] [] _
          have tr7 := tr2.adv f65 f67 f68 (by omega) (fun q => g6y (by first | exact Or.inl (i61.mp (by omega)) | exact Or.inr (i60.mp (by omega))) f64)
          have e28b : σ62.1 28 = σ.1 28 + 1 := by rw [f65.1 28 (by decide)]; exact e28a
          have m34a := f65.1 34 (by decide)
          refine tm_aload_n dX12_expression_81 rfl 4 rfl ?_
          refine tm_callV (M' := m_X12_sum) (As := []) (rest := []) dX12_expression_82 ok_X12_sum im_X12_sum se_X12_sum ml12_307 np_X12_sum rfl rfl (Nat.le_of_ble_eq_true rfl) (Nat.le_of_ble_eq_true rfl) rfl (c_X12_sum (d) (σ := σ62)  hce f66 tr7.2.2.1 tr7.nn (by omega)) (fun r69 σ70 hp => ?_)
          obtain ⟨v71, rfl, f72, f73, f74, f75, f76, f77⟩ := hp
          show Tm _ _ 85 b σ70 [(4, .int (iI (σ5.1 40))), (3, .int (iI (σ5.1 39))), (2, .int (iI 4)), (1, .int (iI v6)), (0, .ref b)] [.int (iI v71)] _
          have yp0 := f72
          have yp1 := f73
          have yp2 := f74
          have yp3 := f75
          have yp4 := f76
          have yp5 := f77
          refine tm_istore_n (L' := [(1, .int (iI v71)), (4, .int (iI (σ5.1 40))), (3, .int (iI (σ5.1 39))), (2, .int (iI 4)), (0, .ref b)]) dX12_expression_85 rfl (by decide) rfl ?_
          refine tm_iload_n dX12_expression_86 rfl 0 rfl ?_
          refine tm_if_eq (tgt := 106) dX12_expression_87 (by decide) ⟨by omega, by omega⟩ (fun h78 => ?_) (fun h78 => ?_)
          · refine tm_aload_n dX12_expression_106 rfl 4 rfl ?_
            refine tm_dup dX12_expression_107 rfl ?_
            refine tm_getS (k := 28) (t := σ70.1 28) dX12_expression_108 (by decide) fl12_304 rfl (rfl) ?_
            have g79 := RG.s f74 28
            refine tm_iconst dX12_expression_111 ?_
            refine tm_isub dX12_expression_112 ?_
            refine tm_putS (k := 28) (v := (σ70.1 28) - 1) lay_12 dX12_expression_113 (by decide) fl12_304 rfl (tyX12_ok 28 (by decide)) rfl rfl rfl ?_
            refine tm_iload_n dX12_expression_116 rfl 0 rfl ?_
            exact tm_zret (v := v71) rfl (by omega) dX12_expression_117 (⟨_, rfl, by omega, (((((Fr.rfl.S (by decide)).trans (Fr.sub f8 (by decide) (by decide) (by decide))).trans (Fr.sub f65 (by decide) (by decide) (by decide))).trans (Fr.sub f73 (by decide) (by decide) (by decide))).S (by decide)), (f74.S (by omega)), (tr7.fail yp3 (yp5.2 (by omega))).1.trans (PBF.nop (tr7.fail yp3 (yp5.2 (by omega))).1.2.2.1 (show Fr [28] [] [] σ70 (sS 28 ((σ70.1 28) - 1) σ70) from (Fr.rfl.S (by decide))) (by decide) (by decide) (by decide)), fun q => absurd q (by omega), by rw [show v71 = 0 by omega]; exact PRS.no (tr7.fail yp3 (yp5.2 (by omega))).2⟩)
          · have tr8 := tr7.sub yp3 (yp4 (by omega)) (yp5.1 (by omega))
            have gt := (yp4 (by omega)).2.2.1
            have gtz := gta
            unfold GT at gtz
            have e28c : σ70.1 28 = σ.1 28 + 1 := by rw [(yp4 (by omega)).2.2.2.2]; exact e28b
            have m34b := yp3.2.2.2.2.2.1
            have rdj := tr8.2.2.1
            unfold RDY at rdj
            refine tm_aload_n dX12_expression_90 rfl 4 rfl ?_
            refine tm_iload_n dX12_expression_91 rfl 3 rfl ?_
            refine tm_iload_n dX12_expression_92 rfl 2 rfl ?_
            refine tm_iload dX12_expression_93 1 rfl ?_
            refine tm_aload_n dX12_expression_95 rfl 4 rfl ?_
            refine tm_getS (k := 39) (t := σ70.1 39) dX12_expression_96 (by decide) fl12_285 rfl (rfl) ?_
            have g80 := RG.s f74 39
            refine tm_aload_n dX12_expression_99 rfl 4 rfl ?_
            refine tm_getS (k := 40) (t := σ70.1 40) dX12_expression_100 (by decide) fl12_288 rfl (rfl) ?_
            have g81 := RG.s f74 40
            refine tm_callV (M' := m_X12_joins) (As := [.int (iI 4), .int (iI (σ5.1 39)), .int (iI (σ5.1 40)), .int (iI (σ70.1 39)), .int (iI (σ70.1 40))]) (rest := []) dX12_expression_103 ok_X12_joins im_X12_joins se_X12_joins ml12_310 np_X12_joins rfl rfl (Nat.le_of_ble_eq_true rfl) (Nat.le_of_ble_eq_true rfl) rfl (c_X12_joins (d + 4 * lv + 8) (σ := σ70) (k := 4) (ak := σ5.1 39) (a := σ5.1 40) (bk := σ70.1 39) (c := σ70.1 40) f74 (by omega) (by decide) (by omega) (by have z := gt; unfold GT at z; omega) (by omega) (by omega) (by omega)) (fun r82 σ83 hp => ?_)
            obtain ⟨rfl, f85, f86, f87, f88, f89⟩ := hp
            show Tm _ _ 106 b σ83 [(1, .int (iI v71)), (4, .int (iI (σ5.1 40))), (3, .int (iI (σ5.1 39))), (2, .int (iI 4)), (0, .ref b)] [] _
            have tr9 := tr8.join f85 ⟨f87.1, f87.2.1⟩ f88 f89 (by decide) hrd
            have gtf : GT σ83 := by unfold GT; rw [f87.2.2.1, f87.2.2.2, f87.1]; exact ⟨Or.inr rfl, fun _ => by omega⟩
            have e28f : σ83.1 28 = σ.1 28 + 1 := by rw [f85.1 28 (by decide)]; exact e28c
            refine tm_aload_n dX12_expression_106 rfl 4 rfl ?_
            refine tm_dup dX12_expression_107 rfl ?_
            refine tm_getS (k := 28) (t := σ70.1 28) dX12_expression_108 (by decide) fl12_304 rfl (rs_F f85 (by decide) (rfl)) ?_
            have g90 := RG.s f74 28
            refine tm_iconst dX12_expression_111 ?_
            refine tm_isub dX12_expression_112 ?_
            refine tm_putS (k := 28) (v := (σ70.1 28) - 1) lay_12 dX12_expression_113 (by decide) fl12_304 rfl (tyX12_ok 28 (by decide)) rfl rfl rfl ?_
            have tr10 := tr9.chg (show Fr [28] [] [] σ83 (sS 28 ((σ70.1 28) - 1) σ83) from (Fr.rfl.S (by decide))) (fun q => g7 ⟨rfl, rfl, rfl⟩)
            refine tm_iload_n dX12_expression_116 rfl 0 rfl ?_
            exact tm_zret (v := v71) rfl (by omega) dX12_expression_117 (⟨_, rfl, by omega, ((((((Fr.rfl.S (by decide)).trans (Fr.sub f8 (by decide) (by decide) (by decide))).trans (Fr.sub f65 (by decide) (by decide) (by decide))).trans (Fr.sub f73 (by decide) (by decide) (by decide))).trans (Fr.sub f85 (by decide) (by decide) (by decide))).S (by decide)), (f86.S (by omega)), tr10.1, fun _ => tr10.exs (by decide) (gtf.fr (show Fr [28] [] [] σ83 (sS 28 ((σ70.1 28) - 1) σ83) from (Fr.rfl.S (by decide))) (by decide)) (by show σ83.1 28 - 1 = σ.1 28; omega), by rw [show v71 = 1 by omega]; exact tr10.prs⟩)
      · refine tm_aload_n dX12_expression_42 rfl 1 rfl ?_
        refine tm_bipush dX12_expression_43 (by decide) ?_
        refine tm_callV (M' := m_X12_isSign) (As := [.int (iI 60)]) (rest := []) dX12_expression_45 ok_X12_isSign im_X12_isSign se_X12_isSign ml12_258 np_X12_isSign rfl rfl (Nat.le_of_ble_eq_true rfl) (Nat.le_of_ble_eq_true rfl) rfl (c_X12_isSign (d + 4 * lv + 10) (σ := σ5) (c := 60) f9 (by omega)) (fun r91 σ92 hp => ?_)
        obtain ⟨v93, rfl, rfl, f94, f95⟩ := hp
        show Tm _ _ 48 b σ5 [(1, .int (iI v6)), (0, .ref b)] [.int (iI v93)] _
        have i60 := f95
        refine tm_if_eq (tgt := 106) dX12_expression_48 (by decide) ⟨by omega, by omega⟩ (fun h96 => ?_) (fun h96 => ?_)
        · have tr11 := tr2.nxt (fun q => g6n (fun z => absurd (i61.mpr z) (by omega)) (fun z => absurd (i60.mpr z) (by omega)))
          have gtf := gta
          have e28f := e28a
          refine tm_aload_n dX12_expression_106 rfl 1 rfl ?_
          refine tm_dup dX12_expression_107 rfl ?_
          refine tm_getS (k := 28) (t := σ5.1 28) dX12_expression_108 (by decide) fl12_304 rfl (rfl) ?_
          have g97 := RG.s f9 28
          refine tm_iconst dX12_expression_111 ?_
          refine tm_isub dX12_expression_112 ?_
          refine tm_putS (k := 28) (v := (σ5.1 28) - 1) lay_12 dX12_expression_113 (by decide) fl12_304 rfl (tyX12_ok 28 (by decide)) rfl rfl rfl ?_
          have tr12 := tr11.chg (show Fr [28] [] [] σ5 (sS 28 ((σ5.1 28) - 1) σ5) from (Fr.rfl.S (by decide))) (fun q => g7 ⟨rfl, rfl, rfl⟩)
          refine tm_iload_n dX12_expression_116 rfl 0 rfl ?_
          exact tm_zret (v := v6) rfl (by omega) dX12_expression_117 (⟨_, rfl, by omega, (((Fr.rfl.S (by decide)).trans (Fr.sub f8 (by decide) (by decide) (by decide))).S (by decide)), (f9.S (by omega)), tr12.1, fun _ => tr12.exs (by decide) (gtf.fr (show Fr [28] [] [] σ5 (sS 28 ((σ5.1 28) - 1) σ5) from (Fr.rfl.S (by decide))) (by decide)) (by show σ5.1 28 - 1 = σ.1 28; omega), by rw [show v6 = 1 by omega]; exact tr12.prs⟩)
        · refine tm_aload_n dX12_expression_51 rfl 1 rfl ?_
          refine tm_bipush dX12_expression_52 (by decide) ?_
          refine tm_callV (M' := m_X12_isSign) (As := [.int (iI 61)]) (rest := []) dX12_expression_54 ok_X12_isSign im_X12_isSign se_X12_isSign ml12_258 np_X12_isSign rfl rfl (Nat.le_of_ble_eq_true rfl) (Nat.le_of_ble_eq_true rfl) rfl (c_X12_isSign (d + 4 * lv + 10) (σ := σ5) (c := 61) f9 (by omega)) (fun r98 σ99 hp => ?_)
          obtain ⟨v100, rfl, rfl, f101, f102⟩ := hp
          show Tm _ _ 57 b σ5 [(1, .int (iI v6)), (0, .ref b)] [.int (iI v100)] _
          refine tm_if_eq (tgt := 64) dX12_expression_57 (by decide) ⟨by omega, by omega⟩ (fun h103 => ?_) (fun h103 => ?_)
          · refine tm_iconst dX12_expression_64 ?_
            refine tm_istore_n (L' := [(2, .int (iI 5)), (1, .int (iI v6)), (0, .ref b)]) dX12_expression_65 rfl (by decide) rfl ?_
            refine tm_aload_n dX12_expression_66 rfl 2 rfl ?_
            refine tm_getS (k := 39) (t := σ5.1 39) dX12_expression_67 (by decide) fl12_285 rfl (rfl) ?_
            have g104 := RG.s f9 39
            refine tm_istore_n (L' := [(3, .int (iI (σ5.1 39))), (2, .int (iI 5)), (1, .int (iI v6)), (0, .ref b)]) dX12_expression_70 rfl (by decide) rfl ?_
            refine tm_aload_n dX12_expression_71 rfl 3 rfl ?_
            refine tm_getS (k := 40) (t := σ5.1 40) dX12_expression_72 (by decide) fl12_288 rfl (rfl) ?_
            have g105 := RG.s f9 40
            refine tm_istore (L' := [(4, .int (iI (σ5.1 40))), (3, .int (iI (σ5.1 39))), (2, .int (iI 5)), (1, .int (iI v6)), (0, .ref b)]) dX12_expression_75 (by decide) rfl ?_
            refine tm_aload_n dX12_expression_77 rfl 4 rfl ?_
            refine tm_callV (M' := m_X12_advance) (As := []) (rest := []) dX12_expression_78 ok_X12_advance im_X12_advance se_X12_advance ml12_265 np_X12_advance rfl rfl (Nat.le_of_ble_eq_true rfl) (Nat.le_of_ble_eq_true rfl) rfl (c_X12_advance (d + 4 * lv + 6) (σ := σ5)  f9 (by have z := tr2.2.2.1.1; omega)) (fun r106 σ107 hp => ?_)
            obtain ⟨rfl, f109, f110, f111, f112, f113⟩ := hp
            show Tm _ _ 81 b σ107 [(4, .int (iI (σ5.1 40))), (3, .int (iI (σ5.1 39))), (2, .int (iI 5)), (1, .int (iI v6)), (0, .ref b)] [] _
            have tr13 := tr2.adv f110 f112 f113 (by omega) (fun q => g6y (by first | exact Or.inl (i61.mp (by omega)) | exact Or.inr (i60.mp (by omega))) f109)
            have e28b : σ107.1 28 = σ.1 28 + 1 := by rw [f110.1 28 (by decide)]; exact e28a
            have m34a := f110.1 34 (by decide)
            refine tm_aload_n dX12_expression_81 rfl 4 rfl ?_
            refine tm_callV (M' := m_X12_sum) (As := []) (rest := []) dX12_expression_82 ok_X12_sum im_X12_sum se_X12_sum ml12_307 np_X12_sum rfl rfl (Nat.le_of_ble_eq_true rfl) (Nat.le_of_ble_eq_true rfl) rfl (c_X12_sum (d) (σ := σ107)  hce f111 tr13.2.2.1 tr13.nn (by omega)) (fun r114 σ115 hp => ?_)
            obtain ⟨v116, rfl, f117, f118, f119, f120, f121, f122⟩ := hp
            show Tm _ _ 85 b σ115 [(4, .int (iI (σ5.1 40))), (3, .int (iI (σ5.1 39))), (2, .int (iI 5)), (1, .int (iI v6)), (0, .ref b)] [.int (iI v116)] _
            have yp0 := f117
            have yp1 := f118
            have yp2 := f119
            have yp3 := f120
            have yp4 := f121
            have yp5 := f122
            refine tm_istore_n (L' := [(1, .int (iI v116)), (4, .int (iI (σ5.1 40))), (3, .int (iI (σ5.1 39))), (2, .int (iI 5)), (0, .ref b)]) dX12_expression_85 rfl (by decide) rfl ?_
            refine tm_iload_n dX12_expression_86 rfl 0 rfl ?_
            refine tm_if_eq (tgt := 106) dX12_expression_87 (by decide) ⟨by omega, by omega⟩ (fun h123 => ?_) (fun h123 => ?_)
            · refine tm_aload_n dX12_expression_106 rfl 4 rfl ?_
              refine tm_dup dX12_expression_107 rfl ?_
              refine tm_getS (k := 28) (t := σ115.1 28) dX12_expression_108 (by decide) fl12_304 rfl (rfl) ?_
              have g124 := RG.s f119 28
              refine tm_iconst dX12_expression_111 ?_
              refine tm_isub dX12_expression_112 ?_
              refine tm_putS (k := 28) (v := (σ115.1 28) - 1) lay_12 dX12_expression_113 (by decide) fl12_304 rfl (tyX12_ok 28 (by decide)) rfl rfl rfl ?_
              refine tm_iload_n dX12_expression_116 rfl 0 rfl ?_
              exact tm_zret (v := v116) rfl (by omega) dX12_expression_117 (⟨_, rfl, by omega, (((((Fr.rfl.S (by decide)).trans (Fr.sub f8 (by decide) (by decide) (by decide))).trans (Fr.sub f110 (by decide) (by decide) (by decide))).trans (Fr.sub f118 (by decide) (by decide) (by decide))).S (by decide)), (f119.S (by omega)), (tr13.fail yp3 (yp5.2 (by omega))).1.trans (PBF.nop (tr13.fail yp3 (yp5.2 (by omega))).1.2.2.1 (show Fr [28] [] [] σ115 (sS 28 ((σ115.1 28) - 1) σ115) from (Fr.rfl.S (by decide))) (by decide) (by decide) (by decide)), fun q => absurd q (by omega), by rw [show v116 = 0 by omega]; exact PRS.no (tr13.fail yp3 (yp5.2 (by omega))).2⟩)
            · have tr14 := tr13.sub yp3 (yp4 (by omega)) (yp5.1 (by omega))
              have gt := (yp4 (by omega)).2.2.1
              have gtz := gta
              unfold GT at gtz
              have e28c : σ115.1 28 = σ.1 28 + 1 := by rw [(yp4 (by omega)).2.2.2.2]; exact e28b
              have m34b := yp3.2.2.2.2.2.1
              have rdj := tr14.2.2.1
              unfold RDY at rdj
              refine tm_aload_n dX12_expression_90 rfl 4 rfl ?_
              refine tm_iload_n dX12_expression_91 rfl 3 rfl ?_
              refine tm_iload_n dX12_expression_92 rfl 2 rfl ?_
              refine tm_iload dX12_expression_93 1 rfl ?_
              refine tm_aload_n dX12_expression_95 rfl 4 rfl ?_
              refine tm_getS (k := 39) (t := σ115.1 39) dX12_expression_96 (by decide) fl12_285 rfl (rfl) ?_
              have g125 := RG.s f119 39
              refine tm_aload_n dX12_expression_99 rfl 4 rfl ?_
              refine tm_getS (k := 40) (t := σ115.1 40) dX12_expression_100 (by decide) fl12_288 rfl (rfl) ?_
              have g126 := RG.s f119 40
              refine tm_callV (M' := m_X12_joins) (As := [.int (iI 5), .int (iI (σ5.1 39)), .int (iI (σ5.1 40)), .int (iI (σ115.1 39)), .int (iI (σ115.1 40))]) (rest := []) dX12_expression_103 ok_X12_joins im_X12_joins se_X12_joins ml12_310 np_X12_joins rfl rfl (Nat.le_of_ble_eq_true rfl) (Nat.le_of_ble_eq_true rfl) rfl (c_X12_joins (d + 4 * lv + 8) (σ := σ115) (k := 5) (ak := σ5.1 39) (a := σ5.1 40) (bk := σ115.1 39) (c := σ115.1 40) f119 (by omega) (by decide) (by omega) (by have z := gt; unfold GT at z; omega) (by omega) (by omega) (by omega)) (fun r127 σ128 hp => ?_)
              obtain ⟨rfl, f130, f131, f132, f133, f134⟩ := hp
              show Tm _ _ 106 b σ128 [(1, .int (iI v116)), (4, .int (iI (σ5.1 40))), (3, .int (iI (σ5.1 39))), (2, .int (iI 5)), (0, .ref b)] [] _
              have tr15 := tr14.join f130 ⟨f132.1, f132.2.1⟩ f133 f134 (by decide) hrd
              have gtf : GT σ128 := by unfold GT; rw [f132.2.2.1, f132.2.2.2, f132.1]; exact ⟨Or.inr rfl, fun _ => by omega⟩
              have e28f : σ128.1 28 = σ.1 28 + 1 := by rw [f130.1 28 (by decide)]; exact e28c
              refine tm_aload_n dX12_expression_106 rfl 4 rfl ?_
              refine tm_dup dX12_expression_107 rfl ?_
              refine tm_getS (k := 28) (t := σ115.1 28) dX12_expression_108 (by decide) fl12_304 rfl (rs_F f130 (by decide) (rfl)) ?_
              have g135 := RG.s f119 28
              refine tm_iconst dX12_expression_111 ?_
              refine tm_isub dX12_expression_112 ?_
              refine tm_putS (k := 28) (v := (σ115.1 28) - 1) lay_12 dX12_expression_113 (by decide) fl12_304 rfl (tyX12_ok 28 (by decide)) rfl rfl rfl ?_
              have tr16 := tr15.chg (show Fr [28] [] [] σ128 (sS 28 ((σ115.1 28) - 1) σ128) from (Fr.rfl.S (by decide))) (fun q => g7 ⟨rfl, rfl, rfl⟩)
              refine tm_iload_n dX12_expression_116 rfl 0 rfl ?_
              exact tm_zret (v := v116) rfl (by omega) dX12_expression_117 (⟨_, rfl, by omega, ((((((Fr.rfl.S (by decide)).trans (Fr.sub f8 (by decide) (by decide) (by decide))).trans (Fr.sub f110 (by decide) (by decide) (by decide))).trans (Fr.sub f118 (by decide) (by decide) (by decide))).trans (Fr.sub f130 (by decide) (by decide) (by decide))).S (by decide)), (f131.S (by omega)), tr16.1, fun _ => tr16.exs (by decide) (gtf.fr (show Fr [28] [] [] σ128 (sS 28 ((σ115.1 28) - 1) σ128) from (Fr.rfl.S (by decide))) (by decide)) (by show σ128.1 28 - 1 = σ.1 28; omega), by rw [show v116 = 1 by omega]; exact tr16.prs⟩)
          · refine tm_iconst dX12_expression_60 ?_
            refine tm_goto (tgt := 65) dX12_expression_61 (by decide) ?_
            refine tm_istore_n (L' := [(2, .int (iI 4)), (1, .int (iI v6)), (0, .ref b)]) dX12_expression_65 rfl (by decide) rfl ?_
            refine tm_aload_n dX12_expression_66 rfl 2 rfl ?_
            refine tm_getS (k := 39) (t := σ5.1 39) dX12_expression_67 (by decide) fl12_285 rfl (rfl) ?_
            have g136 := RG.s f9 39
            refine tm_istore_n (L' := [(3, .int (iI (σ5.1 39))), (2, .int (iI 4)), (1, .int (iI v6)), (0, .ref b)]) dX12_expression_70 rfl (by decide) rfl ?_
            refine tm_aload_n dX12_expression_71 rfl 3 rfl ?_
            refine tm_getS (k := 40) (t := σ5.1 40) dX12_expression_72 (by decide) fl12_288 rfl (rfl) ?_
            have g137 := RG.s f9 40
            refine tm_istore (L' := [(4, .int (iI (σ5.1 40))), (3, .int (iI (σ5.1 39))), (2, .int (iI 4)), (1, .int (iI v6)), (0, .ref b)]) dX12_expression_75 (by decide) rfl ?_
            refine tm_aload_n dX12_expression_77 rfl 4 rfl ?_
            refine tm_callV (M' := m_X12_advance) (As := []) (rest := []) dX12_expression_78 ok_X12_advance im_X12_advance se_X12_advance ml12_265 np_X12_advance rfl rfl (Nat.le_of_ble_eq_true rfl) (Nat.le_of_ble_eq_true rfl) rfl (c_X12_advance (d + 4 * lv + 6) (σ := σ5)  f9 (by have z := tr2.2.2.1.1; omega)) (fun r138 σ139 hp => ?_)
            obtain ⟨rfl, f141, f142, f143, f144, f145⟩ := hp
            show Tm _ _ 81 b σ139 [(4, .int (iI (σ5.1 40))), (3, .int (iI (σ5.1 39))), (2, .int (iI 4)), (1, .int (iI v6)), (0, .ref b)] [] _
            have tr17 := tr2.adv f142 f144 f145 (by omega) (fun q => g6y (by first | exact Or.inl (i61.mp (by omega)) | exact Or.inr (i60.mp (by omega))) f141)
            have e28b : σ139.1 28 = σ.1 28 + 1 := by rw [f142.1 28 (by decide)]; exact e28a
            have m34a := f142.1 34 (by decide)
            refine tm_aload_n dX12_expression_81 rfl 4 rfl ?_
            refine tm_callV (M' := m_X12_sum) (As := []) (rest := []) dX12_expression_82 ok_X12_sum im_X12_sum se_X12_sum ml12_307 np_X12_sum rfl rfl (Nat.le_of_ble_eq_true rfl) (Nat.le_of_ble_eq_true rfl) rfl (c_X12_sum (d) (σ := σ139)  hce f143 tr17.2.2.1 tr17.nn (by omega)) (fun r146 σ147 hp => ?_)
            obtain ⟨v148, rfl, f149, f150, f151, f152, f153, f154⟩ := hp
            show Tm _ _ 85 b σ147 [(4, .int (iI (σ5.1 40))), (3, .int (iI (σ5.1 39))), (2, .int (iI 4)), (1, .int (iI v6)), (0, .ref b)] [.int (iI v148)] _
            have yp0 := f149
            have yp1 := f150
            have yp2 := f151
            have yp3 := f152
            have yp4 := f153
            have yp5 := f154
            refine tm_istore_n (L' := [(1, .int (iI v148)), (4, .int (iI (σ5.1 40))), (3, .int (iI (σ5.1 39))), (2, .int (iI 4)), (0, .ref b)]) dX12_expression_85 rfl (by decide) rfl ?_
            refine tm_iload_n dX12_expression_86 rfl 0 rfl ?_
            refine tm_if_eq (tgt := 106) dX12_expression_87 (by decide) ⟨by omega, by omega⟩ (fun h155 => ?_) (fun h155 => ?_)
            · refine tm_aload_n dX12_expression_106 rfl 4 rfl ?_
              refine tm_dup dX12_expression_107 rfl ?_
              refine tm_getS (k := 28) (t := σ147.1 28) dX12_expression_108 (by decide) fl12_304 rfl (rfl) ?_
              have g156 := RG.s f151 28
              refine tm_iconst dX12_expression_111 ?_
              refine tm_isub dX12_expression_112 ?_
              refine tm_putS (k := 28) (v := (σ147.1 28) - 1) lay_12 dX12_expression_113 (by decide) fl12_304 rfl (tyX12_ok 28 (by decide)) rfl rfl rfl ?_
              refine tm_iload_n dX12_expression_116 rfl 0 rfl ?_
              exact tm_zret (v := v148) rfl (by omega) dX12_expression_117 (⟨_, rfl, by omega, (((((Fr.rfl.S (by decide)).trans (Fr.sub f8 (by decide) (by decide) (by decide))).trans (Fr.sub f142 (by decide) (by decide) (by decide))).trans (Fr.sub f150 (by decide) (by decide) (by decide))).S (by decide)), (f151.S (by omega)), (tr17.fail yp3 (yp5.2 (by omega))).1.trans (PBF.nop (tr17.fail yp3 (yp5.2 (by omega))).1.2.2.1 (show Fr [28] [] [] σ147 (sS 28 ((σ147.1 28) - 1) σ147) from (Fr.rfl.S (by decide))) (by decide) (by decide) (by decide)), fun q => absurd q (by omega), by rw [show v148 = 0 by omega]; exact PRS.no (tr17.fail yp3 (yp5.2 (by omega))).2⟩)
            · have tr18 := tr17.sub yp3 (yp4 (by omega)) (yp5.1 (by omega))
              have gt := (yp4 (by omega)).2.2.1
              have gtz := gta
              unfold GT at gtz
              have e28c : σ147.1 28 = σ.1 28 + 1 := by rw [(yp4 (by omega)).2.2.2.2]; exact e28b
              have m34b := yp3.2.2.2.2.2.1
              have rdj := tr18.2.2.1
              unfold RDY at rdj
              refine tm_aload_n dX12_expression_90 rfl 4 rfl ?_
              refine tm_iload_n dX12_expression_91 rfl 3 rfl ?_
              refine tm_iload_n dX12_expression_92 rfl 2 rfl ?_
              refine tm_iload dX12_expression_93 1 rfl ?_
              refine tm_aload_n dX12_expression_95 rfl 4 rfl ?_
              refine tm_getS (k := 39) (t := σ147.1 39) dX12_expression_96 (by decide) fl12_285 rfl (rfl) ?_
              have g157 := RG.s f151 39
              refine tm_aload_n dX12_expression_99 rfl 4 rfl ?_
              refine tm_getS (k := 40) (t := σ147.1 40) dX12_expression_100 (by decide) fl12_288 rfl (rfl) ?_
              have g158 := RG.s f151 40
              refine tm_callV (M' := m_X12_joins) (As := [.int (iI 4), .int (iI (σ5.1 39)), .int (iI (σ5.1 40)), .int (iI (σ147.1 39)), .int (iI (σ147.1 40))]) (rest := []) dX12_expression_103 ok_X12_joins im_X12_joins se_X12_joins ml12_310 np_X12_joins rfl rfl (Nat.le_of_ble_eq_true rfl) (Nat.le_of_ble_eq_true rfl) rfl (c_X12_joins (d + 4 * lv + 8) (σ := σ147) (k := 4) (ak := σ5.1 39) (a := σ5.1 40) (bk := σ147.1 39) (c := σ147.1 40) f151 (by omega) (by decide) (by omega) (by have z := gt; unfold GT at z; omega) (by omega) (by omega) (by omega)) (fun r159 σ160 hp => ?_)
              obtain ⟨rfl, f162, f163, f164, f165, f166⟩ := hp
              show Tm _ _ 106 b σ160 [(1, .int (iI v148)), (4, .int (iI (σ5.1 40))), (3, .int (iI (σ5.1 39))), (2, .int (iI 4)), (0, .ref b)] [] _
              have tr19 := tr18.join f162 ⟨f164.1, f164.2.1⟩ f165 f166 (by decide) hrd
              have gtf : GT σ160 := by unfold GT; rw [f164.2.2.1, f164.2.2.2, f164.1]; exact ⟨Or.inr rfl, fun _ => by omega⟩
              have e28f : σ160.1 28 = σ.1 28 + 1 := by rw [f162.1 28 (by decide)]; exact e28c
              refine tm_aload_n dX12_expression_106 rfl 4 rfl ?_
              refine tm_dup dX12_expression_107 rfl ?_
              refine tm_getS (k := 28) (t := σ147.1 28) dX12_expression_108 (by decide) fl12_304 rfl (rs_F f162 (by decide) (rfl)) ?_
              have g167 := RG.s f151 28
              refine tm_iconst dX12_expression_111 ?_
              refine tm_isub dX12_expression_112 ?_
              refine tm_putS (k := 28) (v := (σ147.1 28) - 1) lay_12 dX12_expression_113 (by decide) fl12_304 rfl (tyX12_ok 28 (by decide)) rfl rfl rfl ?_
              have tr20 := tr19.chg (show Fr [28] [] [] σ160 (sS 28 ((σ147.1 28) - 1) σ160) from (Fr.rfl.S (by decide))) (fun q => g7 ⟨rfl, rfl, rfl⟩)
              refine tm_iload_n dX12_expression_116 rfl 0 rfl ?_
              exact tm_zret (v := v148) rfl (by omega) dX12_expression_117 (⟨_, rfl, by omega, ((((((Fr.rfl.S (by decide)).trans (Fr.sub f8 (by decide) (by decide) (by decide))).trans (Fr.sub f142 (by decide) (by decide) (by decide))).trans (Fr.sub f150 (by decide) (by decide) (by decide))).trans (Fr.sub f162 (by decide) (by decide) (by decide))).S (by decide)), (f163.S (by omega)), tr20.1, fun _ => tr20.exs (by decide) (gtf.fr (show Fr [28] [] [] σ160 (sS 28 ((σ147.1 28) - 1) σ160) from (Fr.rfl.S (by decide))) (by decide)) (by show σ160.1 28 - 1 = σ.1 28; omega), by rw [show v148 = 1 by omega]; exact tr20.prs⟩)
  · refine tm_aload_n dX12_expression_9 rfl 0 rfl ?_
    refine tm_callV (M' := m_X12_wrong) (As := []) (rest := []) dX12_expression_10 ok_X12_wrong im_X12_wrong se_X12_wrong ml12_261 np_X12_wrong rfl rfl (Nat.le_of_ble_eq_true rfl) (Nat.le_of_ble_eq_true rfl) rfl (c_X12_wrong (d + 4 * lv + 10) (σ := σ)  hR) (fun r168 σ169 hp => ?_)
    obtain ⟨v170, rfl, f171, f172, f173, f174, f175, f176⟩ := hp
    show Tm _ _ 13 b σ169 [(0, .ref b)] [.int (iI v170)] _
    exact tm_zret (v := v170) rfl (by omega) dX12_expression_13 (⟨_, rfl, by omega, (Fr.rfl.trans (Fr.sub f172 (by decide) (by decide) (by decide))), f173, (tr0.fail (PBF.of tr0.nn f172 (by decide) (by decide) (by decide) (fun _ => f174)) (fun q => g2f (by omega))).1, fun q => absurd q (by omega), by rw [show v170 = 0 from f171]; exact PRS.no (tr0.fail (PBF.of tr0.nn f172 (by decide) (by decide) (by decide) (fun _ => f174)) (fun q => g2f (by omega))).2⟩)
set_option maxHeartbeats 4000000 in
set_option maxRecDepth 20000 in
theorem c0_X12_expression (d : Nat) {b : Nat} {σ : MS} (hR : RG σ) (hrd : RDY σ) (hnn : NN σ) (h28 : σ.1 28 = 8) : Tm (d + 8) m_X12_expression 0 b σ [(0, .ref b)] [] (fun ro σ2 => ∃ v : Int, ro = some (.int (iI v)) ∧ ((v = 0 ∨ v = 1)) ∧ (Fr [19, 20, 22, 23, 26, 27, 28, 32, 34, 39, 40] [3, 4, 5, 6, 7, 8, 35] [24, 38] σ σ2) ∧ (RG σ2) ∧ (PBF σ σ2) ∧ (v = 1 → EXS σ σ2) ∧ (PRS 2 v σ σ2)) := by
  have tr0 : TR 2 0 σ [2] σ := TR.start hrd hnn
  refine tm_aload_n dX12_expression_0 rfl 0 rfl ?_
  refine tm_getS (k := 28) (t := σ.1 28) dX12_expression_1 (by decide) fl12_304 rfl (rfl) ?_
  have g1 := RG.s hR 28
  refine tm_bipush dX12_expression_4 (by decide) ?_
  refine tm_icmp_ne (tgt := 14) dX12_expression_6 (by decide) ⟨by omega, by omega⟩ ⟨by decide, by decide⟩ (fun h2 => ?_) (fun h2 => ?_)
  · exfalso; omega
  · refine tm_aload_n dX12_expression_9 rfl 0 rfl ?_
    refine tm_callV (M' := m_X12_wrong) (As := []) (rest := []) dX12_expression_10 ok_X12_wrong im_X12_wrong se_X12_wrong ml12_261 np_X12_wrong rfl rfl (Nat.le_of_ble_eq_true rfl) (Nat.le_of_ble_eq_true rfl) rfl (c_X12_wrong (d + 6) (σ := σ)  hR) (fun r3 σ4 hp => ?_)
    obtain ⟨v5, rfl, f6, f7, f8, f9, f10, f11⟩ := hp
    show Tm _ _ 13 b σ4 [(0, .ref b)] [.int (iI v5)] _
    exact tm_zret (v := v5) rfl (by omega) dX12_expression_13 (⟨_, rfl, by omega, (Fr.rfl.trans (Fr.sub f7 (by decide) (by decide) (by decide))), f8, (tr0.fail (PBF.of tr0.nn f7 (by decide) (by decide) (by decide) (fun _ => f9)) (fun q => g2f (by omega))).1, fun q => absurd q (by omega), by rw [show v5 = 0 from f6]; exact PRS.no (tr0.fail (PBF.of tr0.nn f7 (by decide) (by decide) (by decide) (fun _ => f9)) (fun q => g2f (by omega))).2⟩)
theorem c_exp : ∀ (lv : Nat), ∀ (d : Nat) {b : Nat} {σ : MS} (hR : RG σ) (hrd : RDY σ) (hnn : NN σ) (h28 : σ.1 28 = 8 - (lv : Int)), Tm (d + 4 * lv + 8) m_X12_expression 0 b σ [(0, .ref b)] [] (fun ro σ2 => ∃ v : Int, ro = some (.int (iI v)) ∧ ((v = 0 ∨ v = 1)) ∧ (Fr [19, 20, 22, 23, 26, 27, 28, 32, 34, 39, 40] [3, 4, 5, 6, 7, 8, 35] [24, 38] σ σ2) ∧ (RG σ2) ∧ (PBF σ σ2) ∧ (v = 1 → EXS σ σ2) ∧ (PRS 2 v σ σ2)) := by
  intro lv
  induction lv with
  | zero =>
    intro d b σ hR hrd hnn h28
    exact c0_X12_expression d hR hrd hnn (by omega)
  | succ lv ih =>
    intro d b σ hR hrd hnn h28
    rw [show d + 4 * (lv + 1) + 8 = d + 4 * lv + 12 by omega]
    exact cs_X12_expression d (lv := lv) ih hR hrd hnn (by omega)
theorem c_exp8 (d : Nat) {b : Nat} {σ : MS} (hR : RG σ) (hrd : RDY σ) (hnn : NN σ) (h28 : σ.1 28 = 0) : Tm (d + 40) m_X12_expression 0 b σ [(0, .ref b)] [] (fun ro σ2 => ∃ v : Int, ro = some (.int (iI v)) ∧ ((v = 0 ∨ v = 1)) ∧ (Fr [19, 20, 22, 23, 26, 27, 28, 32, 34, 39, 40] [3, 4, 5, 6, 7, 8, 35] [24, 38] σ σ2) ∧ (RG σ2) ∧ (PBF σ σ2) ∧ (v = 1 → EXS σ σ2) ∧ (PRS 2 v σ σ2)) := c_exp 8 d hR hrd hnn (by omega)

