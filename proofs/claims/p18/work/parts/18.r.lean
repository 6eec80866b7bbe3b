section
theorem fl12_343 : Cond.fieldLink RX12 343 (TX12 31).1 (TX12 31).2.1 (TX12 31).2.2.1 ∈ pWW := pw7 (List.mem_of_getElem? (i := 38) rfl) rfl
theorem dX12_whileStatement_0 : decode cX12_whileStatement 0 = .ok (.aload_n 0, 1) := by decide +kernel
theorem dX12_whileStatement_1 : decode cX12_whileStatement 1 = .ok (.getfield 343, 3) := by decide +kernel
theorem dX12_whileStatement_4 : decode cX12_whileStatement 4 = .ok (.istore_n 1, 1) := by decide +kernel
theorem dX12_whileStatement_5 : decode cX12_whileStatement 5 = .ok (.aload_n 0, 1) := by decide +kernel
theorem dX12_whileStatement_6 : decode cX12_whileStatement 6 = .ok (.invokevirtual 265, 3) := by decide +kernel
theorem dX12_whileStatement_9 : decode cX12_whileStatement 9 = .ok (.aload_n 0, 1) := by decide +kernel
theorem dX12_whileStatement_10 : decode cX12_whileStatement 10 = .ok (.getfield 370, 3) := by decide +kernel
theorem dX12_whileStatement_13 : decode cX12_whileStatement 13 = .ok (.istore_n 2, 1) := by decide +kernel
theorem dX12_whileStatement_14 : decode cX12_whileStatement 14 = .ok (.aload_n 0, 1) := by decide +kernel
theorem dX12_whileStatement_15 : decode cX12_whileStatement 15 = .ok (.dup, 1) := by decide +kernel
theorem dX12_whileStatement_16 : decode cX12_whileStatement 16 = .ok (.getfield 370, 3) := by decide +kernel
theorem dX12_whileStatement_19 : decode cX12_whileStatement 19 = .ok (.iconst 1, 1) := by decide +kernel
theorem dX12_whileStatement_20 : decode cX12_whileStatement 20 = .ok (.iadd, 1) := by decide +kernel
theorem dX12_whileStatement_21 : decode cX12_whileStatement 21 = .ok (.putfield 370, 3) := by decide +kernel
theorem dX12_whileStatement_24 : decode cX12_whileStatement 24 = .ok (.aload_n 0, 1) := by decide +kernel
theorem dX12_whileStatement_25 : decode cX12_whileStatement 25 = .ok (.bipush 13, 2) := by decide +kernel
theorem dX12_whileStatement_27 : decode cX12_whileStatement 27 = .ok (.iload_n 2, 1) := by decide +kernel
theorem dX12_whileStatement_28 : decode cX12_whileStatement 28 = .ok (.iconst 0, 1) := by decide +kernel
theorem dX12_whileStatement_29 : decode cX12_whileStatement 29 = .ok (.invokevirtual 294, 3) := by decide +kernel
theorem dX12_whileStatement_32 : decode cX12_whileStatement 32 = .ok (.istore_n 3, 1) := by decide +kernel
theorem dX12_whileStatement_33 : decode cX12_whileStatement 33 = .ok (.aload_n 0, 1) := by decide +kernel
theorem dX12_whileStatement_34 : decode cX12_whileStatement 34 = .ok (.bipush 11, 2) := by decide +kernel
theorem dX12_whileStatement_36 : decode cX12_whileStatement 36 = .ok (.iload_n 1, 1) := by decide +kernel
theorem dX12_whileStatement_37 : decode cX12_whileStatement 37 = .ok (.iconst 0, 1) := by decide +kernel
theorem dX12_whileStatement_38 : decode cX12_whileStatement 38 = .ok (.invokevirtual 294, 3) := by decide +kernel
theorem dX12_whileStatement_41 : decode cX12_whileStatement 41 = .ok (.istore_n 3, 1) := by decide +kernel
theorem dX12_whileStatement_42 : decode cX12_whileStatement 42 = .ok (.aload_n 0, 1) := by decide +kernel
theorem dX12_whileStatement_43 : decode cX12_whileStatement 43 = .ok (.invokevirtual 327, 3) := by decide +kernel
theorem dX12_whileStatement_46 : decode cX12_whileStatement 46 = .ok (.ifCond .ne 5, 3) := by decide +kernel
theorem dX12_whileStatement_51 : decode cX12_whileStatement 51 = .ok (.aload_n 0, 1) := by decide +kernel
theorem dX12_whileStatement_52 : decode cX12_whileStatement 52 = .ok (.getfield 370, 3) := by decide +kernel
theorem dX12_whileStatement_55 : decode cX12_whileStatement 55 = .ok (.istore 4, 2) := by decide +kernel
theorem dX12_whileStatement_57 : decode cX12_whileStatement 57 = .ok (.aload_n 0, 1) := by decide +kernel
theorem dX12_whileStatement_58 : decode cX12_whileStatement 58 = .ok (.dup, 1) := by decide +kernel
theorem dX12_whileStatement_59 : decode cX12_whileStatement 59 = .ok (.getfield 370, 3) := by decide +kernel
theorem dX12_whileStatement_62 : decode cX12_whileStatement 62 = .ok (.iconst 1, 1) := by decide +kernel
theorem dX12_whileStatement_63 : decode cX12_whileStatement 63 = .ok (.iadd, 1) := by decide +kernel
theorem dX12_whileStatement_64 : decode cX12_whileStatement 64 = .ok (.putfield 370, 3) := by decide +kernel
theorem dX12_whileStatement_67 : decode cX12_whileStatement 67 = .ok (.aload_n 0, 1) := by decide +kernel
theorem dX12_whileStatement_68 : decode cX12_whileStatement 68 = .ok (.bipush 9, 2) := by decide +kernel
theorem dX12_whileStatement_70 : decode cX12_whileStatement 70 = .ok (.iload 4, 2) := by decide +kernel
theorem dX12_whileStatement_72 : decode cX12_whileStatement 72 = .ok (.iconst 0, 1) := by decide +kernel
theorem dX12_whileStatement_73 : decode cX12_whileStatement 73 = .ok (.invokevirtual 294, 3) := by decide +kernel
theorem dX12_whileStatement_76 : decode cX12_whileStatement 76 = .ok (.istore_n 3, 1) := by decide +kernel
theorem dX12_whileStatement_77 : decode cX12_whileStatement 77 = .ok (.aload_n 0, 1) := by decide +kernel
theorem dX12_whileStatement_78 : decode cX12_whileStatement 78 = .ok (.iload_n 3, 1) := by decide +kernel
theorem dX12_whileStatement_79 : decode cX12_whileStatement 79 = .ok (.iconst 0, 1) := by decide +kernel
theorem dX12_whileStatement_80 : decode cX12_whileStatement 80 = .ok (.aload_n 0, 1) := by decide +kernel
theorem dX12_whileStatement_81 : decode cX12_whileStatement 81 = .ok (.getfield 285, 3) := by decide +kernel
theorem dX12_whileStatement_84 : decode cX12_whileStatement 84 = .ok (.aload_n 0, 1) := by decide +kernel
theorem dX12_whileStatement_85 : decode cX12_whileStatement 85 = .ok (.getfield 288, 3) := by decide +kernel
theorem dX12_whileStatement_88 : decode cX12_whileStatement 88 = .ok (.invokevirtual 298, 3) := by decide +kernel
theorem dX12_whileStatement_91 : decode cX12_whileStatement 91 = .ok (.aload_n 0, 1) := by decide +kernel
theorem dX12_whileStatement_92 : decode cX12_whileStatement 92 = .ok (.invokevirtual 373, 3) := by decide +kernel
theorem dX12_whileStatement_95 : decode cX12_whileStatement 95 = .ok (.ifCond .ne 5, 3) := by decide +kernel
theorem dX12_whileStatement_100 : decode cX12_whileStatement 100 = .ok (.aload_n 0, 1) := by decide +kernel
theorem dX12_whileStatement_101 : decode cX12_whileStatement 101 = .ok (.bipush 8, 2) := by decide +kernel
theorem dX12_whileStatement_103 : decode cX12_whileStatement 103 = .ok (.iload_n 2, 1) := by decide +kernel
theorem dX12_whileStatement_104 : decode cX12_whileStatement 104 = .ok (.iconst 0, 1) := by decide +kernel
theorem dX12_whileStatement_105 : decode cX12_whileStatement 105 = .ok (.invokevirtual 294, 3) := by decide +kernel
theorem dX12_whileStatement_108 : decode cX12_whileStatement 108 = .ok (.istore_n 3, 1) := by decide +kernel
theorem dX12_whileStatement_109 : decode cX12_whileStatement 109 = .ok (.aload_n 0, 1) := by decide +kernel
theorem dX12_whileStatement_110 : decode cX12_whileStatement 110 = .ok (.bipush 13, 2) := by decide +kernel
theorem dX12_whileStatement_112 : decode cX12_whileStatement 112 = .ok (.iload 4, 2) := by decide +kernel
theorem dX12_whileStatement_114 : decode cX12_whileStatement 114 = .ok (.iconst 0, 1) := by decide +kernel
theorem dX12_whileStatement_115 : decode cX12_whileStatement 115 = .ok (.invokevirtual 294, 3) := by decide +kernel
theorem dX12_whileStatement_118 : decode cX12_whileStatement 118 = .ok (.istore_n 3, 1) := by decide +kernel
theorem dX12_whileStatement_119 : decode cX12_whileStatement 119 = .ok (.iconst 1, 1) := by decide +kernel
theorem dX12_whileStatement_120 : decode cX12_whileStatement 120 = .ok (.ireturn, 1) := by decide +kernel
theorem dX12_whileStatement_98 : decode cX12_whileStatement 98 = .ok (.iconst 0, 1) := by decide +kernel
theorem dX12_whileStatement_99 : decode cX12_whileStatement 99 = .ok (.ireturn, 1) := by decide +kernel
theorem dX12_whileStatement_49 : decode cX12_whileStatement 49 = .ok (.iconst 0, 1) := by decide +kernel
theorem dX12_whileStatement_50 : decode cX12_whileStatement 50 = .ok (.ireturn, 1) := by decide +kernel
set_option maxHeartbeats 4000000 in
set_option maxRecDepth 20000 in
theorem c_X12_whileStatement (d : Nat) {b : Nat} {σ : MS} {lv : Nat} {ρ : MS} (hcb : ∀ (d : Nat) {b : Nat} {σ : MS} (hR : RG σ) (hrd : RDY σ) (hnn : NN σ) (h28 : σ.1 28 = 0) (h29 : σ.1 29 = 6 - (lv : Int)) (ht : 0 ≤ σ.1 43 ∧ σ.1 43 ≤ 260), Tm (d + 3 * lv + 44) m_X12_block 0 b σ [(0, .ref b)] [] (fun ro σ2 => ∃ v : Int, ro = some (.int (iI v)) ∧ ((v = 0 ∨ v = 1)) ∧ (Fr [19, 20, 22, 23, 26, 27, 28, 29, 31, 32, 33, 34, 39, 40] [3, 4, 5, 6, 7, 8, 35, 37, 41, 42] [24, 38] σ σ2) ∧ (RG σ2) ∧ (PBF σ σ2) ∧ (Im v 1 (BLQ 28 4 σ σ2)) ∧ (Im v 0 (∀ c : Int, GOF [28] σ (qq c) σ2)))) (hR : RG σ) (hln : LNP 0 ρ σ) (hg : ∀ c : Int, GOM [20] ρ (qq c) [] [22] σ (qq c) [] []) (h28 : σ.1 28 = 0) (h29 : σ.1 29 = 6 - (lv : Int)) (ht : 0 ≤ σ.1 43 ∧ σ.1 43 ≤ 260) : Tm (d + 3 * lv + 45) m_X12_whileStatement 0 b σ [(0, .ref b)] [] (fun ro σ2 => ∃ v : Int, ro = some (.int (iI v)) ∧ ((v = 0 ∨ v = 1)) ∧ (Fr [19, 20, 22, 23, 26, 27, 28, 29, 31, 32, 33, 34, 39, 40] [3, 4, 5, 6, 7, 8, 35, 37, 41, 42] [24, 38] σ σ2) ∧ (RG σ2) ∧ (PBF ρ σ2) ∧ (Im v 1 (BLQ 20 2 ρ σ2)) ∧ (Im v 0 (∀ c : Int, GOF [20] ρ (qq c) σ2))) := by
  have tk0 := hln.tok.1
  have rd0 := hln.1.2
  have f0 := hln.2.2.1
  have e30_ := f0.1 30 (by decide)
  have e34_ := hln.2.2.2.2.1
  have nn0 : NN σ := hln.2.2.2.1.2.2.1
  have h0c := hln.h0
  have e28r : ρ.1 28 = 0 := (f0.1 28 (by decide)).symm.trans h28
  have e29r := f0.1 29 (by decide)
  have e33r := f0.1 33 (by decide)
  refine tm_aload_n dX12_whileStatement_0 rfl 0 rfl ?_
  refine tm_getS (k := 31) (t := σ.1 31) dX12_whileStatement_1 (by decide) fl12_343 rfl (rfl) ?_
  have g1 := RG.s hR 31
  refine tm_istore_n (L' := [(1, .int (iI (σ.1 31))), (0, .ref b)]) dX12_whileStatement_4 rfl (by decide) rfl ?_
  refine tm_aload_n dX12_whileStatement_5 rfl 1 rfl ?_
  refine tm_callV (M := m_X12_whileStatement) (pc := 6) (ix := 265) (M' := m_X12_advance) (As := []) (rest := []) dX12_whileStatement_6 ok_X12_advance im_X12_advance se_X12_advance ml12_265 np_X12_advance rfl rfl (Nat.le_of_ble_eq_true rfl) (Nat.le_of_ble_eq_true rfl) rfl (c_X12_advance (d + 3 * lv + 39) (σ := σ)  hR (by omega)) (fun r2 σ3 hp => ?_)
  obtain ⟨rfl, f5, f6, f7, f8, f9⟩ := hp
  show Tm _ _ 9 b σ3 [(1, .int (iI (σ.1 31))), (0, .ref b)] [] _
  have ad0 := f5
  have ad1 := f6
  have ad2 := f7
  have ad3 := f8
  have ad4 := f9
  have fA1 := (show Fr [19, 20, 22, 23, 26, 27] [35] [24, 38] σ σ3 from (Fr.rfl.trans (Fr.sub f6 (by decide) (by decide) (by decide))))
  have pb1 : PBF σ σ3 := PBF.nop nn0 ad1 (by decide) (by decide) (by decide)
  have ts1 : TS 20 (2 - 0) ρ [52, 2, 51, 28, 52] σ3 qq [] [(5, 0, 0, [])] := TS.line hln (by decide) fA1 pb1 ad3 ad4 ((hg _).then (u22 ad0 (MSE.fr ad1 (by decide) (by decide) (by decide))))
  have tk1 := ad3.1
  have e281 : σ3.1 28 = 0 := (ad1.1 28 (by decide)).trans h28
  have rd1 := ts1.2.2.1.2
  have i33 := ad1.1 33 (by decide)
  have i34 := ad1.1 34 (by decide)
  have i30 := ad1.1 30 (by decide)
  refine tm_aload_n dX12_whileStatement_9 rfl 1 rfl ?_
  refine tm_getS (k := 33) (t := σ.1 33) dX12_whileStatement_10 (by decide) fl12_370 rfl (rs_F f6 (by decide) (rfl)) ?_
  have g10 := RG.s hR 33
  refine tm_istore_n (L' := [(2, .int (iI (σ.1 33))), (1, .int (iI (σ.1 31))), (0, .ref b)]) dX12_whileStatement_13 rfl (by decide) rfl ?_
  refine tm_aload_n dX12_whileStatement_14 rfl 2 rfl ?_
  refine tm_dup dX12_whileStatement_15 rfl ?_
  refine tm_getS (k := 33) (t := σ.1 33) dX12_whileStatement_16 (by decide) fl12_370 rfl (rs_F f6 (by decide) (rfl)) ?_
  have g11 := RG.s hR 33
  refine tm_iconst dX12_whileStatement_19 ?_
  refine tm_iadd dX12_whileStatement_20 ?_
  refine tm_putS (k := 33) (v := (σ.1 33) + 1) lay_12 dX12_whileStatement_21 (by decide) fl12_370 rfl (tyX12_ok 33 (by decide)) rfl rfl rfl ?_
  refine tm_aload_n dX12_whileStatement_24 rfl 2 rfl ?_
  refine tm_bipush dX12_whileStatement_25 (by decide) ?_
  refine tm_iload_n dX12_whileStatement_27 rfl 0 rfl ?_
  refine tm_iconst dX12_whileStatement_28 ?_
  refine tm_callV (M := m_X12_whileStatement) (pc := 29) (ix := 294) (M' := m_X12_put) (As := [.int (iI 13), .int (iI (σ.1 33)), .int (iI 0)]) (rest := []) dX12_whileStatement_29 ok_X12_put im_X12_put se_X12_put ml12_294 np_X12_put rfl rfl (Nat.le_of_ble_eq_true rfl) (Nat.le_of_ble_eq_true rfl) rfl (c_X12_put (d + 3 * lv + 42) (σ := (sS 33 ((σ.1 33) + 1) σ3)) (k := 13) (e := σ.1 33) (o := 0) (f7.S (by omega)) (by rw [show (sS 33 ((σ.1 33) + 1) σ3).1 30 = σ.1 30 from rs_o (by decide) (rs_F f6 (by decide) (rfl)), show (sS 33 ((σ.1 33) + 1) σ3).1 34 = σ.1 34 from rs_o (by decide) (rs_F f6 (by decide) (rfl))]; omega) (by omega) (by omega) (by omega)) (fun r12 σ13 hp => ?_)
  obtain ⟨v14, rfl, f15, f16, f17, f18, f19, f20, f21, f22⟩ := hp
  show Tm _ _ 32 b σ13 [(2, .int (iI (σ.1 33))), (1, .int (iI (σ.1 31))), (0, .ref b)] [.int (iI v14)] _
  have jvJ := f17
  have jnJ := f18
  have jiJ := f19
  have joJ := f20
  have jrJ := f21
  have jzJ := f22
  refine tm_istore_n (L' := [(3, .int (iI v14)), (2, .int (iI (σ.1 33))), (1, .int (iI (σ.1 31))), (0, .ref b)]) dX12_whileStatement_32 rfl (by decide) rfl ?_
  have jvJ : _ = PXx σ3 := jvJ
  have fAJ := (show Fr [33, 34] [3, 4, 5, 6, 7, 8] [] σ3 σ13 from ((Fr.rfl.S (by decide)).trans (Fr.sub f15 (by decide) (by decide) (by decide))))
  have eAJ : σ13.1 34 = σ3.1 34 + 1 := jnJ
  have pbJ : PBF σ3 σ13 := PBF.it ts1.nn fAJ (by decide) (by decide) (by decide) eAJ jvJ joJ
  have tbJ : TBm σ3 σ13 := TBm.of fAJ (by decide) (by decide) (by decide) (by decide)
  have ptJ : PIT σ3 σ13 (mkI 13 (σ3.1 33) 0 0 0 0) := by rw [show σ3.1 33 = σ.1 33 from rs_F f6 (by decide) (rfl)]; exact PIT.at jvJ eAJ joJ jzJ
  have e33J : σ13.1 33 = (σ.1 33) + 1 := rs_F f15 (by decide) (rs_eq)
  refine tm_aload_n dX12_whileStatement_33 rfl 3 rfl ?_
  refine tm_bipush dX12_whileStatement_34 (by decide) ?_
  refine tm_iload_n dX12_whileStatement_36 rfl 2 rfl ?_
  refine tm_iconst dX12_whileStatement_37 ?_
  refine tm_callV (M := m_X12_whileStatement) (pc := 38) (ix := 294) (M' := m_X12_put) (As := [.int (iI 11), .int (iI (σ.1 31)), .int (iI 0)]) (rest := []) dX12_whileStatement_38 ok_X12_put im_X12_put se_X12_put ml12_294 np_X12_put rfl rfl (Nat.le_of_ble_eq_true rfl) (Nat.le_of_ble_eq_true rfl) rfl (c_X12_put (d + 3 * lv + 42) (σ := σ13) (k := 11) (e := σ.1 31) (o := 0) f16 (by rw [show σ13.1 30 = σ.1 30 from rs_F f15 (by decide) (rs_o (by decide) (rs_F f6 (by decide) (rfl))), show σ13.1 34 = σ13.1 34 from rfl]; omega) (by omega) (by omega) (by omega)) (fun r23 σ24 hp => ?_)
  obtain ⟨v25, rfl, f26, f27, f28, f29, f30, f31, f32, f33⟩ := hp
  show Tm _ _ 41 b σ24 [(3, .int (iI v14)), (2, .int (iI (σ.1 33))), (1, .int (iI (σ.1 31))), (0, .ref b)] [.int (iI v25)] _
  have jvK := f28
  have jnK := f29
  have jiK := f30
  have joK := f31
  have jrK := f32
  have jzK := f33
  refine tm_istore_n (L' := [(3, .int (iI v25)), (2, .int (iI (σ.1 33))), (1, .int (iI (σ.1 31))), (0, .ref b)]) dX12_whileStatement_41 rfl (by decide) rfl ?_
  have pbK : PBF σ13 σ24 := PBF.it pbJ.2.2.1 f26 (by decide) (by decide) (by decide) jnK jvK joK
  have tbK : TBm σ13 σ24 := TBm.of f26 (by decide) (by decide) (by decide) (by decide)
  have fDK := (show Fr [33, 34] [3, 4, 5, 6, 7, 8] [] σ3 σ24 from (((Fr.rfl.S (by decide)).trans (Fr.sub f15 (by decide) (by decide) (by decide))).trans (Fr.sub f26 (by decide) (by decide) (by decide))))
  have eDK : σ24.1 34 = σ3.1 34 + 2 := by rw [jnK, eAJ]; omega
  have e33K : σ24.1 33 = σ13.1 33 := f26.1 33 (by decide)
  have ts2 := ts1.puts (m := 2) fDK (pbJ.trans pbK) eDK (by omega) (by decide) hln.1 (u52H (CHG.put fDK (by decide) (by decide) (by decide) eDK) ptJ fAJ nfr33 (show PIT σ13 σ24 (mkI 11 (σ3.1 31) 0 0 0 0) by rw [ad1.1 31 (by decide)]; exact PIT.at jvK jnK joK jzK) f26 nfr34 (by rw [e33K, e33J, show σ3.1 33 = σ.1 33 from rs_F f6 (by decide) (rfl)]))
  have itK : σ3.1 25 = 3 → σ3.1 30 < 6 → σ3.1 34 + 1 < 180 → ((σ24.2.1 3 (220 * σ3.1 30 + σ3.1 34) = 13 ∧ σ24.2.1 4 (220 * σ3.1 30 + σ3.1 34) = σ.1 33) ∧ σ24.2.1 3 (220 * σ3.1 30 + (σ3.1 34 + 1)) = 11 ∧ σ24.2.1 4 (220 * σ3.1 30 + (σ3.1 34 + 1)) = σ.1 31) ∧ OKI σ24 1 (220 * σ3.1 30 + σ3.1 34) ∧ OKI σ24 1 (220 * σ3.1 30 + (σ3.1 34 + 1)) := fun z1 z2 z3 => by
    have x1 : PXx σ3 = 220 * σ3.1 30 + σ3.1 34 := by unfold PXx; rw [if_pos (by omega)]
    have m30 : σ13.1 30 = σ3.1 30 := pbJ.2.2.2.2.2.2.2
    have m25 : σ13.1 25 = σ3.1 25 := pbJ.2.2.2.2.2.2.1
    have x2 : PXx σ13 = 220 * σ3.1 30 + (σ3.1 34 + 1) := by unfold PXx; rw [if_pos (by omega), m30, eAJ]
    have ie := pbK.1 (220 * σ3.1 30 + σ3.1 34) (by omega) (by omega)
    have o1 := oki_bare jiJ (by decide) (fun _ => by omega)
    have o2 := oki_bare jiK (by decide) (fun q => absurd rfl q)
    have a1 := jiJ
    have a2 := jiK
    rw [jvJ, x1] at o1 a1
    rw [jvK, x2] at o2 a2
    exact ⟨⟨⟨ie.1.trans a1.1, ie.2.1.trans a1.2.1⟩, a2.1, a2.2.1⟩, ie.oki tbK.2.1 o1, o2⟩
  have tk2 := ts2.2.2.1.1.1
  have e282 : σ24.1 28 = 0 := by rw [show σ24.1 28 = σ3.1 28 from (show Fr [33, 34] [3, 4, 5, 6, 7, 8] [] σ3 σ24 from (((Fr.rfl.S (by decide)).trans (Fr.sub f15 (by decide) (by decide) (by decide))).trans (Fr.sub f26 (by decide) (by decide) (by decide)))).1 28 (by decide)]; exact e281
  refine tm_aload_n dX12_whileStatement_42 rfl 3 rfl ?_
  refine tm_callV (M := m_X12_whileStatement) (pc := 43) (ix := 327) (M' := m_X12_expression) (As := []) (rest := []) dX12_whileStatement_43 ok_X12_expression im_X12_expression se_X12_expression ml12_327 np_X12_expression rfl rfl (Nat.le_of_ble_eq_true rfl) (Nat.le_of_ble_eq_true rfl) rfl (c_exp8 (d + 3 * lv + 4) (σ := σ24)  f27 ts2.2.2.1 ts2.nn e282) (fun r34 σ35 hp => ?_)
  obtain ⟨v36, rfl, f37, f38, f39, f40, f41, f42, f43⟩ := hp
  show Tm _ _ 46 b σ35 [(3, .int (iI v25)), (2, .int (iI (σ.1 33))), (1, .int (iI (σ.1 31))), (0, .ref b)] [.int (iI v36)] _
  have xp0 := f37
  have xp1 := f38
  have xp2 := f39
  have xp3 := f40
  have xp4 := f41
  have xp5 := f42
  have xp6 := f43
  refine tm_if_ne (tgt := 51) dX12_whileStatement_46 (by decide) ⟨by omega, by omega⟩ (fun h44 => ?_) (fun h44 => ?_)
  · have ts3 := ts2.exp xp1 xp3 (xp4 (by omega)) (xp5.1 (by omega))
    have ex4 := xp4 (by omega)
    have gt := ex4.2.2.1
    unfold GTm at gt
    have rdx := ts3.2.2.1.2
    have tkx := ts3.2.2.1.1.1
    have acx := ex4.2.2.2.1
    have tbx := TBm.of xp1 (by decide) (by decide) (by decide) (by decide)
    have e33x := xp1.1 33 (by decide)
    have e33s : σ35.1 33 = (σ.1 33) + 1 := rs_F f38 (by decide) (rs_F f26 (by decide) (rs_F f15 (by decide) (rs_eq)))
    refine tm_aload_n dX12_whileStatement_51 rfl 3 rfl ?_
    refine tm_getS (k := 33) (t := (σ.1 33) + 1) dX12_whileStatement_52 (by decide) fl12_370 rfl (rs_F f38 (by decide) (rs_F f26 (by decide) (rs_F f15 (by decide) (rs_eq)))) ?_
    refine tm_istore (L' := [(4, .int (iI ((σ.1 33) + 1))), (3, .int (iI v25)), (2, .int (iI (σ.1 33))), (1, .int (iI (σ.1 31))), (0, .ref b)]) dX12_whileStatement_55 (by decide) rfl ?_
    refine tm_aload_n dX12_whileStatement_57 rfl 4 rfl ?_
    refine tm_dup dX12_whileStatement_58 rfl ?_
    refine tm_getS (k := 33) (t := (σ.1 33) + 1) dX12_whileStatement_59 (by decide) fl12_370 rfl (rs_F f38 (by decide) (rs_F f26 (by decide) (rs_F f15 (by decide) (rs_eq)))) ?_
    refine tm_iconst dX12_whileStatement_62 ?_
    refine tm_iadd dX12_whileStatement_63 ?_
    refine tm_putS (k := 33) (v := ((σ.1 33) + 1) + 1) lay_12 dX12_whileStatement_64 (by decide) fl12_370 rfl (tyX12_ok 33 (by decide)) rfl rfl rfl ?_
    refine tm_aload_n dX12_whileStatement_67 rfl 4 rfl ?_
    refine tm_bipush dX12_whileStatement_68 (by decide) ?_
    refine tm_iload dX12_whileStatement_70 0 rfl ?_
    refine tm_iconst dX12_whileStatement_72 ?_
    refine tm_callV (M := m_X12_whileStatement) (pc := 73) (ix := 294) (M' := m_X12_put) (As := [.int (iI 9), .int (iI ((σ.1 33) + 1)), .int (iI 0)]) (rest := []) dX12_whileStatement_73 ok_X12_put im_X12_put se_X12_put ml12_294 np_X12_put rfl rfl (Nat.le_of_ble_eq_true rfl) (Nat.le_of_ble_eq_true rfl) rfl (c_X12_put (d + 3 * lv + 42) (σ := (sS 33 (((σ.1 33) + 1) + 1) σ35)) (k := 9) (e := (σ.1 33) + 1) (o := 0) (f39.S (by omega)) (by rw [show (sS 33 (((σ.1 33) + 1) + 1) σ35).1 30 = σ.1 30 from rs_o (by decide) (rs_F f38 (by decide) (rs_F f26 (by decide) (rs_F f15 (by decide) (rs_o (by decide) (rs_F f6 (by decide) (rfl)))))), show (sS 33 (((σ.1 33) + 1) + 1) σ35).1 34 = σ35.1 34 from rs_o (by decide) (rfl)]; omega) (by omega) (by omega) (by omega)) (fun r45 σ46 hp => ?_)
    obtain ⟨v47, rfl, f48, f49, f50, f51, f52, f53, f54, f55⟩ := hp
    show Tm _ _ 76 b σ46 [(4, .int (iI ((σ.1 33) + 1))), (3, .int (iI v25)), (2, .int (iI (σ.1 33))), (1, .int (iI (σ.1 31))), (0, .ref b)] [.int (iI v47)] _
    have jvZ := f50
    have jnZ := f51
    have jiZ := f52
    have joZ := f53
    have jrZ := f54
    have jzZ := f55
    refine tm_istore_n (L' := [(3, .int (iI v47)), (4, .int (iI ((σ.1 33) + 1))), (2, .int (iI (σ.1 33))), (1, .int (iI (σ.1 31))), (0, .ref b)]) dX12_whileStatement_76 rfl (by decide) rfl ?_
    refine tm_aload_n dX12_whileStatement_77 rfl 4 rfl ?_
    refine tm_iload_n dX12_whileStatement_78 rfl 0 rfl ?_
    refine tm_iconst dX12_whileStatement_79 ?_
    refine tm_aload_n dX12_whileStatement_80 rfl 4 rfl ?_
    refine tm_getS (k := 39) (t := σ35.1 39) dX12_whileStatement_81 (by decide) fl12_285 rfl (rs_F f48 (by decide) (rs_o (by decide) (rfl))) ?_
    have g56 := RG.s f39 39
    refine tm_aload_n dX12_whileStatement_84 rfl 4 rfl ?_
    refine tm_getS (k := 40) (t := σ35.1 40) dX12_whileStatement_85 (by decide) fl12_288 rfl (rs_F f48 (by decide) (rs_o (by decide) (rfl))) ?_
    have g57 := RG.s f39 40
    refine tm_callV (M := m_X12_whileStatement) (pc := 88) (ix := 298) (M' := m_X12_setArg) (As := [.int (iI v47), .int (iI 0), .int (iI (σ35.1 39)), .int (iI (σ35.1 40))]) (rest := []) dX12_whileStatement_88 ok_X12_setArg im_X12_setArg se_X12_setArg ml12_298 np_X12_setArg rfl rfl (Nat.le_of_ble_eq_true rfl) (Nat.le_of_ble_eq_true rfl) rfl (c_X12_setArg (d + 3 * lv + 43) (σ := σ46) (x := v47) (i := 0) (k := σ35.1 39) (w := σ35.1 40) (by omega)) (fun r58 σ59 hp => ?_)
    obtain ⟨rfl, f61⟩ := hp
    subst f61
    show Tm _ _ 91 b (fArg (v47) (0) (σ35.1 39) (σ35.1 40) σ46) [(3, .int (iI v47)), (4, .int (iI ((σ.1 33) + 1))), (2, .int (iI (σ.1 33))), (1, .int (iI (σ.1 31))), (0, .ref b)] [] _
    have jvZ : _ = PXx σ35 := jvZ
    have fAZ := (show Fr [33, 34] [3, 4, 5, 6, 7, 8] [] σ35 (fArg (v47) (0) (σ35.1 39) (σ35.1 40) σ46) from (((Fr.rfl.S (by decide)).trans (Fr.sub f48 (by decide) (by decide) (by decide))).trans (Fr.sub fArg_fr (by decide) (by decide) (by decide))))
    have eAZ : (fArg (v47) (0) (σ35.1 39) (σ35.1 40) σ46).1 34 = σ35.1 34 + 1 := jnZ
    have pbZ : PBF σ35 (fArg (v47) (0) (σ35.1 39) (σ35.1 40) σ46) := PBF.it ts3.nn fAZ (by decide) (by decide) (by decide) eAZ jvZ (joZ.trans (OFF.arg (by decide) (by decide)))
    have tbZ : TBm σ35 (fArg (v47) (0) (σ35.1 39) (σ35.1 40) σ46) := TBm.of fAZ (by decide) (by decide) (by decide) (by decide)
    have ptZ : PIT σ35 (fArg (v47) (0) (σ35.1 39) (σ35.1 40) σ46) (mkI 9 (σ35.1 33) 0 (σ35.1 39) (σ35.1 40) 0) := by rw [e33s]; exact PIT.at jvZ eAZ (joZ.trans (OFF.arg (by decide) (by decide))) (ri_one jzZ)
    have e33Z : (fArg (v47) (0) (σ35.1 39) (σ35.1 40) σ46).1 33 = σ35.1 33 + 1 := by rw [show (fArg (v47) (0) (σ35.1 39) (σ35.1 40) σ46).1 33 = ((σ.1 33) + 1) + 1 from rs_F fArg_fr (by decide) (rs_F f48 (by decide) (rs_eq)), e33s]
    have ts4 := ts3.puts (m := 1) fAZ pbZ eAZ (by omega) (by decide) hln.1 (u51W (CHG.put fAZ (by decide) (by decide) (by decide) eAZ) ptZ fAZ nfr33 e33Z)
    have izZ : (fArg (v47) (0) (σ35.1 39) (σ35.1 40) σ46).2.1 3 (PXx σ35) = 9 ∧ (fArg (v47) (0) (σ35.1 39) (σ35.1 40) σ46).2.1 4 (PXx σ35) = σ35.1 33 := by rw [← jvZ]; exact ⟨jiZ.1, jiZ.2.1.trans e33s.symm⟩
    have okZ : σ35.1 25 = 3 → σ35.1 30 < 6 → σ35.1 34 < 180 → OKI (fArg (v47) (0) (σ35.1 39) (σ35.1 40) σ46) 1 (PXx σ35) := (fun z1 z2 z3 => by rw [← jvZ]; exact oki_arg1 jiZ (Or.inr (Or.inr (Or.inr rfl))) (fun q => absurd q (by decide)) (fun _ => by omega) (by omega))
    have rdz := ts4.2.2.1.2
    have tkz := ts4.2.2.1.1.1
    have e28Z : (fArg (v47) (0) (σ35.1 39) (σ35.1 40) σ46).1 28 = 0 := (f48.1 28 (by decide)).trans (xp6.trans e282)
    have e29Z : (fArg (v47) (0) (σ35.1 39) (σ35.1 40) σ46).1 29 = σ.1 29 := rs_F fArg_fr (by decide) (rs_F f48 (by decide) (rs_o (by decide) (rs_F f38 (by decide) (rs_F f26 (by decide) (rs_F f15 (by decide) (rs_o (by decide) (rs_F f6 (by decide) (rfl))))))))
    have e43Z : (fArg (v47) (0) (σ35.1 39) (σ35.1 40) σ46).1 43 = σ.1 43 := rs_F fArg_fr (by decide) (rs_F f48 (by decide) (rs_o (by decide) (rs_F f38 (by decide) (rs_F f26 (by decide) (rs_F f15 (by decide) (rs_o (by decide) (rs_F f6 (by decide) (rfl))))))))
    refine tm_aload_n dX12_whileStatement_91 rfl 4 rfl ?_
    refine tm_callV (M := m_X12_whileStatement) (pc := 92) (ix := 373) (M' := m_X12_block) (As := []) (rest := []) dX12_whileStatement_92 ok_X12_block im_X12_block se_X12_block ml12_373 np_X12_block rfl rfl (Nat.le_of_ble_eq_true rfl) (Nat.le_of_ble_eq_true rfl) rfl (hcb (d) (σ := (fArg (v47) (0) (σ35.1 39) (σ35.1 40) σ46))  ((f49).arg (by omega) (by omega)) ts4.2.2.1 ts4.nn e28Z (e29Z.trans h29) (by rw [e43Z]; exact ht)) (fun r62 σ63 hp => ?_)
    obtain ⟨v64, rfl, f65, f66, f67, f68, f69, f70⟩ := hp
    show Tm _ _ 95 b σ63 [(3, .int (iI v47)), (4, .int (iI ((σ.1 33) + 1))), (2, .int (iI (σ.1 33))), (1, .int (iI (σ.1 31))), (0, .ref b)] [.int (iI v64)] _
    have bp0 := f65
    have bp1 := f66
    have bp2 := f67
    have bp3 := f68
    have bp4 := f69
    have bp5 := f70
    refine tm_if_ne (tgt := 100) dX12_whileStatement_95 (by decide) ⟨by omega, by omega⟩ (fun h71 => ?_) (fun h71 => ?_)
    · obtain ⟨lg1, bt, bs, bf, b28, b29⟩ := bp4 (by omega)
      have ts5 := ts4.sub bt
      have tk5 := ts5.2.2.1.1.1
      have rd5 := ts5.2.2.1.2
      have e285 : σ63.1 28 = 0 := b28.trans e28Z
      have e295 : σ63.1 29 = σ.1 29 := b29.trans e29Z
      refine tm_aload_n dX12_whileStatement_100 rfl 4 rfl ?_
      refine tm_bipush dX12_whileStatement_101 (by decide) ?_
      refine tm_iload_n dX12_whileStatement_103 rfl 2 rfl ?_
      refine tm_iconst dX12_whileStatement_104 ?_
      refine tm_callV (M := m_X12_whileStatement) (pc := 105) (ix := 294) (M' := m_X12_put) (As := [.int (iI 8), .int (iI (σ.1 33)), .int (iI 0)]) (rest := []) dX12_whileStatement_105 ok_X12_put im_X12_put se_X12_put ml12_294 np_X12_put rfl rfl (Nat.le_of_ble_eq_true rfl) (Nat.le_of_ble_eq_true rfl) rfl (c_X12_put (d + 3 * lv + 42) (σ := σ63) (k := 8) (e := σ.1 33) (o := 0) f67 (by rw [show σ63.1 30 = σ.1 30 from rs_F f66 (by decide) (rs_F fArg_fr (by decide) (rs_F f48 (by decide) (rs_o (by decide) (rs_F f38 (by decide) (rs_F f26 (by decide) (rs_F f15 (by decide) (rs_o (by decide) (rs_F f6 (by decide) (rfl))))))))), show σ63.1 34 = σ63.1 34 from rfl]; omega) (by omega) (by omega) (by omega)) (fun r72 σ73 hp => ?_)
      obtain ⟨v74, rfl, f75, f76, f77, f78, f79, f80, f81, f82⟩ := hp
      show Tm _ _ 108 b σ73 [(3, .int (iI v47)), (4, .int (iI ((σ.1 33) + 1))), (2, .int (iI (σ.1 33))), (1, .int (iI (σ.1 31))), (0, .ref b)] [.int (iI v74)] _
      have jvM := f77
      have jnM := f78
      have jiM := f79
      have joM := f80
      have jrM := f81
      have jzM := f82
      refine tm_istore_n (L' := [(3, .int (iI v74)), (4, .int (iI ((σ.1 33) + 1))), (2, .int (iI (σ.1 33))), (1, .int (iI (σ.1 31))), (0, .ref b)]) dX12_whileStatement_108 rfl (by decide) rfl ?_
      have jvM : _ = PXx σ63 := jvM
      have fAM := (show Fr [33, 34] [3, 4, 5, 6, 7, 8] [] σ63 σ73 from (Fr.rfl.trans (Fr.sub f75 (by decide) (by decide) (by decide))))
      have eAM : σ73.1 34 = σ63.1 34 + 1 := jnM
      have pbM : PBF σ63 σ73 := PBF.it ts5.nn fAM (by decide) (by decide) (by decide) eAM jvM joM
      have tbM : TBm σ63 σ73 := TBm.of fAM (by decide) (by decide) (by decide) (by decide)
      have ptM : PIT σ63 σ73 (mkI 8 (σ3.1 33) 0 0 0 0) := by rw [show σ3.1 33 = σ.1 33 from rs_F f6 (by decide) (rfl)]; exact PIT.at jvM eAM joM jzM
      have e33M : σ73.1 33 = σ63.1 33 := rs_F f75 (by decide) (rfl)
      refine tm_aload_n dX12_whileStatement_109 rfl 4 rfl ?_
      refine tm_bipush dX12_whileStatement_110 (by decide) ?_
      refine tm_iload dX12_whileStatement_112 1 rfl ?_
      refine tm_iconst dX12_whileStatement_114 ?_
      refine tm_callV (M := m_X12_whileStatement) (pc := 115) (ix := 294) (M' := m_X12_put) (As := [.int (iI 13), .int (iI ((σ.1 33) + 1)), .int (iI 0)]) (rest := []) dX12_whileStatement_115 ok_X12_put im_X12_put se_X12_put ml12_294 np_X12_put rfl rfl (Nat.le_of_ble_eq_true rfl) (Nat.le_of_ble_eq_true rfl) rfl (c_X12_put (d + 3 * lv + 42) (σ := σ73) (k := 13) (e := (σ.1 33) + 1) (o := 0) f76 (by rw [show σ73.1 30 = σ.1 30 from rs_F f75 (by decide) (rs_F f66 (by decide) (rs_F fArg_fr (by decide) (rs_F f48 (by decide) (rs_o (by decide) (rs_F f38 (by decide) (rs_F f26 (by decide) (rs_F f15 (by decide) (rs_o (by decide) (rs_F f6 (by decide) (rfl)))))))))), show σ73.1 34 = σ73.1 34 from rfl]; omega) (by omega) (by omega) (by omega)) (fun r83 σ84 hp => ?_)
      obtain ⟨v85, rfl, f86, f87, f88, f89, f90, f91, f92, f93⟩ := hp
      show Tm _ _ 118 b σ84 [(3, .int (iI v74)), (4, .int (iI ((σ.1 33) + 1))), (2, .int (iI (σ.1 33))), (1, .int (iI (σ.1 31))), (0, .ref b)] [.int (iI v85)] _
      have jvN := f88
      have jnN := f89
      have jiN := f90
      have joN := f91
      have jrN := f92
      have jzN := f93
      refine tm_istore_n (L' := [(3, .int (iI v85)), (4, .int (iI ((σ.1 33) + 1))), (2, .int (iI (σ.1 33))), (1, .int (iI (σ.1 31))), (0, .ref b)]) dX12_whileStatement_118 rfl (by decide) rfl ?_
      have pbN : PBF σ73 σ84 := PBF.it pbM.2.2.1 f86 (by decide) (by decide) (by decide) jnN jvN joN
      have tbN : TBm σ73 σ84 := TBm.of f86 (by decide) (by decide) (by decide) (by decide)
      have fDN := (show Fr [33, 34] [3, 4, 5, 6, 7, 8] [] σ63 σ84 from ((Fr.rfl.trans (Fr.sub f75 (by decide) (by decide) (by decide))).trans (Fr.sub f86 (by decide) (by decide) (by decide))))
      have eDN : σ84.1 34 = σ63.1 34 + 2 := by rw [jnN, eAM]; omega
      have e33N : σ84.1 33 = σ73.1 33 := f86.1 33 (by decide)
      have ts6 := ts5.puts (m := 2) fDN (pbM.trans pbN) eDN (by omega) (by decide) hln.1 (u52W (CHG.put fDN (by decide) (by decide) (by decide) eDN) ptM fAM nfr33 (show PIT σ73 σ84 (mkI 13 (σ35.1 33) 0 0 0 0) by rw [e33s]; exact PIT.at jvN jnN joN jzN) f86 nfr34 (e33N.trans e33M))
      have itN : σ63.1 25 = 3 → σ63.1 30 < 6 → σ63.1 34 + 1 < 180 → ((σ84.2.1 3 (220 * σ63.1 30 + σ63.1 34) = 8 ∧ σ84.2.1 4 (220 * σ63.1 30 + σ63.1 34) = σ.1 33) ∧ σ84.2.1 3 (220 * σ63.1 30 + (σ63.1 34 + 1)) = 13 ∧ σ84.2.1 4 (220 * σ63.1 30 + (σ63.1 34 + 1)) = (σ.1 33) + 1) ∧ OKI σ84 1 (220 * σ63.1 30 + σ63.1 34) ∧ OKI σ84 1 (220 * σ63.1 30 + (σ63.1 34 + 1)) := fun z1 z2 z3 => by
        have x1 : PXx σ63 = 220 * σ63.1 30 + σ63.1 34 := by unfold PXx; rw [if_pos (by omega)]
        have m30 : σ73.1 30 = σ63.1 30 := pbM.2.2.2.2.2.2.2
        have m25 : σ73.1 25 = σ63.1 25 := pbM.2.2.2.2.2.2.1
        have x2 : PXx σ73 = 220 * σ63.1 30 + (σ63.1 34 + 1) := by unfold PXx; rw [if_pos (by omega), m30, eAM]
        have ie := pbN.1 (220 * σ63.1 30 + σ63.1 34) (by omega) (by omega)
        have o1 := oki_bare jiM (by decide) (fun _ => by omega)
        have o2 := oki_bare jiN (by decide) (fun _ => by omega)
        have a1 := jiM
        have a2 := jiN
        rw [jvM, x1] at o1 a1
        rw [jvN, x2] at o2 a2
        exact ⟨⟨⟨ie.1.trans a1.1, ie.2.1.trans a1.2.1⟩, a2.1, a2.2.1⟩, ie.oki tbN.2.1 o1, o2⟩
      have i33 := ad1.1 33 (by decide)
      have sg5 : SGF σ3 σ84 lg1 := SGF.whl ⟨eDK, by rw [e33K, e33J, i33]⟩ (fun z1 z2 z3 => by have q := itK z1 z2 z3; rw [← i33] at q; exact ⟨⟨q.1.1, q.1.2.1⟩, q.2⟩) (pbJ.trans pbK) acx xp3 e33x ⟨eAZ, e33Z⟩ (fun z1 z2 z3 => by have x1 : PXx σ35 = 220 * σ35.1 30 + σ35.1 34 := (by unfold PXx; rw [if_pos (by omega)]); rw [← x1]; exact ⟨izZ, okZ z1 z2 z3⟩) pbZ bs bp3 ⟨eDN, by rw [e33N, e33M]⟩ (fun z1 z2 z3 => by have q := itN z1 z2 z3; rw [← i33] at q; exact q) (pbM.trans pbN) (tbJ.trans tbK) tbx tbZ bt.2.2.2.1 (tbM.trans tbN) ts1.h1
      have pqA : PBF σ24 σ84 := xp3.trans (pbZ.trans (bp3.trans (pbM.trans pbN)))
      have pqB : PBF σ3 σ84 := (pbJ.trans pbK).trans pqA
      have tbB : TBm σ3 σ84 := (tbJ.trans tbK).trans (tbx.trans (tbZ.trans (bt.2.2.2.1.trans (tbM.trans tbN))))
      have e341 : σ3.1 34 = ρ.1 34 := (ad1.1 34 (by decide)).trans (by have z := e34_.1; omega)
      have sg6 := (SGF.nil e341 (by rw [i33]; omega) : SGF ρ σ3 []).cat sg5 ts1.1 pqB ts1.2.2.2.1 tbB h0c
      have fs6 : FS ρ σ84 := (FS.nil e341 : FS ρ σ3).cat (fun z1 z2 z3 => by
          have m6 := pqA.2.2.2.2.2.1
          have q := itK z1 z2 (by omega)
          have m30 : σ24.1 30 = σ3.1 30 := (pbJ.trans pbK).2.2.2.2.2.2.2
          have m34 : σ24.1 34 = σ3.1 34 + 2 := eDK
          have h1_ := ts1.h1
          exact Or.inr (Or.inr ⟨⟨(pqA.1 _ (by omega) (by omega)).1.trans q.1.1.1, (pqA.1 _ (by omega) (by omega)).1.trans q.1.2.1⟩, by omega⟩)) ts1.1 pqB h0c
      refine tm_iconst dX12_whileStatement_119 ?_
      exact tm_zret (v := 1) rfl (by decide) dX12_whileStatement_120 (⟨_, rfl, by omega, (((((((((((Fr.rfl.trans (Fr.sub f6 (by decide) (by decide) (by decide))).S (by decide)).trans (Fr.sub f15 (by decide) (by decide) (by decide))).trans (Fr.sub f26 (by decide) (by decide) (by decide))).trans (Fr.sub f38 (by decide) (by decide) (by decide))).S (by decide)).trans (Fr.sub f48 (by decide) (by decide) (by decide))).trans (Fr.sub fArg_fr (by decide) (by decide) (by decide))).trans (Fr.sub f66 (by decide) (by decide) (by decide))).trans (Fr.sub f75 (by decide) (by decide) (by decide))).trans (Fr.sub f86 (by decide) (by decide) (by decide))), f87, ts6.1, fun _ => ⟨_, ts6.le (by decide), sg6, fs6, (((show Fr [33, 34] [3, 4, 5, 6, 7, 8] [] σ63 σ84 from ((Fr.rfl.trans (Fr.sub f75 (by decide) (by decide) (by decide))).trans (Fr.sub f86 (by decide) (by decide) (by decide)))).1 28 (by decide)).trans e285).trans e28r.symm, (((show Fr [33, 34] [3, 4, 5, 6, 7, 8] [] σ63 σ84 from ((Fr.rfl.trans (Fr.sub f75 (by decide) (by decide) (by decide))).trans (Fr.sub f86 (by decide) (by decide) (by decide)))).1 29 (by decide)).trans e295).trans e29r⟩, fun q => absurd q (by decide)⟩)
    · refine tm_iconst dX12_whileStatement_98 ?_
      exact tm_zret (v := 0) rfl (by decide) dX12_whileStatement_99 (⟨_, rfl, by omega, (((((((((Fr.rfl.trans (Fr.sub f6 (by decide) (by decide) (by decide))).S (by decide)).trans (Fr.sub f15 (by decide) (by decide) (by decide))).trans (Fr.sub f26 (by decide) (by decide) (by decide))).trans (Fr.sub f38 (by decide) (by decide) (by decide))).S (by decide)).trans (Fr.sub f48 (by decide) (by decide) (by decide))).trans (Fr.sub fArg_fr (by decide) (by decide) (by decide))).trans (Fr.sub f66 (by decide) (by decide) (by decide))), f67, (ts4.fail bp3 (bp5 (by omega) _)).1, fun q => absurd q (by omega), fun _ => (ts4.fail bp3 (bp5 (by omega) _)).2⟩)
  · refine tm_iconst dX12_whileStatement_49 ?_
    exact tm_zret (v := 0) rfl (by decide) dX12_whileStatement_50 (⟨_, rfl, by omega, (((((Fr.rfl.trans (Fr.sub f6 (by decide) (by decide) (by decide))).S (by decide)).trans (Fr.sub f15 (by decide) (by decide) (by decide))).trans (Fr.sub f26 (by decide) (by decide) (by decide))).trans (Fr.sub f38 (by decide) (by decide) (by decide))), f39, (ts2.fail xp3 (xp5.2 (by omega) _)).1, fun q => absurd q (by omega), fun _ => (ts2.fail xp3 (xp5.2 (by omega) _)).2⟩)
end
section
theorem LNP.vw0 {ρ σ : MS} (h : LNP 0 ρ σ) : vw σ = vw ρ := by
  obtain ⟨-, -, f, -, e, -⟩ := h
  have e34 : σ.1 34 = ρ.1 34 := by omega
  unfold vw tks xs
  rw [sv_fr f (by decide) (by decide), f.1 19 (by decide), f.1 20 (by decide), f.1 22 (by decide), f.1 23 (by decide), f.1 28 (by decide), f.1 29 (by decide), e34, f.2.2 24 (by decide)]
theorem LNP.px {ρ σ : MS} (h : LNP 0 ρ σ) : PXx σ = PXx ρ := by
  obtain ⟨-, -, f, -, e, -⟩ := h
  have e34 : σ.1 34 = ρ.1 34 := by omega
  unfold PXx
  rw [f.1 25 (by decide), f.1 30 (by decide), e34]
theorem LNP.line {ρ σ τ : MS} (h : LNP 0 ρ σ) (f : Fr [34] [3, 4, 5, 6, 7, 8] [] σ τ) (e : τ.1 34 = σ.1 34 + 1) (pb : PBF σ τ) : LNP 1 ρ τ := by
  obtain ⟨h1, h2, h3, h4, h5, h6, h7⟩ := h
  refine ⟨h1, h2, h3.trans (Fr.sub f (by decide) (by decide) (by decide)), h4.trans pb, ⟨by omega, ?_⟩, h6, (srt_fr f (by decide) (by decide) (by decide)).trans h7⟩
  rw [f.1 31 (by decide)]
  exact h5.2
theorem LNP.sam {ρ σ : MS} (h : LNP 0 ρ σ) : SAM ρ σ := by
  have e := h.vw0
  unfold vw at e
  exact ⟨congrArg Prod.fst e, congrArg (fun z => z.2.1) e, congrArg (fun z => z.2.2) e⟩
theorem LNP.eff {j : Int} {ρ σ : MS} (h : LNP j ρ σ) : EFF [(5, ρ.1 19, 0, 0)] ρ σ := EFF.line h.2.2.2.2.2.2
theorem LNP.lin {ρ σ τ : MS} {k : Nat} (_ : LNP 0 ρ σ) (f : Fr [34] [3, 4, 5, 6, 7, 8] [] σ τ) (e : τ.1 34 = σ.1 34 + 1) (pt : PIT σ τ (mkI 11 (σ.1 31) 0 0 0 0)) (g : ∀ c : Int, GOM [20] ρ (qq c) [] [51, k] σ (qq c) [(1, 0, 0, [])] []) : ∀ c : Int, GOM [20] ρ (qq c) [] [k] τ (qq c) [] [] := fun c => (g c).then ((u51L (CHG.put f (by decide) (by decide) (by decide) e) pt f nfr34 (f.1 33 (by decide)) : GOM [51] σ (qq c) [(1, 0, 0, [])] [] τ (qq c) [] []).more [k] [])
end
section
theorem dX12_statement_194 : decode cX12_statement 194 = .ok (.aload_n 0, 1) := by decide +kernel
theorem dX12_statement_195 : decode cX12_statement 195 = .ok (.invokevirtual 265, 3) := by decide +kernel
theorem dX12_statement_198 : decode cX12_statement 198 = .ok (.aload_n 0, 1) := by decide +kernel
theorem dX12_statement_199 : decode cX12_statement 199 = .ok (.invokevirtual 327, 3) := by decide +kernel
theorem dX12_statement_202 : decode cX12_statement 202 = .ok (.ifCond .ne 5, 3) := by decide +kernel
theorem dX12_statement_207 : decode cX12_statement 207 = .ok (.aload_n 0, 1) := by decide +kernel
theorem dX12_statement_208 : decode cX12_statement 208 = .ok (.iload_n 3, 1) := by decide +kernel
theorem dX12_statement_209 : decode cX12_statement 209 = .ok (.iconst 0, 1) := by decide +kernel
theorem dX12_statement_210 : decode cX12_statement 210 = .ok (.iconst 0, 1) := by decide +kernel
theorem dX12_statement_211 : decode cX12_statement 211 = .ok (.invokevirtual 294, 3) := by decide +kernel
theorem dX12_statement_214 : decode cX12_statement 214 = .ok (.istore_n 2, 1) := by decide +kernel
theorem dX12_statement_215 : decode cX12_statement 215 = .ok (.aload_n 0, 1) := by decide +kernel
theorem dX12_statement_216 : decode cX12_statement 216 = .ok (.iload_n 2, 1) := by decide +kernel
theorem dX12_statement_217 : decode cX12_statement 217 = .ok (.iconst 0, 1) := by decide +kernel
theorem dX12_statement_218 : decode cX12_statement 218 = .ok (.aload_n 0, 1) := by decide +kernel
theorem dX12_statement_219 : decode cX12_statement 219 = .ok (.getfield 285, 3) := by decide +kernel
theorem dX12_statement_222 : decode cX12_statement 222 = .ok (.aload_n 0, 1) := by decide +kernel
theorem dX12_statement_223 : decode cX12_statement 223 = .ok (.getfield 288, 3) := by decide +kernel
theorem dX12_statement_226 : decode cX12_statement 226 = .ok (.invokevirtual 298, 3) := by decide +kernel
theorem dX12_statement_229 : decode cX12_statement 229 = .ok (.aload_n 0, 1) := by decide +kernel
theorem dX12_statement_230 : decode cX12_statement 230 = .ok (.bipush 59, 2) := by decide +kernel
theorem dX12_statement_232 : decode cX12_statement 232 = .ok (.invokevirtual 330, 3) := by decide +kernel
theorem dX12_statement_235 : decode cX12_statement 235 = .ok (.ireturn, 1) := by decide +kernel
theorem dX12_statement_205 : decode cX12_statement 205 = .ok (.iconst 0, 1) := by decide +kernel
theorem dX12_statement_206 : decode cX12_statement 206 = .ok (.ireturn, 1) := by decide +kernel
set_option maxHeartbeats 4000000 in
set_option maxRecDepth 20000 in
theorem b_stm194 (d : Nat) {b : Nat} {σ : MS} {k3 : Int} {ρ : MS} {post : Option Value → MS → Prop} (hR : RG σ) (hln : LNP 1 ρ σ) (hli : LIT ρ σ) (hg : ∀ c : Int, GOM [20] ρ (qq c) [] [39] σ (qq c) [] []) (h28 : σ.1 28 = 0) (hk67 : k3 = 6 ∨ k3 = 7) (hk8 : OKR k3 σ) (hret : ∀ (v : Int) (τ : MS), Fr [19, 20, 22, 23, 26, 27, 28, 29, 31, 32, 33, 34, 39, 40] [3, 4, 5, 6, 7, 8, 35, 37, 41, 42] [24, 38] σ τ → RG τ → (v = 0 ∨ v = 1) → PBF ρ τ → (v = 1 → BLQ 20 2 ρ τ) → (v = 0 → ∀ c : Int, GOF [20] ρ (qq c) τ) → post (some (.int (iI v))) τ) : ∀ (n : Nat) , ((0 : Int)).toNat = n → Tm (d + 41) m_X12_statement 194 b σ [(3, .int (iI k3)), (0, .ref b)] [] post := by
  intro n
  induction n using Nat.strongRecOn with
  | _ n ih =>
    intro   hm
    have tk0 := hln.tok.1
    have rd0 := hln.1.2
    have f0 := hln.2.2.1
    have e30_ := f0.1 30 (by decide)
    have e34_ := hln.2.2.2.2.1
    have nn0 : NN σ := hln.2.2.2.1.2.2.1
    have h0c := hln.h0
    have e28r : ρ.1 28 = 0 := (f0.1 28 (by decide)).symm.trans h28
    have e29r := f0.1 29 (by decide)
    have e33r := f0.1 33 (by decide)
    refine tm_aload_n dX12_statement_194 rfl 1 rfl ?_
    refine tm_callV (M := m_X12_statement) (pc := 195) (ix := 265) (M' := m_X12_advance) (As := []) (rest := []) dX12_statement_195 ok_X12_advance im_X12_advance se_X12_advance ml12_265 np_X12_advance rfl rfl (Nat.le_of_ble_eq_true rfl) (Nat.le_of_ble_eq_true rfl) rfl (c_X12_advance (d + 35) (σ := σ)  hR (by omega)) (fun r1 σ2 hp => ?_)
    obtain ⟨rfl, f4, f5, f6, f7, f8⟩ := hp
    show Tm _ _ 198 b σ2 [(3, .int (iI k3)), (0, .ref b)] [] _
    have ad0 := f4
    have ad1 := f5
    have ad2 := f6
    have ad3 := f7
    have ad4 := f8
    have fA1 := (show Fr [19, 20, 22, 23, 26, 27] [35] [24, 38] σ σ2 from (Fr.rfl.trans (Fr.sub f5 (by decide) (by decide) (by decide))))
    have pb1 : PBF σ σ2 := PBF.nop nn0 ad1 (by decide) (by decide) (by decide)
    have ts1 : TS 20 (2 - 1) ρ [2, 51, 159] σ2 qq [] [(10, k3, 0, [])] := TS.line hln (by decide) fA1 pb1 ad3 ad4 ((hg _).then (u39 hk8 ad0 (MSE.fr ad1 (by decide) (by decide) (by decide))))
    have tk1 := ad3.1
    have e281 : σ2.1 28 = 0 := (ad1.1 28 (by decide)).trans h28
    refine tm_aload_n dX12_statement_198 rfl 1 rfl ?_
    refine tm_callV (M := m_X12_statement) (pc := 199) (ix := 327) (M' := m_X12_expression) (As := []) (rest := []) dX12_statement_199 ok_X12_expression im_X12_expression se_X12_expression ml12_327 np_X12_expression rfl rfl (Nat.le_of_ble_eq_true rfl) (Nat.le_of_ble_eq_true rfl) rfl (c_exp8 (d) (σ := σ2)  f6 ts1.2.2.1 ts1.nn e281) (fun r9 σ10 hp => ?_)
    obtain ⟨v11, rfl, f12, f13, f14, f15, f16, f17, f18⟩ := hp
    show Tm _ _ 202 b σ10 [(3, .int (iI k3)), (0, .ref b)] [.int (iI v11)] _
    have xp0 := f12
    have xp1 := f13
    have xp2 := f14
    have xp3 := f15
    have xp4 := f16
    have xp5 := f17
    have xp6 := f18
    refine tm_if_ne (tgt := 207) dX12_statement_202 (by decide) ⟨by omega, by omega⟩ (fun h19 => ?_) (fun h19 => ?_)
    · have ts2 := ts1.exp xp1 xp3 (xp4 (by omega)) (xp5.1 (by omega))
      have ex4 := xp4 (by omega)
      have gt := ex4.2.2.1
      unfold GTm at gt
      have rdx := ts2.2.2.1.2
      have tkx := ts2.2.2.1.1.1
      have acx := ex4.2.2.2.1
      have tbx := TBm.of xp1 (by decide) (by decide) (by decide) (by decide)
      have e33x := xp1.1 33 (by decide)
      have e33s : σ10.1 33 = σ.1 33 := rs_F f13 (by decide) (rs_F f5 (by decide) (rfl))
      refine tm_aload_n dX12_statement_207 rfl 1 rfl ?_
      refine tm_iload_n dX12_statement_208 rfl 0 rfl ?_
      refine tm_iconst dX12_statement_209 ?_
      refine tm_iconst dX12_statement_210 ?_
      refine tm_callV (M := m_X12_statement) (pc := 211) (ix := 294) (M' := m_X12_put) (As := [.int (iI k3), .int (iI 0), .int (iI 0)]) (rest := []) dX12_statement_211 ok_X12_put im_X12_put se_X12_put ml12_294 np_X12_put rfl rfl (Nat.le_of_ble_eq_true rfl) (Nat.le_of_ble_eq_true rfl) rfl (c_X12_put (d + 38) (σ := σ10) (k := k3) (e := 0) (o := 0) f14 (by rw [show σ10.1 30 = σ.1 30 from rs_F f13 (by decide) (rs_F f5 (by decide) (rfl)), show σ10.1 34 = σ10.1 34 from rfl]; omega) (by omega) (by omega) (by omega)) (fun r20 σ21 hp => ?_)
      obtain ⟨v22, rfl, f23, f24, f25, f26, f27, f28, f29, f30⟩ := hp
      show Tm _ _ 214 b σ21 [(3, .int (iI k3)), (0, .ref b)] [.int (iI v22)] _
      have jvP := f25
      have jnP := f26
      have jiP := f27
      have joP := f28
      have jrP := f29
      have jzP := f30
      refine tm_istore_n (L' := [(2, .int (iI v22)), (3, .int (iI k3)), (0, .ref b)]) dX12_statement_214 rfl (by decide) rfl ?_
      refine tm_aload_n dX12_statement_215 rfl 2 rfl ?_
      refine tm_iload_n dX12_statement_216 rfl 0 rfl ?_
      refine tm_iconst dX12_statement_217 ?_
      refine tm_aload_n dX12_statement_218 rfl 2 rfl ?_
      refine tm_getS (k := 39) (t := σ10.1 39) dX12_statement_219 (by decide) fl12_285 rfl (rs_F f23 (by decide) (rfl)) ?_
      have g31 := RG.s f14 39
      refine tm_aload_n dX12_statement_222 rfl 2 rfl ?_
      refine tm_getS (k := 40) (t := σ10.1 40) dX12_statement_223 (by decide) fl12_288 rfl (rs_F f23 (by decide) (rfl)) ?_
      have g32 := RG.s f14 40
      refine tm_callV (M := m_X12_statement) (pc := 226) (ix := 298) (M' := m_X12_setArg) (As := [.int (iI v22), .int (iI 0), .int (iI (σ10.1 39)), .int (iI (σ10.1 40))]) (rest := []) dX12_statement_226 ok_X12_setArg im_X12_setArg se_X12_setArg ml12_298 np_X12_setArg rfl rfl (Nat.le_of_ble_eq_true rfl) (Nat.le_of_ble_eq_true rfl) rfl (c_X12_setArg (d + 39) (σ := σ21) (x := v22) (i := 0) (k := σ10.1 39) (w := σ10.1 40) (by omega)) (fun r33 σ34 hp => ?_)
      obtain ⟨rfl, f36⟩ := hp
      subst f36
      show Tm _ _ 229 b (fArg (v22) (0) (σ10.1 39) (σ10.1 40) σ21) [(2, .int (iI v22)), (3, .int (iI k3)), (0, .ref b)] [] _
      have jvP : _ = PXx σ10 := jvP
      have fAP := (show Fr [33, 34] [3, 4, 5, 6, 7, 8] [] σ10 (fArg (v22) (0) (σ10.1 39) (σ10.1 40) σ21) from ((Fr.rfl.trans (Fr.sub f23 (by decide) (by decide) (by decide))).trans (Fr.sub fArg_fr (by decide) (by decide) (by decide))))
      have eAP : (fArg (v22) (0) (σ10.1 39) (σ10.1 40) σ21).1 34 = σ10.1 34 + 1 := jnP
      have pbP : PBF σ10 (fArg (v22) (0) (σ10.1 39) (σ10.1 40) σ21) := PBF.it ts2.nn fAP (by decide) (by decide) (by decide) eAP jvP (joP.trans (OFF.arg (by decide) (by decide)))
      have tbP : TBm σ10 (fArg (v22) (0) (σ10.1 39) (σ10.1 40) σ21) := TBm.of fAP (by decide) (by decide) (by decide) (by decide)
      have ptP : PIT σ10 (fArg (v22) (0) (σ10.1 39) (σ10.1 40) σ21) (mkI k3 0 0 (σ10.1 39) (σ10.1 40) 0) := by exact PIT.at jvP eAP (joP.trans (OFF.arg (by decide) (by decide))) (ri_one jzP)
      have e33P : (fArg (v22) (0) (σ10.1 39) (σ10.1 40) σ21).1 33 = σ10.1 33 := f23.1 33 (by decide)
      have ts3 := ts2.puts (m := 1) fAP pbP eAP (by omega) (by decide) hln.1 (u51O (CHG.put fAP (by decide) (by decide) (by decide) eAP) ptP hk67 fAP nfr33 e33P)
      have pq2 := pb1.trans xp3
      have ac2 : AC σ σ10 := (AC.nil (ad1.1 34 (by decide))).trans pb1 acx xp3 (by omega)
      have e331 := ad1.1 33 (by decide)
      have asP : ASF σ (fArg (v22) (0) (σ10.1 39) (σ10.1 40) σ21) [] := (ASF.num ac2 pq2 (by omega)).snoc pq2 pbP tbP eAP (fun z1 z2 z3 => by rw [← jvP]; exact oki_arg1 jiP (by omega) (fun q => by omega) (fun q => by omega) (by omega)) (by rw [← jvP]; have z := jiP.1; rcases hk67 with q | q; exact Or.inr (Or.inl (by rw [← q]; exact z)); exact Or.inr (Or.inr (Or.inl (by rw [← q]; exact z)))) (by omega)
      have pqP := pq2.trans pbP
      have tkP := ts3.2.2.1.1.1
      have e28P : (fArg (v22) (0) (σ10.1 39) (σ10.1 40) σ21).1 28 = 0 := (fAP.1 28 (by decide)).trans (xp6.trans e281)
      have tbS : TBm σ (fArg (v22) (0) (σ10.1 39) (σ10.1 40) σ21) := TBm.of (show Fr [19, 20, 22, 23, 26, 27, 28, 32, 34, 39, 40] [3, 4, 5, 6, 7, 8, 35] [24, 38] σ (fArg (v22) (0) (σ10.1 39) (σ10.1 40) σ21) from ((((Fr.rfl.trans (Fr.sub f5 (by decide) (by decide) (by decide))).trans (Fr.sub f13 (by decide) (by decide) (by decide))).trans (Fr.sub f23 (by decide) (by decide) (by decide))).trans (Fr.sub fArg_fr (by decide) (by decide) (by decide)))) (by decide) (by decide) (by decide) (by decide)
      refine tm_aload_n dX12_statement_229 rfl 2 rfl ?_
      refine tm_bipush dX12_statement_230 (by decide) ?_
      refine tm_callV (M := m_X12_statement) (pc := 232) (ix := 330) (M' := m_X12_need) (As := [.int (iI 59)]) (rest := []) dX12_statement_232 ok_X12_need im_X12_need se_X12_need ml12_330 np_X12_need rfl rfl (Nat.le_of_ble_eq_true rfl) (Nat.le_of_ble_eq_true rfl) rfl (c_X12_need (d + 34) (σ := (fArg (v22) (0) (σ10.1 39) (σ10.1 40) σ21)) (c := 59) ((f24).arg (by omega) (by omega)) (by omega) (by omega)) (fun r37 σ38 hp => ?_)
      obtain ⟨v39, rfl, f40, f41, f42, f43, f44, f45, f46⟩ := hp
      show Tm _ _ 235 b σ38 [(2, .int (iI v22)), (3, .int (iI k3)), (0, .ref b)] [.int (iI v39)] _
      have zn0 := f40
      have zn1 := f41
      have zn2 := f42
      have zn3 := f43
      have zn4 := f44
      have zn5 := f45
      have zn6 := f46
      have pbN : PBF _ σ38 := PBF.of ts3.nn zn1 (by decide) (by decide) (by decide) zn5
      have pqN := pqP.trans pbN
      have e33N := zn1.1 33 (by decide)
      have e29N : σ38.1 29 = σ.1 29 := rs_F f41 (by decide) (rs_F fArg_fr (by decide) (rs_F f23 (by decide) (rs_F f13 (by decide) (rs_F f5 (by decide) (rfl)))))
      exact tm_zret (v := v39) rfl (by omega) dX12_statement_235 (hret _ _ (((((Fr.rfl.trans (Fr.sub f5 (by decide) (by decide) (by decide))).trans (Fr.sub f13 (by decide) (by decide) (by decide))).trans (Fr.sub f23 (by decide) (by decide) (by decide))).trans (Fr.sub fArg_fr (by decide) (by decide) (by decide))).trans (Fr.sub f41 (by decide) (by decide) (by decide))) f42 zn0 (ts3.1.trans pbN) (fun z => have znq := zn3 z; ⟨[], (ts3.needy zn1 znq.2.2.1 znq.2.2.2.1 znq.2.2.2.2 (by have z := znq.1.1; omega) (un_59 znq.1 znq.2.1 (MSE.fr zn1 (by decide) (by decide) (by decide)))).le (by decide), SGF.line e34_.1 hli hln.2.2.2.1 pqN hln.tb (tbS.trans (TBm.of zn1 (by decide) (by decide) (by decide) (by decide))) (by omega) (asP.mv pqP pbN (TBm.of zn1 (by decide) (by decide) (by decide) (by decide)) (zn1.1 34 (by decide)) (by omega)) h0c, FS.of hli e34_.1 hln.2.2.2.1 pqN h0c, ((zn1.1 28 (by decide)).trans e28P).trans e28r.symm, e29N.trans e29r⟩) (fun z => (ts3.fail pbN (gf_59 (zn4 z) (zn6 z))).2))
    · refine tm_iconst dX12_statement_205 ?_
      exact tm_zret (v := 0) rfl (by decide) dX12_statement_206 (hret _ _ ((Fr.rfl.trans (Fr.sub f5 (by decide) (by decide) (by decide))).trans (Fr.sub f13 (by decide) (by decide) (by decide))) f14 (by omega) (ts1.fail xp3 (xp5.2 (by omega) _)).1 (fun q => absurd q (by omega)) (fun _ => (ts1.fail xp3 (xp5.2 (by omega) _)).2))
theorem ml12_352 : Cond.methodLink RX12 352 yX12_assignment ∈ pWW := pw9 (List.mem_of_getElem? (i := 9) rfl) rfl
theorem ml12_349 : Cond.methodLink RX12 349 yX12_ifStatement ∈ pWW := pw9 (List.mem_of_getElem? (i := 5) rfl) rfl
theorem ml12_346 : Cond.methodLink RX12 346 yX12_whileStatement ∈ pWW := pw8 (List.mem_of_getElem? (i := 201) rfl) rfl
theorem dX12_statement_114 : decode cX12_statement 114 = .ok (.aload_n 0, 1) := by decide +kernel
theorem dX12_statement_115 : decode cX12_statement 115 = .ok (.ldc2_w 250, 3) := by decide +kernel
theorem dX12_statement_118 : decode cX12_statement 118 = .ok (.invokevirtual 339, 3) := by decide +kernel
theorem dX12_statement_121 : decode cX12_statement 121 = .ok (.ifCond .eq 8, 3) := by decide +kernel
theorem dX12_statement_129 : decode cX12_statement 129 = .ok (.aload_n 0, 1) := by decide +kernel
theorem dX12_statement_130 : decode cX12_statement 130 = .ok (.bipush 11, 2) := by decide +kernel
theorem dX12_statement_132 : decode cX12_statement 132 = .ok (.aload_n 0, 1) := by decide +kernel
theorem dX12_statement_133 : decode cX12_statement 133 = .ok (.getfield 343, 3) := by decide +kernel
theorem dX12_statement_136 : decode cX12_statement 136 = .ok (.iconst 0, 1) := by decide +kernel
theorem dX12_statement_137 : decode cX12_statement 137 = .ok (.invokevirtual 294, 3) := by decide +kernel
theorem dX12_statement_140 : decode cX12_statement 140 = .ok (.istore_n 2, 1) := by decide +kernel
theorem dX12_statement_141 : decode cX12_statement 141 = .ok (.aload_n 0, 1) := by decide +kernel
theorem dX12_statement_142 : decode cX12_statement 142 = .ok (.ldc2_w 246, 3) := by decide +kernel
theorem dX12_statement_145 : decode cX12_statement 145 = .ok (.invokevirtual 339, 3) := by decide +kernel
theorem dX12_statement_148 : decode cX12_statement 148 = .ok (.ifCond .eq 8, 3) := by decide +kernel
theorem dX12_statement_156 : decode cX12_statement 156 = .ok (.aload_n 0, 1) := by decide +kernel
theorem dX12_statement_157 : decode cX12_statement 157 = .ok (.ldc2_w 242, 3) := by decide +kernel
theorem dX12_statement_160 : decode cX12_statement 160 = .ok (.invokevirtual 339, 3) := by decide +kernel
theorem dX12_statement_163 : decode cX12_statement 163 = .ok (.ifCond .ne 13, 3) := by decide +kernel
theorem dX12_statement_176 : decode cX12_statement 176 = .ok (.aload_n 0, 1) := by decide +kernel
theorem dX12_statement_177 : decode cX12_statement 177 = .ok (.ldc2_w 242, 3) := by decide +kernel
theorem dX12_statement_180 : decode cX12_statement 180 = .ok (.invokevirtual 339, 3) := by decide +kernel
theorem dX12_statement_183 : decode cX12_statement 183 = .ok (.ifCond .eq 8, 3) := by decide +kernel
theorem dX12_statement_191 : decode cX12_statement 191 = .ok (.bipush 7, 2) := by decide +kernel
theorem dX12_statement_193 : decode cX12_statement 193 = .ok (.istore_n 3, 1) := by decide +kernel
theorem dX12_statement_186 : decode cX12_statement 186 = .ok (.bipush 6, 2) := by decide +kernel
theorem dX12_statement_188 : decode cX12_statement 188 = .ok (.goto 5, 3) := by decide +kernel
theorem dX12_statement_166 : decode cX12_statement 166 = .ok (.aload_n 0, 1) := by decide +kernel
theorem dX12_statement_167 : decode cX12_statement 167 = .ok (.ldc2_w 244, 3) := by decide +kernel
theorem dX12_statement_170 : decode cX12_statement 170 = .ok (.invokevirtual 339, 3) := by decide +kernel
theorem dX12_statement_173 : decode cX12_statement 173 = .ok (.ifCond .eq 63, 3) := by decide +kernel
theorem dX12_statement_236 : decode cX12_statement 236 = .ok (.aload_n 0, 1) := by decide +kernel
theorem dX12_statement_237 : decode cX12_statement 237 = .ok (.invokevirtual 352, 3) := by decide +kernel
theorem dX12_statement_240 : decode cX12_statement 240 = .ok (.ireturn, 1) := by decide +kernel
theorem dX12_statement_151 : decode cX12_statement 151 = .ok (.aload_n 0, 1) := by decide +kernel
theorem dX12_statement_152 : decode cX12_statement 152 = .ok (.invokevirtual 349, 3) := by decide +kernel
theorem dX12_statement_155 : decode cX12_statement 155 = .ok (.ireturn, 1) := by decide +kernel
theorem dX12_statement_124 : decode cX12_statement 124 = .ok (.aload_n 0, 1) := by decide +kernel
theorem dX12_statement_125 : decode cX12_statement 125 = .ok (.invokevirtual 346, 3) := by decide +kernel
theorem dX12_statement_128 : decode cX12_statement 128 = .ok (.ireturn, 1) := by decide +kernel
set_option maxHeartbeats 4000000 in
set_option maxRecDepth 20000 in
theorem b_stm114 (d : Nat) {b : Nat} {σ : MS} {lv : Nat} {ρ : MS} {post : Option Value → MS → Prop} (hcb : ∀ (d : Nat) {b : Nat} {σ : MS} (hR : RG σ) (hrd : RDY σ) (hnn : NN σ) (h28 : σ.1 28 = 0) (h29 : σ.1 29 = 6 - (lv : Int)) (ht : 0 ≤ σ.1 43 ∧ σ.1 43 ≤ 260), Tm (d + 3 * lv + 44) m_X12_block 0 b σ [(0, .ref b)] [] (fun ro σ2 => ∃ v : Int, ro = some (.int (iI v)) ∧ ((v = 0 ∨ v = 1)) ∧ (Fr [19, 20, 22, 23, 26, 27, 28, 29, 31, 32, 33, 34, 39, 40] [3, 4, 5, 6, 7, 8, 35, 37, 41, 42] [24, 38] σ σ2) ∧ (RG σ2) ∧ (PBF σ σ2) ∧ (Im v 1 (BLQ 28 4 σ σ2)) ∧ (Im v 0 (∀ c : Int, GOF [28] σ (qq c) σ2)))) (hR : RG σ) (hln : LNP 0 ρ σ) (hst : STM ρ σ) (hw0 : NMW ρ ∨ WD ρ 7304564 ∨ WD ρ 125780071117422 ∨ WD ρ 26982 ∨ WD ρ 512852847717) (h28 : σ.1 28 = 0) (h29 : σ.1 29 = 6 - (lv : Int)) (ht : 0 ≤ σ.1 43 ∧ σ.1 43 ≤ 260) (hret : ∀ (v : Int) (τ : MS), Fr [19, 20, 22, 23, 26, 27, 28, 29, 31, 32, 33, 34, 39, 40] [3, 4, 5, 6, 7, 8, 35, 37, 41, 42] [24, 38] σ τ → RG τ → (v = 0 ∨ v = 1) → PBF ρ τ → (v = 1 → BLQ 20 2 ρ τ) → (v = 0 → ∀ c : Int, GOF [20] ρ (qq c) τ) → post (some (.int (iI v))) τ) : ∀ (n : Nat) , ((0 : Int)).toNat = n → Tm (d + 3 * lv + 46) m_X12_statement 114 b σ [(0, .ref b)] [] post := by
  intro n
  induction n using Nat.strongRecOn with
  | _ n ih =>
    intro   hm
    have tk0 := hln.tok.1
    have rd0 := hln.1.2
    have f0 := hln.2.2.1
    have e30_ := f0.1 30 (by decide)
    have e34_ := hln.2.2.2.2.1
    have nn0 : NN σ := hln.2.2.2.1.2.2.1
    have h0c := hln.h0
    have e28r : ρ.1 28 = 0 := (f0.1 28 (by decide)).symm.trans h28
    have e29r := f0.1 29 (by decide)
    have e33r := f0.1 33 (by decide)
    have e19_ := f0.1 19 (by decide)
    refine tm_aload_n dX12_statement_114 rfl 0 rfl ?_
    refine tm_ldc2 dX12_statement_115 cst12_250 ?_
    refine tm_callV (M := m_X12_statement) (pc := 118) (ix := 339) (M' := m_X12_isWord) (As := [.long (512852847717)]) (rest := []) dX12_statement_118 ok_X12_isWord im_X12_isWord se_X12_isWord ml12_339 np_X12_isWord rfl rfl (Nat.le_of_ble_eq_true rfl) (Nat.le_of_ble_eq_true rfl) rfl (c2_X12_isWord (d + 3 * lv + 44) (σ := σ) (w := 512852847717) hR) (fun r1 σ2 hp => ?_)
    obtain ⟨v3, rfl, rfl, f4, f5, f6⟩ := hp
    show Tm _ _ 121 b σ [(0, .ref b)] [.int (iI v3)] _
    have iww := f5
    have nww_ := f6
    refine tm_if_eq (tgt := 129) dX12_statement_121 (by decide) ⟨by omega, by omega⟩ (fun h7 => ?_) (fun h7 => ?_)
    · refine tm_aload_n dX12_statement_129 rfl 0 rfl ?_
      refine tm_bipush dX12_statement_130 (by decide) ?_
      refine tm_aload_n dX12_statement_132 rfl 0 rfl ?_
      refine tm_getS (k := 31) (t := σ.1 31) dX12_statement_133 (by decide) fl12_343 rfl (rfl) ?_
      have g8 := RG.s hR 31
      refine tm_iconst dX12_statement_136 ?_
      refine tm_callV (M := m_X12_statement) (pc := 137) (ix := 294) (M' := m_X12_put) (As := [.int (iI 11), .int (iI (σ.1 31)), .int (iI 0)]) (rest := []) dX12_statement_137 ok_X12_put im_X12_put se_X12_put ml12_294 np_X12_put rfl rfl (Nat.le_of_ble_eq_true rfl) (Nat.le_of_ble_eq_true rfl) rfl (c_X12_put (d + 3 * lv + 43) (σ := σ) (k := 11) (e := σ.1 31) (o := 0) hR (by omega) (by omega) (by omega) (by omega)) (fun r9 σ10 hp => ?_)
      obtain ⟨v11, rfl, f12, f13, f14, f15, f16, f17, f18, f19⟩ := hp
      show Tm _ _ 140 b σ10 [(0, .ref b)] [.int (iI v11)] _
      have jvP := f14
      have jnP := f15
      have jiP := f16
      have joP := f17
      have jrP := f18
      have jzP := f19
      refine tm_istore_n (L' := [(2, .int (iI v11)), (0, .ref b)]) dX12_statement_140 rfl (by decide) rfl ?_
      have pbP : PBF σ σ10 := PBF.it nn0 f12 (by decide) (by decide) (by decide) jnP jvP joP
      have ptP : PIT σ σ10 (mkI 11 (σ.1 31) 0 0 0 0) := PIT.at jvP jnP joP jzP
      have ln1 : LNP 1 ρ σ10 := hln.line f12 jnP pbP
      have li1 : LIT ρ σ10 := by unfold LIT; rw [← hln.px, ← jvP]; exact ⟨⟨jiP.1, jiP.2.2.1⟩, oki_bare jiP (by decide) (fun q => absurd rfl q)⟩
      have e281 : σ10.1 28 = 0 := (f12.1 28 (by decide)).trans h28
      have e291 : σ10.1 29 = 6 - (lv : Int) := (f12.1 29 (by decide)).trans h29
      have e431 : 0 ≤ σ10.1 43 ∧ σ10.1 43 ≤ 260 := by rw [f12.1 43 (by decide)]; exact ht
      have R1 := f13
      have now : ¬ WD ρ 512852847717 := fun z => nww_ (by omega) ((WD.bk hln.2.2.1 (by decide) (by decide)).mpr z)
      refine tm_aload_n dX12_statement_141 rfl 1 rfl ?_
      refine tm_ldc2 dX12_statement_142 cst12_246 ?_
      refine tm_callV (M := m_X12_statement) (pc := 145) (ix := 339) (M' := m_X12_isWord) (As := [.long (26982)]) (rest := []) dX12_statement_145 ok_X12_isWord im_X12_isWord se_X12_isWord ml12_339 np_X12_isWord rfl rfl (Nat.le_of_ble_eq_true rfl) (Nat.le_of_ble_eq_true rfl) rfl (c2_X12_isWord (d + 3 * lv + 44) (σ := σ10) (w := 26982) f13) (fun r20 σ21 hp => ?_)
      obtain ⟨v22, rfl, rfl, f23, f24, f25⟩ := hp
      show Tm _ _ 148 b σ10 [(2, .int (iI v11)), (0, .ref b)] [.int (iI v22)] _
      have iwi := f24
      have nwi_ := f25
      refine tm_if_eq (tgt := 156) dX12_statement_148 (by decide) ⟨by omega, by omega⟩ (fun h32 => ?_) (fun h32 => ?_)
      · have noi : ¬ WD ρ 26982 := fun z => nwi_ (by omega) ((WD.bk ln1.2.2.1 (by decide) (by decide)).mpr z)
        refine tm_aload_n dX12_statement_156 rfl 1 rfl ?_
        refine tm_ldc2 dX12_statement_157 cst12_242 ?_
        refine tm_callV (M := m_X12_statement) (pc := 160) (ix := 339) (M' := m_X12_isWord) (As := [.long (7304564)]) (rest := []) dX12_statement_160 ok_X12_isWord im_X12_isWord se_X12_isWord ml12_339 np_X12_isWord rfl rfl (Nat.le_of_ble_eq_true rfl) (Nat.le_of_ble_eq_true rfl) rfl (c2_X12_isWord (d + 3 * lv + 44) (σ := σ10) (w := 7304564) f13) (fun r33 σ34 hp => ?_)
        obtain ⟨v35, rfl, rfl, f36, f37, f38⟩ := hp
        show Tm _ _ 163 b σ10 [(2, .int (iI v11)), (0, .ref b)] [.int (iI v35)] _
        have iwo := f37
        have nwo_ := f38
        refine tm_if_ne (tgt := 176) dX12_statement_163 (by decide) ⟨by omega, by omega⟩ (fun h39 => ?_) (fun h39 => ?_)
        · have woy := (WD.bk ln1.2.2.1 (by decide) (by decide)).mp (iwo (by omega))
          refine tm_aload_n dX12_statement_176 rfl 1 rfl ?_
          refine tm_ldc2 dX12_statement_177 cst12_242 ?_
          refine tm_callV (M := m_X12_statement) (pc := 180) (ix := 339) (M' := m_X12_isWord) (As := [.long (7304564)]) (rest := []) dX12_statement_180 ok_X12_isWord im_X12_isWord se_X12_isWord ml12_339 np_X12_isWord rfl rfl (Nat.le_of_ble_eq_true rfl) (Nat.le_of_ble_eq_true rfl) rfl (c2_X12_isWord (d + 3 * lv + 44) (σ := σ10) (w := 7304564) f13) (fun r40 σ41 hp => ?_)
          obtain ⟨v42, rfl, rfl, f43, f44, f45⟩ := hp
          show Tm _ _ 183 b σ10 [(2, .int (iI v11)), (0, .ref b)] [.int (iI v42)] _
          have iw6 := f44
          have nw6_ := f45
          refine tm_if_eq (tgt := 191) dX12_statement_183 (by decide) ⟨by omega, by omega⟩ (fun h46 => ?_) (fun h46 => ?_)
          · refine tm_bipush dX12_statement_191 (by decide) ?_
            refine tm_istore_n (L' := [(3, .int (iI 7)), (2, .int (iI v11)), (0, .ref b)]) dX12_statement_193 rfl (by decide) rfl ?_
            refine tm_sub [0, 2] rfl (b_stm194 (d + 3 * lv + 5) (σ := σ10) (k3 := 7) (ρ := ρ) R1 ln1 li1 (hln.lin f12 jnP ptP (fun c => u20o now noi (Or.inl woy) hln.sam hln.eff hst)) e281 (by omega) (Or.inr ⟨rfl, nw6_ (by omega)⟩) (fun v τ z1 z2 z3 z4 z5 z6 => hret v τ ((show Fr [19, 20, 22, 23, 26, 27, 28, 29, 31, 32, 33, 34, 39, 40] [3, 4, 5, 6, 7, 8, 35, 37, 41, 42] [24, 38] σ σ10 from (Fr.rfl.trans (Fr.sub f12 (by decide) (by decide) (by decide)))).trans z1) z2 z3 z4 z5 z6) _  rfl)
          · refine tm_bipush dX12_statement_186 (by decide) ?_
            refine tm_goto (tgt := 193) dX12_statement_188 (by decide) ?_
            refine tm_istore_n (L' := [(3, .int (iI 6)), (2, .int (iI v11)), (0, .ref b)]) dX12_statement_193 rfl (by decide) rfl ?_
            refine tm_sub [0, 2] rfl (b_stm194 (d + 3 * lv + 5) (σ := σ10) (k3 := 6) (ρ := ρ) R1 ln1 li1 (hln.lin f12 jnP ptP (fun c => u20o now noi (Or.inl woy) hln.sam hln.eff hst)) e281 (by omega) (Or.inl ⟨rfl, iw6 (by omega)⟩) (fun v τ z1 z2 z3 z4 z5 z6 => hret v τ ((show Fr [19, 20, 22, 23, 26, 27, 28, 29, 31, 32, 33, 34, 39, 40] [3, 4, 5, 6, 7, 8, 35, 37, 41, 42] [24, 38] σ σ10 from (Fr.rfl.trans (Fr.sub f12 (by decide) (by decide) (by decide)))).trans z1) z2 z3 z4 z5 z6) _  rfl)
        · refine tm_aload_n dX12_statement_166 rfl 1 rfl ?_
          refine tm_ldc2 dX12_statement_167 cst12_244 ?_
          refine tm_callV (M := m_X12_statement) (pc := 170) (ix := 339) (M' := m_X12_isWord) (As := [.long (125780071117422)]) (rest := []) dX12_statement_170 ok_X12_isWord im_X12_isWord se_X12_isWord ml12_339 np_X12_isWord rfl rfl (Nat.le_of_ble_eq_true rfl) (Nat.le_of_ble_eq_true rfl) rfl (c2_X12_isWord (d + 3 * lv + 44) (σ := σ10) (w := 125780071117422) f13) (fun r47 σ48 hp => ?_)
          obtain ⟨v49, rfl, rfl, f50, f51, f52⟩ := hp
          show Tm _ _ 173 b σ10 [(2, .int (iI v11)), (0, .ref b)] [.int (iI v49)] _
          have iwr := f51
          have nwr_ := f52
          refine tm_if_eq (tgt := 236) dX12_statement_173 (by decide) ⟨by omega, by omega⟩ (fun h53 => ?_) (fun h53 => ?_)
          · have nor : ¬ WD ρ 125780071117422 := fun z => nwr_ (by omega) ((WD.bk ln1.2.2.1 (by decide) (by decide)).mpr z)
            have noo : ¬ WD ρ 7304564 := fun z => nwo_ (by omega) ((WD.bk ln1.2.2.1 (by decide) (by decide)).mpr z)
            have nm_ : NMW ρ := by
              rcases hw0 with z | z | z | z | z
              · exact z
              · exact absurd z noo
              · exact absurd z nor
              · exact absurd z noi
              · exact absurd z now
            refine tm_aload_n dX12_statement_236 rfl 1 rfl ?_
            refine tm_callV (M := m_X12_statement) (pc := 237) (ix := 352) (M' := m_X12_assignment) (As := []) (rest := []) dX12_statement_237 ok_X12_assignment im_X12_assignment se_X12_assignment ml12_352 np_X12_assignment rfl rfl (Nat.le_of_ble_eq_true rfl) (Nat.le_of_ble_eq_true rfl) rfl (c_X12_assignment (d + 3 * lv + 2) (σ := σ10) (ρ := ρ) R1 ln1 li1 (hln.lin f12 jnP ptP (fun c => u20n now noi noo nor nm_ hln.sam hln.eff hst)) e281 e431) (fun r54 σ55 hp => ?_)
            obtain ⟨v56, rfl, f57, f58, f59, f60, f61, f62⟩ := hp
            show Tm _ _ 240 b σ55 [(2, .int (iI v11)), (0, .ref b)] [.int (iI v56)] _
            exact tm_zret (v := v56) rfl (by omega) dX12_statement_240 (hret _ _ ((Fr.rfl.trans (Fr.sub f12 (by decide) (by decide) (by decide))).trans (Fr.sub f58 (by decide) (by decide) (by decide))) f59 f57 f60 f61 f62)
          · have wry := (WD.bk ln1.2.2.1 (by decide) (by decide)).mp (iwr (by omega))
            refine tm_aload_n dX12_statement_176 rfl 1 rfl ?_
            refine tm_ldc2 dX12_statement_177 cst12_242 ?_
            refine tm_callV (M := m_X12_statement) (pc := 180) (ix := 339) (M' := m_X12_isWord) (As := [.long (7304564)]) (rest := []) dX12_statement_180 ok_X12_isWord im_X12_isWord se_X12_isWord ml12_339 np_X12_isWord rfl rfl (Nat.le_of_ble_eq_true rfl) (Nat.le_of_ble_eq_true rfl) rfl (c2_X12_isWord (d + 3 * lv + 44) (σ := σ10) (w := 7304564) f13) (fun r63 σ64 hp => ?_)
            obtain ⟨v65, rfl, rfl, f66, f67, f68⟩ := hp
            show Tm _ _ 183 b σ10 [(2, .int (iI v11)), (0, .ref b)] [.int (iI v65)] _
            have iw6 := f67
            have nw6_ := f68
            refine tm_if_eq (tgt := 191) dX12_statement_183 (by decide) ⟨by omega, by omega⟩ (fun h69 => ?_) (fun h69 => ?_)
            · refine tm_bipush dX12_statement_191 (by decide) ?_
              refine tm_istore_n (L' := [(3, .int (iI 7)), (2, .int (iI v11)), (0, .ref b)]) dX12_statement_193 rfl (by decide) rfl ?_
              refine tm_sub [0, 2] rfl (b_stm194 (d + 3 * lv + 5) (σ := σ10) (k3 := 7) (ρ := ρ) R1 ln1 li1 (hln.lin f12 jnP ptP (fun c => u20o now noi (Or.inr wry) hln.sam hln.eff hst)) e281 (by omega) (Or.inr ⟨rfl, nw6_ (by omega)⟩) (fun v τ z1 z2 z3 z4 z5 z6 => hret v τ ((show Fr [19, 20, 22, 23, 26, 27, 28, 29, 31, 32, 33, 34, 39, 40] [3, 4, 5, 6, 7, 8, 35, 37, 41, 42] [24, 38] σ σ10 from (Fr.rfl.trans (Fr.sub f12 (by decide) (by decide) (by decide)))).trans z1) z2 z3 z4 z5 z6) _  rfl)
            · refine tm_bipush dX12_statement_186 (by decide) ?_
              refine tm_goto (tgt := 193) dX12_statement_188 (by decide) ?_
              refine tm_istore_n (L' := [(3, .int (iI 6)), (2, .int (iI v11)), (0, .ref b)]) dX12_statement_193 rfl (by decide) rfl ?_
              refine tm_sub [0, 2] rfl (b_stm194 (d + 3 * lv + 5) (σ := σ10) (k3 := 6) (ρ := ρ) R1 ln1 li1 (hln.lin f12 jnP ptP (fun c => u20o now noi (Or.inr wry) hln.sam hln.eff hst)) e281 (by omega) (Or.inl ⟨rfl, iw6 (by omega)⟩) (fun v τ z1 z2 z3 z4 z5 z6 => hret v τ ((show Fr [19, 20, 22, 23, 26, 27, 28, 29, 31, 32, 33, 34, 39, 40] [3, 4, 5, 6, 7, 8, 35, 37, 41, 42] [24, 38] σ σ10 from (Fr.rfl.trans (Fr.sub f12 (by decide) (by decide) (by decide)))).trans z1) z2 z3 z4 z5 z6) _  rfl)
      · refine tm_aload_n dX12_statement_151 rfl 1 rfl ?_
        refine tm_callV (M := m_X12_statement) (pc := 152) (ix := 349) (M' := m_X12_ifStatement) (As := []) (rest := []) dX12_statement_152 ok_X12_ifStatement im_X12_ifStatement se_X12_ifStatement ml12_349 np_X12_ifStatement rfl rfl (Nat.le_of_ble_eq_true rfl) (Nat.le_of_ble_eq_true rfl) rfl (c_X12_ifStatement (d) (σ := σ10) (ρ := ρ) hcb R1 ln1 li1 (hln.lin f12 jnP ptP (fun c => u20i now ((WD.bk ln1.2.2.1 (by decide) (by decide)).mp (iwi (by omega))) hln.sam hln.eff hst)) e281 e291 e431) (fun r70 σ71 hp => ?_)
        obtain ⟨v72, rfl, f73, f74, f75, f76, f77, f78⟩ := hp
        show Tm _ _ 155 b σ71 [(2, .int (iI v11)), (0, .ref b)] [.int (iI v72)] _
        exact tm_zret (v := v72) rfl (by omega) dX12_statement_155 (hret _ _ ((Fr.rfl.trans (Fr.sub f12 (by decide) (by decide) (by decide))).trans (Fr.sub f74 (by decide) (by decide) (by decide))) f75 f73 f76 f77 f78)
    · refine tm_aload_n dX12_statement_124 rfl 0 rfl ?_
      refine tm_callV (M := m_X12_statement) (pc := 125) (ix := 346) (M' := m_X12_whileStatement) (As := []) (rest := []) dX12_statement_125 ok_X12_whileStatement im_X12_whileStatement se_X12_whileStatement ml12_346 np_X12_whileStatement rfl rfl (Nat.le_of_ble_eq_true rfl) (Nat.le_of_ble_eq_true rfl) rfl (c_X12_whileStatement (d) (σ := σ) (ρ := ρ) hcb hR hln (fun c => u20w ((WD.bk hln.2.2.1 (by decide) (by decide)).mp (iww (by omega))) hln.sam hln.eff hst) h28 h29 ht) (fun r79 σ80 hp => ?_)
      obtain ⟨v81, rfl, f82, f83, f84, f85, f86, f87⟩ := hp
      show Tm _ _ 128 b σ80 [(0, .ref b)] [.int (iI v81)] _
      exact tm_zret (v := v81) rfl (by omega) dX12_statement_128 (hret _ _ (Fr.rfl.trans (Fr.sub f83 (by decide) (by decide) (by decide))) f84 f82 f85 f86 f87)
end
section
theorem fl12_69 : Cond.fieldLink RX12 69 (TX12 37).1 (TX12 37).2.1 (TX12 37).2.2.1 ∈ pWW := pw7 (List.mem_of_getElem? (i := 44) rfl) rfl
theorem dX12_statement_57 : decode cX12_statement 57 = .ok (.aload_n 0, 1) := by decide +kernel
theorem dX12_statement_58 : decode cX12_statement 58 = .ok (.dup, 1) := by decide +kernel
theorem dX12_statement_59 : decode cX12_statement 59 = .ok (.getfield 343, 3) := by decide +kernel
theorem dX12_statement_62 : decode cX12_statement 62 = .ok (.iconst 1, 1) := by decide +kernel
theorem dX12_statement_63 : decode cX12_statement 63 = .ok (.iadd, 1) := by decide +kernel
theorem dX12_statement_64 : decode cX12_statement 64 = .ok (.putfield 343, 3) := by decide +kernel
theorem dX12_statement_67 : decode cX12_statement 67 = .ok (.aload_n 0, 1) := by decide +kernel
theorem dX12_statement_68 : decode cX12_statement 68 = .ok (.getfield 343, 3) := by decide +kernel
theorem dX12_statement_71 : decode cX12_statement 71 = .ok (.bipush 41, 2) := by decide +kernel
theorem dX12_statement_73 : decode cX12_statement 73 = .ok (.if_icmp .ne 9, 3) := by decide +kernel
theorem dX12_statement_82 : decode cX12_statement 82 = .ok (.aload_n 0, 1) := by decide +kernel
theorem dX12_statement_83 : decode cX12_statement 83 = .ok (.invokevirtual 271, 3) := by decide +kernel
theorem dX12_statement_86 : decode cX12_statement 86 = .ok (.ifCond .eq 28, 3) := by decide +kernel
theorem dX12_statement_89 : decode cX12_statement 89 = .ok (.aload_n 0, 1) := by decide +kernel
theorem dX12_statement_90 : decode cX12_statement 90 = .ok (.getfield 69, 3) := by decide +kernel
theorem dX12_statement_93 : decode cX12_statement 93 = .ok (.aload_n 0, 1) := by decide +kernel
theorem dX12_statement_94 : decode cX12_statement 94 = .ok (.getfield 268, 3) := by decide +kernel
theorem dX12_statement_97 : decode cX12_statement 97 = .ok (.iaload, 1) := by decide +kernel
theorem dX12_statement_98 : decode cX12_statement 98 = .ok (.ifCond .ne 16, 3) := by decide +kernel
theorem dX12_statement_101 : decode cX12_statement 101 = .ok (.aload_n 0, 1) := by decide +kernel
theorem dX12_statement_102 : decode cX12_statement 102 = .ok (.getfield 69, 3) := by decide +kernel
theorem dX12_statement_105 : decode cX12_statement 105 = .ok (.aload_n 0, 1) := by decide +kernel
theorem dX12_statement_106 : decode cX12_statement 106 = .ok (.getfield 268, 3) := by decide +kernel
theorem dX12_statement_109 : decode cX12_statement 109 = .ok (.aload_n 0, 1) := by decide +kernel
theorem dX12_statement_110 : decode cX12_statement 110 = .ok (.getfield 343, 3) := by decide +kernel
theorem dX12_statement_113 : decode cX12_statement 113 = .ok (.iastore, 1) := by decide +kernel
theorem dX12_statement_76 : decode cX12_statement 76 = .ok (.aload_n 0, 1) := by decide +kernel
theorem dX12_statement_77 : decode cX12_statement 77 = .ok (.iconst 5, 1) := by decide +kernel
theorem dX12_statement_78 : decode cX12_statement 78 = .ok (.iload_n 1, 1) := by decide +kernel
theorem dX12_statement_79 : decode cX12_statement 79 = .ok (.invokevirtual 274, 3) := by decide +kernel
set_option maxHeartbeats 4000000 in
set_option maxRecDepth 20000 in
theorem b_stm57 (d : Nat) {b : Nat} {σ : MS} {lv : Nat} {p : Int} {post : Option Value → MS → Prop} (hcb : ∀ (d : Nat) {b : Nat} {σ : MS} (hR : RG σ) (hrd : RDY σ) (hnn : NN σ) (h28 : σ.1 28 = 0) (h29 : σ.1 29 = 6 - (lv : Int)) (ht : 0 ≤ σ.1 43 ∧ σ.1 43 ≤ 260), Tm (d + 3 * lv + 44) m_X12_block 0 b σ [(0, .ref b)] [] (fun ro σ2 => ∃ v : Int, ro = some (.int (iI v)) ∧ ((v = 0 ∨ v = 1)) ∧ (Fr [19, 20, 22, 23, 26, 27, 28, 29, 31, 32, 33, 34, 39, 40] [3, 4, 5, 6, 7, 8, 35, 37, 41, 42] [24, 38] σ σ2) ∧ (RG σ2) ∧ (PBF σ σ2) ∧ (Im v 1 (BLQ 28 4 σ σ2)) ∧ (Im v 0 (∀ c : Int, GOF [28] σ (qq c) σ2)))) (hR : RG σ) (hrd : RDY σ) (hnn : NN σ) (h28 : σ.1 28 = 0) (h29 : σ.1 29 = 6 - (lv : Int)) (ht : 0 ≤ σ.1 43 ∧ σ.1 43 ≤ 260) (hw0 : NMW σ ∨ WD σ 7304564 ∨ WD σ 125780071117422 ∨ WD σ 26982 ∨ WD σ 512852847717) (hp : p = σ.1 19) (h_p : -2147483648 ≤ p ∧ p ≤ 2147483647) (hret : ∀ (v : Int) (τ : MS), Fr [19, 20, 22, 23, 26, 27, 28, 29, 31, 32, 33, 34, 39, 40] [3, 4, 5, 6, 7, 8, 35, 37, 41, 42] [24, 38] σ τ → RG τ → (v = 0 ∨ v = 1) → PBF σ τ → (v = 1 → BLQ 20 2 σ τ) → (v = 0 → ∀ c : Int, GOF [20] σ (qq c) τ) → post (some (.int (iI v))) τ) : ∀ (n : Nat) , ((0 : Int)).toNat = n → Tm (d + 3 * lv + 46) m_X12_statement 57 b σ [(1, .int (iI p)), (0, .ref b)] [] post := by
  intro n
  induction n using Nat.strongRecOn with
  | _ n ih =>
    intro   hm
    have rd0 := hrd.2
    have tk0 := hrd.1.1
    have k28 := h28
    have k29 := h29
    refine tm_aload_n dX12_statement_57 rfl 1 rfl ?_
    refine tm_dup dX12_statement_58 rfl ?_
    refine tm_getS (k := 31) (t := σ.1 31) dX12_statement_59 (by decide) fl12_343 rfl (rfl) ?_
    have g1 := RG.s hR 31
    refine tm_iconst dX12_statement_62 ?_
    refine tm_iadd dX12_statement_63 ?_
    refine tm_putS (k := 31) (v := (σ.1 31) + 1) lay_12 dX12_statement_64 (by decide) fl12_343 rfl (tyX12_ok 31 (by decide)) rfl rfl rfl ?_
    refine tm_aload_n dX12_statement_67 rfl 1 rfl ?_
    refine tm_getS (k := 31) (t := (σ.1 31) + 1) dX12_statement_68 (by decide) fl12_343 rfl (rs_eq) ?_
    refine tm_bipush dX12_statement_71 (by decide) ?_
    refine tm_icmp_ne (tgt := 82) dX12_statement_73 (by decide) ⟨by omega, by omega⟩ ⟨by decide, by decide⟩ (fun h2 => ?_) (fun h2 => ?_)
    · refine tm_aload_n dX12_statement_82 rfl 1 rfl ?_
      refine tm_callV (M := m_X12_statement) (pc := 83) (ix := 271) (M' := m_X12_isKept) (As := []) (rest := []) dX12_statement_83 ok_X12_isKept im_X12_isKept se_X12_isKept ml12_271 np_X12_isKept rfl rfl (Nat.le_of_ble_eq_true rfl) (Nat.le_of_ble_eq_true rfl) rfl (c_X12_isKept (d + 3 * lv + 44) (σ := (sS 31 ((σ.1 31) + 1) σ))  (hR.S (by omega))) (fun r3 σ4 hp => ?_)
      obtain ⟨v5, rfl, rfl, f6, f7⟩ := hp
      show Tm _ _ 86 b (sS 31 ((σ.1 31) + 1) σ) [(1, .int (iI p)), (0, .ref b)] [.int (iI v5)] _
      have k30 : (sS 31 ((σ.1 31) + 1) σ).1 30 = σ.1 30 := rs_o (by decide) (rfl)
      refine tm_if_eq (tgt := 114) dX12_statement_86 (by decide) ⟨by omega, by omega⟩ (fun h8 => ?_) (fun h8 => ?_)
      · refine tm_sub [1] rfl (b_stm114 (d) (σ := (sS 31 ((σ.1 31) + 1) σ)) (ρ := σ) hcb (hR.S (by omega)) ⟨hrd, hnn, (Fr.rfl.S (by decide)), PBF.of hnn (show Fr [26, 27, 31] [37] [] σ (sS 31 ((σ.1 31) + 1) σ) from (Fr.rfl.S (by decide))) (by decide) (by decide) (by decide) (FLT.eq rfl), ⟨by rw [show (sS 31 ((σ.1 31) + 1) σ).1 34 = σ.1 34 from rs_o (by decide) (rfl)]; omega, rs_eq⟩, by rcases hw0 with z | z | z | z | z <;> (have q := z.1; omega), ((srt_fr (Fr.rfl : Fr [] [37] [] (sS 31 ((σ.1 31) + 1) σ) (sS 31 ((σ.1 31) + 1) σ)) (by decide) (by decide) (by decide)).trans (by unfold lnP; rw [if_neg (by omega)]))⟩ (STM.of (show Fr [26, 27, 31] [37] [] σ (sS 31 ((σ.1 31) + 1) σ) from (Fr.rfl.S (by decide))) (by decide) (by decide) (by decide) (rs_eq) (fun r6 => by rw [if_neg (by omega)]; exact congrFun ((show Fr [26, 27, 31] [] [] σ (sS 31 ((σ.1 31) + 1) σ) from (Fr.rfl.S (by decide))).2.1 37 (by decide)) _) (fun j _ => congrFun ((show Fr [26, 27, 31] [] [] σ (sS 31 ((σ.1 31) + 1) σ) from (Fr.rfl.S (by decide))).2.1 37 (by decide)) j)) hw0 ((show (sS 31 ((σ.1 31) + 1) σ).1 28 = σ.1 28 from rs_o (by decide) (rfl)).trans k28) ((show (sS 31 ((σ.1 31) + 1) σ).1 29 = σ.1 29 from rs_o (by decide) (rfl)).trans k29) (by rw [show (sS 31 ((σ.1 31) + 1) σ).1 43 = σ.1 43 from rs_o (by decide) (rfl)]; exact ht) (fun v τ z1 z2 z3 z4 z5 z6 => hret v τ ((show Fr [19, 20, 22, 23, 26, 27, 28, 29, 31, 32, 33, 34, 39, 40] [3, 4, 5, 6, 7, 8, 35, 37, 41, 42] [24, 38] σ (sS 31 ((σ.1 31) + 1) σ) from (Fr.rfl.S (by decide))).trans z1) z2 z3 z4 z5 z6) _  rfl)
      · refine tm_aload_n dX12_statement_89 rfl 1 rfl ?_
        refine tm_get (k := 37) (v := .ref (b + 1 + 18)) lay_12 dX12_statement_90 (by decide) fl12_69 rfl ?_
        refine tm_aload_n dX12_statement_93 rfl 1 rfl ?_
        refine tm_getS (k := 30) (t := σ.1 30) dX12_statement_94 (by decide) fl12_268 rfl (rs_o (by decide) (rfl)) ?_
        have g9 := RG.s hR 30
        refine tm_iald (z := σ.1 30) (v := σ.2.1 37 (σ.1 30)) dX12_statement_97 (show mT[18]? = some (37, 0, 6) from rfl) (by omega) (by omega) (by decide) (ra_S (rfl)) ?_
        have g10 := RG.a hR 37 (σ.1 30)
        refine tm_if_ne (tgt := 114) dX12_statement_98 (by decide) ⟨by omega, by omega⟩ (fun h11 => ?_) (fun h11 => ?_)
        · refine tm_sub [1] rfl (b_stm114 (d) (σ := (sS 31 ((σ.1 31) + 1) σ)) (ρ := σ) hcb (hR.S (by omega)) ⟨hrd, hnn, (Fr.rfl.S (by decide)), PBF.of hnn (show Fr [26, 27, 31] [37] [] σ (sS 31 ((σ.1 31) + 1) σ) from (Fr.rfl.S (by decide))) (by decide) (by decide) (by decide) (FLT.eq rfl), ⟨by rw [show (sS 31 ((σ.1 31) + 1) σ).1 34 = σ.1 34 from rs_o (by decide) (rfl)]; omega, rs_eq⟩, by rcases hw0 with z | z | z | z | z <;> (have q := z.1; omega), ((srt_fr (Fr.rfl : Fr [] [37] [] (sS 31 ((σ.1 31) + 1) σ) (sS 31 ((σ.1 31) + 1) σ)) (by decide) (by decide) (by decide)).trans (by unfold lnP; rw [if_neg (by omega)]))⟩ (STM.of (show Fr [26, 27, 31] [37] [] σ (sS 31 ((σ.1 31) + 1) σ) from (Fr.rfl.S (by decide))) (by decide) (by decide) (by decide) (rs_eq) (fun r6 => by rw [if_neg (by omega)]; exact congrFun ((show Fr [26, 27, 31] [] [] σ (sS 31 ((σ.1 31) + 1) σ) from (Fr.rfl.S (by decide))).2.1 37 (by decide)) _) (fun j _ => congrFun ((show Fr [26, 27, 31] [] [] σ (sS 31 ((σ.1 31) + 1) σ) from (Fr.rfl.S (by decide))).2.1 37 (by decide)) j)) hw0 ((show (sS 31 ((σ.1 31) + 1) σ).1 28 = σ.1 28 from rs_o (by decide) (rfl)).trans k28) ((show (sS 31 ((σ.1 31) + 1) σ).1 29 = σ.1 29 from rs_o (by decide) (rfl)).trans k29) (by rw [show (sS 31 ((σ.1 31) + 1) σ).1 43 = σ.1 43 from rs_o (by decide) (rfl)]; exact ht) (fun v τ z1 z2 z3 z4 z5 z6 => hret v τ ((show Fr [19, 20, 22, 23, 26, 27, 28, 29, 31, 32, 33, 34, 39, 40] [3, 4, 5, 6, 7, 8, 35, 37, 41, 42] [24, 38] σ (sS 31 ((σ.1 31) + 1) σ) from (Fr.rfl.S (by decide))).trans z1) z2 z3 z4 z5 z6) _  rfl)
        · refine tm_aload_n dX12_statement_101 rfl 1 rfl ?_
          refine tm_get (k := 37) (v := .ref (b + 1 + 18)) lay_12 dX12_statement_102 (by decide) fl12_69 rfl ?_
          refine tm_aload_n dX12_statement_105 rfl 1 rfl ?_
          refine tm_getS (k := 30) (t := σ.1 30) dX12_statement_106 (by decide) fl12_268 rfl (rs_o (by decide) (rfl)) ?_
          have g12 := RG.s hR 30
          refine tm_aload_n dX12_statement_109 rfl 1 rfl ?_
          refine tm_getS (k := 31) (t := (σ.1 31) + 1) dX12_statement_110 (by decide) fl12_343 rfl (rs_eq) ?_
          refine tm_iast (z := σ.1 30) (v := (σ.1 31) + 1) dX12_statement_113 (show mT[18]? = some (37, 0, 6) from rfl) (by omega) (by omega) (by decide) ?_
          refine tm_sub [1] rfl (b_stm114 (d) (σ := (sA 37 (σ.1 30) ((σ.1 31) + 1) (sS 31 ((σ.1 31) + 1) σ))) (ρ := σ) hcb ((hR.S (by omega)).A (by omega)) ⟨hrd, hnn, ((Fr.rfl.S (by decide)).A (by decide)), PBF.of hnn (show Fr [26, 27, 31] [37] [] σ (sA 37 (σ.1 30) ((σ.1 31) + 1) (sS 31 ((σ.1 31) + 1) σ)) from ((Fr.rfl.S (by decide)).A (by decide))) (by decide) (by decide) (by decide) (FLT.eq rfl), ⟨by rw [show (sA 37 (σ.1 30) ((σ.1 31) + 1) (sS 31 ((σ.1 31) + 1) σ)).1 34 = σ.1 34 from rs_A (rs_o (by decide) (rfl))]; omega, rs_A (rs_eq)⟩, by rcases hw0 with z | z | z | z | z <;> (have q := z.1; omega), ((srt_fr (show Fr [] [37] [] (sS 31 ((σ.1 31) + 1) σ) (sA 37 (σ.1 30) ((σ.1 31) + 1) (sS 31 ((σ.1 31) + 1) σ)) from (Fr.rfl.A (by decide))) (by decide) (by decide) (by decide)).trans (by unfold lnP; rw [if_neg (by omega)]))⟩ (STM.of (show Fr [26, 27, 31] [37] [] σ (sA 37 (σ.1 30) ((σ.1 31) + 1) (sS 31 ((σ.1 31) + 1) σ)) from ((Fr.rfl.S (by decide)).A (by decide))) (by decide) (by decide) (by decide) (rs_A (rs_eq)) (fun _ => by rw [if_pos (by omega)]; first | exact ra_eq | (rw [k30]; exact ra_eq)) (fun j q => (ra_ne (by omega) rfl))) hw0 ((show (sA 37 (σ.1 30) ((σ.1 31) + 1) (sS 31 ((σ.1 31) + 1) σ)).1 28 = σ.1 28 from rs_A (rs_o (by decide) (rfl))).trans k28) ((show (sA 37 (σ.1 30) ((σ.1 31) + 1) (sS 31 ((σ.1 31) + 1) σ)).1 29 = σ.1 29 from rs_A (rs_o (by decide) (rfl))).trans k29) (by rw [show (sA 37 (σ.1 30) ((σ.1 31) + 1) (sS 31 ((σ.1 31) + 1) σ)).1 43 = σ.1 43 from rs_A (rs_o (by decide) (rfl))]; exact ht) (fun v τ z1 z2 z3 z4 z5 z6 => hret v τ ((show Fr [19, 20, 22, 23, 26, 27, 28, 29, 31, 32, 33, 34, 39, 40] [3, 4, 5, 6, 7, 8, 35, 37, 41, 42] [24, 38] σ (sA 37 (σ.1 30) ((σ.1 31) + 1) (sS 31 ((σ.1 31) + 1) σ)) from ((Fr.rfl.S (by decide)).A (by decide))).trans z1) z2 z3 z4 z5 z6) _  rfl)
    · refine tm_aload_n dX12_statement_76 rfl 1 rfl ?_
      refine tm_iconst dX12_statement_77 ?_
      refine tm_iload_n dX12_statement_78 rfl 0 rfl ?_
      refine tm_callV (M := m_X12_statement) (pc := 79) (ix := 274) (M' := m_X12_note) (As := [.int (iI 5), .int (iI p)]) (rest := []) dX12_statement_79 ok_X12_note im_X12_note se_X12_note ml12_274 np_X12_note rfl rfl (Nat.le_of_ble_eq_true rfl) (Nat.le_of_ble_eq_true rfl) rfl (c2_X12_note (d + 3 * lv + 44) (σ := (sS 31 ((σ.1 31) + 1) σ)) (f := 5) (p := p) (hR.S (by omega)) (by omega) (by omega)) (fun r13 σ14 hp => ?_)
      obtain ⟨rfl, f16, f17, f18, f19, f20⟩ := hp
      show Tm _ _ 82 b σ14 [(1, .int (iI p)), (0, .ref b)] [] _
      have nt0 := f16
      have nt2 := f18
      have nt4 := f20
      refine tm_aload_n dX12_statement_82 rfl 1 rfl ?_
      refine tm_callV (M := m_X12_statement) (pc := 83) (ix := 271) (M' := m_X12_isKept) (As := []) (rest := []) dX12_statement_83 ok_X12_isKept im_X12_isKept se_X12_isKept ml12_271 np_X12_isKept rfl rfl (Nat.le_of_ble_eq_true rfl) (Nat.le_of_ble_eq_true rfl) rfl (c_X12_isKept (d + 3 * lv + 44) (σ := σ14)  f17) (fun r21 σ22 hp => ?_)
      obtain ⟨v23, rfl, rfl, f24, f25⟩ := hp
      show Tm _ _ 86 b σ14 [(1, .int (iI p)), (0, .ref b)] [.int (iI v23)] _
      have k30 : σ14.1 30 = σ.1 30 := rs_F f16 (by decide) (rs_o (by decide) (rfl))
      refine tm_if_eq (tgt := 114) dX12_statement_86 (by decide) ⟨by omega, by omega⟩ (fun h32 => ?_) (fun h32 => ?_)
      · refine tm_sub [1] rfl (b_stm114 (d) (σ := σ14) (ρ := σ) hcb f17 ⟨hrd, hnn, ((Fr.rfl.S (by decide)).trans (Fr.sub f16 (by decide) (by decide) (by decide))), PBF.of hnn (show Fr [26, 27, 31] [37] [] σ σ14 from ((Fr.rfl.S (by decide)).trans (Fr.sub f16 (by decide) (by decide) (by decide)))) (by decide) (by decide) (by decide) nt2, ⟨by rw [show σ14.1 34 = σ.1 34 from rs_F f16 (by decide) (rs_o (by decide) (rfl))]; omega, rs_F f16 (by decide) (rs_eq)⟩, by rcases hw0 with z | z | z | z | z <;> (have q := z.1; omega), ((srt_fr (Fr.rfl : Fr [] [37] [] σ14 σ14) (by decide) (by decide) (by decide)).trans (by rw [nt4]; unfold lnP; rw [if_pos (by omega), hp]))⟩ (STM.of (show Fr [26, 27, 31] [37] [] σ σ14 from ((Fr.rfl.S (by decide)).trans (Fr.sub f16 (by decide) (by decide) (by decide)))) (by decide) (by decide) (by decide) (rs_F f16 (by decide) (rs_eq)) (fun r6 => by rw [if_neg (by omega)]; exact congrFun ((show Fr [26, 27, 31] [] [] σ σ14 from ((Fr.rfl.S (by decide)).trans (Fr.sub f16 (by decide) (by decide) (by decide)))).2.1 37 (by decide)) _) (fun j _ => congrFun ((show Fr [26, 27, 31] [] [] σ σ14 from ((Fr.rfl.S (by decide)).trans (Fr.sub f16 (by decide) (by decide) (by decide)))).2.1 37 (by decide)) j)) hw0 ((show σ14.1 28 = σ.1 28 from rs_F f16 (by decide) (rs_o (by decide) (rfl))).trans k28) ((show σ14.1 29 = σ.1 29 from rs_F f16 (by decide) (rs_o (by decide) (rfl))).trans k29) (by rw [show σ14.1 43 = σ.1 43 from rs_F f16 (by decide) (rs_o (by decide) (rfl))]; exact ht) (fun v τ z1 z2 z3 z4 z5 z6 => hret v τ ((show Fr [19, 20, 22, 23, 26, 27, 28, 29, 31, 32, 33, 34, 39, 40] [3, 4, 5, 6, 7, 8, 35, 37, 41, 42] [24, 38] σ σ14 from ((Fr.rfl.S (by decide)).trans (Fr.sub f16 (by decide) (by decide) (by decide)))).trans z1) z2 z3 z4 z5 z6) _  rfl)
      · refine tm_aload_n dX12_statement_89 rfl 1 rfl ?_
        refine tm_get (k := 37) (v := .ref (b + 1 + 18)) lay_12 dX12_statement_90 (by decide) fl12_69 rfl ?_
        refine tm_aload_n dX12_statement_93 rfl 1 rfl ?_
        refine tm_getS (k := 30) (t := σ.1 30) dX12_statement_94 (by decide) fl12_268 rfl (rs_F f16 (by decide) (rs_o (by decide) (rfl))) ?_
        have g33 := RG.s hR 30
        refine tm_iald (z := σ.1 30) (v := σ.2.1 37 (σ.1 30)) dX12_statement_97 (show mT[18]? = some (37, 0, 6) from rfl) (by omega) (by omega) (by decide) (ra_F f16 (by decide) (ra_S (rfl))) ?_
        have g34 := RG.a hR 37 (σ.1 30)
        refine tm_if_ne (tgt := 114) dX12_statement_98 (by decide) ⟨by omega, by omega⟩ (fun h35 => ?_) (fun h35 => ?_)
        · refine tm_sub [1] rfl (b_stm114 (d) (σ := σ14) (ρ := σ) hcb f17 ⟨hrd, hnn, ((Fr.rfl.S (by decide)).trans (Fr.sub f16 (by decide) (by decide) (by decide))), PBF.of hnn (show Fr [26, 27, 31] [37] [] σ σ14 from ((Fr.rfl.S (by decide)).trans (Fr.sub f16 (by decide) (by decide) (by decide)))) (by decide) (by decide) (by decide) nt2, ⟨by rw [show σ14.1 34 = σ.1 34 from rs_F f16 (by decide) (rs_o (by decide) (rfl))]; omega, rs_F f16 (by decide) (rs_eq)⟩, by rcases hw0 with z | z | z | z | z <;> (have q := z.1; omega), ((srt_fr (Fr.rfl : Fr [] [37] [] σ14 σ14) (by decide) (by decide) (by decide)).trans (by rw [nt4]; unfold lnP; rw [if_pos (by omega), hp]))⟩ (STM.of (show Fr [26, 27, 31] [37] [] σ σ14 from ((Fr.rfl.S (by decide)).trans (Fr.sub f16 (by decide) (by decide) (by decide)))) (by decide) (by decide) (by decide) (rs_F f16 (by decide) (rs_eq)) (fun r6 => by rw [if_neg (by omega)]; exact congrFun ((show Fr [26, 27, 31] [] [] σ σ14 from ((Fr.rfl.S (by decide)).trans (Fr.sub f16 (by decide) (by decide) (by decide)))).2.1 37 (by decide)) _) (fun j _ => congrFun ((show Fr [26, 27, 31] [] [] σ σ14 from ((Fr.rfl.S (by decide)).trans (Fr.sub f16 (by decide) (by decide) (by decide)))).2.1 37 (by decide)) j)) hw0 ((show σ14.1 28 = σ.1 28 from rs_F f16 (by decide) (rs_o (by decide) (rfl))).trans k28) ((show σ14.1 29 = σ.1 29 from rs_F f16 (by decide) (rs_o (by decide) (rfl))).trans k29) (by rw [show σ14.1 43 = σ.1 43 from rs_F f16 (by decide) (rs_o (by decide) (rfl))]; exact ht) (fun v τ z1 z2 z3 z4 z5 z6 => hret v τ ((show Fr [19, 20, 22, 23, 26, 27, 28, 29, 31, 32, 33, 34, 39, 40] [3, 4, 5, 6, 7, 8, 35, 37, 41, 42] [24, 38] σ σ14 from ((Fr.rfl.S (by decide)).trans (Fr.sub f16 (by decide) (by decide) (by decide)))).trans z1) z2 z3 z4 z5 z6) _  rfl)
        · refine tm_aload_n dX12_statement_101 rfl 1 rfl ?_
          refine tm_get (k := 37) (v := .ref (b + 1 + 18)) lay_12 dX12_statement_102 (by decide) fl12_69 rfl ?_
          refine tm_aload_n dX12_statement_105 rfl 1 rfl ?_
          refine tm_getS (k := 30) (t := σ.1 30) dX12_statement_106 (by decide) fl12_268 rfl (rs_F f16 (by decide) (rs_o (by decide) (rfl))) ?_
          have g36 := RG.s hR 30
          refine tm_aload_n dX12_statement_109 rfl 1 rfl ?_
          refine tm_getS (k := 31) (t := (σ.1 31) + 1) dX12_statement_110 (by decide) fl12_343 rfl (rs_F f16 (by decide) (rs_eq)) ?_
          refine tm_iast (z := σ.1 30) (v := (σ.1 31) + 1) dX12_statement_113 (show mT[18]? = some (37, 0, 6) from rfl) (by omega) (by omega) (by decide) ?_
          refine tm_sub [1] rfl (b_stm114 (d) (σ := (sA 37 (σ.1 30) ((σ.1 31) + 1) σ14)) (ρ := σ) hcb (f17.A (by omega)) ⟨hrd, hnn, (((Fr.rfl.S (by decide)).trans (Fr.sub f16 (by decide) (by decide) (by decide))).A (by decide)), PBF.of hnn (show Fr [26, 27, 31] [37] [] σ (sA 37 (σ.1 30) ((σ.1 31) + 1) σ14) from (((Fr.rfl.S (by decide)).trans (Fr.sub f16 (by decide) (by decide) (by decide))).A (by decide))) (by decide) (by decide) (by decide) nt2, ⟨by rw [show (sA 37 (σ.1 30) ((σ.1 31) + 1) σ14).1 34 = σ.1 34 from rs_A (rs_F f16 (by decide) (rs_o (by decide) (rfl)))]; omega, rs_A (rs_F f16 (by decide) (rs_eq))⟩, by rcases hw0 with z | z | z | z | z <;> (have q := z.1; omega), ((srt_fr (show Fr [] [37] [] σ14 (sA 37 (σ.1 30) ((σ.1 31) + 1) σ14) from (Fr.rfl.A (by decide))) (by decide) (by decide) (by decide)).trans (by rw [nt4]; unfold lnP; rw [if_pos (by omega), hp]))⟩ (STM.of (show Fr [26, 27, 31] [37] [] σ (sA 37 (σ.1 30) ((σ.1 31) + 1) σ14) from (((Fr.rfl.S (by decide)).trans (Fr.sub f16 (by decide) (by decide) (by decide))).A (by decide))) (by decide) (by decide) (by decide) (rs_A (rs_F f16 (by decide) (rs_eq))) (fun _ => by rw [if_pos (by omega)]; first | exact ra_eq | (rw [k30]; exact ra_eq)) (fun j q => (ra_ne (by omega) rfl : _ = σ14.2.1 37 j).trans (congrFun (nt0.2.1 37 (by decide)) j))) hw0 ((show (sA 37 (σ.1 30) ((σ.1 31) + 1) σ14).1 28 = σ.1 28 from rs_A (rs_F f16 (by decide) (rs_o (by decide) (rfl)))).trans k28) ((show (sA 37 (σ.1 30) ((σ.1 31) + 1) σ14).1 29 = σ.1 29 from rs_A (rs_F f16 (by decide) (rs_o (by decide) (rfl)))).trans k29) (by rw [show (sA 37 (σ.1 30) ((σ.1 31) + 1) σ14).1 43 = σ.1 43 from rs_A (rs_F f16 (by decide) (rs_o (by decide) (rfl)))]; exact ht) (fun v τ z1 z2 z3 z4 z5 z6 => hret v τ ((show Fr [19, 20, 22, 23, 26, 27, 28, 29, 31, 32, 33, 34, 39, 40] [3, 4, 5, 6, 7, 8, 35, 37, 41, 42] [24, 38] σ (sA 37 (σ.1 30) ((σ.1 31) + 1) σ14) from (((Fr.rfl.S (by decide)).trans (Fr.sub f16 (by decide) (by decide) (by decide))).A (by decide))).trans z1) z2 z3 z4 z5 z6) _  rfl)
theorem dX12_statement_0 : decode cX12_statement 0 = .ok (.aload_n 0, 1) := by decide +kernel
theorem dX12_statement_1 : decode cX12_statement 1 = .ok (.getfield 216, 3) := by decide +kernel
theorem dX12_statement_4 : decode cX12_statement 4 = .ok (.istore_n 1, 1) := by decide +kernel
theorem dX12_statement_5 : decode cX12_statement 5 = .ok (.aload_n 0, 1) := by decide +kernel
theorem dX12_statement_6 : decode cX12_statement 6 = .ok (.invokevirtual 320, 3) := by decide +kernel
theorem dX12_statement_9 : decode cX12_statement 9 = .ok (.ifCond .ne 48, 3) := by decide +kernel
theorem dX12_statement_12 : decode cX12_statement 12 = .ok (.aload_n 0, 1) := by decide +kernel
theorem dX12_statement_13 : decode cX12_statement 13 = .ok (.ldc2_w 242, 3) := by decide +kernel
theorem dX12_statement_16 : decode cX12_statement 16 = .ok (.invokevirtual 339, 3) := by decide +kernel
theorem dX12_statement_19 : decode cX12_statement 19 = .ok (.ifCond .ne 38, 3) := by decide +kernel
theorem dX12_statement_22 : decode cX12_statement 22 = .ok (.aload_n 0, 1) := by decide +kernel
theorem dX12_statement_23 : decode cX12_statement 23 = .ok (.ldc2_w 244, 3) := by decide +kernel
theorem dX12_statement_26 : decode cX12_statement 26 = .ok (.invokevirtual 339, 3) := by decide +kernel
theorem dX12_statement_29 : decode cX12_statement 29 = .ok (.ifCond .ne 28, 3) := by decide +kernel
theorem dX12_statement_32 : decode cX12_statement 32 = .ok (.aload_n 0, 1) := by decide +kernel
theorem dX12_statement_33 : decode cX12_statement 33 = .ok (.ldc2_w 246, 3) := by decide +kernel
theorem dX12_statement_36 : decode cX12_statement 36 = .ok (.invokevirtual 339, 3) := by decide +kernel
theorem dX12_statement_39 : decode cX12_statement 39 = .ok (.ifCond .ne 18, 3) := by decide +kernel
theorem dX12_statement_42 : decode cX12_statement 42 = .ok (.aload_n 0, 1) := by decide +kernel
theorem dX12_statement_43 : decode cX12_statement 43 = .ok (.ldc2_w 250, 3) := by decide +kernel
theorem dX12_statement_46 : decode cX12_statement 46 = .ok (.invokevirtual 339, 3) := by decide +kernel
theorem dX12_statement_49 : decode cX12_statement 49 = .ok (.ifCond .ne 8, 3) := by decide +kernel
theorem dX12_statement_52 : decode cX12_statement 52 = .ok (.aload_n 0, 1) := by decide +kernel
theorem dX12_statement_53 : decode cX12_statement 53 = .ok (.invokevirtual 261, 3) := by decide +kernel
theorem dX12_statement_56 : decode cX12_statement 56 = .ok (.ireturn, 1) := by decide +kernel
set_option maxHeartbeats 4000000 in
set_option maxRecDepth 20000 in
theorem c_X12_statement (d : Nat) {b : Nat} {σ : MS} {lv : Nat} (hcb : ∀ (d : Nat) {b : Nat} {σ : MS} (hR : RG σ) (hrd : RDY σ) (hnn : NN σ) (h28 : σ.1 28 = 0) (h29 : σ.1 29 = 6 - (lv : Int)) (ht : 0 ≤ σ.1 43 ∧ σ.1 43 ≤ 260), Tm (d + 3 * lv + 44) m_X12_block 0 b σ [(0, .ref b)] [] (fun ro σ2 => ∃ v : Int, ro = some (.int (iI v)) ∧ ((v = 0 ∨ v = 1)) ∧ (Fr [19, 20, 22, 23, 26, 27, 28, 29, 31, 32, 33, 34, 39, 40] [3, 4, 5, 6, 7, 8, 35, 37, 41, 42] [24, 38] σ σ2) ∧ (RG σ2) ∧ (PBF σ σ2) ∧ (Im v 1 (BLQ 28 4 σ σ2)) ∧ (Im v 0 (∀ c : Int, GOF [28] σ (qq c) σ2)))) (hR : RG σ) (hrd : RDY σ) (hnn : NN σ) (h28 : σ.1 28 = 0) (h29 : σ.1 29 = 6 - (lv : Int)) (ht : 0 ≤ σ.1 43 ∧ σ.1 43 ≤ 260) : Tm (d + 3 * lv + 46) m_X12_statement 0 b σ [(0, .ref b)] [] (fun ro σ2 => ∃ v : Int, ro = some (.int (iI v)) ∧ ((v = 0 ∨ v = 1)) ∧ (Fr [19, 20, 22, 23, 26, 27, 28, 29, 31, 32, 33, 34, 39, 40] [3, 4, 5, 6, 7, 8, 35, 37, 41, 42] [24, 38] σ σ2) ∧ (RG σ2) ∧ (PBF σ σ2) ∧ (Im v 1 (BLQ 20 2 σ σ2)) ∧ (Im v 0 (∀ c : Int, GOF [20] σ (qq c) σ2))) := by
  have rd0 := hrd.2
  have tk0 := hrd.1.1
  have k28 := h28
  have k29 := h29
  refine tm_aload_n dX12_statement_0 rfl 0 rfl ?_
  refine tm_getS (k := 19) (t := σ.1 19) dX12_statement_1 (by decide) fl12_216 rfl (rfl) ?_
  have g1 := RG.s hR 19
  refine tm_istore_n (L' := [(1, .int (iI (σ.1 19))), (0, .ref b)]) dX12_statement_4 rfl (by decide) rfl ?_
  refine tm_aload_n dX12_statement_5 rfl 1 rfl ?_
  refine tm_callV (M := m_X12_statement) (pc := 6) (ix := 320) (M' := m_X12_isName) (As := []) (rest := []) dX12_statement_6 ok_X12_isName im_X12_isName se_X12_isName ml12_320 np_X12_isName rfl rfl (Nat.le_of_ble_eq_true rfl) (Nat.le_of_ble_eq_true rfl) rfl (c2_X12_isName (d + 3 * lv + 44) (σ := σ)  hR) (fun r2 σ3 hp => ?_)
  obtain ⟨v4, rfl, rfl, f5, f6, f7⟩ := hp
  show Tm _ _ 9 b σ [(1, .int (iI (σ.1 19))), (0, .ref b)] [.int (iI v4)] _
  have q0 := f6
  have n0_ := f7
  refine tm_if_ne (tgt := 57) dX12_statement_9 (by decide) ⟨by omega, by omega⟩ (fun h8 => ?_) (fun h8 => ?_)
  · refine tm_sub [0, 1] rfl (b_stm57 (d) (σ := σ) (p := σ.1 19) hcb hR hrd hnn k28 k29 ht (Or.inl (q0 (by omega))) rfl (by omega) (fun v τ z1 z2 z3 z4 z5 z6 => ⟨_, rfl, z3, z1, z2, z4, z5, z6⟩) _  rfl)
  · refine tm_aload_n dX12_statement_12 rfl 1 rfl ?_
    refine tm_ldc2 dX12_statement_13 cst12_242 ?_
    refine tm_callV (M := m_X12_statement) (pc := 16) (ix := 339) (M' := m_X12_isWord) (As := [.long (7304564)]) (rest := []) dX12_statement_16 ok_X12_isWord im_X12_isWord se_X12_isWord ml12_339 np_X12_isWord rfl rfl (Nat.le_of_ble_eq_true rfl) (Nat.le_of_ble_eq_true rfl) rfl (c2_X12_isWord (d + 3 * lv + 44) (σ := σ) (w := 7304564) hR) (fun r9 σ10 hp => ?_)
    obtain ⟨v11, rfl, rfl, f12, f13, f14⟩ := hp
    show Tm _ _ 19 b σ [(1, .int (iI (σ.1 19))), (0, .ref b)] [.int (iI v11)] _
    have q1 := f13
    have n1_ := f14
    refine tm_if_ne (tgt := 57) dX12_statement_19 (by decide) ⟨by omega, by omega⟩ (fun h15 => ?_) (fun h15 => ?_)
    · refine tm_sub [0, 1] rfl (b_stm57 (d) (σ := σ) (p := σ.1 19) hcb hR hrd hnn k28 k29 ht (Or.inr (Or.inl (q1 (by omega)))) rfl (by omega) (fun v τ z1 z2 z3 z4 z5 z6 => ⟨_, rfl, z3, z1, z2, z4, z5, z6⟩) _  rfl)
    · refine tm_aload_n dX12_statement_22 rfl 1 rfl ?_
      refine tm_ldc2 dX12_statement_23 cst12_244 ?_
      refine tm_callV (M := m_X12_statement) (pc := 26) (ix := 339) (M' := m_X12_isWord) (As := [.long (125780071117422)]) (rest := []) dX12_statement_26 ok_X12_isWord im_X12_isWord se_X12_isWord ml12_339 np_X12_isWord rfl rfl (Nat.le_of_ble_eq_true rfl) (Nat.le_of_ble_eq_true rfl) rfl (c2_X12_isWord (d + 3 * lv + 44) (σ := σ) (w := 125780071117422) hR) (fun r16 σ17 hp => ?_)
      obtain ⟨v18, rfl, rfl, f19, f20, f21⟩ := hp
      show Tm _ _ 29 b σ [(1, .int (iI (σ.1 19))), (0, .ref b)] [.int (iI v18)] _
      have q2 := f20
      have n2_ := f21
      refine tm_if_ne (tgt := 57) dX12_statement_29 (by decide) ⟨by omega, by omega⟩ (fun h22 => ?_) (fun h22 => ?_)
      · refine tm_sub [0, 1] rfl (b_stm57 (d) (σ := σ) (p := σ.1 19) hcb hR hrd hnn k28 k29 ht (Or.inr (Or.inr (Or.inl (q2 (by omega))))) rfl (by omega) (fun v τ z1 z2 z3 z4 z5 z6 => ⟨_, rfl, z3, z1, z2, z4, z5, z6⟩) _  rfl)
      · refine tm_aload_n dX12_statement_32 rfl 1 rfl ?_
        refine tm_ldc2 dX12_statement_33 cst12_246 ?_
        refine tm_callV (M := m_X12_statement) (pc := 36) (ix := 339) (M' := m_X12_isWord) (As := [.long (26982)]) (rest := []) dX12_statement_36 ok_X12_isWord im_X12_isWord se_X12_isWord ml12_339 np_X12_isWord rfl rfl (Nat.le_of_ble_eq_true rfl) (Nat.le_of_ble_eq_true rfl) rfl (c2_X12_isWord (d + 3 * lv + 44) (σ := σ) (w := 26982) hR) (fun r23 σ24 hp => ?_)
        obtain ⟨v25, rfl, rfl, f26, f27, f28⟩ := hp
        show Tm _ _ 39 b σ [(1, .int (iI (σ.1 19))), (0, .ref b)] [.int (iI v25)] _
        have q3 := f27
        have n3_ := f28
        refine tm_if_ne (tgt := 57) dX12_statement_39 (by decide) ⟨by omega, by omega⟩ (fun h32 => ?_) (fun h32 => ?_)
        · refine tm_sub [0, 1] rfl (b_stm57 (d) (σ := σ) (p := σ.1 19) hcb hR hrd hnn k28 k29 ht (Or.inr (Or.inr (Or.inr (Or.inl (q3 (by omega)))))) rfl (by omega) (fun v τ z1 z2 z3 z4 z5 z6 => ⟨_, rfl, z3, z1, z2, z4, z5, z6⟩) _  rfl)
        · refine tm_aload_n dX12_statement_42 rfl 1 rfl ?_
          refine tm_ldc2 dX12_statement_43 cst12_250 ?_
          refine tm_callV (M := m_X12_statement) (pc := 46) (ix := 339) (M' := m_X12_isWord) (As := [.long (512852847717)]) (rest := []) dX12_statement_46 ok_X12_isWord im_X12_isWord se_X12_isWord ml12_339 np_X12_isWord rfl rfl (Nat.le_of_ble_eq_true rfl) (Nat.le_of_ble_eq_true rfl) rfl (c2_X12_isWord (d + 3 * lv + 44) (σ := σ) (w := 512852847717) hR) (fun r33 σ34 hp => ?_)
          obtain ⟨v35, rfl, rfl, f36, f37, f38⟩ := hp
          show Tm _ _ 49 b σ [(1, .int (iI (σ.1 19))), (0, .ref b)] [.int (iI v35)] _
          have q4 := f37
          have n4_ := f38
          refine tm_if_ne (tgt := 57) dX12_statement_49 (by decide) ⟨by omega, by omega⟩ (fun h39 => ?_) (fun h39 => ?_)
          · refine tm_sub [0, 1] rfl (b_stm57 (d) (σ := σ) (p := σ.1 19) hcb hR hrd hnn k28 k29 ht (Or.inr (Or.inr (Or.inr (Or.inr ((q4 (by omega))))))) rfl (by omega) (fun v τ z1 z2 z3 z4 z5 z6 => ⟨_, rfl, z3, z1, z2, z4, z5, z6⟩) _  rfl)
          · refine tm_aload_n dX12_statement_52 rfl 1 rfl ?_
            refine tm_callV (M := m_X12_statement) (pc := 53) (ix := 261) (M' := m_X12_wrong) (As := []) (rest := []) dX12_statement_53 ok_X12_wrong im_X12_wrong se_X12_wrong ml12_261 np_X12_wrong rfl rfl (Nat.le_of_ble_eq_true rfl) (Nat.le_of_ble_eq_true rfl) rfl (c_X12_wrong (d + 3 * lv + 44) (σ := σ)  hR) (fun r40 σ41 hp => ?_)
            obtain ⟨v42, rfl, f43, f44, f45, f46, f47, f48⟩ := hp
            show Tm _ _ 56 b σ41 [(1, .int (iI (σ.1 19))), (0, .ref b)] [.int (iI v42)] _
            exact tm_zret (v := v42) rfl (by omega) dX12_statement_56 (⟨_, rfl, by omega, (Fr.rfl.trans (Fr.sub f44 (by decide) (by decide) (by decide))), f45, ((TS.start hrd hnn : TS 20 0 σ [20] σ qq [] []).fail (PBF.of hnn f44 (by decide) (by decide) (by decide) (FLT.wr f47 f48)) (g20f (n4_ (by omega)) (n3_ (by omega)) (n1_ (by omega)) (n2_ (by omega)) (n0_ (by omega)) (WRG.of f48))).1, fun q => absurd q (by omega), fun _ => ((TS.start hrd hnn : TS 20 0 σ [20] σ qq [] []).fail (PBF.of hnn f44 (by decide) (by decide) (by decide) (FLT.wr f47 f48)) (g20f (n4_ (by omega)) (n3_ (by omega)) (n1_ (by omega)) (n2_ (by omega)) (n0_ (by omega)) (WRG.of f48))).2⟩)
end
section
theorem ml12_336 : Cond.methodLink RX12 336 yX12_statement ∈ pWW := pw8 (List.mem_of_getElem? (i := 193) rfl) rfl
theorem dX12_block_35 : decode cX12_block 35 = .ok (.aload_n 0, 1) := by decide +kernel
theorem dX12_block_36 : decode cX12_block 36 = .ok (.bipush 125, 2) := by decide +kernel
theorem dX12_block_38 : decode cX12_block 38 = .ok (.invokevirtual 258, 3) := by decide +kernel
theorem dX12_block_41 : decode cX12_block 41 = .ok (.ifCond .ne 12, 3) := by decide +kernel
theorem dX12_block_44 : decode cX12_block 44 = .ok (.aload_n 0, 1) := by decide +kernel
theorem dX12_block_45 : decode cX12_block 45 = .ok (.invokevirtual 336, 3) := by decide +kernel
theorem dX12_block_48 : decode cX12_block 48 = .ok (.ifCond .ne (-13), 3) := by decide +kernel
theorem dX12_block_51 : decode cX12_block 51 = .ok (.iconst 0, 1) := by decide +kernel
theorem dX12_block_52 : decode cX12_block 52 = .ok (.ireturn, 1) := by decide +kernel
set_option maxHeartbeats 4000000 in
set_option maxRecDepth 20000 in
theorem l_blk (d : Nat) {b : Nat} {σ0 : MS} {lv : Nat} {ρ : MS} {post : Option Value → MS → Prop} (hcb : ∀ (d : Nat) {b : Nat} {σ : MS} (hR : RG σ) (hrd : RDY σ) (hnn : NN σ) (h28 : σ.1 28 = 0) (h29 : σ.1 29 = 6 - (lv : Int)) (ht : 0 ≤ σ.1 43 ∧ σ.1 43 ≤ 260), Tm (d + 3 * lv + 44) m_X12_block 0 b σ [(0, .ref b)] [] (fun ro σ2 => ∃ v : Int, ro = some (.int (iI v)) ∧ ((v = 0 ∨ v = 1)) ∧ (Fr [19, 20, 22, 23, 26, 27, 28, 29, 31, 32, 33, 34, 39, 40] [3, 4, 5, 6, 7, 8, 35, 37, 41, 42] [24, 38] σ σ2) ∧ (RG σ2) ∧ (PBF σ σ2) ∧ (Im v 1 (BLQ 28 4 σ σ2)) ∧ (Im v 0 (∀ c : Int, GOF [28] σ (qq c) σ2)))) (hR0 : RG σ0) (ht : 0 ≤ σ0.1 43 ∧ σ0.1 43 ≤ 260) (h0r : 0 ≤ ρ.1 30 ∧ 0 ≤ ρ.1 34) (hx_53 : ∀ (σ : MS) , (Fr [19, 20, 22, 23, 26, 27, 28, 29, 31, 32, 33, 34, 39, 40] [3, 4, 5, 6, 7, 8, 35, 37, 41, 42] [24, 38] σ0 σ) → (RG σ) → (∃ lg, TS 28 2 ρ [29] σ qq lg [] ∧ SGF ρ σ lg ∧ FS ρ σ) → (σ.1 28 = 0) → (σ.1 29 = 6 - (lv : Int)) → (SG σ 125) → Tm (d + 3 * lv + 47) m_X12_block 53 b σ [(0, .ref b)] [] post) (hr0 : ∀ (τ : MS), Fr [19, 20, 22, 23, 26, 27, 28, 29, 31, 32, 33, 34, 39, 40] [3, 4, 5, 6, 7, 8, 35, 37, 41, 42] [24, 38] σ0 τ → RG τ → PBF ρ τ → (∀ c : Int, GOF [28] ρ (qq c) τ) → post (some (.int (iI 0))) τ) : ∀ (n : Nat) (σ : MS) , (Fr [19, 20, 22, 23, 26, 27, 28, 29, 31, 32, 33, 34, 39, 40] [3, 4, 5, 6, 7, 8, 35, 37, 41, 42] [24, 38] σ0 σ) → (RG σ) → (∃ lg, TS 28 2 ρ [29] σ qq lg [] ∧ SGF ρ σ lg ∧ FS ρ σ) → (σ.1 28 = 0) → (σ.1 29 = 6 - (lv : Int)) → (1300 - σ.1 19).toNat = n → Tm (d + 3 * lv + 47) m_X12_block 35 b σ [(0, .ref b)] [] post := by
  intro n
  induction n using Nat.strongRecOn with
  | _ n ih =>
    intro  σ hF hR hts h28 h29 hm
    obtain ⟨lg, ts, sg, fs⟩ := hts
    have tkb := ts.2.2.1.1.1
    have e43b : σ.1 43 = σ0.1 43 := hF.1 43 (by decide)
    refine tm_aload_n dX12_block_35 rfl 0 rfl ?_
    refine tm_bipush dX12_block_36 (by decide) ?_
    refine tm_callV (M := m_X12_block) (pc := 38) (ix := 258) (M' := m_X12_isSign) (As := [.int (iI 125)]) (rest := []) dX12_block_38 ok_X12_isSign im_X12_isSign se_X12_isSign ml12_258 np_X12_isSign rfl rfl (Nat.le_of_ble_eq_true rfl) (Nat.le_of_ble_eq_true rfl) rfl (c2_X12_isSign (d + 3 * lv + 45) (σ := σ) (c := 125) hR (by omega)) (fun r1 σ2 hp => ?_)
    obtain ⟨v3, rfl, rfl, f4, f5, f6⟩ := hp
    show Tm _ _ 41 b σ [(0, .ref b)] [.int (iI v3)] _
    have i125 := f5
    have n125_ := f6
    refine tm_if_ne (tgt := 53) dX12_block_41 (by decide) ⟨by omega, by omega⟩ (fun h7 => ?_) (fun h7 => ?_)
    · exact tm_sub [0] rfl (hx_53  σ (Fr.rfl.trans (Fr.sub hF (by decide) (by decide) (by decide))) hR ⟨lg, ts, sg, fs⟩ h28 h29 (i125 (by omega)))
    · refine tm_aload_n dX12_block_44 rfl 0 rfl ?_
      refine tm_callV (M := m_X12_block) (pc := 45) (ix := 336) (M' := m_X12_statement) (As := []) (rest := []) dX12_block_45 ok_X12_statement im_X12_statement se_X12_statement ml12_336 np_X12_statement rfl rfl (Nat.le_of_ble_eq_true rfl) (Nat.le_of_ble_eq_true rfl) rfl (c_X12_statement (d) (σ := σ)  hcb hR ts.2.2.1 ts.nn h28 h29 (by rw [e43b]; exact ht)) (fun r8 σ9 hp => ?_)
      obtain ⟨v10, rfl, f11, f12, f13, f14, f15, f16⟩ := hp
      show Tm _ _ 48 b σ9 [(0, .ref b)] [.int (iI v10)] _
      have sp0 := f11
      have sp1 := f12
      have sp2 := f13
      have sp3 := f14
      have sp4 := f15
      have sp5 := f16
      refine tm_if_ne (tgt := 35) dX12_block_48 (by decide) ⟨by omega, by omega⟩ (fun h17 => ?_) (fun h17 => ?_)
      · obtain ⟨l2, t2, s2, f2, a28, a29⟩ := sp4 (by omega)
        have z1 := t2.2.1
        unfold PBC at z1
        have z2 := sp3.2.2.2.2.2.1
        have z3 := t2.2.2.1.1.1
        exact tm_sub [0] rfl (ih _ (by omega)  σ9 ((Fr.rfl.trans (Fr.sub hF (by decide) (by decide) (by decide))).trans (Fr.sub f12 (by decide) (by decide) (by decide))) f13 (⟨_, ((ts.nxt (u29n (n125_ (by omega)))).sub t2).le (by decide), sg.cat s2 ts.1 sp3 ts.2.2.2.1 t2.2.2.2.1 h0r, fs.cat f2 ts.1 sp3 h0r⟩) (a28.trans h28) (a29.trans h29) rfl)
      · refine tm_iconst dX12_block_51 ?_
        exact tm_zret (v := 0) rfl (by decide) dX12_block_52 ((fun z => hr0 _ ((Fr.rfl.trans (Fr.sub hF (by decide) (by decide) (by decide))).trans (Fr.sub f12 (by decide) (by decide) (by decide))) f13 z.1 z.2) ((ts.nxt (u29n (n125_ (by omega)))).fail sp3 (sp5 (by omega) _)))
theorem fl12_333 : Cond.fieldLink RX12 333 (TX12 29).1 (TX12 29).2.1 (TX12 29).2.2.1 ∈ pWW := pw7 (List.mem_of_getElem? (i := 36) rfl) rfl
theorem dX12_block_0 : decode cX12_block 0 = .ok (.aload_n 0, 1) := by decide +kernel
theorem dX12_block_1 : decode cX12_block 1 = .ok (.getfield 333, 3) := by decide +kernel
theorem dX12_block_4 : decode cX12_block 4 = .ok (.bipush 6, 2) := by decide +kernel
theorem dX12_block_6 : decode cX12_block 6 = .ok (.if_icmp .ne 8, 3) := by decide +kernel
theorem dX12_block_14 : decode cX12_block 14 = .ok (.aload_n 0, 1) := by decide +kernel
theorem dX12_block_15 : decode cX12_block 15 = .ok (.dup, 1) := by decide +kernel
theorem dX12_block_16 : decode cX12_block 16 = .ok (.getfield 333, 3) := by decide +kernel
theorem dX12_block_19 : decode cX12_block 19 = .ok (.iconst 1, 1) := by decide +kernel
theorem dX12_block_20 : decode cX12_block 20 = .ok (.iadd, 1) := by decide +kernel
theorem dX12_block_21 : decode cX12_block 21 = .ok (.putfield 333, 3) := by decide +kernel
theorem dX12_block_24 : decode cX12_block 24 = .ok (.aload_n 0, 1) := by decide +kernel
theorem dX12_block_25 : decode cX12_block 25 = .ok (.bipush 123, 2) := by decide +kernel
theorem dX12_block_27 : decode cX12_block 27 = .ok (.invokevirtual 330, 3) := by decide +kernel
theorem dX12_block_30 : decode cX12_block 30 = .ok (.ifCond .ne 5, 3) := by decide +kernel
theorem dX12_block_53 : decode cX12_block 53 = .ok (.aload_n 0, 1) := by decide +kernel
theorem dX12_block_54 : decode cX12_block 54 = .ok (.invokevirtual 265, 3) := by decide +kernel
theorem dX12_block_57 : decode cX12_block 57 = .ok (.aload_n 0, 1) := by decide +kernel
theorem dX12_block_58 : decode cX12_block 58 = .ok (.dup, 1) := by decide +kernel
theorem dX12_block_59 : decode cX12_block 59 = .ok (.getfield 333, 3) := by decide +kernel
theorem dX12_block_62 : decode cX12_block 62 = .ok (.iconst 1, 1) := by decide +kernel
theorem dX12_block_63 : decode cX12_block 63 = .ok (.isub, 1) := by decide +kernel
theorem dX12_block_64 : decode cX12_block 64 = .ok (.putfield 333, 3) := by decide +kernel
theorem dX12_block_67 : decode cX12_block 67 = .ok (.iconst 1, 1) := by decide +kernel
theorem dX12_block_68 : decode cX12_block 68 = .ok (.ireturn, 1) := by decide +kernel
theorem dX12_block_33 : decode cX12_block 33 = .ok (.iconst 0, 1) := by decide +kernel
theorem dX12_block_34 : decode cX12_block 34 = .ok (.ireturn, 1) := by decide +kernel
set_option maxHeartbeats 4000000 in
set_option maxRecDepth 20000 in
theorem cs_X12_block (d : Nat) {b : Nat} {σ : MS} {lv : Nat} (hcb : ∀ (d : Nat) {b : Nat} {σ : MS} (hR : RG σ) (hrd : RDY σ) (hnn : NN σ) (h28 : σ.1 28 = 0) (h29 : σ.1 29 = 6 - (lv : Int)) (ht : 0 ≤ σ.1 43 ∧ σ.1 43 ≤ 260), Tm (d + 3 * lv + 44) m_X12_block 0 b σ [(0, .ref b)] [] (fun ro σ2 => ∃ v : Int, ro = some (.int (iI v)) ∧ ((v = 0 ∨ v = 1)) ∧ (Fr [19, 20, 22, 23, 26, 27, 28, 29, 31, 32, 33, 34, 39, 40] [3, 4, 5, 6, 7, 8, 35, 37, 41, 42] [24, 38] σ σ2) ∧ (RG σ2) ∧ (PBF σ σ2) ∧ (Im v 1 (BLQ 28 4 σ σ2)) ∧ (Im v 0 (∀ c : Int, GOF [28] σ (qq c) σ2)))) (hR : RG σ) (hrd : RDY σ) (hnn : NN σ) (h28 : σ.1 28 = 0) (h29 : σ.1 29 = 5 - (lv : Int)) (ht : 0 ≤ σ.1 43 ∧ σ.1 43 ≤ 260) : Tm (d + 3 * lv + 47) m_X12_block 0 b σ [(0, .ref b)] [] (fun ro σ2 => ∃ v : Int, ro = some (.int (iI v)) ∧ ((v = 0 ∨ v = 1)) ∧ (Fr [19, 20, 22, 23, 26, 27, 28, 29, 31, 32, 33, 34, 39, 40] [3, 4, 5, 6, 7, 8, 35, 37, 41, 42] [24, 38] σ σ2) ∧ (RG σ2) ∧ (PBF σ σ2) ∧ (Im v 1 (BLQ 28 4 σ σ2)) ∧ (Im v 0 (∀ c : Int, GOF [28] σ (qq c) σ2))) := by
  have rd0 := hrd.2
  have h0r : 0 ≤ σ.1 30 ∧ 0 ≤ σ.1 34 := ⟨hrd.2.2.1.1, hrd.2.2.2.1.1⟩
  refine tm_aload_n dX12_block_0 rfl 0 rfl ?_
  refine tm_getS (k := 29) (t := σ.1 29) dX12_block_1 (by decide) fl12_333 rfl (rfl) ?_
  have g1 := RG.s hR 29
  refine tm_bipush dX12_block_4 (by decide) ?_
  refine tm_icmp_ne (tgt := 14) dX12_block_6 (by decide) ⟨by omega, by omega⟩ ⟨by decide, by decide⟩ (fun h2 => ?_) (fun h2 => ?_)
  · refine tm_aload_n dX12_block_14 rfl 0 rfl ?_
    refine tm_dup dX12_block_15 rfl ?_
    refine tm_getS (k := 29) (t := σ.1 29) dX12_block_16 (by decide) fl12_333 rfl (rfl) ?_
    have g3 := RG.s hR 29
    refine tm_iconst dX12_block_19 ?_
    refine tm_iadd dX12_block_20 ?_
    refine tm_putS (k := 29) (v := (σ.1 29) + 1) lay_12 dX12_block_21 (by decide) fl12_333 rfl (tyX12_ok 29 (by decide)) rfl rfl rfl ?_
    have ts1 := (TS.start hrd hnn : TS 28 0 σ [28] σ qq [] []).blk (show Fr [29] [] [] σ (sS 29 ((σ.1 29) + 1) σ) from (Fr.rfl.S (by decide))) (u28 (by omega) ⟨rfl, rfl, rfl, rfl⟩ (MSE.fr (show Fr [29] [] [] σ (sS 29 ((σ.1 29) + 1) σ) from (Fr.rfl.S (by decide))) (by decide) (by decide) (by decide)))
    have tk1 := ts1.2.2.1.1.1
    refine tm_aload_n dX12_block_24 rfl 0 rfl ?_
    refine tm_bipush dX12_block_25 (by decide) ?_
    refine tm_callV (M := m_X12_block) (pc := 27) (ix := 330) (M' := m_X12_need) (As := [.int (iI 123)]) (rest := []) dX12_block_27 ok_X12_need im_X12_need se_X12_need ml12_330 np_X12_need rfl rfl (Nat.le_of_ble_eq_true rfl) (Nat.le_of_ble_eq_true rfl) rfl (c_X12_need (d + 3 * lv + 40) (σ := (sS 29 ((σ.1 29) + 1) σ)) (c := 123) (hR.S (by omega)) (by omega) (by omega)) (fun r4 σ5 hp => ?_)
    obtain ⟨v6, rfl, f7, f8, f9, f10, f11, f12, f13⟩ := hp
    show Tm _ _ 30 b σ5 [(0, .ref b)] [.int (iI v6)] _
    have yn0 := f7
    have yn1 := f8
    have yn2 := f9
    have yn3 := f10
    have yn4 := f11
    have yn5 := f12
    have yn6 := f13
    refine tm_if_ne (tgt := 35) dX12_block_30 (by decide) ⟨by omega, by omega⟩ (fun h14 => ?_) (fun h14 => ?_)
    · have ynq := yn3 (by omega)
      have ts2 := ts1.needy yn1 ynq.2.2.1 ynq.2.2.2.1 ynq.2.2.2.2 (by have z := ynq.1.1; omega) (un_123 ynq.1 ynq.2.1 (MSE.fr yn1 (by decide) (by decide) (by decide)))
      refine tm_sub [0] rfl (l_blk (d) (σ0 := σ5) (ρ := σ) hcb f9 (by rw [show σ5.1 43 = σ.1 43 from rs_F f8 (by decide) (rs_o (by decide) (rfl))]; exact ht) ⟨hrd.2.2.1.1, hrd.2.2.2.1.1⟩ (fun σ22 F16 R17 f18 f19 f20 f21 => ?_) (fun τ z1 z2 z3 z4 => ⟨_, rfl, by omega, (show Fr [19, 20, 22, 23, 26, 27, 28, 29, 31, 32, 33, 34, 39, 40] [3, 4, 5, 6, 7, 8, 35, 37, 41, 42] [24, 38] σ σ5 from ((Fr.rfl.S (by decide)).trans (Fr.sub f8 (by decide) (by decide) (by decide)))).trans z1, z2, z3, fun q => absurd q (by decide), fun _ => z4⟩) _ σ5 Fr.rfl f9 ⟨[], ts2.le (by decide), SGF.nil (show σ5.1 34 = σ.1 34 from rs_F f8 (by decide) (rs_o (by decide) (rfl))) (by rw [show σ5.1 33 = σ.1 33 from rs_F f8 (by decide) (rs_o (by decide) (rfl))]; omega), FS.nil (show σ5.1 34 = σ.1 34 from rs_F f8 (by decide) (rs_o (by decide) (rfl)))⟩ ((show σ5.1 28 = σ.1 28 from rs_F f8 (by decide) (rs_o (by decide) (rfl))).trans h28) (by rw [show σ5.1 29 = (σ.1 29) + 1 from rs_F f8 (by decide) (rs_eq)]; omega) rfl)
      show Tm _ _ 53 b σ22 [(0, .ref b)] [] _
      obtain ⟨lg, ts3, sg, fs⟩ := f18
      have l28 := f19
      have l29 := f20
      have l125 := f21
      have tk3 := ts3.2.2.1.1.1
      have R53 := R17
      refine tm_aload_n dX12_block_53 rfl 0 rfl ?_
      refine tm_callV (M := m_X12_block) (pc := 54) (ix := 265) (M' := m_X12_advance) (As := []) (rest := []) dX12_block_54 ok_X12_advance im_X12_advance se_X12_advance ml12_265 np_X12_advance rfl rfl (Nat.le_of_ble_eq_true rfl) (Nat.le_of_ble_eq_true rfl) rfl (c_X12_advance (d + 3 * lv + 41) (σ := σ22)  R53 (by omega)) (fun r23 σ24 hp => ?_)
      obtain ⟨rfl, f26, f27, f28, f29, f30⟩ := hp
      show Tm _ _ 57 b σ24 [(0, .ref b)] [] _
      have ad0 := f26
      have ad1 := f27
      have ad2 := f28
      have ad3 := f29
      have ad4 := f30
      have ts4 := ts3.adv ad1 ad3 ad4 (by have z := l125.1; omega) (u29y l125 ad0 (MSE.fr ad1 (by decide) (by decide) (by decide)))
      have e29d : σ24.1 29 = 6 - (lv : Int) := (ad1.1 29 (by decide)).trans l29
      refine tm_aload_n dX12_block_57 rfl 0 rfl ?_
      refine tm_dup dX12_block_58 rfl ?_
      refine tm_getS (k := 29) (t := σ22.1 29) dX12_block_59 (by decide) fl12_333 rfl (rs_F f27 (by decide) (rfl)) ?_
      have g31 := RG.s R17 29
      refine tm_iconst dX12_block_62 ?_
      refine tm_isub dX12_block_63 ?_
      refine tm_putS (k := 29) (v := (σ22.1 29) - 1) lay_12 dX12_block_64 (by decide) fl12_333 rfl (tyX12_ok 29 (by decide)) rfl rfl rfl ?_
      have fz := (show Fr [29] [] [] σ24 (sS 29 ((σ22.1 29) - 1) σ24) from (Fr.rfl.S (by decide)))
      have ts5 := ts4.blk fz (u40 ⟨rfl, by unfold xs; rw [show (sS 29 ((σ22.1 29) - 1) σ24).1 29 = (σ22.1 29) - 1 from rs_eq, fz.1 28 (by decide), fz.1 34 (by decide), ad1.1 29 (by decide)], rfl, rfl⟩ (MSE.fr fz (by decide) (by decide) (by decide)))
      have pbz : PBF σ22 (sS 29 ((σ22.1 29) - 1) σ24) := (PBF.nop ts3.nn ad1 (by decide) (by decide) (by decide)).trans (PBF.nop ts4.nn fz (by decide) (by decide) (by decide))
      have e34z : (sS 29 ((σ22.1 29) - 1) σ24).1 34 = σ22.1 34 := (fz.1 34 (by decide)).trans (ad1.1 34 (by decide))
      have e33z : (sS 29 ((σ22.1 29) - 1) σ24).1 33 = σ22.1 33 := (fz.1 33 (by decide)).trans (ad1.1 33 (by decide))
      have tbz : TBm σ22 (sS 29 ((σ22.1 29) - 1) σ24) := (TBm.of ad1 (by decide) (by decide) (by decide) (by decide)).trans (TBm.of fz (by decide) (by decide) (by decide) (by decide))
      refine tm_iconst dX12_block_67 ?_
      exact tm_zret (v := 1) rfl (by decide) dX12_block_68 (⟨_, rfl, by omega, (((((Fr.rfl.S (by decide)).trans (Fr.sub f8 (by decide) (by decide) (by decide))).trans (Fr.sub F16 (by decide) (by decide) (by decide))).trans (Fr.sub f27 (by decide) (by decide) (by decide))).S (by decide)), (f28.S (by omega)), ts5.1, fun _ => ⟨lg, ts5.le (by decide), (by have z := sg.cat (SGF.nil e34z (by rw [e33z]; omega) : SGF _ (sS 29 ((σ22.1 29) - 1) σ24) []) ts3.1 pbz ts3.2.2.2.1 tbz h0r; rw [List.append_nil] at z; exact z), fs.cat (FS.nil e34z) ts3.1 pbz h0r, (fz.1 28 (by decide)).trans ((ad1.1 28 (by decide)).trans (l28.trans h28.symm)), (by rw [show (sS 29 ((σ22.1 29) - 1) σ24).1 29 = (σ22.1 29) - 1 from rs_eq]; omega)⟩, fun q => absurd q (by decide)⟩)
    · refine tm_iconst dX12_block_33 ?_
      exact tm_zret (v := 0) rfl (by decide) dX12_block_34 (⟨_, rfl, by omega, ((Fr.rfl.S (by decide)).trans (Fr.sub f8 (by decide) (by decide) (by decide))), f9, (ts1.fail (PBF.of ts1.nn yn1 (by decide) (by decide) (by decide) yn5) (gf_123 (yn4 (by omega)) (yn6 (by omega)))).1, fun q => absurd q (by omega), fun _ => (ts1.fail (PBF.of ts1.nn yn1 (by decide) (by decide) (by decide) yn5) (gf_123 (yn4 (by omega)) (yn6 (by omega)))).2⟩)
  · exfalso; omega
theorem dX12_block_9 : decode cX12_block 9 = .ok (.aload_n 0, 1) := by decide +kernel
theorem dX12_block_10 : decode cX12_block 10 = .ok (.invokevirtual 261, 3) := by decide +kernel
theorem dX12_block_13 : decode cX12_block 13 = .ok (.ireturn, 1) := by decide +kernel
set_option maxHeartbeats 4000000 in
set_option maxRecDepth 20000 in
theorem c0_X12_block (d : Nat) {b : Nat} {σ : MS} (hR : RG σ) (hrd : RDY σ) (hnn : NN σ) (h28 : σ.1 28 = 0) (h29 : σ.1 29 = 6) (ht : 0 ≤ σ.1 43 ∧ σ.1 43 ≤ 260) : Tm (d + 44) m_X12_block 0 b σ [(0, .ref b)] [] (fun ro σ2 => ∃ v : Int, ro = some (.int (iI v)) ∧ ((v = 0 ∨ v = 1)) ∧ (Fr [19, 20, 22, 23, 26, 27, 28, 29, 31, 32, 33, 34, 39, 40] [3, 4, 5, 6, 7, 8, 35, 37, 41, 42] [24, 38] σ σ2) ∧ (RG σ2) ∧ (PBF σ σ2) ∧ (Im v 1 (BLQ 28 4 σ σ2)) ∧ (Im v 0 (∀ c : Int, GOF [28] σ (qq c) σ2))) := by
  refine tm_aload_n dX12_block_0 rfl 0 rfl ?_
  refine tm_getS (k := 29) (t := σ.1 29) dX12_block_1 (by decide) fl12_333 rfl (rfl) ?_
  have g1 := RG.s hR 29
  refine tm_bipush dX12_block_4 (by decide) ?_
  refine tm_icmp_ne (tgt := 14) dX12_block_6 (by decide) ⟨by omega, by omega⟩ ⟨by decide, by decide⟩ (fun h2 => ?_) (fun h2 => ?_)
  · exfalso; omega
  · refine tm_aload_n dX12_block_9 rfl 0 rfl ?_
    refine tm_callV (M := m_X12_block) (pc := 10) (ix := 261) (M' := m_X12_wrong) (As := []) (rest := []) dX12_block_10 ok_X12_wrong im_X12_wrong se_X12_wrong ml12_261 np_X12_wrong rfl rfl (Nat.le_of_ble_eq_true rfl) (Nat.le_of_ble_eq_true rfl) rfl (c_X12_wrong (d + 42) (σ := σ)  hR) (fun r3 σ4 hp => ?_)
    obtain ⟨v5, rfl, f6, f7, f8, f9, f10, f11⟩ := hp
    show Tm _ _ 13 b σ4 [(0, .ref b)] [.int (iI v5)] _
    exact tm_zret (v := v5) rfl (by omega) dX12_block_13 (⟨_, rfl, by omega, (Fr.rfl.trans (Fr.sub f7 (by decide) (by decide) (by decide))), f8, ((TS.start hrd hnn : TS 28 0 σ [28] σ qq [] []).fail (PBF.of hnn f7 (by decide) (by decide) (by decide) (FLT.wr f10 f11)) (g28f (by omega) (WRG.of f11))).1, fun q => absurd q (by omega), fun _ => ((TS.start hrd hnn : TS 28 0 σ [28] σ qq [] []).fail (PBF.of hnn f7 (by decide) (by decide) (by decide) (FLT.wr f10 f11)) (g28f (by omega) (WRG.of f11))).2⟩)
theorem c_blk : ∀ (lv : Nat), ∀ (d : Nat) {b : Nat} {σ : MS} (hR : RG σ) (hrd : RDY σ) (hnn : NN σ) (h28 : σ.1 28 = 0) (h29 : σ.1 29 = 6 - (lv : Int)) (ht : 0 ≤ σ.1 43 ∧ σ.1 43 ≤ 260), Tm (d + 3 * lv + 44) m_X12_block 0 b σ [(0, .ref b)] [] (fun ro σ2 => ∃ v : Int, ro = some (.int (iI v)) ∧ ((v = 0 ∨ v = 1)) ∧ (Fr [19, 20, 22, 23, 26, 27, 28, 29, 31, 32, 33, 34, 39, 40] [3, 4, 5, 6, 7, 8, 35, 37, 41, 42] [24, 38] σ σ2) ∧ (RG σ2) ∧ (PBF σ σ2) ∧ (Im v 1 (BLQ 28 4 σ σ2)) ∧ (Im v 0 (∀ c : Int, GOF [28] σ (qq c) σ2))) := by
  intro lv
  induction lv with
  | zero =>
    intro d b σ hR hrd hnn h28 h29 ht
    exact c0_X12_block d hR hrd hnn h28 (by omega) ht
  | succ lv ih =>
    intro d b σ hR hrd hnn h28 h29 ht
    rw [show d + 3 * (lv + 1) + 44 = d + 3 * lv + 47 by omega]
    exact cs_X12_block d (lv := lv) ih hR hrd hnn h28 (by omega) ht
theorem c_blk6 (d : Nat) {b : Nat} {σ : MS} (hR : RG σ) (hrd : RDY σ) (hnn : NN σ) (h28 : σ.1 28 = 0) (h29 : σ.1 29 = 0) (ht : 0 ≤ σ.1 43 ∧ σ.1 43 ≤ 260) : Tm (d + 62) m_X12_block 0 b σ [(0, .ref b)] [] (fun ro σ2 => ∃ v : Int, ro = some (.int (iI v)) ∧ ((v = 0 ∨ v = 1)) ∧ (Fr [19, 20, 22, 23, 26, 27, 28, 29, 31, 32, 33, 34, 39, 40] [3, 4, 5, 6, 7, 8, 35, 37, 41, 42] [24, 38] σ σ2) ∧ (RG σ2) ∧ (PBF σ σ2) ∧ (Im v 1 (BLQ 28 4 σ σ2)) ∧ (Im v 0 (∀ c : Int, GOF [28] σ (qq c) σ2))) := c_blk 6 d hR hrd hnn h28 (by omega) ht
end
section
theorem Fr.set {ss ks js : List Nat} {σ τ : MS} (f : Fr ss ks js σ τ) (k : Nat) (v : Int) : Fr ss ks js (sS k v σ) (sS k v τ) := ⟨fun j hj => by
  show (if j = k then v else τ.1 j) = if j = k then v else σ.1 j
  rw [f.1 j hj], f.2.1, f.2.2⟩
theorem ADVm.any {σ τ : MS} (a : ADVm σ τ) (m : Int) : ADVm (sS 34 m σ) (sS 34 m τ) := ⟨a.1, by
  have h := a.2.1
  unfold xs at h
  have h1 : τ.1 28 = σ.1 28 := congrArg Prod.fst h
  have h2 : τ.1 29 = σ.1 29 := congrArg (fun z => z.2.1) h
  show (τ.1 28, τ.1 29, m) = (σ.1 28, σ.1 29, m)
  rw [h1, h2], a.2.2.1, a.2.2.2⟩
def GOX (ks : List Nat) (σ : MS) (q : QR) (ks' : List Nat) (τ : MS) (q' : QR) : Prop := ∀ x, GOI ks (sS 34 x σ) q ks' (sS 34 x τ) q'
section GX
variable {a rest new kk : List Nat} {k : Nat} {ρ σ τ : MS} {q q1 q2 : QR}
theorem GOX.start : GOX a ρ q a ρ q := fun _ => GOI.start
theorem GOX.nxt (h : GOX a ρ q (k :: rest) σ q1) (g : ∀ x, GOI [k] (sS 34 x σ) q1 new (sS 34 x τ) q2) : GOX a ρ q (new ++ rest) τ q2 := fun x => (h x).then ((g x).more rest)
theorem GOX.fail (h : GOX a ρ q (k :: rest) σ q1) (g : ∀ x, GOF [k] (sS 34 x σ) q1 τ) : ∀ x, GOF a (sS 34 x ρ) q τ := fun x => (h x).1.fail ((g x).more rest)
end GX
theorem WRG.x {σ τ : MS} (h : WRG σ τ) (x : Int) : WRG (sS 34 x σ) τ := h
theorem ntP_2 {f p : Int} {A : MS} : ntP f p (ntP f p A) = ntP f p A := by
  by_cases c : 0 < A.1 25 ∧ (A.1 26 = 0 ∨ p < A.1 27 ∨ (p = A.1 27 ∧ f < A.1 26))
  · have e : ntP f p A = sS 27 p (sS 26 f A) := by unfold ntP; rw [if_pos c]
    rw [e]
    unfold ntP
    by_cases z : f = 0
    · rw [if_pos ⟨c.1, Or.inl z⟩]
      refine Prod.ext (funext fun j => ?_) rfl
      simp only [sS]
      by_cases h1 : j = 27
      · simp [h1]
      · by_cases h2 : j = 26
        · simp [h2]
        · simp [h1, h2]
    · rw [if_neg (fun y => by
        have y2 : f = 0 ∨ p < p ∨ (p = p ∧ f < f) := y.2
        omega)]
  · have e : ntP f p A = A := by unfold ntP; rw [if_neg c]
    rw [e, e]
theorem GOS.and {a b c : List Nat} {σ τ υ : MS} {q q1 q2 : QR} {l1 : List EV} (h : GOS a σ q b τ q1 l1) (g : GOS b τ q1 c υ q2 []) : GOS a σ q c υ q2 l1 := by
  have x := h.trans g
  rw [List.append_nil] at x
  exact x
theorem ntP_fr {f p : Int} {A : MS} : Fr [26, 27] [] [] A (ntP f p A) := by
  unfold ntP
  split
  · exact (Fr.rfl.S (by decide)).S (by decide)
  · exact Fr.rfl
theorem NFD_fr {ss ks js : List Nat} {σ τ : MS} {w : Int64} (f : Fr ss ks js σ τ) (h1 : 30 ∉ ss) (h2 : 35 ∉ ks) (h3 : 38 ∉ js) : NFD τ w ↔ NFD σ w := by unfold NFD; rw [f.1 30 h1, f.2.1 35 h2, f.2.2 38 h3]
noncomputable def DPN (i p : Int) (A : MS) : MS := ifP (∃ j, 0 ≤ j ∧ j < i ∧ A.2.2 38 (12 * A.1 30 + j) = A.2.2 24 0) (ntP 2 p A) A
noncomputable def DPA (p : Int) (A : MS) : MS := ifP (A.1 30 < 6 ∧ NFD A (A.2.2 24 0)) (ntP 2 p A) A
theorem DPN.zero {p : Int} {A : MS} : A = DPN 0 p A := by
  unfold DPN
  rw [ifP_f (fun z => by obtain ⟨j, a, b, -⟩ := z; omega)]
theorem DPN.no {i p : Int} {A σ : MS} (h : σ = DPN i p A) (hn : A.2.2 38 (12 * A.1 30 + i) ≠ A.2.2 24 0) : σ = DPN (i + 1) p A := by
  rw [h]
  unfold DPN
  by_cases c : ∃ j, 0 ≤ j ∧ j < i ∧ A.2.2 38 (12 * A.1 30 + j) = A.2.2 24 0
  · obtain ⟨j, a, b, e⟩ := c
    rw [ifP_t ⟨j, a, b, e⟩, ifP_t ⟨j, a, by omega, e⟩]
  · rw [ifP_f c, ifP_f (fun z => by
      obtain ⟨j, a, b, e⟩ := z
      by_cases y : j = i
      · rw [y] at e; exact hn e
      · exact c ⟨j, a, by omega, e⟩)]
theorem DPN.yes {i p : Int} {A σ τ : MS} (h : σ = DPN i p A) (h0 : 0 ≤ i) (hy : A.2.2 38 (12 * A.1 30 + i) = A.2.2 24 0) (e : τ = ntP 2 p σ) : τ = DPN (i + 1) p A := by
  have e2 : DPN (i + 1) p A = ntP 2 p A := by unfold DPN; rw [ifP_t ⟨i, h0, by omega, hy⟩]
  rw [e, e2, h]
  unfold DPN
  by_cases c : ∃ j, 0 ≤ j ∧ j < i ∧ A.2.2 38 (12 * A.1 30 + j) = A.2.2 24 0
  · rw [ifP_t c, ntP_2]
  · rw [ifP_f c]
theorem DPN.fin1 {i p : Int} {A σ : MS} (h : σ = DPN i p A) (hi : i = 0) (hr : ¬ A.1 30 < 6) : σ = DPA p A := by
  rw [h, hi, ← DPN.zero]
  unfold DPA
  rw [ifP_f (fun z => hr z.1)]
theorem DPN.fin2 {i p : Int} {A σ : MS} (h : σ = DPN i p A) (hr : A.1 30 < 6) (hi : i = A.2.1 35 (A.1 30)) : σ = DPA p A := by
  rw [h]
  unfold DPN DPA
  by_cases c : NFD A (A.2.2 24 0)
  · rw [ifP_t (⟨hr, c⟩ : A.1 30 < 6 ∧ NFD A (A.2.2 24 0))]
    obtain ⟨n, a, b, e⟩ := c
    rw [ifP_t ⟨n, a, by omega, e⟩]
  · rw [ifP_f (fun z : A.1 30 < 6 ∧ NFD A (A.2.2 24 0) => c z.2), ifP_f (fun z => by
      obtain ⟨j, a, b, e⟩ := z
      exact c ⟨j, a, by omega, e⟩)]
theorem paP_1 {σ : MS} {m : Int} (h1 : σ.1 25 = 1) : paP (σ.2.2 24 0) (σ.1 19) m σ = nmP (σ.2.2 24 0) (σ.1 19) (DPA (σ.1 19) (ifP (m = 4) (ntP 5 (σ.1 19) σ) σ)) := by
  unfold paP
  rw [ifP_t h1]
  have f : Fr [26, 27] [] [] σ (ifP (m = 4) (ntP 5 (σ.1 19) σ) σ) := by
    by_cases c : m = 4
    · rw [ifP_t c]; exact ntP_fr
    · rw [ifP_f c]; exact Fr.rfl
  unfold DPA
  rw [f.1 30 (by decide), f.2.2 24 (by decide), show NFD (ifP (m = 4) (ntP 5 (σ.1 19) σ) σ) (σ.2.2 24 0) = NFD σ (σ.2.2 24 0) from propext (NFD_fr f (by decide) (by decide) (by decide))]
theorem paP_0 {σ : MS} {w : Int64} {p m : Int} (h1 : ¬ σ.1 25 = 1) : paP w p m σ = σ := by unfold paP; rw [ifP_f h1]
def PEN (ρ σ : MS) (m : Int) : Prop := (GOX [30] ρ (qq 0) [31] σ (0, 0, 0, m, ρ.1 19) ∧ SG σ 41) ∨ (GOX [30] ρ (qq 0) [33] σ (0, 0, 0, m, ρ.1 19) ∧ ¬ SG σ 44)
theorem PEN.go {ρ σ τ : MS} {m : Int} (h : PEN ρ σ m) (s : SAM σ τ) (e34 : ∀ x, xs (sS 34 x τ) = xs (sS 34 x σ)) (f : srt τ = srt (peP m σ)) : GOX [30] ρ (qq 0) [141, 35] τ (0, 0, 0, m, ρ.1 19) := by
  have ef : ∀ x, EFF [(7, 0, m, 0)] (sS 34 x σ) (sS 34 x τ) := fun x => EFF.pend ((show srt (sS 34 x τ) = srt (peP m σ) from f).trans (srt_pe (A := σ) (σ := sS 34 x σ) rfl))
  rcases h with ⟨g, y⟩ | ⟨g, y⟩
  · exact g.nxt (fun x => wx31y (q := (0, 0, 0, m, ρ.1 19)) y ⟨s.1, e34 x, s.2.2⟩ (ef x))
  · exact g.nxt (fun x => wx33n (q := (0, 0, 0, m, ρ.1 19)) y ⟨s.1, e34 x, s.2.2⟩ (ef x))
def SBT : List Nat := [0, 1, 2, 3, 4, 6, 7, 8, 9, 20, 21, 22, 23, 24, 25, 26, 27, 28, 29, 38, 39, 40, 51, 52, 141, 159, 161, 223]
theorem stk_0 {s : Int → Int} {t : TK} {x : Int × Int × Int} {q : QR} : stk s 0 t x q = (if sgn t 45 then some ([1, 51], advT s t.2.1, x, q, []) else some ([1], t, x, q, [])) := rfl
theorem stk_1 {s : Int → Int} {t : TK} {x : Int × Int × Int} {q : QR} : stk s 1 t x q = (if t.2.2.1 = 3 ∨ nam t then some ([], advT s t.2.1, x, q, []) else if sgn t 40 then some ([2, 141], advT s t.2.1, x, q, []) else none) := rfl
theorem stk_2 {s : Int → Int} {t : TK} {x : Int × Int × Int} {q : QR} : stk s 2 t x q = (if x.1 = 8 then none else some ([3, 6], t, (x.1 + 1, x.2.1, x.2.2), q, [])) := rfl
theorem stk_3 {s : Int → Int} {t : TK} {x : Int × Int × Int} {q : QR} : stk s 3 t x q = (some ([4, 8], t, x, q, [])) := rfl
theorem stk_4 {s : Int → Int} {t : TK} {x : Int × Int × Int} {q : QR} : stk s 4 t x q = (some ([0, 9], t, x, q, [])) := rfl
theorem stk_6 {s : Int → Int} {t : TK} {x : Int × Int × Int} {q : QR} : stk s 6 t x q = (if sgn t 61 ∨ sgn t 60 then some ([3, 51, 7], advT s t.2.1, x, q, []) else some ([7], t, x, q, [])) := rfl
theorem stk_7 {s : Int → Int} {t : TK} {x : Int × Int × Int} {q : QR} : stk s 7 t x q = (some ([], t, (x.1 - 1, x.2.1, x.2.2), q, [])) := rfl
theorem stk_8 {s : Int → Int} {t : TK} {x : Int × Int × Int} {q : QR} : stk s 8 t x q = (if sgn t 43 ∨ sgn t 45 then some ([4, 51, 8], advT s t.2.1, x, q, []) else some ([], t, x, q, [])) := rfl
theorem stk_9 {s : Int → Int} {t : TK} {x : Int × Int × Int} {q : QR} : stk s 9 t x q = (if sgn t 42 then some ([0, 51, 9], advT s t.2.1, x, q, []) else some ([], t, x, q, [])) := rfl
theorem stk_20 {s : Int → Int} {t : TK} {x : Int × Int × Int} {q : QR} : stk s 20 t x q = (if wrd t 512852847717 then some ([22], t, x, q, []) else if wrd t 26982 then some ([51, 21], t, x, q, []) else if wrd t 7304564 ∨ wrd t 125780071117422 then some ([51, 39], t, x, q, []) else if nam t then some ([51, 23], t, x, q, []) else none) := rfl
theorem stk_21 {s : Int → Int} {t : TK} {x : Int × Int × Int} {q : QR} : stk s 21 t x q = (some ([2, 51, 28, 24], advT s t.2.1, x, q, [])) := rfl
theorem stk_22 {s : Int → Int} {t : TK} {x : Int × Int × Int} {q : QR} : stk s 22 t x q = (some ([52, 2, 51, 28, 52], advT s t.2.1, x, q, [])) := rfl
theorem stk_23 {s : Int → Int} {t : TK} {x : Int × Int × Int} {q : QR} : stk s 23 t x q = (some ([161, 25], advT s t.2.1, x, q, [])) := rfl
theorem stk_24 {s : Int → Int} {t : TK} {x : Int × Int × Int} {q : QR} : stk s 24 t x q = (if wrd t 1701606245 then some ([52, 28, 51], advT s t.2.1, x, q, []) else some ([51], t, x, q, [])) := rfl
theorem stk_25 {s : Int → Int} {t : TK} {x : Int × Int × Int} {q : QR} : stk s 25 t x q = (if nam t then (if sgn (advT s t.2.1) 40 then some ([26, 159], advT s t.2.1, x, (t.2.2.2.2, 0, t.1, q.2.2.2), []) else some ([2, 52, 159], (t.1, t.2.1, 2, (advT s t.2.1).2.2.2.1, t.2.2.2.2), x, q, [])) else some ([2, 52, 159], t, x, q, [])) := rfl
theorem stk_26 {s : Int → Int} {t : TK} {x : Int × Int × Int} {q : QR} : stk s 26 t x q = (if sgn (advT s t.2.1) 41 then some ([38, 141], advT s t.2.1, x, q, []) else some ([2, 27], advT s t.2.1, x, q, [])) := rfl
theorem stk_27 {s : Int → Int} {t : TK} {x : Int × Int × Int} {q : QR} : stk s 27 t x q = (if sgn t 44 then some ([2, 27], advT s t.2.1, x, (q.1, q.2.1 + 1, q.2.2), []) else some ([38, 141], t, x, (q.1, q.2.1 + 1, q.2.2), [])) := rfl
theorem stk_28 {s : Int → Int} {t : TK} {x : Int × Int × Int} {q : QR} : stk s 28 t x q = (if x.2.1 = 6 then none else some ([223, 29], t, (x.1, x.2.1 + 1, x.2.2), q, [])) := rfl
theorem stk_29 {s : Int → Int} {t : TK} {x : Int × Int × Int} {q : QR} : stk s 29 t x q = (if sgn t 125 then some ([40], advT s t.2.1, x, q, []) else some ([20, 29], t, x, q, [])) := rfl
theorem stk_38 {s : Int → Int} {t : TK} {x : Int × Int × Int} {q : QR} : stk s 38 t x q = (some ([], t, (x.1, x.2.1, x.2.2 + 2), (0, 0, 0, q.2.2.2), [(1, q.2.1, q.1)])) := rfl
theorem stk_39 {s : Int → Int} {t : TK} {x : Int × Int × Int} {q : QR} : stk s 39 t x q = (some ([2, 51, 159], advT s t.2.1, x, q, [])) := rfl
theorem stk_40 {s : Int → Int} {t : TK} {x : Int × Int × Int} {q : QR} : stk s 40 t x q = (some ([], t, (x.1, x.2.1 - 1, x.2.2), q, [])) := rfl
theorem stk_51 {s : Int → Int} {t : TK} {x : Int × Int × Int} {q : QR} : stk s 51 t x q = (some ([], t, (x.1, x.2.1, x.2.2 + 1), q, [])) := rfl
theorem stk_52 {s : Int → Int} {t : TK} {x : Int × Int × Int} {q : QR} : stk s 52 t x q = (some ([], t, (x.1, x.2.1, x.2.2 + 2), q, [])) := rfl
theorem stk_141 {s : Int → Int} {t : TK} {x : Int × Int × Int} {q : QR} : stk s 141 t x q = (if sgn t (((141 : Nat) : Int) - 100) then some ([], advT s t.2.1, x, q, []) else none) := rfl
theorem stk_159 {s : Int → Int} {t : TK} {x : Int × Int × Int} {q : QR} : stk s 159 t x q = (if sgn t (((159 : Nat) : Int) - 100) then some ([], advT s t.2.1, x, q, []) else none) := rfl
theorem stk_161 {s : Int → Int} {t : TK} {x : Int × Int × Int} {q : QR} : stk s 161 t x q = (if sgn t (((161 : Nat) : Int) - 100) then some ([], advT s t.2.1, x, q, []) else none) := rfl
theorem stk_223 {s : Int → Int} {t : TK} {x : Int × Int × Int} {q : QR} : stk s 223 t x q = (if sgn t (((223 : Nat) : Int) - 100) then some ([], advT s t.2.1, x, q, []) else none) := rfl
theorem stk_sub {s : Int → Int} {t : TK} {x : Int × Int × Int} {q : QR} {k : Nat} {r : List Nat × TK × (Int × Int × Int) × QR × List EV} (hk : k ∈ SBT) (h : stk s k t x q = some r) : (∀ j ∈ r.1, j ∈ SBT) ∧ ∀ e ∈ r.2.2.2.2, e.1 = 1 := by
  simp only [SBT, List.mem_cons, List.not_mem_nil, or_false] at hk
  rcases hk with rfl | rfl | rfl | rfl | rfl | rfl | rfl | rfl | rfl | rfl | rfl | rfl | rfl | rfl | rfl | rfl | rfl | rfl | rfl | rfl | rfl | rfl | rfl | rfl | rfl | rfl | rfl | rfl
  · rw [stk_0] at h
    repeat' (split at h)
    all_goals first
      | (cases h; constructor <;> simp [SBT])
      | cases h
  · rw [stk_1] at h
    repeat' (split at h)
    all_goals first
      | (cases h; constructor <;> simp [SBT])
      | cases h
  · rw [stk_2] at h
    repeat' (split at h)
    all_goals first
      | (cases h; constructor <;> simp [SBT])
      | cases h
  · rw [stk_3] at h
    repeat' (split at h)
    all_goals first
      | (cases h; constructor <;> simp [SBT])
      | cases h
  · rw [stk_4] at h
    repeat' (split at h)
    all_goals first
      | (cases h; constructor <;> simp [SBT])
      | cases h
  · rw [stk_6] at h
    repeat' (split at h)
    all_goals first
      | (cases h; constructor <;> simp [SBT])
      | cases h
  · rw [stk_7] at h
    repeat' (split at h)
    all_goals first
      | (cases h; constructor <;> simp [SBT])
      | cases h
  · rw [stk_8] at h
    repeat' (split at h)
    all_goals first
      | (cases h; constructor <;> simp [SBT])
      | cases h
  · rw [stk_9] at h
    repeat' (split at h)
    all_goals first
      | (cases h; constructor <;> simp [SBT])
      | cases h
  · rw [stk_20] at h
    repeat' (split at h)
    all_goals first
      | (cases h; constructor <;> simp [SBT])
      | cases h
  · rw [stk_21] at h
    repeat' (split at h)
    all_goals first
      | (cases h; constructor <;> simp [SBT])
      | cases h
  · rw [stk_22] at h
    repeat' (split at h)
    all_goals first
      | (cases h; constructor <;> simp [SBT])
      | cases h
  · rw [stk_23] at h
    repeat' (split at h)
    all_goals first
      | (cases h; constructor <;> simp [SBT])
      | cases h
  · rw [stk_24] at h
    repeat' (split at h)
    all_goals first
      | (cases h; constructor <;> simp [SBT])
      | cases h
  · rw [stk_25] at h
    repeat' (split at h)
    all_goals first
      | (cases h; constructor <;> simp [SBT])
      | cases h
  · rw [stk_26] at h
    repeat' (split at h)
    all_goals first
      | (cases h; constructor <;> simp [SBT])
      | cases h
  · rw [stk_27] at h
    repeat' (split at h)
    all_goals first
      | (cases h; constructor <;> simp [SBT])
      | cases h
  · rw [stk_28] at h
    repeat' (split at h)
    all_goals first
      | (cases h; constructor <;> simp [SBT])
      | cases h
  · rw [stk_29] at h
    repeat' (split at h)
    all_goals first
      | (cases h; constructor <;> simp [SBT])
      | cases h
  · rw [stk_38] at h
    repeat' (split at h)
    all_goals first
      | (cases h; constructor <;> simp [SBT])
      | cases h
  · rw [stk_39] at h
    repeat' (split at h)
    all_goals first
      | (cases h; constructor <;> simp [SBT])
      | cases h
  · rw [stk_40] at h
    repeat' (split at h)
    all_goals first
      | (cases h; constructor <;> simp [SBT])
      | cases h
  · rw [stk_51] at h
    repeat' (split at h)
    all_goals first
      | (cases h; constructor <;> simp [SBT])
      | cases h
  · rw [stk_52] at h
    repeat' (split at h)
    all_goals first
      | (cases h; constructor <;> simp [SBT])
      | cases h
  · rw [stk_141] at h
    repeat' (split at h)
    all_goals first
      | (cases h; constructor <;> simp [SBT])
      | cases h
  · rw [stk_159] at h
    repeat' (split at h)
    all_goals first
      | (cases h; constructor <;> simp [SBT])
      | cases h
  · rw [stk_161] at h
    repeat' (split at h)
    all_goals first
      | (cases h; constructor <;> simp [SBT])
      | cases h
  · rw [stk_223] at h
    repeat' (split at h)
    all_goals first
      | (cases h; constructor <;> simp [SBT])
      | cases h
theorem stp_sub {s : Int → Int} {a : PCf} (h : ∀ j ∈ a.1, j ∈ SBT) (hn : stp s a ≠ pF) : (∀ j ∈ (stp s a).1, j ∈ SBT) ∧ ∃ l, (stp s a).2.2.2.2 = a.2.2.2.2 ++ l ∧ ∀ e ∈ l, e.1 = 1 := by
  obtain ⟨K, t, x, q, ρ⟩ := a
  cases K with
  | nil => exact ⟨h, [], (List.append_nil _).symm, fun e he => absurd he (List.not_mem_nil)⟩
  | cons k K =>
    cases e : stk s k t x q with
    | none =>
      exfalso
      apply hn
      show (match stk s k t x q with
        | none => pF
        | some r => (r.1 ++ K, r.2.1, r.2.2.1, r.2.2.2.1, ρ ++ r.2.2.2.2)) = _
      rw [e]
    | some r =>
      have z := stk_sub (h k (List.mem_cons_self)) e
      have e2 : stp s (k :: K, t, x, q, ρ) = (r.1 ++ K, r.2.1, r.2.2.1, r.2.2.2.1, ρ ++ r.2.2.2.2) := by
        show (match stk s k t x q with
          | none => pF
          | some r => (r.1 ++ K, r.2.1, r.2.2.1, r.2.2.2.1, ρ ++ r.2.2.2.2)) = _
        rw [e]
      rw [e2]
      refine ⟨fun j hj => ?_, r.2.2.2.2, rfl, z.2⟩
      rcases List.mem_append.mp hj with w | w
      · exact z.1 j w
      · exact h j (List.mem_cons_of_mem _ w)
theorem itr_sub {s : Int → Int} (n : Nat) (a : PCf) (h : ∀ j ∈ a.1, j ∈ SBT) (hn : itr s n a ≠ pF) : ∃ l, (itr s n a).2.2.2.2 = a.2.2.2.2 ++ l ∧ ∀ e ∈ l, e.1 = 1 := by
  induction n generalizing a with
  | zero => exact ⟨[], (List.append_nil _).symm, fun e he => absurd he (List.not_mem_nil)⟩
  | succ n ih =>
    have h2 : itr s n (stp s a) ≠ pF := hn
    have h3 : stp s a ≠ pF := fun e => h2 (by rw [e]; exact itr_pF s n)
    obtain ⟨u, m, hm, he⟩ := stp_sub h h3
    obtain ⟨l, hl, hf⟩ := ih (stp s a) u h2
    refine ⟨m ++ l, ?_, fun e w => ?_⟩
    · show (itr s n (stp s a)).2.2.2.2 = _
      rw [hl, hm, List.append_assoc]
    · rcases List.mem_append.mp w with y | y
      · exact he e y
      · exact hf e y
theorem nR_1 (l : List EV) (h : ∀ e ∈ l, e.1 = 1) : nR l = 0 := by
  induction l with
  | nil => rfl
  | cons e l ih =>
    have := h e (List.mem_cons_self)
    simp only [nR]
    rw [ih (fun e w => h e (List.mem_cons_of_mem _ w)), this]
    decide
theorem GOS.nr0 {k : Nat} {σ τ : MS} {q q2 : QR} {lg : List EV} (hk : k ∈ SBT) (g : GOS [k] σ q [] τ q2 lg) : nR lg = 0 := by
  obtain ⟨n, hn⟩ := g.rc [] []
  have ne : itr (sv σ) n (cfg ([k] ++ []) σ q []) ≠ pF := by
    rw [hn]
    intro h
    have z : ([] : List Nat) = [999] := congrArg Prod.fst h
    exact absurd z (by decide)
  obtain ⟨l, hl, he⟩ := itr_sub n _ (fun j hj => by rw [List.mem_singleton.mp hj]; exact hk) ne
  rw [hn] at hl
  have e : lg = l := hl
  rw [e]
  exact nR_1 l he
def HD (ρ σ : MS) : Prop := Fr [19, 20, 22, 23, 26, 27, 43] [35, 36, 45] [24, 38, 44] ρ σ ∧ FLT ρ σ ∧ NN σ ∧ (ρ.1 25 ≠ 1 → σ.2.1 35 = ρ.2.1 35 ∧ σ.2.2 38 = ρ.2.2 38 ∧ σ.2.1 36 = ρ.2.1 36 ∧ TBm ρ σ) ∧ (ρ.1 25 = 1 → σ.1 43 = ρ.1 43 + 1 ∧ (∀ r, r ≠ ρ.1 30 → σ.2.1 35 r = ρ.2.1 35 r ∧ σ.2.1 36 r = ρ.2.1 36 r) ∧ (∀ j, j ≠ ρ.1 43 → σ.2.1 45 j = ρ.2.1 45 j) ∧ (σ.1 26 = 0 → ρ.1 30 ≠ 6)) ∧ (0 ≤ σ.1 43 ∧ σ.1 43 ≤ 260)
theorem HD.pb {ρ σ τ : MS} (h : HD ρ σ) (f : Fr [19, 20, 22, 23, 26, 27] [35] [24, 38] σ τ) (p : PBF σ τ) : HD ρ τ := by
  obtain ⟨h1, h2, h3, h4, h5, h6⟩ := h
  have e25 : σ.1 25 = ρ.1 25 := h1.1 25 (by decide)
  have e30 : σ.1 30 = ρ.1 30 := h1.1 30 (by decide)
  have fl := p.2.2.2.2.1
  refine ⟨h1.trans (Fr.sub f (by decide) (by decide) (by decide)), h2.trans fl, p.2.2.1, fun a => ?_, fun a => ?_, by rw [f.1 43 (by decide)]; exact h6⟩
  · have q := h4 a
    have w := p.2.1 (by omega)
    exact ⟨w.1.trans q.1, w.2.trans q.2.1, (f.2.1 36 (by decide)).trans q.2.2.1, q.2.2.2.trans (TBm.of f (by decide) (by decide) (by decide) (by decide))⟩
  · have q := h5 a
    refine ⟨by rw [f.1 43 (by decide)]; exact q.1, fun r b => ⟨((p.2.2.2.1 r).2 (by omega)).trans (q.2.1 r b).1, by rw [f.2.1 36 (by decide)]; exact (q.2.1 r b).2⟩, fun j b => by rw [f.2.1 45 (by decide)]; exact q.2.2.1 j b, fun b => q.2.2.2 ?_⟩
    by_cases z : σ.1 26 = 0
    · exact z
    · exact absurd b (fl.1 z)
theorem HD.told {ρ σ : MS} {z v : Int} (h : HD ρ σ) (h1 : ρ.1 25 = 1) (e : z = ρ.1 43) : HD ρ (sA 45 z v σ) := by
  obtain ⟨a1, a2, a3, a4, a5, a6⟩ := h
  have q := a5 h1
  refine ⟨a1.A (by decide), a2, a3, fun a => absurd h1 a, fun _ => ⟨q.1, q.2.1, fun j b => ?_, q.2.2.2⟩, a6⟩
  rw [show (sA 45 z v σ).2.1 45 j = σ.2.1 45 j from ra_ne (by omega) rfl]
  exact q.2.2.1 j b
theorem HD.par {ρ σ : MS} {z v : Int} (h : HD ρ σ) (h1 : ρ.1 25 = 1) (e : z = ρ.1 30) : HD ρ (sA 36 z v σ) := by
  obtain ⟨a1, a2, a3, a4, a5, a6⟩ := h
  have q := a5 h1
  refine ⟨a1.A (by decide), a2, a3, fun a => absurd h1 a, fun _ => ⟨q.1, fun r b => ⟨(q.2.1 r b).1, ?_⟩, q.2.2.1, q.2.2.2⟩, a6⟩
  rw [show (sA 36 z v σ).2.1 36 r = σ.2.1 36 r from ra_ne (by omega) rfl]
  exact (q.2.1 r b).2
def PBO (σ τ : MS) : Prop := (∀ x, x ≠ 2640 → (x < 220 * σ.1 30 ∨ 220 * σ.1 30 + 220 ≤ x ∨ σ.1 25 ≠ 3 ∨ 6 ≤ σ.1 30) → IEQ σ x τ x) ∧ (σ.1 25 ≠ 1 → τ.2.1 35 = σ.2.1 35 ∧ τ.2.2 38 = σ.2.2 38 ∧ τ.2.1 36 = σ.2.1 36 ∧ TBm σ τ) ∧ NN τ ∧ FLT σ τ ∧ τ.1 25 = σ.1 25 ∧ (∀ j, (j ≠ σ.1 30 ∨ σ.1 25 ≠ 3) → τ.2.1 9 j = σ.2.1 9 j) ∧ (0 ≤ τ.1 43 ∧ τ.1 43 ≤ 260)
theorem HD.pbo {ρ σ : MS} (h : HD ρ σ) : PBO ρ σ := ⟨fun x _ _ => IEQ.of h.1 (by decide), h.2.2.2.1, h.2.2.1, h.2.1, h.1.1 25 (by decide), fun j _ => by rw [h.1.2.1 9 (by decide)], h.2.2.2.2.2⟩
theorem PBO.fr {ss ks js : List Nat} {ρ σ τ : MS} (h : PBO ρ σ) (f : Fr ss ks js σ τ) (hs : ∀ k ∈ [25, 26, 43], k ∉ ss) (hk : ∀ k ∈ [3, 4, 5, 6, 7, 8, 9, 11, 35, 36, 45], k ∉ ks) (hj : ∀ k ∈ [38, 44], k ∉ js) : PBO ρ τ := by
  obtain ⟨h1, h2, h3, h4, h5, h6, h7⟩ := h
  refine ⟨fun x a b => (h1 x a b).trans (IEQ.of f (fun k q => hk k (by revert k q; decide))), fun a => ?_, h3.fr f (hk 35 (by decide)), h4.trans (FLT.eq (f.1 26 (hs 26 (by decide)))), (f.1 25 (hs 25 (by decide))).trans h5, fun j a => by rw [f.2.1 9 (hk 9 (by decide))]; exact h6 j a, by rw [f.1 43 (hs 43 (by decide))]; exact h7⟩
  have q := h2 a
  exact ⟨(f.2.1 35 (hk 35 (by decide))).trans q.1, (f.2.2 38 (hj 38 (by decide))).trans q.2.1, (f.2.1 36 (hk 36 (by decide))).trans q.2.2.1, q.2.2.2.trans (TBm.of f (hs 43 (by decide)) (hk 11 (by decide)) (hk 45 (by decide)) (hj 44 (by decide)))⟩
theorem PBO.nd {ρ σ τ : MS} (h : PBO ρ σ) (f : Fr [19, 20, 22, 23, 26, 27] [] [24] σ τ) (fl : FLT σ τ) : PBO ρ τ := by
  obtain ⟨h1, h2, h3, h4, h5, h6, h7⟩ := h
  refine ⟨fun x a b => (h1 x a b).trans (IEQ.of f (by decide)), fun a => ?_, h3.fr f (by decide), h4.trans fl, (f.1 25 (by decide)).trans h5, fun j a => by rw [f.2.1 9 (by decide)]; exact h6 j a, by rw [f.1 43 (by decide)]; exact h7⟩
  have q := h2 a
  exact ⟨(f.2.1 35 (by decide)).trans q.1, (f.2.2 38 (by decide)).trans q.2.1, (f.2.1 36 (by decide)).trans q.2.2.1, q.2.2.2.trans (TBm.of f (by decide) (by decide) (by decide) (by decide))⟩
theorem PBO.pb {ss ks js : List Nat} {ρ σ τ : MS} (h : PBO ρ σ) (e30 : σ.1 30 = ρ.1 30) (p : PBF σ τ) (h34 : 0 ≤ σ.1 34) (f : Fr ss ks js σ τ) (hs : 43 ∉ ss) (hk : ∀ k ∈ [9, 11, 36, 45], k ∉ ks) (hj : 44 ∉ js) : PBO ρ τ := by
  obtain ⟨h1, h2, h3, h4, h5, h6, h7⟩ := h
  refine ⟨fun x a b => (h1 x a b).trans (p.1 x a (by omega)), fun a => ?_, p.2.2.1, h4.trans p.2.2.2.2.1, p.2.2.2.2.2.2.1.trans h5, fun j a => by rw [f.2.1 9 (hk 9 (by decide))]; exact h6 j a, by rw [f.1 43 hs]; exact h7⟩
  have q := h2 a
  have w := p.2.1 (by omega)
  exact ⟨w.1.trans q.1, w.2.trans q.2.1, (f.2.1 36 (hk 36 (by decide))).trans q.2.2.1, q.2.2.2.trans (TBm.of f hs (hk 11 (by decide)) (hk 45 (by decide)) hj)⟩
theorem PBO.fin {ρ σ τ : MS} (h : PBO ρ σ) (f : Fr [26, 27, 30] [9] [] σ τ) (fl : FLT σ τ) (h9 : ∀ j, (j ≠ ρ.1 30 ∨ ρ.1 25 ≠ 3) → τ.2.1 9 j = σ.2.1 9 j) : PBO ρ τ := by
  obtain ⟨h1, h2, h3, h4, h5, h6, h7⟩ := h
  refine ⟨fun x a b => (h1 x a b).trans (IEQ.of f (by decide)), fun a => ?_, h3.fr f (by decide), h4.trans fl, (f.1 25 (by decide)).trans h5, fun j a => (h9 j a).trans (h6 j a), by rw [f.1 43 (by decide)]; exact h7⟩
  have q := h2 a
  exact ⟨(f.2.1 35 (by decide)).trans q.1, (f.2.2 38 (by decide)).trans q.2.1, (f.2.1 36 (by decide)).trans q.2.2.1, q.2.2.2.trans (TBm.of f (by decide) (by decide) (by decide) (by decide))⟩
def P1O (σ τ : MS) : Prop := τ.1 43 = σ.1 43 + 1 ∧ (∀ r, r ≠ σ.1 30 → τ.2.1 35 r = σ.2.1 35 r ∧ τ.2.1 36 r = σ.2.1 36 r) ∧ (∀ j, j ≠ σ.1 43 → τ.2.1 45 j = σ.2.1 45 j) ∧ (τ.1 26 = 0 → σ.1 30 ≠ 6 ∧ (σ.1 30 < 6 → τ.2.1 45 (σ.1 43) = τ.2.1 36 (σ.1 30) ∧ (0 ≤ τ.2.1 36 (σ.1 30) ∧ τ.2.1 36 (σ.1 30) ≤ 4) ∧ τ.2.1 36 (σ.1 30) ≤ τ.2.1 35 (σ.1 30)))
def PAM (ρ σ : MS) : Prop := ρ.1 25 = 1 → ρ.1 30 < 6 → σ.1 26 = 0 → σ.2.1 45 (ρ.1 43) = σ.2.1 36 (ρ.1 30) ∧ (0 ≤ σ.2.1 36 (ρ.1 30) ∧ σ.2.1 36 (ρ.1 30) ≤ 4) ∧ σ.2.1 36 (ρ.1 30) ≤ σ.2.1 35 (ρ.1 30)
theorem P1O.mk {ss ks js : List Nat} {ρ σ τ : MS} (h : HD ρ σ) (m : PAM ρ σ) (h1 : ρ.1 25 = 1) (f : Fr ss ks js σ τ) (hs : 43 ∉ ss) (hk : ∀ k ∈ [36, 45], k ∉ ks) (fl : FLT σ τ) (h35 : ∀ r, σ.2.1 35 r ≤ τ.2.1 35 r ∧ (r ≠ ρ.1 30 → τ.2.1 35 r = σ.2.1 35 r)) : P1O ρ τ := by
  obtain ⟨a1, a2, a3, a4, a5, a6⟩ := h
  have q := a5 h1
  unfold P1O
  rw [f.1 43 hs, f.2.1 36 (hk 36 (by decide)), f.2.1 45 (hk 45 (by decide))]
  refine ⟨q.1, fun r b => ⟨((h35 r).2 b).trans (q.2.1 r b).1, (q.2.1 r b).2⟩, q.2.2.1, fun b => ?_⟩
  have z : σ.1 26 = 0 := by
    by_cases z : σ.1 26 = 0
    · exact z
    · exact absurd b (fl.1 z)
  refine ⟨q.2.2.2 z, fun c => ?_⟩
  have w := m h1 c z
  have y := (h35 (ρ.1 30)).1
  exact ⟨w.1, w.2.1, by omega⟩
def PLI (σ : MS) (r : Int) : Prop := (1 ≤ σ.2.1 9 r ∧ σ.2.1 9 r ≤ 120) ∧ (∀ k, 0 ≤ k → k < σ.2.1 9 r → OKI σ 1 (220 * r + k)) ∧ (∃ l, l ≤ 119 ∧ WS (iK σ r) (iD σ r) (iO σ r) (σ.1 43) 0 (σ.2.1 9 r - 1) 0 l) ∧ iK σ r (σ.2.1 9 r - 1) = 7 ∧ (iK σ r 0 = 11 ∨ iK σ r 0 = 7 ∨ (iK σ r 0 = 13 ∧ iK σ r 1 = 11))
theorem PLI.mk {n : Int} {α β γ ω : MS} {lg : List EV} (s : SGF α β lg) (fs : FS α β) (h3 : α.1 25 = 3) (h6 : 0 ≤ α.1 30 ∧ α.1 30 < 6) (a34 : α.1 34 = 0) (a33 : α.1 33 = 0) (pb : PBF α β) (pc : PBC n α β) (he : ∀ e ∈ lg, E3 α e) (h120 : β.1 34 + 1 ≤ 120) (p2 : PBF β γ) (e34 : γ.1 34 = β.1 34 + 1) (ok : OKI γ 1 (PXx β)) (k7 : γ.2.1 3 (PXx β) = 7) (tb1 : TBm α β) (tb2 : TBm β γ) (f : Fr [30] [9] [] γ ω) (e9 : ω.2.1 9 (α.1 30) = γ.1 34) : PLI ω (α.1 30) := by
  have b6 := pb.2.2.2.2.2.1
  have b25 : β.1 25 = α.1 25 := pb.2.2.2.2.2.2.1
  have b30 : β.1 30 = α.1 30 := pb.2.2.2.2.2.2.2
  have x : PXx β = 220 * α.1 30 + β.1 34 := by unfold PXx; rw [if_pos (by omega), b30]
  rw [x] at ok k7
  obtain ⟨S1, S2⟩ := s h3 h6.2 (by omega) he
  rw [a34, a33] at S2
  have F := fs h3 h6.2 (by omega)
  rw [a34] at F
  have ig : ∀ z, IEQ γ z ω z := fun z => IEQ.of f (by decide)
  have ib : ∀ k, 0 ≤ k → k < β.1 34 → IEQ β (220 * α.1 30 + k) ω (220 * α.1 30 + k) := fun k a b => (p2.1 _ (by omega) (by omega)).trans (ig _)
  have t11 : ω.2.1 11 = γ.2.1 11 := f.2.1 11 (by decide)
  have e43 : ω.1 43 = α.1 43 := (f.1 43 (by decide)).trans (tb2.1.trans tb1.1)
  have pc7 : β.1 33 - α.1 33 ≤ β.1 34 - α.1 34 := pc.2.2.2.2.2.2.2
  unfold PLI
  rw [e9, e34]
  refine ⟨by omega, fun k a b => ?_, ⟨β.1 33, by omega, ?_⟩, ?_, ?_⟩
  · by_cases z : k = β.1 34
    · rw [z]; exact (ig _).oki t11 ok
    · exact (ib k a (by omega)).oki (t11.trans tb2.2.1) (S1 k (by omega) (by omega))
  · rw [e43, show β.1 34 + 1 - 1 = β.1 34 by omega]
    exact S2.ext (fun k a b => ⟨(ib k a b).1, (ib k a b).2.1, (ib k a b).2.2.1⟩)
  · rw [show β.1 34 + 1 - 1 = β.1 34 by omega]
    exact (ig _).1.trans k7
  · rcases F with e | e | e
    · have e0 : β.1 34 = 0 := by omega
      rw [e0] at k7
      exact Or.inr (Or.inl ((ig _).1.trans k7))
    · exact Or.inl ((ib 0 (by omega) (by omega)).1.trans e.1)
    · exact Or.inr (Or.inr ⟨(ib 0 (by omega) (by omega)).1.trans e.1.1, (ib 1 (by omega) (by omega)).1.trans e.1.2⟩)
def HQR (σ : MS) : Prop := σ.1 25 = 3 → ∀ (τ : MS) (lg : List EV), (∀ x, GOS [30] (sS 34 x σ) (qq 0) [] τ (qq 0) lg) → (0 < nR lg → σ.1 30 < 6) ∧ ∀ e ∈ lg, E3 σ e
def ORH (σ : MS) : Prop := TOK σ ∧ (0 ≤ σ.1 25 ∧ σ.1 25 ≤ 3) ∧ (0 ≤ σ.1 30 ∧ 5 * σ.1 30 ≤ σ.1 19) ∧ (0 ≤ σ.1 31 ∧ σ.1 31 ≤ σ.1 19) ∧ (σ.1 28 = 0 ∧ σ.1 29 = 0) ∧ NN σ ∧ ((0 ≤ σ.1 43 ∧ σ.1 43 ≤ 260) ∧ (σ.1 25 = 1 → σ.1 43 = σ.1 30)) ∧ HQR σ
def ORQ (σ τ : MS) : Prop := TOK τ ∧ (τ.1 30 = σ.1 30 + 1 ∧ σ.1 19 + 5 ≤ τ.1 19 ∧ (0 ≤ τ.1 31 ∧ τ.1 31 ≤ τ.1 19) ∧ τ.1 28 = 0 ∧ τ.1 29 = 0) ∧ ∃ lg, (∀ x, GOS [30] (sS 34 x σ) (qq 0) [] τ (qq 0) lg) ∧ nR lg = 1 ∧ (σ.1 25 = 3 → RMO σ τ lg) ∧ (σ.1 25 = 2 → τ.1 26 = 0 → ∀ e ∈ lg, E2 σ e) ∧ (σ.1 25 = 1 → P1O σ τ) ∧ (σ.1 25 = 3 → PLI τ (σ.1 30))
theorem RDY.new {σ : MS} {v : Int} (tok : TOK σ) (h25 : 0 ≤ σ.1 25 ∧ σ.1 25 ≤ 3) (h30 : 0 ≤ σ.1 30 ∧ σ.1 30 ≤ 2000) (h31 : 0 ≤ σ.1 31 ∧ σ.1 31 ≤ σ.1 19) (hv : 0 ≤ v ∧ v ≤ 12) : RDY (sS 34 0 (sS 33 0 (sS 32 v σ))) := by
  have t := tok.1
  refine ⟨tok, h25, h30, ?_, ?_, h31, ?_⟩
  · show (0 : Int) ≤ 0 ∧ (0 : Int) ≤ 2 * σ.1 19 + 10
    omega
  · show 0 ≤ v ∧ v ≤ 12 + 0
    omega
  · show (0 : Int) ≤ 0 ∧ (0 : Int) ≤ 0
    omega
end
section
def NMN (σ τ : MS) (w : Int64) : Prop := σ.1 25 = 1 → σ.1 30 < 6 → (∀ j, 0 ≤ j → j < σ.2.1 35 (σ.1 30) → σ.2.2 38 (12 * σ.1 30 + j) ≠ w) → τ.1 26 = 0 → τ.2.1 35 (σ.1 30) = σ.2.1 35 (σ.1 30) + 1
def DUF (ρ σ : MS) : Prop := σ.1 26 = 0 → ρ.1 30 < 6 → ∀ j, 0 ≤ j → j < ρ.2.1 35 (ρ.1 30) → ρ.2.2 38 (12 * ρ.1 30 + j) ≠ ρ.2.2 24 0

set_option maxHeartbeats 4000000 in
set_option maxRecDepth 20000 in
theorem l_nameOf2 (d : Nat) {b : Nat} {σ : MS} {w : Int64} {p : Int} {post : Option Value → MS → Prop} (hR : RG σ) (hnn : NN σ) (hr6 : 0 ≤ σ.1 30 ∧ σ.1 30 < 6) (hx_55 : ∀ (i : Int) , (∀ j, 0 ≤ j → j < σ.2.1 35 (σ.1 30) → σ.2.2 38 (12 * σ.1 30 + j) ≠ w) → Tm (d + 2) m_X12_nameOf 55 b σ [(4, .int (iI i)), (0, .ref b), (1, .long (w)), (3, .int (iI p))] [] post) (hr1 : ∀ v, 0 ≤ v → v < σ.2.1 35 (σ.1 30) → v < 12 → σ.2.2 38 (12 * σ.1 30 + v) = w → post (some (.int (iI v))) σ) : ∀ (n : Nat) (i : Int) , (0 ≤ i ∧ i ≤ 12) → (∀ j, 0 ≤ j → j < i → σ.2.2 38 (12 * σ.1 30 + j) ≠ w) → (12 - i).toNat = n → Tm (d + 2) m_X12_nameOf 12 b σ [(4, .int (iI i)), (0, .ref b), (1, .long (w)), (3, .int (iI p))] [] post := by
  intro n
  induction n using Nat.strongRecOn with
  | _ n ih =>
    intro i h0 hnf hm
    have hn1 := hnn (σ.1 30) hr6.1 hr6.2
    refine tm_iload dX12_nameOf_12 0 rfl ?_
    refine tm_aload_n dX12_nameOf_14 rfl 1 rfl ?_
    refine tm_get (k := 35) (v := .ref (b + 1 + 16)) lay_12 dX12_nameOf_15 (by decide) fl12_63 rfl ?_
    refine tm_aload_n dX12_nameOf_18 rfl 1 rfl ?_
    refine tm_getS (k := 30) (t := σ.1 30) dX12_nameOf_19 (by decide) fl12_268 rfl (rfl) ?_
    have g1 := RG.s hR 30
    refine tm_iald (z := σ.1 30) (v := σ.2.1 35 (σ.1 30)) dX12_nameOf_22 (show mT[16]? = some (35, 0, 6) from rfl) (by omega) (by omega) (by decide) (rfl) ?_
    have g2 := RG.a hR 35 (σ.1 30)
    refine tm_icmp_ge (tgt := 55) dX12_nameOf_23 (by decide) ⟨by omega, by omega⟩ ⟨by omega, by omega⟩ (fun h3 => ?_) (fun h3 => ?_)
    · exact tm_sub [0, 1, 2, 3] rfl (hx_55 (i) (fun j a c => hnf j a (by omega)))
    · refine tm_aload_n dX12_nameOf_26 rfl 1 rfl ?_
      refine tm_get (k := 38) (v := .ref (b + 1 + 19)) lay_12 dX12_nameOf_27 (by decide) fl12_72 rfl ?_
      refine tm_bipush dX12_nameOf_30 (by decide) ?_
      refine tm_aload_n dX12_nameOf_32 rfl 1 rfl ?_
      refine tm_getS (k := 30) (t := σ.1 30) dX12_nameOf_33 (by decide) fl12_268 rfl (rfl) ?_
      have g4 := RG.s hR 30
      refine tm_imul dX12_nameOf_36 ?_
      refine tm_iload dX12_nameOf_37 0 rfl ?_
      refine tm_iadd dX12_nameOf_39 ?_
      refine tm_lald (z := (12 * (σ.1 30)) + i) (v := σ.2.2 38 ((12 * (σ.1 30)) + i)) dX12_nameOf_40 (show mT[19]? = some (38, 3, 72) from rfl) (by omega) (by omega) (by decide) (rfl) ?_
      refine tm_lload_n dX12_nameOf_41 rfl 2 rfl ?_
      refine tm_lcmp dX12_nameOf_42 ?_
      have g5 := lcI_b (σ.2.2 38 ((12 * (σ.1 30)) + i)) (w)
      refine tm_if_ne (tgt := 49) dX12_nameOf_43 (by decide) ⟨by omega, by omega⟩ (fun h6 => ?_) (fun h6 => ?_)
      · have h6e : ¬ (σ.2.2 38 ((12 * (σ.1 30)) + i)) = (w) := fun q => h6 (lcI_0.mpr q)
        refine tm_iinc (q0 := 0) (L' := [(4, .int (iI (i + 1))), (0, .ref b), (1, .long (w)), (3, .int (iI p))]) dX12_nameOf_49 rfl (by decide) rfl ?_
        refine tm_goto (tgt := 12) dX12_nameOf_52 (by decide) ?_
        exact tm_sub [0, 1, 2, 3] rfl (ih _ (by omega) (i + 1) (by omega) (fun j a c => (Classical.em (j = i)).elim (fun e y => by rw [e] at y; contradiction) (fun e => hnf j a (by omega))) rfl)
      · have h6e := lcI_0.mp h6
        refine tm_iload dX12_nameOf_46 0 rfl ?_
        exact tm_iret rfl dX12_nameOf_48 (hr1 _ (by omega) (by omega) (by omega) (by assumption))
set_option maxHeartbeats 4000000 in
set_option maxRecDepth 20000 in
theorem c2_X12_nameOf (d : Nat) {b : Nat} {σ : MS} {w : Int64} {p : Int} (hR : RG σ) (hnn : NN σ) (hr30 : 0 ≤ σ.1 30 ∧ σ.1 30 ≤ 2000) (h_p : -2147483648 ≤ p ∧ p ≤ 2147483647) : Tm (d + 2) m_X12_nameOf 0 b σ [(0, .ref b), (1, .long (w)), (3, .int (iI p))] [] (fun ro σ2 => ∃ v : Int, ro = some (.int (iI v)) ∧ (Fr [26, 27] [35] [38] σ σ2) ∧ (RG σ2) ∧ (PBF σ σ2) ∧ (0 ≤ v ∧ v < 12) ∧ (σ2 = nmP w p σ) ∧ (NMN σ σ2 w)) := by
  refine tm_aload_n dX12_nameOf_0 rfl 0 rfl ?_
  refine tm_callV (M := m_X12_nameOf) (pc := 1) (ix := 271) (M' := m_X12_isKept) (As := []) (rest := []) dX12_nameOf_1 ok_X12_isKept im_X12_isKept se_X12_isKept ml12_271 np_X12_isKept rfl rfl (Nat.le_of_ble_eq_true rfl) (Nat.le_of_ble_eq_true rfl) rfl (c_X12_isKept (d) (σ := σ)  hR) (fun r1 σ2 hp => ?_)
  obtain ⟨v3, rfl, rfl, f4, f5⟩ := hp
  show Tm _ _ 4 b σ [(0, .ref b), (1, .long (w)), (3, .int (iI p))] [.int (iI v3)] _
  refine tm_if_ne (tgt := 9) dX12_nameOf_4 (by decide) ⟨by omega, by omega⟩ (fun h6 => ?_) (fun h6 => ?_)
  · refine tm_iconst dX12_nameOf_9 ?_
    refine tm_istore (L' := [(4, .int (iI 0)), (0, .ref b), (1, .long (w)), (3, .int (iI p))]) dX12_nameOf_10 (by decide) rfl ?_
    refine tm_sub [0, 1, 2, 3] rfl (l_nameOf2 (d) (σ := σ) (p := p) (w := w) hR hnn (by omega) (fun i11 f10 => ?_) (fun v h1 h2 h3 h4 => ⟨_, rfl, Fr.rfl, hR, PBF.nop hnn (Fr.rfl : Fr [] [] [] σ σ) (by decide) (by decide) (by decide), ⟨h1, h3⟩, by unfold nmP; rw [ifP_t (by omega), ifP_t ⟨v, h1, h2, h4⟩], fun _ _ z3 _ => absurd h4 (z3 v h1 h2)⟩) _ (0) (by omega) (fun j a c => absurd c (by omega)) rfl)
    show Tm _ _ 55 b σ [(4, .int (iI i11)), (0, .ref b), (1, .long (w)), (3, .int (iI p))] [] _
    have hn1 := hnn (σ.1 30) (by omega) (by omega)
    have nf : ¬ NFD σ w := fun z => by obtain ⟨n, z1, z2, z3⟩ := z; exact f10 n z1 z2 z3
    have nf9 := f10
    refine tm_aload_n dX12_nameOf_55 rfl 1 rfl ?_
    refine tm_get (k := 35) (v := .ref (b + 1 + 16)) lay_12 dX12_nameOf_56 (by decide) fl12_63 rfl ?_
    refine tm_aload_n dX12_nameOf_59 rfl 1 rfl ?_
    refine tm_getS (k := 30) (t := σ.1 30) dX12_nameOf_60 (by decide) fl12_268 rfl (rfl) ?_
    have g12 := RG.s hR 30
    refine tm_iald (z := σ.1 30) (v := σ.2.1 35 (σ.1 30)) dX12_nameOf_63 (show mT[16]? = some (35, 0, 6) from rfl) (by omega) (by omega) (by decide) (rfl) ?_
    have g13 := RG.a hR 35 (σ.1 30)
    refine tm_bipush dX12_nameOf_64 (by decide) ?_
    refine tm_icmp_ne (tgt := 77) dX12_nameOf_66 (by decide) ⟨by omega, by omega⟩ ⟨by decide, by decide⟩ (fun h14 => ?_) (fun h14 => ?_)
    · refine tm_aload_n dX12_nameOf_77 rfl 1 rfl ?_
      refine tm_getS (k := 25) (t := σ.1 25) dX12_nameOf_78 (by decide) fl12_255 rfl (rfl) ?_
      have g15 := RG.s hR 25
      refine tm_iconst dX12_nameOf_81 ?_
      refine tm_icmp_ne (tgt := 121) dX12_nameOf_82 (by decide) ⟨by omega, by omega⟩ ⟨by decide, by decide⟩ (fun h16 => ?_) (fun h16 => ?_)
      · refine tm_iconst dX12_nameOf_121 ?_
        exact tm_iret rfl dX12_nameOf_122 (⟨_, rfl, Fr.rfl, hR, PBF.nop hnn (Fr.rfl : Fr [] [] [] σ σ) (by decide) (by decide) (by decide), by omega, by unfold nmP; rw [ifP_t (by omega), ifP_f nf, ifP_f (by omega), ifP_f (by omega)], fun z1 z2 => absurd z1 (by omega)⟩)
      · refine tm_aload_n dX12_nameOf_85 rfl 1 rfl ?_
        refine tm_get (k := 38) (v := .ref (b + 1 + 19)) lay_12 dX12_nameOf_86 (by decide) fl12_72 rfl ?_
        refine tm_bipush dX12_nameOf_89 (by decide) ?_
        refine tm_aload_n dX12_nameOf_91 rfl 1 rfl ?_
        refine tm_getS (k := 30) (t := σ.1 30) dX12_nameOf_92 (by decide) fl12_268 rfl (rfl) ?_
        have g17 := RG.s hR 30
        refine tm_imul dX12_nameOf_95 ?_
        refine tm_aload_n dX12_nameOf_96 rfl 1 rfl ?_
        refine tm_get (k := 35) (v := .ref (b + 1 + 16)) lay_12 dX12_nameOf_97 (by decide) fl12_63 rfl ?_
        refine tm_aload_n dX12_nameOf_100 rfl 1 rfl ?_
        refine tm_getS (k := 30) (t := σ.1 30) dX12_nameOf_101 (by decide) fl12_268 rfl (rfl) ?_
        have g18 := RG.s hR 30
        refine tm_iald (z := σ.1 30) (v := σ.2.1 35 (σ.1 30)) dX12_nameOf_104 (show mT[16]? = some (35, 0, 6) from rfl) (by omega) (by omega) (by decide) (rfl) ?_
        have g19 := RG.a hR 35 (σ.1 30)
        refine tm_iadd dX12_nameOf_105 ?_
        refine tm_lload_n dX12_nameOf_106 rfl 2 rfl ?_
        refine tm_last (z := (12 * (σ.1 30)) + (σ.2.1 35 (σ.1 30))) (v := w) dX12_nameOf_107 (show mT[19]? = some (38, 3, 72) from rfl) (by decide) (by omega) (by omega) (by decide) ?_
        refine tm_aload_n dX12_nameOf_108 rfl 1 rfl ?_
        refine tm_get (k := 35) (v := .ref (b + 1 + 16)) lay_12 dX12_nameOf_109 (by decide) fl12_63 rfl ?_
        refine tm_aload_n dX12_nameOf_112 rfl 1 rfl ?_
        refine tm_getS (k := 30) (t := σ.1 30) dX12_nameOf_113 (by decide) fl12_268 rfl (rs_J (rfl)) ?_
        have g20 := RG.s hR 30
        refine tm_dup2 dX12_nameOf_116 rfl rfl ?_
        refine tm_iald (z := σ.1 30) (v := σ.2.1 35 (σ.1 30)) dX12_nameOf_117 (show mT[16]? = some (35, 0, 6) from rfl) (by omega) (by omega) (by decide) (ra_J (rfl)) ?_
        have g21 := RG.a hR 35 (σ.1 30)
        refine tm_iconst dX12_nameOf_118 ?_
        refine tm_iadd dX12_nameOf_119 ?_
        refine tm_iast (z := σ.1 30) (v := (σ.2.1 35 (σ.1 30)) + 1) dX12_nameOf_120 (show mT[16]? = some (35, 0, 6) from rfl) (by omega) (by omega) (by decide) ?_
        refine tm_iconst dX12_nameOf_121 ?_
        exact tm_iret rfl dX12_nameOf_122 (⟨_, rfl, ((Fr.rfl.J (by decide)).A (by decide)), ((hR.J).A (by omega)), PBF.name hnn (by omega) (by omega) (by omega), by omega, by unfold nmP; rw [ifP_t (by omega), ifP_f nf, ifP_f (by omega), ifP_t (by omega)], fun _ _ _ _ => ra_eq⟩)
    · refine tm_aload_n dX12_nameOf_69 rfl 1 rfl ?_
      refine tm_iconst dX12_nameOf_70 ?_
      refine tm_iload_n dX12_nameOf_71 rfl 3 rfl ?_
      refine tm_callV (M := m_X12_nameOf) (pc := 72) (ix := 274) (M' := m_X12_note) (As := [.int (iI 5), .int (iI p)]) (rest := []) dX12_nameOf_72 ok_X12_note im_X12_note se_X12_note ml12_274 np_X12_note rfl rfl (Nat.le_of_ble_eq_true rfl) (Nat.le_of_ble_eq_true rfl) rfl (c2_X12_note (d) (σ := σ) (f := 5) (p := p) hR (by omega) (by omega)) (fun r22 σ23 hp => ?_)
      obtain ⟨rfl, f25, f26, f27, f28, f29⟩ := hp
      show Tm _ _ 75 b σ23 [(4, .int (iI i11)), (0, .ref b), (1, .long (w)), (3, .int (iI p))] [] _
      refine tm_iconst dX12_nameOf_75 ?_
      exact tm_iret rfl dX12_nameOf_76 (⟨_, rfl, (Fr.rfl.trans (Fr.sub f25 (by decide) (by decide) (by decide))), f26, PBF.of hnn f25 (by decide) (by decide) (by decide) f27, by omega, by unfold nmP; rw [ifP_t (by omega), ifP_f nf, ifP_t (by omega)]; exact f29, fun z1 _ _ z4 => absurd z4 (f28 (by omega))⟩)
  · refine tm_iconst dX12_nameOf_7 ?_
    exact tm_iret rfl dX12_nameOf_8 (⟨_, rfl, Fr.rfl, hR, PBF.nop hnn (Fr.rfl : Fr [] [] [] σ σ) (by decide) (by decide) (by decide), by omega, by unfold nmP; rw [ifP_f (by omega)], fun z1 z2 => absurd z1 (by omega)⟩)
end
section
theorem dX12_oneRoutine_154 : decode cX12_oneRoutine 154 = .ok (.aload_n 0, 1) := by decide +kernel
theorem dX12_oneRoutine_155 : decode cX12_oneRoutine 155 = .ok (.invokevirtual 271, 3) := by decide +kernel
theorem dX12_oneRoutine_158 : decode cX12_oneRoutine 158 = .ok (.ifCond .eq 55, 3) := by decide +kernel
theorem dX12_oneRoutine_161 : decode cX12_oneRoutine 161 = .ok (.iload 4, 2) := by decide +kernel
theorem dX12_oneRoutine_163 : decode cX12_oneRoutine 163 = .ok (.aload_n 0, 1) := by decide +kernel
theorem dX12_oneRoutine_164 : decode cX12_oneRoutine 164 = .ok (.getfield 63, 3) := by decide +kernel
theorem dX12_oneRoutine_167 : decode cX12_oneRoutine 167 = .ok (.aload_n 0, 1) := by decide +kernel
theorem dX12_oneRoutine_168 : decode cX12_oneRoutine 168 = .ok (.getfield 268, 3) := by decide +kernel
theorem dX12_oneRoutine_171 : decode cX12_oneRoutine 171 = .ok (.iaload, 1) := by decide +kernel
theorem dX12_oneRoutine_172 : decode cX12_oneRoutine 172 = .ok (.if_icmp .ge 41, 3) := by decide +kernel
theorem dX12_oneRoutine_175 : decode cX12_oneRoutine 175 = .ok (.aload_n 0, 1) := by decide +kernel
theorem dX12_oneRoutine_176 : decode cX12_oneRoutine 176 = .ok (.getfield 72, 3) := by decide +kernel
theorem dX12_oneRoutine_179 : decode cX12_oneRoutine 179 = .ok (.bipush 12, 2) := by decide +kernel
theorem dX12_oneRoutine_181 : decode cX12_oneRoutine 181 = .ok (.aload_n 0, 1) := by decide +kernel
theorem dX12_oneRoutine_182 : decode cX12_oneRoutine 182 = .ok (.getfield 268, 3) := by decide +kernel
theorem dX12_oneRoutine_185 : decode cX12_oneRoutine 185 = .ok (.imul, 1) := by decide +kernel
theorem dX12_oneRoutine_186 : decode cX12_oneRoutine 186 = .ok (.iload 4, 2) := by decide +kernel
theorem dX12_oneRoutine_188 : decode cX12_oneRoutine 188 = .ok (.iadd, 1) := by decide +kernel
theorem dX12_oneRoutine_189 : decode cX12_oneRoutine 189 = .ok (.laload, 1) := by decide +kernel
theorem dX12_oneRoutine_190 : decode cX12_oneRoutine 190 = .ok (.aload_n 0, 1) := by decide +kernel
theorem dX12_oneRoutine_191 : decode cX12_oneRoutine 191 = .ok (.getfield 219, 3) := by decide +kernel
theorem dX12_oneRoutine_194 : decode cX12_oneRoutine 194 = .ok (.lcmp, 1) := by decide +kernel
theorem dX12_oneRoutine_195 : decode cX12_oneRoutine 195 = .ok (.ifCond .ne 12, 3) := by decide +kernel
theorem dX12_oneRoutine_207 : decode cX12_oneRoutine 207 = .ok (.iinc 4 1, 3) := by decide +kernel
theorem dX12_oneRoutine_210 : decode cX12_oneRoutine 210 = .ok (.goto (-56), 3) := by decide +kernel
theorem dX12_oneRoutine_198 : decode cX12_oneRoutine 198 = .ok (.aload_n 0, 1) := by decide +kernel
theorem dX12_oneRoutine_199 : decode cX12_oneRoutine 199 = .ok (.iconst 2, 1) := by decide +kernel
theorem dX12_oneRoutine_200 : decode cX12_oneRoutine 200 = .ok (.aload_n 0, 1) := by decide +kernel
theorem dX12_oneRoutine_201 : decode cX12_oneRoutine 201 = .ok (.getfield 216, 3) := by decide +kernel
theorem dX12_oneRoutine_204 : decode cX12_oneRoutine 204 = .ok (.invokevirtual 274, 3) := by decide +kernel
set_option maxHeartbeats 4000000 in
set_option maxRecDepth 20000 in
theorem l_dup (d : Nat) {b : Nat} {σ0 : MS} {m : Int} {mo : Int} {p : Int} {post : Option Value → MS → Prop} (hR0 : RG σ0) (hn0 : NN σ0) (hr0 : 0 ≤ σ0.1 30 ∧ σ0.1 30 ≤ 2000) (h1 : σ0.1 25 = 1) (hx_213 : ∀ (i : Int) (σ : MS) , (Fr [26, 27] [] [] σ0 σ) → (RG σ) → (FLT σ0 σ) → (DUF σ0 σ) → (σ = DPA (σ0.1 19) σ0) → Tm (d + 3) m_X12_oneRoutine 213 b σ [(4, .int (iI i)), (3, .int (iI mo)), (2, .int (iI m)), (1, .int (iI p)), (0, .ref b)] [] post) : ∀ (n : Nat) (i : Int) (σ : MS) , (Fr [26, 27] [] [] σ0 σ) → (RG σ) → ((0 ≤ i ∧ i ≤ 12) ∧ (i = 0 ∨ (σ0.1 30 < 6 ∧ i ≤ σ0.2.1 35 (σ0.1 30)))) → (FLT σ0 σ) → (σ.1 26 = 0 → ∀ j, 0 ≤ j → j < i → σ0.2.2 38 (12 * σ0.1 30 + j) ≠ σ0.2.2 24 0) → (σ = DPN i (σ0.1 19) σ0) → (13 - i).toNat = n → Tm (d + 3) m_X12_oneRoutine 154 b σ [(4, .int (iI i)), (3, .int (iI mo)), (2, .int (iI m)), (1, .int (iI p)), (0, .ref b)] [] post := by
  intro n
  induction n using Nat.strongRecOn with
  | _ n ih =>
    intro i σ hF hR h0 hfl hd hdp hm
    have e30 : σ.1 30 = σ0.1 30 := hF.1 30 (by decide)
    have e25 : σ.1 25 = σ0.1 25 := hF.1 25 (by decide)
    have e19 : σ.1 19 = σ0.1 19 := hF.1 19 (by decide)
    refine tm_aload_n dX12_oneRoutine_154 rfl 4 rfl ?_
    refine tm_callV (M := m_X12_oneRoutine) (pc := 155) (ix := 271) (M' := m_X12_isKept) (As := []) (rest := []) dX12_oneRoutine_155 ok_X12_isKept im_X12_isKept se_X12_isKept ml12_271 np_X12_isKept rfl rfl (Nat.le_of_ble_eq_true rfl) (Nat.le_of_ble_eq_true rfl) rfl (c_X12_isKept (d + 1) (σ := σ)  hR) (fun r1 σ2 hp => ?_)
    obtain ⟨v3, rfl, rfl, f4, f5⟩ := hp
    show Tm _ _ 158 b σ [(4, .int (iI i)), (3, .int (iI mo)), (2, .int (iI m)), (1, .int (iI p)), (0, .ref b)] [.int (iI v3)] _
    refine tm_if_eq (tgt := 213) dX12_oneRoutine_158 (by decide) ⟨by omega, by omega⟩ (fun h6 => ?_) (fun h6 => ?_)
    · exact tm_sub [0, 1, 2, 3, 4] rfl (hx_213 (i) σ (Fr.rfl.trans (Fr.sub hF (by decide) (by decide) (by decide))) hR hfl (fun a b j c e => absurd b (by omega)) (DPN.fin1 hdp (by omega) (by omega)))
    · have hn1 := hn0 (σ0.1 30) (by omega) (by omega)
      refine tm_iload dX12_oneRoutine_161 0 rfl ?_
      refine tm_aload_n dX12_oneRoutine_163 rfl 4 rfl ?_
      refine tm_get (k := 35) (v := .ref (b + 1 + 16)) lay_12 dX12_oneRoutine_164 (by decide) fl12_63 rfl ?_
      refine tm_aload_n dX12_oneRoutine_167 rfl 4 rfl ?_
      refine tm_getS (k := 30) (t := σ0.1 30) dX12_oneRoutine_168 (by decide) fl12_268 rfl (rs_F hF (by decide) (rfl)) ?_
      have g7 := RG.s hR0 30
      refine tm_iald (z := σ0.1 30) (v := σ0.2.1 35 (σ0.1 30)) dX12_oneRoutine_171 (show mT[16]? = some (35, 0, 6) from rfl) (by omega) (by omega) (by decide) (ra_F hF (by decide) (rfl)) ?_
      have g8 := RG.a hR0 35 (σ0.1 30)
      refine tm_icmp_ge (tgt := 213) dX12_oneRoutine_172 (by decide) ⟨by omega, by omega⟩ ⟨by omega, by omega⟩ (fun h10 => ?_) (fun h10 => ?_)
      · exact tm_sub [0, 1, 2, 3, 4] rfl (hx_213 (i) σ (Fr.rfl.trans (Fr.sub hF (by decide) (by decide) (by decide))) hR hfl (fun a b j c e => hd a j c (by omega)) (DPN.fin2 hdp (by omega) (by omega)))
      · refine tm_aload_n dX12_oneRoutine_175 rfl 4 rfl ?_
        refine tm_get (k := 38) (v := .ref (b + 1 + 19)) lay_12 dX12_oneRoutine_176 (by decide) fl12_72 rfl ?_
        refine tm_bipush dX12_oneRoutine_179 (by decide) ?_
        refine tm_aload_n dX12_oneRoutine_181 rfl 4 rfl ?_
        refine tm_getS (k := 30) (t := σ0.1 30) dX12_oneRoutine_182 (by decide) fl12_268 rfl (rs_F hF (by decide) (rfl)) ?_
        have g11 := RG.s hR0 30
        refine tm_imul dX12_oneRoutine_185 ?_
        refine tm_iload dX12_oneRoutine_186 0 rfl ?_
        refine tm_iadd dX12_oneRoutine_188 ?_
        refine tm_lald (z := (12 * (σ0.1 30)) + i) (v := σ0.2.2 38 ((12 * (σ0.1 30)) + i)) dX12_oneRoutine_189 (show mT[19]? = some (38, 3, 72) from rfl) (by omega) (by omega) (by decide) (rj_F hF (by decide) (rfl)) ?_
        refine tm_aload_n dX12_oneRoutine_190 rfl 4 rfl ?_
        refine tm_getW (t := σ0.2.2 24 0) dX12_oneRoutine_191 fl12_219 (rj_F hF (by decide) (rfl)) ?_
        refine tm_lcmp dX12_oneRoutine_194 ?_
        have g12 := lcI_b (σ0.2.2 38 ((12 * (σ0.1 30)) + i)) (σ0.2.2 24 0)
        refine tm_if_ne (tgt := 207) dX12_oneRoutine_195 (by decide) ⟨by omega, by omega⟩ (fun h13 => ?_) (fun h13 => ?_)
        · have h13e : ¬ (σ0.2.2 38 ((12 * (σ0.1 30)) + i)) = (σ0.2.2 24 0) := fun q => h13 (lcI_0.mpr q)
          refine tm_iinc (q0 := 0) (L' := [(4, .int (iI (i + 1))), (3, .int (iI mo)), (2, .int (iI m)), (1, .int (iI p)), (0, .ref b)]) dX12_oneRoutine_207 rfl (by decide) rfl ?_
          refine tm_goto (tgt := 154) dX12_oneRoutine_210 (by decide) ?_
          exact tm_sub [0, 1, 2, 3, 4] rfl (ih _ (by omega) (i + 1) σ (Fr.rfl.trans (Fr.sub hF (by decide) (by decide) (by decide))) hR (by omega) hfl (fun a j c e => (Classical.em (j = i)).elim (fun z => by rw [z]; assumption) (fun z => hd a j c (by omega))) (DPN.no hdp (by assumption)) rfl)
        · have h13e := lcI_0.mp h13
          refine tm_aload_n dX12_oneRoutine_198 rfl 4 rfl ?_
          refine tm_iconst dX12_oneRoutine_199 ?_
          refine tm_aload_n dX12_oneRoutine_200 rfl 4 rfl ?_
          refine tm_getS (k := 19) (t := σ0.1 19) dX12_oneRoutine_201 (by decide) fl12_216 rfl (rs_F hF (by decide) (rfl)) ?_
          have g14 := RG.s hR0 19
          refine tm_callV (M := m_X12_oneRoutine) (pc := 204) (ix := 274) (M' := m_X12_note) (As := [.int (iI 2), .int (iI (σ0.1 19))]) (rest := []) dX12_oneRoutine_204 ok_X12_note im_X12_note se_X12_note ml12_274 np_X12_note rfl rfl (Nat.le_of_ble_eq_true rfl) (Nat.le_of_ble_eq_true rfl) rfl (c2_X12_note (d + 1) (σ := σ) (f := 2) (p := σ0.1 19) hR (by omega) (by omega)) (fun r15 σ16 hp => ?_)
          obtain ⟨rfl, f18, f19, f20, f21, f22⟩ := hp
          show Tm _ _ 207 b σ16 [(4, .int (iI i)), (3, .int (iI mo)), (2, .int (iI m)), (1, .int (iI p)), (0, .ref b)] [] _
          refine tm_iinc (q0 := 0) (L' := [(4, .int (iI (i + 1))), (3, .int (iI mo)), (2, .int (iI m)), (1, .int (iI p)), (0, .ref b)]) dX12_oneRoutine_207 rfl (by decide) rfl ?_
          refine tm_goto (tgt := 154) dX12_oneRoutine_210 (by decide) ?_
          exact tm_sub [0, 1, 2, 3, 4] rfl (ih _ (by omega) (i + 1) σ16 ((Fr.rfl.trans (Fr.sub hF (by decide) (by decide) (by decide))).trans (Fr.sub f18 (by decide) (by decide) (by decide))) f19 (by omega) (hfl.trans f20) (fun a => absurd a (f21 (by omega))) (DPN.yes hdp h0.1.1 (by first | assumption | omega) (by rw [f22])) rfl)
end
