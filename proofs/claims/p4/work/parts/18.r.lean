theorem fl12_343 : Cond.fieldLink RX12 343 (TX12 31).1 (TX12 31).2.1 (TX12 31).2.2.1 ∈ pWW := pw7 (List.mem_of_getElem? (i := 38) rfl) rfl
theorem dX12_whileStatement_0 : decode cX12_whileStatement 0 = .ok (.aload_n 0, 1) := by decide +kernel
theorem dX12_whileStatement_1 : decode cX12_whileStatement 1 = .ok (.getfield 343, 3) := by decide +kernel
theorem dX12_whileStatement_4 : decode cX12_whileStatement 4 = .ok (.istore_n 1, 1) := by decide +kernel
theorem dX12_whileStatement_5 : decode cX12_whileStatement 5 = .ok (.aload_n 0, 1) := by decide +kernel
theorem dX12_whileStatement_6 : decode cX12_whileStatement 6 = .ok (.invokevirtual 265, 3) := by decide +kernel
theorem dX12_whileStatement_9 : decode cX12_whileStatement 9 = .ok (.aload_n 0, 1) := by decide +kernel
theorem dX12_whileStatement_10 : decode cX12_whileStatement 10 = .ok (.getfield 370, 3) := by decide +kernel
theorem dX12_whileStatement_13 : decode cX12_whileStatement 13 = .ok (.istore_n 2, 1) := by decide +kernel
theorem dX12_whileStatement_14 : decode cX12_whileStatement 14 = .ok (.aload_n 0, 1) := by decide +kernel
theorem dX12_whileStatement_15 : decode cX12_whileStatement 15 = .ok (.dup, 1) := by decide +kernel
theorem dX12_whileStatement_16 : decode cX12_whileStatement 16 = .ok (.getfield 370, 3) := by decide +kernel
theorem dX12_whileStatement_19 : decode cX12_whileStatement 19 = .ok (.iconst 1, 1) := by decide +kernel
theorem dX12_whileStatement_20 : decode cX12_whileStatement 20 = .ok (.iadd, 1) := by decide +kernel
theorem dX12_whileStatement_21 : decode cX12_whileStatement 21 = .ok (.putfield 370, 3) := by decide +kernel
theorem dX12_whileStatement_24 : decode cX12_whileStatement 24 = .ok (.aload_n 0, 1) := by decide +kernel
theorem dX12_whileStatement_25 : decode cX12_whileStatement 25 = .ok (.bipush 13, 2) := by decide +kernel
theorem dX12_whileStatement_27 : decode cX12_whileStatement 27 = .ok (.iload_n 2, 1) := by decide +kernel
theorem dX12_whileStatement_28 : decode cX12_whileStatement 28 = .ok (.iconst 0, 1) := by decide +kernel
theorem dX12_whileStatement_29 : decode cX12_whileStatement 29 = .ok (.invokevirtual 294, 3) := by decide +kernel
theorem dX12_whileStatement_32 : decode cX12_whileStatement 32 = .ok (.istore_n 3, 1) := by decide +kernel
theorem dX12_whileStatement_33 : decode cX12_whileStatement 33 = .ok (.aload_n 0, 1) := by decide +kernel
theorem dX12_whileStatement_34 : decode cX12_whileStatement 34 = .ok (.bipush 11, 2) := by decide +kernel
theorem dX12_whileStatement_36 : decode cX12_whileStatement 36 = .ok (.iload_n 1, 1) := by decide +kernel
theorem dX12_whileStatement_37 : decode cX12_whileStatement 37 = .ok (.iconst 0, 1) := by decide +kernel
theorem dX12_whileStatement_38 : decode cX12_whileStatement 38 = .ok (.invokevirtual 294, 3) := by decide +kernel
theorem dX12_whileStatement_41 : decode cX12_whileStatement 41 = .ok (.istore_n 3, 1) := by decide +kernel
theorem dX12_whileStatement_42 : decode cX12_whileStatement 42 = .ok (.aload_n 0, 1) := by decide +kernel
theorem dX12_whileStatement_43 : decode cX12_whileStatement 43 = .ok (.invokevirtual 327, 3) := by decide +kernel
theorem dX12_whileStatement_46 : decode cX12_whileStatement 46 = .ok (.ifCond .ne 5, 3) := by decide +kernel
theorem dX12_whileStatement_51 : decode cX12_whileStatement 51 = .ok (.aload_n 0, 1) := by decide +kernel
theorem dX12_whileStatement_52 : decode cX12_whileStatement 52 = .ok (.getfield 370, 3) := by decide +kernel
theorem dX12_whileStatement_55 : decode cX12_whileStatement 55 = .ok (.istore 4, 2) := by decide +kernel
theorem dX12_whileStatement_57 : decode cX12_whileStatement 57 = .ok (.aload_n 0, 1) := by decide +kernel
theorem dX12_whileStatement_58 : decode cX12_whileStatement 58 = .ok (.dup, 1) := by decide +kernel
theorem dX12_whileStatement_59 : decode cX12_whileStatement 59 = .ok (.getfield 370, 3) := by decide +kernel
theorem dX12_whileStatement_62 : decode cX12_whileStatement 62 = .ok (.iconst 1, 1) := by decide +kernel
theorem dX12_whileStatement_63 : decode cX12_whileStatement 63 = .ok (.iadd, 1) := by decide +kernel
theorem dX12_whileStatement_64 : decode cX12_whileStatement 64 = .ok (.putfield 370, 3) := by decide +kernel
theorem dX12_whileStatement_67 : decode cX12_whileStatement 67 = .ok (.aload_n 0, 1) := by decide +kernel
theorem dX12_whileStatement_68 : decode cX12_whileStatement 68 = .ok (.bipush 9, 2) := by decide +kernel
theorem dX12_whileStatement_70 : decode cX12_whileStatement 70 = .ok (.iload 4, 2) := by decide +kernel
theorem dX12_whileStatement_72 : decode cX12_whileStatement 72 = .ok (.iconst 0, 1) := by decide +kernel
theorem dX12_whileStatement_73 : decode cX12_whileStatement 73 = .ok (.invokevirtual 294, 3) := by decide +kernel
theorem dX12_whileStatement_76 : decode cX12_whileStatement 76 = .ok (.istore_n 3, 1) := by decide +kernel
theorem dX12_whileStatement_77 : decode cX12_whileStatement 77 = .ok (.aload_n 0, 1) := by decide +kernel
theorem dX12_whileStatement_78 : decode cX12_whileStatement 78 = .ok (.iload_n 3, 1) := by decide +kernel
theorem dX12_whileStatement_79 : decode cX12_whileStatement 79 = .ok (.iconst 0, 1) := by decide +kernel
theorem dX12_whileStatement_80 : decode cX12_whileStatement 80 = .ok (.aload_n 0, 1) := by decide +kernel
theorem dX12_whileStatement_81 : decode cX12_whileStatement 81 = .ok (.getfield 285, 3) := by decide +kernel
theorem dX12_whileStatement_84 : decode cX12_whileStatement 84 = .ok (.aload_n 0, 1) := by decide +kernel
theorem dX12_whileStatement_85 : decode cX12_whileStatement 85 = .ok (.getfield 288, 3) := by decide +kernel
theorem dX12_whileStatement_88 : decode cX12_whileStatement 88 = .ok (.invokevirtual 298, 3) := by decide +kernel
theorem dX12_whileStatement_91 : decode cX12_whileStatement 91 = .ok (.aload_n 0, 1) := by decide +kernel
theorem dX12_whileStatement_92 : decode cX12_whileStatement 92 = .ok (.invokevirtual 373, 3) := by decide +kernel
theorem dX12_whileStatement_95 : decode cX12_whileStatement 95 = .ok (.ifCond .ne 5, 3) := by decide +kernel
theorem dX12_whileStatement_100 : decode cX12_whileStatement 100 = .ok (.aload_n 0, 1) := by decide +kernel
theorem dX12_whileStatement_101 : decode cX12_whileStatement 101 = .ok (.bipush 8, 2) := by decide +kernel
theorem dX12_whileStatement_103 : decode cX12_whileStatement 103 = .ok (.iload_n 2, 1) := by decide +kernel
theorem dX12_whileStatement_104 : decode cX12_whileStatement 104 = .ok (.iconst 0, 1) := by decide +kernel
theorem dX12_whileStatement_105 : decode cX12_whileStatement 105 = .ok (.invokevirtual 294, 3) := by decide +kernel
theorem dX12_whileStatement_108 : decode cX12_whileStatement 108 = .ok (.istore_n 3, 1) := by decide +kernel
theorem dX12_whileStatement_109 : decode cX12_whileStatement 109 = .ok (.aload_n 0, 1) := by decide +kernel
theorem dX12_whileStatement_110 : decode cX12_whileStatement 110 = .ok (.bipush 13, 2) := by decide +kernel
theorem dX12_whileStatement_112 : decode cX12_whileStatement 112 = .ok (.iload 4, 2) := by decide +kernel
theorem dX12_whileStatement_114 : decode cX12_whileStatement 114 = .ok (.iconst 0, 1) := by decide +kernel
theorem dX12_whileStatement_115 : decode cX12_whileStatement 115 = .ok (.invokevirtual 294, 3) := by decide +kernel
theorem dX12_whileStatement_118 : decode cX12_whileStatement 118 = .ok (.istore_n 3, 1) := by decide +kernel
theorem dX12_whileStatement_119 : decode cX12_whileStatement 119 = .ok (.iconst 1, 1) := by decide +kernel
theorem dX12_whileStatement_120 : decode cX12_whileStatement 120 = .ok (.ireturn, 1) := by decide +kernel
theorem dX12_whileStatement_98 : decode cX12_whileStatement 98 = .ok (.iconst 0, 1) := by decide +kernel
theorem dX12_whileStatement_99 : decode cX12_whileStatement 99 = .ok (.ireturn, 1) := by decide +kernel
theorem dX12_whileStatement_49 : decode cX12_whileStatement 49 = .ok (.iconst 0, 1) := by decide +kernel
theorem dX12_whileStatement_50 : decode cX12_whileStatement 50 = .ok (.ireturn, 1) := by decide +kernel
set_option maxHeartbeats 4000000 in
set_option maxRecDepth 20000 in
theorem c_X12_whileStatement (d : Nat) {b : Nat} {σ : MS} {lv : Nat} {ρ : MS} (hcb : ∀ (d : Nat) {b : Nat} {σ : MS} (hR : RG σ) (hrd : RDY σ) (hnn : NN σ) (h28 : σ.1 28 = 0) (h29 : σ.1 29 = 6 - (lv : Int)) (ht : 0 ≤ σ.1 43 ∧ σ.1 43 ≤ 260), Tm (d + 3 * lv + 44) m_X12_block 0 b σ [(0, .ref b)] [] (fun ro σ2 => ∃ v : Int, ro = some (.int (iI v)) ∧ ((v = 0 ∨ v = 1)) ∧ (Fr [19, 20, 22, 23, 26, 27, 28, 29, 31, 32, 33, 34, 39, 40] [3, 4, 5, 6, 7, 8, 35, 37, 41, 42] [24, 38] σ σ2) ∧ (RG σ2) ∧ (PBF σ σ2) ∧ (Im v 1 (BLQ 28 4 σ σ2)) ∧ (Im v 0 (∀ c : Int, GOF [28] σ (qq c) σ2)))) (hR : RG σ) (hln : LNP 0 ρ σ) (hg : ∀ c : Int, GOS [20] ρ (qq c) [22] σ (qq c) []) (h28 : σ.1 28 = 0) (h29 : σ.1 29 = 6 - (lv : Int)) (ht : 0 ≤ σ.1 43 ∧ σ.1 43 ≤ 260) : Tm (d + 3 * lv + 45) m_X12_whileStatement 0 b σ [(0, .ref b)] [] (fun ro σ2 => ∃ v : Int, ro = some (.int (iI v)) ∧ ((v = 0 ∨ v = 1)) ∧ (Fr [19, 20, 22, 23, 26, 27, 28, 29, 31, 32, 33, 34, 39, 40] [3, 4, 5, 6, 7, 8, 35, 37, 41, 42] [24, 38] σ σ2) ∧ (RG σ2) ∧ (PBF ρ σ2) ∧ (Im v 1 (BLQ 20 2 ρ σ2)) ∧ (Im v 0 (∀ c : Int, GOF [20] ρ (qq c) σ2))) := by
  have tk0 := hln.tok.1
  have rd0 := hln.1.2
  have f0 := hln.2.2.1
  have e30_ := f0.1 30 (by decide)
  have e34_ := hln.2.2.2.2.1
  have nn0 : NN σ := hln.2.2.2.1.2.2.1
  have h0c := hln.h0
  have e28r : ρ.1 28 = 0 := (f0.1 28 (by decide)).symm.trans h28
  have e29r := f0.1 29 (by decide)
  have e33r := f0.1 33 (by decide)
  refine tm_aload_n dX12_whileStatement_0 rfl 0 rfl ?_
  refine tm_getS (k := 31) (t := σ.1 31) dX12_whileStatement_1 (by decide) fl12_343 rfl (rfl) ?_
  have g1 := RG.s hR 31
  refine tm_istore_n (L' := [(1, .int (iI (σ.1 31))), (0, .ref b)]) dX12_whileStatement_4 rfl (by decide) rfl ?_
  refine tm_aload_n dX12_whileStatement_5 rfl 1 rfl ?_
  refine tm_callV (M := m_X12_whileStatement) (pc := 6) (ix := 265) (M' := m_X12_advance) (As := []) (rest := []) dX12_whileStatement_6 ok_X12_advance im_X12_advance se_X12_advance ml12_265 np_X12_advance rfl rfl (Nat.le_of_ble_eq_true rfl) (Nat.le_of_ble_eq_true rfl) rfl (c_X12_advance (d + 3 * lv + 39) (σ := σ)  hR (by omega)) (fun r2 σ3 hp => ?_)
  obtain ⟨rfl, f5, f6, f7, f8, f9⟩ := hp
  show Tm _ _ 9 b σ3 [(1, .int (iI (σ.1 31))), (0, .ref b)] [] _
  have ad0 := f5
  have ad1 := f6
  have ad2 := f7
  have ad3 := f8
  have ad4 := f9
  have fA1 := (show Fr [19, 20, 22, 23, 26, 27] [35] [24, 38] σ σ3 from (Fr.rfl.trans (Fr.sub f6 (by decide) (by decide) (by decide))))
  have pb1 : PBF σ σ3 := PBF.nop nn0 ad1 (by decide) (by decide) (by decide)
  have ts1 : TS 20 (2 - 0) ρ [52, 2, 51, 28, 52] σ3 qq [] := TS.line hln (by decide) fA1 pb1 ad3 ad4 ((hg _).then (g22 ad0))
  have tk1 := ad3.1
  have e281 : σ3.1 28 = 0 := (ad1.1 28 (by decide)).trans h28
  have rd1 := ts1.2.2.1.2
  have i33 := ad1.1 33 (by decide)
  have i34 := ad1.1 34 (by decide)
  have i30 := ad1.1 30 (by decide)
  refine tm_aload_n dX12_whileStatement_9 rfl 1 rfl ?_
  refine tm_getS (k := 33) (t := σ.1 33) dX12_whileStatement_10 (by decide) fl12_370 rfl (rs_F f6 (by decide) (rfl)) ?_
  have g10 := RG.s hR 33
  refine tm_istore_n (L' := [(2, .int (iI (σ.1 33))), (1, .int (iI (σ.1 31))), (0, .ref b)]) dX12_whileStatement_13 rfl (by decide) rfl ?_
  refine tm_aload_n dX12_whileStatement_14 rfl 2 rfl ?_
  refine tm_dup dX12_whileStatement_15 rfl ?_
  refine tm_getS (k := 33) (t := σ.1 33) dX12_whileStatement_16 (by decide) fl12_370 rfl (rs_F f6 (by decide) (rfl)) ?_
  have g11 := RG.s hR 33
  refine tm_iconst dX12_whileStatement_19 ?_
  refine tm_iadd dX12_whileStatement_20 ?_
  refine tm_putS (k := 33) (v := (σ.1 33) + 1) lay_12 dX12_whileStatement_21 (by decide) fl12_370 rfl (tyX12_ok 33 (by decide)) rfl rfl rfl ?_
  refine tm_aload_n dX12_whileStatement_24 rfl 2 rfl ?_
  refine tm_bipush dX12_whileStatement_25 (by decide) ?_
  refine tm_iload_n dX12_whileStatement_27 rfl 0 rfl ?_
  refine tm_iconst dX12_whileStatement_28 ?_
  refine tm_callV (M := m_X12_whileStatement) (pc := 29) (ix := 294) (M' := m_X12_put) (As := [.int (iI 13), .int (iI (σ.1 33)), .int (iI 0)]) (rest := []) dX12_whileStatement_29 ok_X12_put im_X12_put se_X12_put ml12_294 np_X12_put rfl rfl (Nat.le_of_ble_eq_true rfl) (Nat.le_of_ble_eq_true rfl) rfl (c_X12_put (d + 3 * lv + 42) (σ := (sS 33 ((σ.1 33) + 1) σ3)) (k := 13) (e := σ.1 33) (o := 0) (f7.S (by omega)) (by rw [show (sS 33 ((σ.1 33) + 1) σ3).1 30 = σ.1 30 from rs_o (by decide) (rs_F f6 (by decide) (rfl)), show (sS 33 ((σ.1 33) + 1) σ3).1 34 = σ.1 34 from rs_o (by decide) (rs_F f6 (by decide) (rfl))]; omega) (by omega) (by omega) (by omega)) (fun r12 σ13 hp => ?_)
  obtain ⟨v14, rfl, f15, f16, f17, f18, f19, f20, f21⟩ := hp
  show Tm _ _ 32 b σ13 [(2, .int (iI (σ.1 33))), (1, .int (iI (σ.1 31))), (0, .ref b)] [.int (iI v14)] _
  have jvJ := f17
  have jnJ := f18
  have jiJ := f19
  have joJ := f20
  have jrJ := f21
  refine tm_istore_n (L' := [(3, .int (iI v14)), (2, .int (iI (σ.1 33))), (1, .int (iI (σ.1 31))), (0, .ref b)]) dX12_whileStatement_32 rfl (by decide) rfl ?_
  have jvJ : _ = PXx σ3 := jvJ
  have fAJ := (show Fr [33, 34] [3, 4, 5, 6, 7, 8] [] σ3 σ13 from ((Fr.rfl.S (by decide)).trans (Fr.sub f15 (by decide) (by decide) (by decide))))
  have eAJ : σ13.1 34 = σ3.1 34 + 1 := jnJ
  have pbJ : PBF σ3 σ13 := PBF.it ts1.nn fAJ (by decide) (by decide) (by decide) eAJ jvJ joJ
  have tbJ : TBm σ3 σ13 := TBm.of fAJ (by decide) (by decide) (by decide) (by decide)
  have e33J : σ13.1 33 = (σ.1 33) + 1 := rs_F f15 (by decide) (rs_eq)
  refine tm_aload_n dX12_whileStatement_33 rfl 3 rfl ?_
  refine tm_bipush dX12_whileStatement_34 (by decide) ?_
  refine tm_iload_n dX12_whileStatement_36 rfl 2 rfl ?_
  refine tm_iconst dX12_whileStatement_37 ?_
  refine tm_callV (M := m_X12_whileStatement) (pc := 38) (ix := 294) (M' := m_X12_put) (As := [.int (iI 11), .int (iI (σ.1 31)), .int (iI 0)]) (rest := []) dX12_whileStatement_38 ok_X12_put im_X12_put se_X12_put ml12_294 np_X12_put rfl rfl (Nat.le_of_ble_eq_true rfl) (Nat.le_of_ble_eq_true rfl) rfl (c_X12_put (d + 3 * lv + 42) (σ := σ13) (k := 11) (e := σ.1 31) (o := 0) f16 (by rw [show σ13.1 30 = σ.1 30 from rs_F f15 (by decide) (rs_o (by decide) (rs_F f6 (by decide) (rfl))), show σ13.1 34 = σ13.1 34 from rfl]; omega) (by omega) (by omega) (by omega)) (fun r22 σ23 hp => ?_)
  obtain ⟨v24, rfl, f25, f26, f27, f28, f29, f30, f31⟩ := hp
  show Tm _ _ 41 b σ23 [(3, .int (iI v14)), (2, .int (iI (σ.1 33))), (1, .int (iI (σ.1 31))), (0, .ref b)] [.int (iI v24)] _
  have jvK := f27
  have jnK := f28
  have jiK := f29
  have joK := f30
  have jrK := f31
  refine tm_istore_n (L' := [(3, .int (iI v24)), (2, .int (iI (σ.1 33))), (1, .int (iI (σ.1 31))), (0, .ref b)]) dX12_whileStatement_41 rfl (by decide) rfl ?_
  have pbK : PBF σ13 σ23 := PBF.it pbJ.2.2.1 f25 (by decide) (by decide) (by decide) jnK jvK joK
  have tbK : TBm σ13 σ23 := TBm.of f25 (by decide) (by decide) (by decide) (by decide)
  have fDK := (show Fr [33, 34] [3, 4, 5, 6, 7, 8] [] σ3 σ23 from (((Fr.rfl.S (by decide)).trans (Fr.sub f15 (by decide) (by decide) (by decide))).trans (Fr.sub f25 (by decide) (by decide) (by decide))))
  have eDK : σ23.1 34 = σ3.1 34 + 2 := by rw [jnK, eAJ]; omega
  have e33K : σ23.1 33 = σ13.1 33 := f25.1 33 (by decide)
  have ts2 := ts1.puts (m := 2) fDK (pbJ.trans pbK) eDK (by omega) (by decide) hln.1 (g52 (CHG.put fDK (by decide) (by decide) (by decide) eDK))
  have itK : σ3.1 25 = 3 → σ3.1 30 < 6 → σ3.1 34 + 1 < 180 → ((σ23.2.1 3 (220 * σ3.1 30 + σ3.1 34) = 13 ∧ σ23.2.1 4 (220 * σ3.1 30 + σ3.1 34) = σ.1 33) ∧ σ23.2.1 3 (220 * σ3.1 30 + (σ3.1 34 + 1)) = 11 ∧ σ23.2.1 4 (220 * σ3.1 30 + (σ3.1 34 + 1)) = σ.1 31) ∧ OKI σ23 1 (220 * σ3.1 30 + σ3.1 34) ∧ OKI σ23 1 (220 * σ3.1 30 + (σ3.1 34 + 1)) := fun z1 z2 z3 => by
    have x1 : PXx σ3 = 220 * σ3.1 30 + σ3.1 34 := by unfold PXx; rw [if_pos (by omega)]
    have m30 : σ13.1 30 = σ3.1 30 := pbJ.2.2.2.2.2.2.2
    have m25 : σ13.1 25 = σ3.1 25 := pbJ.2.2.2.2.2.2.1
    have x2 : PXx σ13 = 220 * σ3.1 30 + (σ3.1 34 + 1) := by unfold PXx; rw [if_pos (by omega), m30, eAJ]
    have ie := pbK.1 (220 * σ3.1 30 + σ3.1 34) (by omega) (by omega)
    have o1 := oki_bare jiJ (by decide) (fun _ => by omega)
    have o2 := oki_bare jiK (by decide) (fun q => absurd rfl q)
    have a1 := jiJ
    have a2 := jiK
    rw [jvJ, x1] at o1 a1
    rw [jvK, x2] at o2 a2
    exact ⟨⟨⟨ie.1.trans a1.1, ie.2.1.trans a1.2.1⟩, a2.1, a2.2.1⟩, ie.oki tbK.2.1 o1, o2⟩
  have tk2 := ts2.2.2.1.1.1
  have e282 : σ23.1 28 = 0 := by rw [show σ23.1 28 = σ3.1 28 from (show Fr [33, 34] [3, 4, 5, 6, 7, 8] [] σ3 σ23 from (((Fr.rfl.S (by decide)).trans (Fr.sub f15 (by decide) (by decide) (by decide))).trans (Fr.sub f25 (by decide) (by decide) (by decide)))).1 28 (by decide)]; exact e281
  refine tm_aload_n dX12_whileStatement_42 rfl 3 rfl ?_
  refine tm_callV (M := m_X12_whileStatement) (pc := 43) (ix := 327) (M' := m_X12_expression) (As := []) (rest := []) dX12_whileStatement_43 ok_X12_expression im_X12_expression se_X12_expression ml12_327 np_X12_expression rfl rfl (Nat.le_of_ble_eq_true rfl) (Nat.le_of_ble_eq_true rfl) rfl (c_exp8 (d + 3 * lv + 4) (σ := σ23)  f26 ts2.2.2.1 ts2.nn e282) (fun r32 σ33 hp => ?_)
  obtain ⟨v34, rfl, f35, f36, f37, f38, f39, f40, f41⟩ := hp
  show Tm _ _ 46 b σ33 [(3, .int (iI v24)), (2, .int (iI (σ.1 33))), (1, .int (iI (σ.1 31))), (0, .ref b)] [.int (iI v34)] _
  have xp0 := f35
  have xp1 := f36
  have xp2 := f37
  have xp3 := f38
  have xp4 := f39
  have xp5 := f40
  have xp6 := f41
  refine tm_if_ne (tgt := 51) dX12_whileStatement_46 (by decide) ⟨by omega, by omega⟩ (fun h42 => ?_) (fun h42 => ?_)
  · have ts3 := ts2.exp xp1 xp3 (xp4 (by omega)) (xp5.1 (by omega))
    have ex4 := xp4 (by omega)
    have gt := ex4.2.2.1
    unfold GTm at gt
    have rdx := ts3.2.2.1.2
    have tkx := ts3.2.2.1.1.1
    have acx := ex4.2.2.2.1
    have tbx := TBm.of xp1 (by decide) (by decide) (by decide) (by decide)
    have e33x := xp1.1 33 (by decide)
    have e33s : σ33.1 33 = (σ.1 33) + 1 := rs_F f36 (by decide) (rs_F f25 (by decide) (rs_F f15 (by decide) (rs_eq)))
    refine tm_aload_n dX12_whileStatement_51 rfl 3 rfl ?_
    refine tm_getS (k := 33) (t := (σ.1 33) + 1) dX12_whileStatement_52 (by decide) fl12_370 rfl (rs_F f36 (by decide) (rs_F f25 (by decide) (rs_F f15 (by decide) (rs_eq)))) ?_
    refine tm_istore (L' := [(4, .int (iI ((σ.1 33) + 1))), (3, .int (iI v24)), (2, .int (iI (σ.1 33))), (1, .int (iI (σ.1 31))), (0, .ref b)]) dX12_whileStatement_55 (by decide) rfl ?_
    refine tm_aload_n dX12_whileStatement_57 rfl 4 rfl ?_
    refine tm_dup dX12_whileStatement_58 rfl ?_
    refine tm_getS (k := 33) (t := (σ.1 33) + 1) dX12_whileStatement_59 (by decide) fl12_370 rfl (rs_F f36 (by decide) (rs_F f25 (by decide) (rs_F f15 (by decide) (rs_eq)))) ?_
    refine tm_iconst dX12_whileStatement_62 ?_
    refine tm_iadd dX12_whileStatement_63 ?_
    refine tm_putS (k := 33) (v := ((σ.1 33) + 1) + 1) lay_12 dX12_whileStatement_64 (by decide) fl12_370 rfl (tyX12_ok 33 (by decide)) rfl rfl rfl ?_
    refine tm_aload_n dX12_whileStatement_67 rfl 4 rfl ?_
    refine tm_bipush dX12_whileStatement_68 (by decide) ?_
    refine tm_iload dX12_whileStatement_70 0 rfl ?_
    refine tm_iconst dX12_whileStatement_72 ?_
    refine tm_callV (M := m_X12_whileStatement) (pc := 73) (ix := 294) (M' := m_X12_put) (As := [.int (iI 9), .int (iI ((σ.1 33) + 1)), .int (iI 0)]) (rest := []) dX12_whileStatement_73 ok_X12_put im_X12_put se_X12_put ml12_294 np_X12_put rfl rfl (Nat.le_of_ble_eq_true rfl) (Nat.le_of_ble_eq_true rfl) rfl (c_X12_put (d + 3 * lv + 42) (σ := (sS 33 (((σ.1 33) + 1) + 1) σ33)) (k := 9) (e := (σ.1 33) + 1) (o := 0) (f37.S (by omega)) (by rw [show (sS 33 (((σ.1 33) + 1) + 1) σ33).1 30 = σ.1 30 from rs_o (by decide) (rs_F f36 (by decide) (rs_F f25 (by decide) (rs_F f15 (by decide) (rs_o (by decide) (rs_F f6 (by decide) (rfl)))))), show (sS 33 (((σ.1 33) + 1) + 1) σ33).1 34 = σ33.1 34 from rs_o (by decide) (rfl)]; omega) (by omega) (by omega) (by omega)) (fun r43 σ44 hp => ?_)
    obtain ⟨v45, rfl, f46, f47, f48, f49, f50, f51, f52⟩ := hp
    show Tm _ _ 76 b σ44 [(4, .int (iI ((σ.1 33) + 1))), (3, .int (iI v24)), (2, .int (iI (σ.1 33))), (1, .int (iI (σ.1 31))), (0, .ref b)] [.int (iI v45)] _
    have jvZ := f48
    have jnZ := f49
    have jiZ := f50
    have joZ := f51
    have jrZ := f52
    refine tm_istore_n (L' := [(3, .int (iI v45)), (4, .int (iI ((σ.1 33) + 1))), (2, .int (iI (σ.1 33))), (1, .int (iI (σ.1 31))), (0, .ref b)]) dX12_whileStatement_76 rfl (by decide) rfl ?_
    refine tm_aload_n dX12_whileStatement_77 rfl 4 rfl ?_
    refine tm_iload_n dX12_whileStatement_78 rfl 0 rfl ?_
    refine tm_iconst dX12_whileStatement_79 ?_
    refine tm_aload_n dX12_whileStatement_80 rfl 4 rfl ?_
    refine tm_getS (k := 39) (t := σ33.1 39) dX12_whileStatement_81 (by decide) fl12_285 rfl (rs_F f46 (by decide) (rs_o (by decide) (rfl))) ?_
    have g53 := RG.s f37 39
    refine tm_aload_n dX12_whileStatement_84 rfl 4 rfl ?_
    refine tm_getS (k := 40) (t := σ33.1 40) dX12_whileStatement_85 (by decide) fl12_288 rfl (rs_F f46 (by decide) (rs_o (by decide) (rfl))) ?_
    have g54 := RG.s f37 40
    refine tm_callV (M := m_X12_whileStatement) (pc := 88) (ix := 298) (M' := m_X12_setArg) (As := [.int (iI v45), .int (iI 0), .int (iI (σ33.1 39)), .int (iI (σ33.1 40))]) (rest := []) dX12_whileStatement_88 ok_X12_setArg im_X12_setArg se_X12_setArg ml12_298 np_X12_setArg rfl rfl (Nat.le_of_ble_eq_true rfl) (Nat.le_of_ble_eq_true rfl) rfl (c_X12_setArg (d + 3 * lv + 43) (σ := σ44) (x := v45) (i := 0) (k := σ33.1 39) (w := σ33.1 40) (by omega)) (fun r55 σ56 hp => ?_)
    obtain ⟨rfl, f58⟩ := hp
    subst f58
    show Tm _ _ 91 b (fArg (v45) (0) (σ33.1 39) (σ33.1 40) σ44) [(3, .int (iI v45)), (4, .int (iI ((σ.1 33) + 1))), (2, .int (iI (σ.1 33))), (1, .int (iI (σ.1 31))), (0, .ref b)] [] _
    have jvZ : _ = PXx σ33 := jvZ
    have fAZ := (show Fr [33, 34] [3, 4, 5, 6, 7, 8] [] σ33 (fArg (v45) (0) (σ33.1 39) (σ33.1 40) σ44) from (((Fr.rfl.S (by decide)).trans (Fr.sub f46 (by decide) (by decide) (by decide))).trans (Fr.sub fArg_fr (by decide) (by decide) (by decide))))
    have eAZ : (fArg (v45) (0) (σ33.1 39) (σ33.1 40) σ44).1 34 = σ33.1 34 + 1 := jnZ
    have pbZ : PBF σ33 (fArg (v45) (0) (σ33.1 39) (σ33.1 40) σ44) := PBF.it ts3.nn fAZ (by decide) (by decide) (by decide) eAZ jvZ (joZ.trans (OFF.arg (by decide) (by decide)))
    have tbZ : TBm σ33 (fArg (v45) (0) (σ33.1 39) (σ33.1 40) σ44) := TBm.of fAZ (by decide) (by decide) (by decide) (by decide)
    have e33Z : (fArg (v45) (0) (σ33.1 39) (σ33.1 40) σ44).1 33 = σ33.1 33 + 1 := by rw [show (fArg (v45) (0) (σ33.1 39) (σ33.1 40) σ44).1 33 = ((σ.1 33) + 1) + 1 from rs_F fArg_fr (by decide) (rs_F f46 (by decide) (rs_eq)), e33s]
    have ts4 := ts3.puts (m := 1) fAZ pbZ eAZ (by omega) (by decide) hln.1 (g51 (CHG.put fAZ (by decide) (by decide) (by decide) eAZ))
    have izZ : (fArg (v45) (0) (σ33.1 39) (σ33.1 40) σ44).2.1 3 (PXx σ33) = 9 ∧ (fArg (v45) (0) (σ33.1 39) (σ33.1 40) σ44).2.1 4 (PXx σ33) = σ33.1 33 := by rw [← jvZ]; exact ⟨jiZ.1, jiZ.2.1.trans e33s.symm⟩
    have okZ : σ33.1 25 = 3 → σ33.1 30 < 6 → σ33.1 34 < 180 → OKI (fArg (v45) (0) (σ33.1 39) (σ33.1 40) σ44) 1 (PXx σ33) := (fun z1 z2 z3 => by rw [← jvZ]; exact oki_arg1 jiZ (Or.inr (Or.inr (Or.inr rfl))) (fun q => absurd q (by decide)) (fun _ => by omega) (by omega))
    have rdz := ts4.2.2.1.2
    have tkz := ts4.2.2.1.1.1
    have e28Z : (fArg (v45) (0) (σ33.1 39) (σ33.1 40) σ44).1 28 = 0 := (f46.1 28 (by decide)).trans (xp6.trans e282)
    have e29Z : (fArg (v45) (0) (σ33.1 39) (σ33.1 40) σ44).1 29 = σ.1 29 := rs_F fArg_fr (by decide) (rs_F f46 (by decide) (rs_o (by decide) (rs_F f36 (by decide) (rs_F f25 (by decide) (rs_F f15 (by decide) (rs_o (by decide) (rs_F f6 (by decide) (rfl))))))))
    have e43Z : (fArg (v45) (0) (σ33.1 39) (σ33.1 40) σ44).1 43 = σ.1 43 := rs_F fArg_fr (by decide) (rs_F f46 (by decide) (rs_o (by decide) (rs_F f36 (by decide) (rs_F f25 (by decide) (rs_F f15 (by decide) (rs_o (by decide) (rs_F f6 (by decide) (rfl))))))))
    refine tm_aload_n dX12_whileStatement_91 rfl 4 rfl ?_
    refine tm_callV (M := m_X12_whileStatement) (pc := 92) (ix := 373) (M' := m_X12_block) (As := []) (rest := []) dX12_whileStatement_92 ok_X12_block im_X12_block se_X12_block ml12_373 np_X12_block rfl rfl (Nat.le_of_ble_eq_true rfl) (Nat.le_of_ble_eq_true rfl) rfl (hcb (d) (σ := (fArg (v45) (0) (σ33.1 39) (σ33.1 40) σ44))  ((f47).arg (by omega) (by omega)) ts4.2.2.1 ts4.nn e28Z (e29Z.trans h29) (by rw [e43Z]; exact ht)) (fun r59 σ60 hp => ?_)
    obtain ⟨v61, rfl, f62, f63, f64, f65, f66, f67⟩ := hp
    show Tm _ _ 95 b σ60 [(3, .int (iI v45)), (4, .int (iI ((σ.1 33) + 1))), (2, .int (iI (σ.1 33))), (1, .int (iI (σ.1 31))), (0, .ref b)] [.int (iI v61)] _
    have bp0 := f62
    have bp1 := f63
    have bp2 := f64
    have bp3 := f65
    have bp4 := f66
    have bp5 := f67
    refine tm_if_ne (tgt := 100) dX12_whileStatement_95 (by decide) ⟨by omega, by omega⟩ (fun h68 => ?_) (fun h68 => ?_)
    · obtain ⟨lg1, bt, bs, bf, b28, b29⟩ := bp4 (by omega)
      have ts5 := ts4.sub bt
      have tk5 := ts5.2.2.1.1.1
      have rd5 := ts5.2.2.1.2
      have e285 : σ60.1 28 = 0 := b28.trans e28Z
      have e295 : σ60.1 29 = σ.1 29 := b29.trans e29Z
      refine tm_aload_n dX12_whileStatement_100 rfl 4 rfl ?_
      refine tm_bipush dX12_whileStatement_101 (by decide) ?_
      refine tm_iload_n dX12_whileStatement_103 rfl 2 rfl ?_
      refine tm_iconst dX12_whileStatement_104 ?_
      refine tm_callV (M := m_X12_whileStatement) (pc := 105) (ix := 294) (M' := m_X12_put) (As := [.int (iI 8), .int (iI (σ.1 33)), .int (iI 0)]) (rest := []) dX12_whileStatement_105 ok_X12_put im_X12_put se_X12_put ml12_294 np_X12_put rfl rfl (Nat.le_of_ble_eq_true rfl) (Nat.le_of_ble_eq_true rfl) rfl (c_X12_put (d + 3 * lv + 42) (σ := σ60) (k := 8) (e := σ.1 33) (o := 0) f64 (by rw [show σ60.1 30 = σ.1 30 from rs_F f63 (by decide) (rs_F fArg_fr (by decide) (rs_F f46 (by decide) (rs_o (by decide) (rs_F f36 (by decide) (rs_F f25 (by decide) (rs_F f15 (by decide) (rs_o (by decide) (rs_F f6 (by decide) (rfl))))))))), show σ60.1 34 = σ60.1 34 from rfl]; omega) (by omega) (by omega) (by omega)) (fun r69 σ70 hp => ?_)
      obtain ⟨v71, rfl, f72, f73, f74, f75, f76, f77, f78⟩ := hp
      show Tm _ _ 108 b σ70 [(3, .int (iI v45)), (4, .int (iI ((σ.1 33) + 1))), (2, .int (iI (σ.1 33))), (1, .int (iI (σ.1 31))), (0, .ref b)] [.int (iI v71)] _
      have jvM := f74
      have jnM := f75
      have jiM := f76
      have joM := f77
      have jrM := f78
      refine tm_istore_n (L' := [(3, .int (iI v71)), (4, .int (iI ((σ.1 33) + 1))), (2, .int (iI (σ.1 33))), (1, .int (iI (σ.1 31))), (0, .ref b)]) dX12_whileStatement_108 rfl (by decide) rfl ?_
      have jvM : _ = PXx σ60 := jvM
      have fAM := (show Fr [33, 34] [3, 4, 5, 6, 7, 8] [] σ60 σ70 from (Fr.rfl.trans (Fr.sub f72 (by decide) (by decide) (by decide))))
      have eAM : σ70.1 34 = σ60.1 34 + 1 := jnM
      have pbM : PBF σ60 σ70 := PBF.it ts5.nn fAM (by decide) (by decide) (by decide) eAM jvM joM
      have tbM : TBm σ60 σ70 := TBm.of fAM (by decide) (by decide) (by decide) (by decide)
      have e33M : σ70.1 33 = σ60.1 33 := rs_F f72 (by decide) (rfl)
      refine tm_aload_n dX12_whileStatement_109 rfl 4 rfl ?_
      refine tm_bipush dX12_whileStatement_110 (by decide) ?_
      refine tm_iload dX12_whileStatement_112 1 rfl ?_
      refine tm_iconst dX12_whileStatement_114 ?_
      refine tm_callV (M := m_X12_whileStatement) (pc := 115) (ix := 294) (M' := m_X12_put) (As := [.int (iI 13), .int (iI ((σ.1 33) + 1)), .int (iI 0)]) (rest := []) dX12_whileStatement_115 ok_X12_put im_X12_put se_X12_put ml12_294 np_X12_put rfl rfl (Nat.le_of_ble_eq_true rfl) (Nat.le_of_ble_eq_true rfl) rfl (c_X12_put (d + 3 * lv + 42) (σ := σ70) (k := 13) (e := (σ.1 33) + 1) (o := 0) f73 (by rw [show σ70.1 30 = σ.1 30 from rs_F f72 (by decide) (rs_F f63 (by decide) (rs_F fArg_fr (by decide) (rs_F f46 (by decide) (rs_o (by decide) (rs_F f36 (by decide) (rs_F f25 (by decide) (rs_F f15 (by decide) (rs_o (by decide) (rs_F f6 (by decide) (rfl)))))))))), show σ70.1 34 = σ70.1 34 from rfl]; omega) (by omega) (by omega) (by omega)) (fun r79 σ80 hp => ?_)
      obtain ⟨v81, rfl, f82, f83, f84, f85, f86, f87, f88⟩ := hp
      show Tm _ _ 118 b σ80 [(3, .int (iI v71)), (4, .int (iI ((σ.1 33) + 1))), (2, .int (iI (σ.1 33))), (1, .int (iI (σ.1 31))), (0, .ref b)] [.int (iI v81)] _
      have jvN := f84
      have jnN := f85
      have jiN := f86
      have joN := f87
      have jrN := f88
      refine tm_istore_n (L' := [(3, .int (iI v81)), (4, .int (iI ((σ.1 33) + 1))), (2, .int (iI (σ.1 33))), (1, .int (iI (σ.1 31))), (0, .ref b)]) dX12_whileStatement_118 rfl (by decide) rfl ?_
      have pbN : PBF σ70 σ80 := PBF.it pbM.2.2.1 f82 (by decide) (by decide) (by decide) jnN jvN joN
      have tbN : TBm σ70 σ80 := TBm.of f82 (by decide) (by decide) (by decide) (by decide)
      have fDN := (show Fr [33, 34] [3, 4, 5, 6, 7, 8] [] σ60 σ80 from ((Fr.rfl.trans (Fr.sub f72 (by decide) (by decide) (by decide))).trans (Fr.sub f82 (by decide) (by decide) (by decide))))
      have eDN : σ80.1 34 = σ60.1 34 + 2 := by rw [jnN, eAM]; omega
      have e33N : σ80.1 33 = σ70.1 33 := f82.1 33 (by decide)
      have ts6 := ts5.puts (m := 2) fDN (pbM.trans pbN) eDN (by omega) (by decide) hln.1 (g52 (CHG.put fDN (by decide) (by decide) (by decide) eDN))
      have itN : σ60.1 25 = 3 → σ60.1 30 < 6 → σ60.1 34 + 1 < 180 → ((σ80.2.1 3 (220 * σ60.1 30 + σ60.1 34) = 8 ∧ σ80.2.1 4 (220 * σ60.1 30 + σ60.1 34) = σ.1 33) ∧ σ80.2.1 3 (220 * σ60.1 30 + (σ60.1 34 + 1)) = 13 ∧ σ80.2.1 4 (220 * σ60.1 30 + (σ60.1 34 + 1)) = (σ.1 33) + 1) ∧ OKI σ80 1 (220 * σ60.1 30 + σ60.1 34) ∧ OKI σ80 1 (220 * σ60.1 30 + (σ60.1 34 + 1)) := fun z1 z2 z3 => by
        have x1 : PXx σ60 = 220 * σ60.1 30 + σ60.1 34 := by unfold PXx; rw [if_pos (by omega)]
        have m30 : σ70.1 30 = σ60.1 30 := pbM.2.2.2.2.2.2.2
        have m25 : σ70.1 25 = σ60.1 25 := pbM.2.2.2.2.2.2.1
        have x2 : PXx σ70 = 220 * σ60.1 30 + (σ60.1 34 + 1) := by unfold PXx; rw [if_pos (by omega), m30, eAM]
        have ie := pbN.1 (220 * σ60.1 30 + σ60.1 34) (by omega) (by omega)
        have o1 := oki_bare jiM (by decide) (fun _ => by omega)
        have o2 := oki_bare jiN (by decide) (fun _ => by omega)
        have a1 := jiM
        have a2 := jiN
        rw [jvM, x1] at o1 a1
        rw [jvN, x2] at o2 a2
        exact ⟨⟨⟨ie.1.trans a1.1, ie.2.1.trans a1.2.1⟩, a2.1, a2.2.1⟩, ie.oki tbN.2.1 o1, o2⟩
      have i33 := ad1.1 33 (by decide)
      have sg5 : SGF σ3 σ80 lg1 := SGF.whl ⟨eDK, by rw [e33K, e33J, i33]⟩ (fun z1 z2 z3 => by have q := itK z1 z2 z3; rw [← i33] at q; exact ⟨⟨q.1.1, q.1.2.1⟩, q.2⟩) (pbJ.trans pbK) acx xp3 e33x ⟨eAZ, e33Z⟩ (fun z1 z2 z3 => by have x1 : PXx σ33 = 220 * σ33.1 30 + σ33.1 34 := (by unfold PXx; rw [if_pos (by omega)]); rw [← x1]; exact ⟨izZ, okZ z1 z2 z3⟩) pbZ bs bp3 ⟨eDN, by rw [e33N, e33M]⟩ (fun z1 z2 z3 => by have q := itN z1 z2 z3; rw [← i33] at q; exact q) (pbM.trans pbN) (tbJ.trans tbK) tbx tbZ bt.2.2.2.1 (tbM.trans tbN) ts1.h1
      have pqA : PBF σ23 σ80 := xp3.trans (pbZ.trans (bp3.trans (pbM.trans pbN)))
      have pqB : PBF σ3 σ80 := (pbJ.trans pbK).trans pqA
      have tbB : TBm σ3 σ80 := (tbJ.trans tbK).trans (tbx.trans (tbZ.trans (bt.2.2.2.1.trans (tbM.trans tbN))))
      have e341 : σ3.1 34 = ρ.1 34 := (ad1.1 34 (by decide)).trans (by have z := e34_.1; omega)
      have sg6 := (SGF.nil e341 (by rw [i33]; omega) : SGF ρ σ3 []).cat sg5 ts1.1 pqB ts1.2.2.2.1 tbB h0c
      have fs6 : FS ρ σ80 := (FS.nil e341 : FS ρ σ3).cat (fun z1 z2 z3 => by
          have m6 := pqA.2.2.2.2.2.1
          have q := itK z1 z2 (by omega)
          have m30 : σ23.1 30 = σ3.1 30 := (pbJ.trans pbK).2.2.2.2.2.2.2
          have m34 : σ23.1 34 = σ3.1 34 + 2 := eDK
          have h1_ := ts1.h1
          exact Or.inr (Or.inr ⟨⟨(pqA.1 _ (by omega) (by omega)).1.trans q.1.1.1, (pqA.1 _ (by omega) (by omega)).1.trans q.1.2.1⟩, by omega⟩)) ts1.1 pqB h0c
      refine tm_iconst dX12_whileStatement_119 ?_
      exact tm_zret (v := 1) rfl (by decide) dX12_whileStatement_120 (⟨_, rfl, by omega, (((((((((((Fr.rfl.trans (Fr.sub f6 (by decide) (by decide) (by decide))).S (by decide)).trans (Fr.sub f15 (by decide) (by decide) (by decide))).trans (Fr.sub f25 (by decide) (by decide) (by decide))).trans (Fr.sub f36 (by decide) (by decide) (by decide))).S (by decide)).trans (Fr.sub f46 (by decide) (by decide) (by decide))).trans (Fr.sub fArg_fr (by decide) (by decide) (by decide))).trans (Fr.sub f63 (by decide) (by decide) (by decide))).trans (Fr.sub f72 (by decide) (by decide) (by decide))).trans (Fr.sub f82 (by decide) (by decide) (by decide))), f83, ts6.1, fun _ => ⟨_, ts6.le (by decide), sg6, fs6, (((show Fr [33, 34] [3, 4, 5, 6, 7, 8] [] σ60 σ80 from ((Fr.rfl.trans (Fr.sub f72 (by decide) (by decide) (by decide))).trans (Fr.sub f82 (by decide) (by decide) (by decide)))).1 28 (by decide)).trans e285).trans e28r.symm, (((show Fr [33, 34] [3, 4, 5, 6, 7, 8] [] σ60 σ80 from ((Fr.rfl.trans (Fr.sub f72 (by decide) (by decide) (by decide))).trans (Fr.sub f82 (by decide) (by decide) (by decide)))).1 29 (by decide)).trans e295).trans e29r⟩, fun q => absurd q (by decide)⟩)
    · refine tm_iconst dX12_whileStatement_98 ?_
      exact tm_zret (v := 0) rfl (by decide) dX12_whileStatement_99 (⟨_, rfl, by omega, (((((((((Fr.rfl.trans (Fr.sub f6 (by decide) (by decide) (by decide))).S (by decide)).trans (Fr.sub f15 (by decide) (by decide) (by decide))).trans (Fr.sub f25 (by decide) (by decide) (by decide))).trans (Fr.sub f36 (by decide) (by decide) (by decide))).S (by decide)).trans (Fr.sub f46 (by decide) (by decide) (by decide))).trans (Fr.sub fArg_fr (by decide) (by decide) (by decide))).trans (Fr.sub f63 (by decide) (by decide) (by decide))), f64, (ts4.fail bp3 (bp5 (by omega) _)).1, fun q => absurd q (by omega), fun _ => (ts4.fail bp3 (bp5 (by omega) _)).2⟩)
  · refine tm_iconst dX12_whileStatement_49 ?_
    exact tm_zret (v := 0) rfl (by decide) dX12_whileStatement_50 (⟨_, rfl, by omega, (((((Fr.rfl.trans (Fr.sub f6 (by decide) (by decide) (by decide))).S (by decide)).trans (Fr.sub f15 (by decide) (by decide) (by decide))).trans (Fr.sub f25 (by decide) (by decide) (by decide))).trans (Fr.sub f36 (by decide) (by decide) (by decide))), f37, (ts2.fail xp3 (xp5.2 (by omega) _)).1, fun q => absurd q (by omega), fun _ => (ts2.fail xp3 (xp5.2 (by omega) _)).2⟩)
