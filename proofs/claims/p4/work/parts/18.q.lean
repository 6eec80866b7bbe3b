theorem fl12_370 : Cond.fieldLink RX12 370 (TX12 33).1 (TX12 33).2.1 (TX12 33).2.2.1 ∈ pWW := pw7 (List.mem_of_getElem? (i := 40) rfl) rfl
theorem ml12_373 : Cond.methodLink RX12 373 yX12_block ∈ pWW := pw8 (List.mem_of_getElem? (i := 189) rfl) rfl
theorem ml12_339 : Cond.methodLink RX12 339 yX12_isWord ∈ pWW := pw8 (List.mem_of_getElem? (i := 197) rfl) rfl
theorem dX12_ifStatement_0 : decode cX12_ifStatement 0 = .ok (.aload_n 0, 1) := by decide +kernel
theorem dX12_ifStatement_1 : decode cX12_ifStatement 1 = .ok (.invokevirtual 265, 3) := by decide +kernel
theorem dX12_ifStatement_4 : decode cX12_ifStatement 4 = .ok (.aload_n 0, 1) := by decide +kernel
theorem dX12_ifStatement_5 : decode cX12_ifStatement 5 = .ok (.invokevirtual 327, 3) := by decide +kernel
theorem dX12_ifStatement_8 : decode cX12_ifStatement 8 = .ok (.ifCond .ne 5, 3) := by decide +kernel
theorem dX12_ifStatement_13 : decode cX12_ifStatement 13 = .ok (.aload_n 0, 1) := by decide +kernel
theorem dX12_ifStatement_14 : decode cX12_ifStatement 14 = .ok (.getfield 370, 3) := by decide +kernel
theorem dX12_ifStatement_17 : decode cX12_ifStatement 17 = .ok (.istore_n 1, 1) := by decide +kernel
theorem dX12_ifStatement_18 : decode cX12_ifStatement 18 = .ok (.aload_n 0, 1) := by decide +kernel
theorem dX12_ifStatement_19 : decode cX12_ifStatement 19 = .ok (.dup, 1) := by decide +kernel
theorem dX12_ifStatement_20 : decode cX12_ifStatement 20 = .ok (.getfield 370, 3) := by decide +kernel
theorem dX12_ifStatement_23 : decode cX12_ifStatement 23 = .ok (.iconst 1, 1) := by decide +kernel
theorem dX12_ifStatement_24 : decode cX12_ifStatement 24 = .ok (.iadd, 1) := by decide +kernel
theorem dX12_ifStatement_25 : decode cX12_ifStatement 25 = .ok (.putfield 370, 3) := by decide +kernel
theorem dX12_ifStatement_28 : decode cX12_ifStatement 28 = .ok (.aload_n 0, 1) := by decide +kernel
theorem dX12_ifStatement_29 : decode cX12_ifStatement 29 = .ok (.bipush 9, 2) := by decide +kernel
theorem dX12_ifStatement_31 : decode cX12_ifStatement 31 = .ok (.iload_n 1, 1) := by decide +kernel
theorem dX12_ifStatement_32 : decode cX12_ifStatement 32 = .ok (.iconst 0, 1) := by decide +kernel
theorem dX12_ifStatement_33 : decode cX12_ifStatement 33 = .ok (.invokevirtual 294, 3) := by decide +kernel
theorem dX12_ifStatement_36 : decode cX12_ifStatement 36 = .ok (.istore_n 2, 1) := by decide +kernel
theorem dX12_ifStatement_37 : decode cX12_ifStatement 37 = .ok (.aload_n 0, 1) := by decide +kernel
theorem dX12_ifStatement_38 : decode cX12_ifStatement 38 = .ok (.iload_n 2, 1) := by decide +kernel
theorem dX12_ifStatement_39 : decode cX12_ifStatement 39 = .ok (.iconst 0, 1) := by decide +kernel
theorem dX12_ifStatement_40 : decode cX12_ifStatement 40 = .ok (.aload_n 0, 1) := by decide +kernel
theorem dX12_ifStatement_41 : decode cX12_ifStatement 41 = .ok (.getfield 285, 3) := by decide +kernel
theorem dX12_ifStatement_44 : decode cX12_ifStatement 44 = .ok (.aload_n 0, 1) := by decide +kernel
theorem dX12_ifStatement_45 : decode cX12_ifStatement 45 = .ok (.getfield 288, 3) := by decide +kernel
theorem dX12_ifStatement_48 : decode cX12_ifStatement 48 = .ok (.invokevirtual 298, 3) := by decide +kernel
theorem dX12_ifStatement_51 : decode cX12_ifStatement 51 = .ok (.aload_n 0, 1) := by decide +kernel
theorem dX12_ifStatement_52 : decode cX12_ifStatement 52 = .ok (.invokevirtual 373, 3) := by decide +kernel
theorem dX12_ifStatement_55 : decode cX12_ifStatement 55 = .ok (.ifCond .ne 5, 3) := by decide +kernel
theorem dX12_ifStatement_60 : decode cX12_ifStatement 60 = .ok (.aload_n 0, 1) := by decide +kernel
theorem dX12_ifStatement_61 : decode cX12_ifStatement 61 = .ok (.ldc2_w 248, 3) := by decide +kernel
theorem dX12_ifStatement_64 : decode cX12_ifStatement 64 = .ok (.invokevirtual 339, 3) := by decide +kernel
theorem dX12_ifStatement_67 : decode cX12_ifStatement 67 = .ok (.ifCond .ne 14, 3) := by decide +kernel
theorem dX12_ifStatement_81 : decode cX12_ifStatement 81 = .ok (.aload_n 0, 1) := by decide +kernel
theorem dX12_ifStatement_82 : decode cX12_ifStatement 82 = .ok (.invokevirtual 265, 3) := by decide +kernel
theorem dX12_ifStatement_85 : decode cX12_ifStatement 85 = .ok (.aload_n 0, 1) := by decide +kernel
theorem dX12_ifStatement_86 : decode cX12_ifStatement 86 = .ok (.getfield 370, 3) := by decide +kernel
theorem dX12_ifStatement_89 : decode cX12_ifStatement 89 = .ok (.istore_n 3, 1) := by decide +kernel
theorem dX12_ifStatement_90 : decode cX12_ifStatement 90 = .ok (.aload_n 0, 1) := by decide +kernel
theorem dX12_ifStatement_91 : decode cX12_ifStatement 91 = .ok (.dup, 1) := by decide +kernel
theorem dX12_ifStatement_92 : decode cX12_ifStatement 92 = .ok (.getfield 370, 3) := by decide +kernel
theorem dX12_ifStatement_95 : decode cX12_ifStatement 95 = .ok (.iconst 1, 1) := by decide +kernel
theorem dX12_ifStatement_96 : decode cX12_ifStatement 96 = .ok (.iadd, 1) := by decide +kernel
theorem dX12_ifStatement_97 : decode cX12_ifStatement 97 = .ok (.putfield 370, 3) := by decide +kernel
theorem dX12_ifStatement_100 : decode cX12_ifStatement 100 = .ok (.aload_n 0, 1) := by decide +kernel
theorem dX12_ifStatement_101 : decode cX12_ifStatement 101 = .ok (.bipush 8, 2) := by decide +kernel
theorem dX12_ifStatement_103 : decode cX12_ifStatement 103 = .ok (.iload_n 3, 1) := by decide +kernel
theorem dX12_ifStatement_104 : decode cX12_ifStatement 104 = .ok (.iconst 0, 1) := by decide +kernel
theorem dX12_ifStatement_105 : decode cX12_ifStatement 105 = .ok (.invokevirtual 294, 3) := by decide +kernel
theorem dX12_ifStatement_108 : decode cX12_ifStatement 108 = .ok (.istore_n 2, 1) := by decide +kernel
theorem dX12_ifStatement_109 : decode cX12_ifStatement 109 = .ok (.aload_n 0, 1) := by decide +kernel
theorem dX12_ifStatement_110 : decode cX12_ifStatement 110 = .ok (.bipush 13, 2) := by decide +kernel
theorem dX12_ifStatement_112 : decode cX12_ifStatement 112 = .ok (.iload_n 1, 1) := by decide +kernel
theorem dX12_ifStatement_113 : decode cX12_ifStatement 113 = .ok (.iconst 0, 1) := by decide +kernel
theorem dX12_ifStatement_114 : decode cX12_ifStatement 114 = .ok (.invokevirtual 294, 3) := by decide +kernel
theorem dX12_ifStatement_117 : decode cX12_ifStatement 117 = .ok (.istore_n 2, 1) := by decide +kernel
theorem dX12_ifStatement_118 : decode cX12_ifStatement 118 = .ok (.aload_n 0, 1) := by decide +kernel
theorem dX12_ifStatement_119 : decode cX12_ifStatement 119 = .ok (.invokevirtual 373, 3) := by decide +kernel
theorem dX12_ifStatement_122 : decode cX12_ifStatement 122 = .ok (.ifCond .ne 5, 3) := by decide +kernel
theorem dX12_ifStatement_127 : decode cX12_ifStatement 127 = .ok (.aload_n 0, 1) := by decide +kernel
theorem dX12_ifStatement_128 : decode cX12_ifStatement 128 = .ok (.bipush 13, 2) := by decide +kernel
theorem dX12_ifStatement_130 : decode cX12_ifStatement 130 = .ok (.iload_n 3, 1) := by decide +kernel
theorem dX12_ifStatement_131 : decode cX12_ifStatement 131 = .ok (.iconst 0, 1) := by decide +kernel
theorem dX12_ifStatement_132 : decode cX12_ifStatement 132 = .ok (.invokevirtual 294, 3) := by decide +kernel
theorem dX12_ifStatement_135 : decode cX12_ifStatement 135 = .ok (.istore_n 2, 1) := by decide +kernel
theorem dX12_ifStatement_136 : decode cX12_ifStatement 136 = .ok (.iconst 1, 1) := by decide +kernel
theorem dX12_ifStatement_137 : decode cX12_ifStatement 137 = .ok (.ireturn, 1) := by decide +kernel
theorem dX12_ifStatement_125 : decode cX12_ifStatement 125 = .ok (.iconst 0, 1) := by decide +kernel
theorem dX12_ifStatement_126 : decode cX12_ifStatement 126 = .ok (.ireturn, 1) := by decide +kernel
theorem dX12_ifStatement_70 : decode cX12_ifStatement 70 = .ok (.aload_n 0, 1) := by decide +kernel
theorem dX12_ifStatement_71 : decode cX12_ifStatement 71 = .ok (.bipush 13, 2) := by decide +kernel
theorem dX12_ifStatement_73 : decode cX12_ifStatement 73 = .ok (.iload_n 1, 1) := by decide +kernel
theorem dX12_ifStatement_74 : decode cX12_ifStatement 74 = .ok (.iconst 0, 1) := by decide +kernel
theorem dX12_ifStatement_75 : decode cX12_ifStatement 75 = .ok (.invokevirtual 294, 3) := by decide +kernel
theorem dX12_ifStatement_78 : decode cX12_ifStatement 78 = .ok (.istore_n 2, 1) := by decide +kernel
theorem dX12_ifStatement_79 : decode cX12_ifStatement 79 = .ok (.iconst 1, 1) := by decide +kernel
theorem dX12_ifStatement_80 : decode cX12_ifStatement 80 = .ok (.ireturn, 1) := by decide +kernel
theorem dX12_ifStatement_58 : decode cX12_ifStatement 58 = .ok (.iconst 0, 1) := by decide +kernel
theorem dX12_ifStatement_59 : decode cX12_ifStatement 59 = .ok (.ireturn, 1) := by decide +kernel
theorem dX12_ifStatement_11 : decode cX12_ifStatement 11 = .ok (.iconst 0, 1) := by decide +kernel
theorem dX12_ifStatement_12 : decode cX12_ifStatement 12 = .ok (.ireturn, 1) := by decide +kernel
set_option maxHeartbeats 4000000 in
set_option maxRecDepth 20000 in
theorem c_X12_ifStatement (d : Nat) {b : Nat} {σ : MS} {lv : Nat} {ρ : MS} (hcb : ∀ (d : Nat) {b : Nat} {σ : MS} (hR : RG σ) (hrd : RDY σ) (hnn : NN σ) (h28 : σ.1 28 = 0) (h29 : σ.1 29 = 6 - (lv : Int)) (ht : 0 ≤ σ.1 43 ∧ σ.1 43 ≤ 260), Tm (d + 3 * lv + 44) m_X12_block 0 b σ [(0, .ref b)] [] (fun ro σ2 => ∃ v : Int, ro = some (.int (iI v)) ∧ ((v = 0 ∨ v = 1)) ∧ (Fr [19, 20, 22, 23, 26, 27, 28, 29, 31, 32, 33, 34, 39, 40] [3, 4, 5, 6, 7, 8, 35, 37, 41, 42] [24, 38] σ σ2) ∧ (RG σ2) ∧ (PBF σ σ2) ∧ (Im v 1 (BLQ 28 4 σ σ2)) ∧ (Im v 0 (∀ c : Int, GOF [28] σ (qq c) σ2)))) (hR : RG σ) (hln : LNP 1 ρ σ) (hli : LIT ρ σ) (hg : ∀ c : Int, GOS [20] ρ (qq c) [21] σ (qq c) []) (h28 : σ.1 28 = 0) (h29 : σ.1 29 = 6 - (lv : Int)) (ht : 0 ≤ σ.1 43 ∧ σ.1 43 ≤ 260) : Tm (d + 3 * lv + 45) m_X12_ifStatement 0 b σ [(0, .ref b)] [] (fun ro σ2 => ∃ v : Int, ro = some (.int (iI v)) ∧ ((v = 0 ∨ v = 1)) ∧ (Fr [19, 20, 22, 23, 26, 27, 28, 29, 31, 32, 33, 34, 39, 40] [3, 4, 5, 6, 7, 8, 35, 37, 41, 42] [24, 38] σ σ2) ∧ (RG σ2) ∧ (PBF ρ σ2) ∧ (Im v 1 (BLQ 20 2 ρ σ2)) ∧ (Im v 0 (∀ c : Int, GOF [20] ρ (qq c) σ2))) := by
  have tk0 := hln.tok.1
  have rd0 := hln.1.2
  have f0 := hln.2.2.1
  have e30_ := f0.1 30 (by decide)
  have e34_ := hln.2.2.2.2.1
  have nn0 : NN σ := hln.2.2.2.1.2.2.1
  have h0c := hln.h0
  have e28r : ρ.1 28 = 0 := (f0.1 28 (by decide)).symm.trans h28
  have e29r := f0.1 29 (by decide)
  have e33r := f0.1 33 (by decide)
  refine tm_aload_n dX12_ifStatement_0 rfl 0 rfl ?_
  refine tm_callV (M := m_X12_ifStatement) (pc := 1) (ix := 265) (M' := m_X12_advance) (As := []) (rest := []) dX12_ifStatement_1 ok_X12_advance im_X12_advance se_X12_advance ml12_265 np_X12_advance rfl rfl (Nat.le_of_ble_eq_true rfl) (Nat.le_of_ble_eq_true rfl) rfl (c_X12_advance (d + 3 * lv + 39) (σ := σ)  hR (by omega)) (fun r1 σ2 hp => ?_)
  obtain ⟨rfl, f4, f5, f6, f7, f8⟩ := hp
  show Tm _ _ 4 b σ2 [(0, .ref b)] [] _
  have ad0 := f4
  have ad1 := f5
  have ad2 := f6
  have ad3 := f7
  have ad4 := f8
  have fA1 := (show Fr [19, 20, 22, 23, 26, 27] [35] [24, 38] σ σ2 from (Fr.rfl.trans (Fr.sub f5 (by decide) (by decide) (by decide))))
  have pb1 : PBF σ σ2 := PBF.nop nn0 ad1 (by decide) (by decide) (by decide)
  have ts1 : TS 20 (2 - 1) ρ [2, 51, 28, 24] σ2 qq [] := TS.line hln (by decide) fA1 pb1 ad3 ad4 ((hg _).then (g21 ad0))
  have tk1 := ad3.1
  have e281 : σ2.1 28 = 0 := (ad1.1 28 (by decide)).trans h28
  refine tm_aload_n dX12_ifStatement_4 rfl 0 rfl ?_
  refine tm_callV (M := m_X12_ifStatement) (pc := 5) (ix := 327) (M' := m_X12_expression) (As := []) (rest := []) dX12_ifStatement_5 ok_X12_expression im_X12_expression se_X12_expression ml12_327 np_X12_expression rfl rfl (Nat.le_of_ble_eq_true rfl) (Nat.le_of_ble_eq_true rfl) rfl (c_exp8 (d + 3 * lv + 4) (σ := σ2)  f6 ts1.2.2.1 ts1.nn e281) (fun r9 σ10 hp => ?_)
  obtain ⟨v11, rfl, f12, f13, f14, f15, f16, f17, f18⟩ := hp
  show Tm _ _ 8 b σ10 [(0, .ref b)] [.int (iI v11)] _
  have xp0 := f12
  have xp1 := f13
  have xp2 := f14
  have xp3 := f15
  have xp4 := f16
  have xp5 := f17
  have xp6 := f18
  refine tm_if_ne (tgt := 13) dX12_ifStatement_8 (by decide) ⟨by omega, by omega⟩ (fun h19 => ?_) (fun h19 => ?_)
  · have ts2 := ts1.exp xp1 xp3 (xp4 (by omega)) (xp5.1 (by omega))
    have ex4 := xp4 (by omega)
    have gt := ex4.2.2.1
    unfold GTm at gt
    have rdx := ts2.2.2.1.2
    have tkx := ts2.2.2.1.1.1
    have acx := ex4.2.2.2.1
    have tbx := TBm.of xp1 (by decide) (by decide) (by decide) (by decide)
    have e33x := xp1.1 33 (by decide)
    have e33s : σ10.1 33 = σ.1 33 := rs_F f13 (by decide) (rs_F f5 (by decide) (rfl))
    refine tm_aload_n dX12_ifStatement_13 rfl 0 rfl ?_
    refine tm_getS (k := 33) (t := σ.1 33) dX12_ifStatement_14 (by decide) fl12_370 rfl (rs_F f13 (by decide) (rs_F f5 (by decide) (rfl))) ?_
    have g20 := RG.s hR 33
    refine tm_istore_n (L' := [(1, .int (iI (σ.1 33))), (0, .ref b)]) dX12_ifStatement_17 rfl (by decide) rfl ?_
    refine tm_aload_n dX12_ifStatement_18 rfl 1 rfl ?_
    refine tm_dup dX12_ifStatement_19 rfl ?_
    refine tm_getS (k := 33) (t := σ.1 33) dX12_ifStatement_20 (by decide) fl12_370 rfl (rs_F f13 (by decide) (rs_F f5 (by decide) (rfl))) ?_
    have g21 := RG.s hR 33
    refine tm_iconst dX12_ifStatement_23 ?_
    refine tm_iadd dX12_ifStatement_24 ?_
    refine tm_putS (k := 33) (v := (σ.1 33) + 1) lay_12 dX12_ifStatement_25 (by decide) fl12_370 rfl (tyX12_ok 33 (by decide)) rfl rfl rfl ?_
    refine tm_aload_n dX12_ifStatement_28 rfl 1 rfl ?_
    refine tm_bipush dX12_ifStatement_29 (by decide) ?_
    refine tm_iload_n dX12_ifStatement_31 rfl 0 rfl ?_
    refine tm_iconst dX12_ifStatement_32 ?_
    refine tm_callV (M := m_X12_ifStatement) (pc := 33) (ix := 294) (M' := m_X12_put) (As := [.int (iI 9), .int (iI (σ.1 33)), .int (iI 0)]) (rest := []) dX12_ifStatement_33 ok_X12_put im_X12_put se_X12_put ml12_294 np_X12_put rfl rfl (Nat.le_of_ble_eq_true rfl) (Nat.le_of_ble_eq_true rfl) rfl (c_X12_put (d + 3 * lv + 42) (σ := (sS 33 ((σ.1 33) + 1) σ10)) (k := 9) (e := σ.1 33) (o := 0) (f14.S (by omega)) (by rw [show (sS 33 ((σ.1 33) + 1) σ10).1 30 = σ.1 30 from rs_o (by decide) (rs_F f13 (by decide) (rs_F f5 (by decide) (rfl))), show (sS 33 ((σ.1 33) + 1) σ10).1 34 = σ10.1 34 from rs_o (by decide) (rfl)]; omega) (by omega) (by omega) (by omega)) (fun r22 σ23 hp => ?_)
    obtain ⟨v24, rfl, f25, f26, f27, f28, f29, f30, f31⟩ := hp
    show Tm _ _ 36 b σ23 [(1, .int (iI (σ.1 33))), (0, .ref b)] [.int (iI v24)] _
    have jvZ := f27
    have jnZ := f28
    have jiZ := f29
    have joZ := f30
    have jrZ := f31
    refine tm_istore_n (L' := [(2, .int (iI v24)), (1, .int (iI (σ.1 33))), (0, .ref b)]) dX12_ifStatement_36 rfl (by decide) rfl ?_
    refine tm_aload_n dX12_ifStatement_37 rfl 2 rfl ?_
    refine tm_iload_n dX12_ifStatement_38 rfl 0 rfl ?_
    refine tm_iconst dX12_ifStatement_39 ?_
    refine tm_aload_n dX12_ifStatement_40 rfl 2 rfl ?_
    refine tm_getS (k := 39) (t := σ10.1 39) dX12_ifStatement_41 (by decide) fl12_285 rfl (rs_F f25 (by decide) (rs_o (by decide) (rfl))) ?_
    have g32 := RG.s f14 39
    refine tm_aload_n dX12_ifStatement_44 rfl 2 rfl ?_
    refine tm_getS (k := 40) (t := σ10.1 40) dX12_ifStatement_45 (by decide) fl12_288 rfl (rs_F f25 (by decide) (rs_o (by decide) (rfl))) ?_
    have g33 := RG.s f14 40
    refine tm_callV (M := m_X12_ifStatement) (pc := 48) (ix := 298) (M' := m_X12_setArg) (As := [.int (iI v24), .int (iI 0), .int (iI (σ10.1 39)), .int (iI (σ10.1 40))]) (rest := []) dX12_ifStatement_48 ok_X12_setArg im_X12_setArg se_X12_setArg ml12_298 np_X12_setArg rfl rfl (Nat.le_of_ble_eq_true rfl) (Nat.le_of_ble_eq_true rfl) rfl (c_X12_setArg (d + 3 * lv + 43) (σ := σ23) (x := v24) (i := 0) (k := σ10.1 39) (w := σ10.1 40) (by omega)) (fun r34 σ35 hp => ?_)
    obtain ⟨rfl, f37⟩ := hp
    subst f37
    show Tm _ _ 51 b (fArg (v24) (0) (σ10.1 39) (σ10.1 40) σ23) [(2, .int (iI v24)), (1, .int (iI (σ.1 33))), (0, .ref b)] [] _
    have jvZ : _ = PXx σ10 := jvZ
    have fAZ := (show Fr [33, 34] [3, 4, 5, 6, 7, 8] [] σ10 (fArg (v24) (0) (σ10.1 39) (σ10.1 40) σ23) from (((Fr.rfl.S (by decide)).trans (Fr.sub f25 (by decide) (by decide) (by decide))).trans (Fr.sub fArg_fr (by decide) (by decide) (by decide))))
    have eAZ : (fArg (v24) (0) (σ10.1 39) (σ10.1 40) σ23).1 34 = σ10.1 34 + 1 := jnZ
    have pbZ : PBF σ10 (fArg (v24) (0) (σ10.1 39) (σ10.1 40) σ23) := PBF.it ts2.nn fAZ (by decide) (by decide) (by decide) eAZ jvZ (joZ.trans (OFF.arg (by decide) (by decide)))
    have tbZ : TBm σ10 (fArg (v24) (0) (σ10.1 39) (σ10.1 40) σ23) := TBm.of fAZ (by decide) (by decide) (by decide) (by decide)
    have e33Z : (fArg (v24) (0) (σ10.1 39) (σ10.1 40) σ23).1 33 = σ10.1 33 + 1 := by rw [show (fArg (v24) (0) (σ10.1 39) (σ10.1 40) σ23).1 33 = (σ.1 33) + 1 from rs_F fArg_fr (by decide) (rs_F f25 (by decide) (rs_eq)), e33s]
    have ts3 := ts2.puts (m := 1) fAZ pbZ eAZ (by omega) (by decide) hln.1 (g51 (CHG.put fAZ (by decide) (by decide) (by decide) eAZ))
    have izZ : (fArg (v24) (0) (σ10.1 39) (σ10.1 40) σ23).2.1 3 (PXx σ10) = 9 ∧ (fArg (v24) (0) (σ10.1 39) (σ10.1 40) σ23).2.1 4 (PXx σ10) = σ10.1 33 := by rw [← jvZ]; exact ⟨jiZ.1, jiZ.2.1.trans e33s.symm⟩
    have okZ : σ10.1 25 = 3 → σ10.1 30 < 6 → σ10.1 34 < 180 → OKI (fArg (v24) (0) (σ10.1 39) (σ10.1 40) σ23) 1 (PXx σ10) := (fun z1 z2 z3 => by rw [← jvZ]; exact oki_arg1 jiZ (Or.inr (Or.inr (Or.inr rfl))) (fun q => absurd q (by decide)) (fun _ => by omega) (by omega))
    have rdz := ts3.2.2.1.2
    have tkz := ts3.2.2.1.1.1
    have e28Z : (fArg (v24) (0) (σ10.1 39) (σ10.1 40) σ23).1 28 = 0 := (f25.1 28 (by decide)).trans (xp6.trans e281)
    have e29Z : (fArg (v24) (0) (σ10.1 39) (σ10.1 40) σ23).1 29 = σ.1 29 := rs_F fArg_fr (by decide) (rs_F f25 (by decide) (rs_o (by decide) (rs_F f13 (by decide) (rs_F f5 (by decide) (rfl)))))
    have e43Z : (fArg (v24) (0) (σ10.1 39) (σ10.1 40) σ23).1 43 = σ.1 43 := rs_F fArg_fr (by decide) (rs_F f25 (by decide) (rs_o (by decide) (rs_F f13 (by decide) (rs_F f5 (by decide) (rfl)))))
    refine tm_aload_n dX12_ifStatement_51 rfl 2 rfl ?_
    refine tm_callV (M := m_X12_ifStatement) (pc := 52) (ix := 373) (M' := m_X12_block) (As := []) (rest := []) dX12_ifStatement_52 ok_X12_block im_X12_block se_X12_block ml12_373 np_X12_block rfl rfl (Nat.le_of_ble_eq_true rfl) (Nat.le_of_ble_eq_true rfl) rfl (hcb (d) (σ := (fArg (v24) (0) (σ10.1 39) (σ10.1 40) σ23))  ((f26).arg (by omega) (by omega)) ts3.2.2.1 ts3.nn e28Z (e29Z.trans h29) (by rw [e43Z]; exact ht)) (fun r38 σ39 hp => ?_)
    obtain ⟨v40, rfl, f41, f42, f43, f44, f45, f46⟩ := hp
    show Tm _ _ 55 b σ39 [(2, .int (iI v24)), (1, .int (iI (σ.1 33))), (0, .ref b)] [.int (iI v40)] _
    have bp0 := f41
    have bp1 := f42
    have bp2 := f43
    have bp3 := f44
    have bp4 := f45
    have bp5 := f46
    refine tm_if_ne (tgt := 60) dX12_ifStatement_55 (by decide) ⟨by omega, by omega⟩ (fun h47 => ?_) (fun h47 => ?_)
    · obtain ⟨lg1, bt, bs, bf, b28, b29⟩ := bp4 (by omega)
      have ts4 := ts3.sub bt
      have tk4 := ts4.2.2.1.1.1
      have rd4 := ts4.2.2.1.2
      have e284 : σ39.1 28 = 0 := b28.trans e28Z
      have e294 : σ39.1 29 = σ.1 29 := b29.trans e29Z
      have R60 := f43
      have e434 : σ39.1 43 = σ.1 43 := rs_F f42 (by decide) (rs_F fArg_fr (by decide) (rs_F f25 (by decide) (rs_o (by decide) (rs_F f13 (by decide) (rs_F f5 (by decide) (rfl))))))
      refine tm_aload_n dX12_ifStatement_60 rfl 2 rfl ?_
      refine tm_ldc2 dX12_ifStatement_61 cst12_248 ?_
      refine tm_callV (M := m_X12_ifStatement) (pc := 64) (ix := 339) (M' := m_X12_isWord) (As := [.long (1701606245)]) (rest := []) dX12_ifStatement_64 ok_X12_isWord im_X12_isWord se_X12_isWord ml12_339 np_X12_isWord rfl rfl (Nat.le_of_ble_eq_true rfl) (Nat.le_of_ble_eq_true rfl) rfl (c2_X12_isWord (d + 3 * lv + 43) (σ := σ39) (w := 1701606245) f43) (fun r48 σ49 hp => ?_)
      obtain ⟨v50, rfl, rfl, f51, f52, f53⟩ := hp
      show Tm _ _ 67 b σ39 [(2, .int (iI v24)), (1, .int (iI (σ.1 33))), (0, .ref b)] [.int (iI v50)] _
      have iel := f52
      have nel_ := f53
      refine tm_if_ne (tgt := 81) dX12_ifStatement_67 (by decide) ⟨by omega, by omega⟩ (fun h54 => ?_) (fun h54 => ?_)
      · refine tm_aload_n dX12_ifStatement_81 rfl 2 rfl ?_
        refine tm_callV (M := m_X12_ifStatement) (pc := 82) (ix := 265) (M' := m_X12_advance) (As := []) (rest := []) dX12_ifStatement_82 ok_X12_advance im_X12_advance se_X12_advance ml12_265 np_X12_advance rfl rfl (Nat.le_of_ble_eq_true rfl) (Nat.le_of_ble_eq_true rfl) rfl (c_X12_advance (d + 3 * lv + 39) (σ := σ39)  f43 (by omega)) (fun r55 σ56 hp => ?_)
        obtain ⟨rfl, f58, f59, f60, f61, f62⟩ := hp
        show Tm _ _ 85 b σ56 [(2, .int (iI v24)), (1, .int (iI (σ.1 33))), (0, .ref b)] [] _
        have be0 := f58
        have be1 := f59
        have be2 := f60
        have be3 := f61
        have be4 := f62
        have ts5 := ts4.adv be1 be3 be4 (by have z := (iel (by omega)).1; omega) (g24y (iel (by omega)) be0)
        have pb5 : PBF σ39 σ56 := PBF.nop ts4.nn be1 (by decide) (by decide) (by decide)
        have tk5 := ts5.2.2.1.1.1
        have rd5 := ts5.2.2.1.2
        have e335 := be1.1 33 (by decide)
        have e345 := be1.1 34 (by decide)
        refine tm_aload_n dX12_ifStatement_85 rfl 2 rfl ?_
        refine tm_getS (k := 33) (t := σ39.1 33) dX12_ifStatement_86 (by decide) fl12_370 rfl (rs_F f59 (by decide) (rfl)) ?_
        have g63 := RG.s f43 33
        refine tm_istore_n (L' := [(3, .int (iI (σ39.1 33))), (2, .int (iI v24)), (1, .int (iI (σ.1 33))), (0, .ref b)]) dX12_ifStatement_89 rfl (by decide) rfl ?_
        refine tm_aload_n dX12_ifStatement_90 rfl 3 rfl ?_
        refine tm_dup dX12_ifStatement_91 rfl ?_
        refine tm_getS (k := 33) (t := σ39.1 33) dX12_ifStatement_92 (by decide) fl12_370 rfl (rs_F f59 (by decide) (rfl)) ?_
        have g64 := RG.s f43 33
        refine tm_iconst dX12_ifStatement_95 ?_
        refine tm_iadd dX12_ifStatement_96 ?_
        refine tm_putS (k := 33) (v := (σ39.1 33) + 1) lay_12 dX12_ifStatement_97 (by decide) fl12_370 rfl (tyX12_ok 33 (by decide)) rfl rfl rfl ?_
        refine tm_aload_n dX12_ifStatement_100 rfl 3 rfl ?_
        refine tm_bipush dX12_ifStatement_101 (by decide) ?_
        refine tm_iload_n dX12_ifStatement_103 rfl 0 rfl ?_
        refine tm_iconst dX12_ifStatement_104 ?_
        refine tm_callV (M := m_X12_ifStatement) (pc := 105) (ix := 294) (M' := m_X12_put) (As := [.int (iI 8), .int (iI (σ39.1 33)), .int (iI 0)]) (rest := []) dX12_ifStatement_105 ok_X12_put im_X12_put se_X12_put ml12_294 np_X12_put rfl rfl (Nat.le_of_ble_eq_true rfl) (Nat.le_of_ble_eq_true rfl) rfl (c_X12_put (d + 3 * lv + 42) (σ := (sS 33 ((σ39.1 33) + 1) σ56)) (k := 8) (e := σ39.1 33) (o := 0) (f60.S (by omega)) (by rw [show (sS 33 ((σ39.1 33) + 1) σ56).1 30 = σ.1 30 from rs_o (by decide) (rs_F f59 (by decide) (rs_F f42 (by decide) (rs_F fArg_fr (by decide) (rs_F f25 (by decide) (rs_o (by decide) (rs_F f13 (by decide) (rs_F f5 (by decide) (rfl)))))))), show (sS 33 ((σ39.1 33) + 1) σ56).1 34 = σ39.1 34 from rs_o (by decide) (rs_F f59 (by decide) (rfl))]; omega) (by omega) (by omega) (by omega)) (fun r65 σ66 hp => ?_)
        obtain ⟨v67, rfl, f68, f69, f70, f71, f72, f73, f74⟩ := hp
        show Tm _ _ 108 b σ66 [(3, .int (iI (σ39.1 33))), (2, .int (iI v24)), (1, .int (iI (σ.1 33))), (0, .ref b)] [.int (iI v67)] _
        have jvJ := f70
        have jnJ := f71
        have jiJ := f72
        have joJ := f73
        have jrJ := f74
        refine tm_istore_n (L' := [(2, .int (iI v67)), (3, .int (iI (σ39.1 33))), (1, .int (iI (σ.1 33))), (0, .ref b)]) dX12_ifStatement_108 rfl (by decide) rfl ?_
        have jvJ : _ = PXx σ56 := jvJ
        have fAJ := (show Fr [33, 34] [3, 4, 5, 6, 7, 8] [] σ56 σ66 from ((Fr.rfl.S (by decide)).trans (Fr.sub f68 (by decide) (by decide) (by decide))))
        have eAJ : σ66.1 34 = σ56.1 34 + 1 := jnJ
        have pbJ : PBF σ56 σ66 := PBF.it ts5.nn fAJ (by decide) (by decide) (by decide) eAJ jvJ joJ
        have tbJ : TBm σ56 σ66 := TBm.of fAJ (by decide) (by decide) (by decide) (by decide)
        have e33J : σ66.1 33 = (σ39.1 33) + 1 := rs_F f68 (by decide) (rs_eq)
        refine tm_aload_n dX12_ifStatement_109 rfl 3 rfl ?_
        refine tm_bipush dX12_ifStatement_110 (by decide) ?_
        refine tm_iload_n dX12_ifStatement_112 rfl 2 rfl ?_
        refine tm_iconst dX12_ifStatement_113 ?_
        refine tm_callV (M := m_X12_ifStatement) (pc := 114) (ix := 294) (M' := m_X12_put) (As := [.int (iI 13), .int (iI (σ.1 33)), .int (iI 0)]) (rest := []) dX12_ifStatement_114 ok_X12_put im_X12_put se_X12_put ml12_294 np_X12_put rfl rfl (Nat.le_of_ble_eq_true rfl) (Nat.le_of_ble_eq_true rfl) rfl (c_X12_put (d + 3 * lv + 42) (σ := σ66) (k := 13) (e := σ.1 33) (o := 0) f69 (by rw [show σ66.1 30 = σ.1 30 from rs_F f68 (by decide) (rs_o (by decide) (rs_F f59 (by decide) (rs_F f42 (by decide) (rs_F fArg_fr (by decide) (rs_F f25 (by decide) (rs_o (by decide) (rs_F f13 (by decide) (rs_F f5 (by decide) (rfl))))))))), show σ66.1 34 = σ66.1 34 from rfl]; omega) (by omega) (by omega) (by omega)) (fun r75 σ76 hp => ?_)
        obtain ⟨v77, rfl, f78, f79, f80, f81, f82, f83, f84⟩ := hp
        show Tm _ _ 117 b σ76 [(2, .int (iI v67)), (3, .int (iI (σ39.1 33))), (1, .int (iI (σ.1 33))), (0, .ref b)] [.int (iI v77)] _
        have jvK := f80
        have jnK := f81
        have jiK := f82
        have joK := f83
        have jrK := f84
        refine tm_istore_n (L' := [(2, .int (iI v77)), (3, .int (iI (σ39.1 33))), (1, .int (iI (σ.1 33))), (0, .ref b)]) dX12_ifStatement_117 rfl (by decide) rfl ?_
        have pbK : PBF σ66 σ76 := PBF.it pbJ.2.2.1 f78 (by decide) (by decide) (by decide) jnK jvK joK
        have tbK : TBm σ66 σ76 := TBm.of f78 (by decide) (by decide) (by decide) (by decide)
        have fDK := (show Fr [33, 34] [3, 4, 5, 6, 7, 8] [] σ56 σ76 from (((Fr.rfl.S (by decide)).trans (Fr.sub f68 (by decide) (by decide) (by decide))).trans (Fr.sub f78 (by decide) (by decide) (by decide))))
        have eDK : σ76.1 34 = σ56.1 34 + 2 := by rw [jnK, eAJ]; omega
        have e33K : σ76.1 33 = σ66.1 33 := f78.1 33 (by decide)
        have ts6 := ts5.puts (m := 2) fDK (pbJ.trans pbK) eDK (by omega) (by decide) hln.1 (g52 (CHG.put fDK (by decide) (by decide) (by decide) eDK))
        have itK : σ56.1 25 = 3 → σ56.1 30 < 6 → σ56.1 34 + 1 < 180 → ((σ76.2.1 3 (220 * σ56.1 30 + σ56.1 34) = 8 ∧ σ76.2.1 4 (220 * σ56.1 30 + σ56.1 34) = σ39.1 33) ∧ σ76.2.1 3 (220 * σ56.1 30 + (σ56.1 34 + 1)) = 13 ∧ σ76.2.1 4 (220 * σ56.1 30 + (σ56.1 34 + 1)) = σ.1 33) ∧ OKI σ76 1 (220 * σ56.1 30 + σ56.1 34) ∧ OKI σ76 1 (220 * σ56.1 30 + (σ56.1 34 + 1)) := fun z1 z2 z3 => by
          have x1 : PXx σ56 = 220 * σ56.1 30 + σ56.1 34 := by unfold PXx; rw [if_pos (by omega)]
          have m30 : σ66.1 30 = σ56.1 30 := pbJ.2.2.2.2.2.2.2
          have m25 : σ66.1 25 = σ56.1 25 := pbJ.2.2.2.2.2.2.1
          have x2 : PXx σ66 = 220 * σ56.1 30 + (σ56.1 34 + 1) := by unfold PXx; rw [if_pos (by omega), m30, eAJ]
          have ie := pbK.1 (220 * σ56.1 30 + σ56.1 34) (by omega) (by omega)
          have o1 := oki_bare jiJ (by decide) (fun _ => by omega)
          have o2 := oki_bare jiK (by decide) (fun _ => by omega)
          have a1 := jiJ
          have a2 := jiK
          rw [jvJ, x1] at o1 a1
          rw [jvK, x2] at o2 a2
          exact ⟨⟨⟨ie.1.trans a1.1, ie.2.1.trans a1.2.1⟩, a2.1, a2.2.1⟩, ie.oki tbK.2.1 o1, o2⟩
        have rd6 := ts6.2.2.1.2
        have tk6 := ts6.2.2.1.1.1
        have e286 : σ76.1 28 = 0 := by rw [show σ76.1 28 = σ39.1 28 from rs_F f78 (by decide) (rs_F f68 (by decide) (rs_o (by decide) (rs_F f59 (by decide) (rfl))))]; exact e284
        have e296 : σ76.1 29 = σ.1 29 := by rw [show σ76.1 29 = σ39.1 29 from rs_F f78 (by decide) (rs_F f68 (by decide) (rs_o (by decide) (rs_F f59 (by decide) (rfl))))]; exact e294
        have e436 : σ76.1 43 = σ.1 43 := rs_F f78 (by decide) (rs_F f68 (by decide) (rs_o (by decide) (rs_F f59 (by decide) (rs_F f42 (by decide) (rs_F fArg_fr (by decide) (rs_F f25 (by decide) (rs_o (by decide) (rs_F f13 (by decide) (rs_F f5 (by decide) (rfl))))))))))
        refine tm_aload_n dX12_ifStatement_118 rfl 3 rfl ?_
        refine tm_callV (M := m_X12_ifStatement) (pc := 119) (ix := 373) (M' := m_X12_block) (As := []) (rest := []) dX12_ifStatement_119 ok_X12_block im_X12_block se_X12_block ml12_373 np_X12_block rfl rfl (Nat.le_of_ble_eq_true rfl) (Nat.le_of_ble_eq_true rfl) rfl (hcb (d) (σ := σ76)  f79 ts6.2.2.1 ts6.nn e286 (e296.trans h29) (by rw [e436]; exact ht)) (fun r85 σ86 hp => ?_)
        obtain ⟨v87, rfl, f88, f89, f90, f91, f92, f93⟩ := hp
        show Tm _ _ 122 b σ86 [(2, .int (iI v77)), (3, .int (iI (σ39.1 33))), (1, .int (iI (σ.1 33))), (0, .ref b)] [.int (iI v87)] _
        have cp0 := f88
        have cp1 := f89
        have cp2 := f90
        have cp3 := f91
        have cp4 := f92
        have cp5 := f93
        refine tm_if_ne (tgt := 127) dX12_ifStatement_122 (by decide) ⟨by omega, by omega⟩ (fun h94 => ?_) (fun h94 => ?_)
        · obtain ⟨lg2, ct, cs, cf, c28, c29⟩ := cp4 (by omega)
          have ts7 := ts6.sub ct
          have tk7 := ts7.2.2.1.1.1
          have rd7 := ts7.2.2.1.2
          have R127 := f90
          have e287 : σ86.1 28 = 0 := c28.trans e286
          have e297 : σ86.1 29 = σ.1 29 := c29.trans e296
          refine tm_aload_n dX12_ifStatement_127 rfl 3 rfl ?_
          refine tm_bipush dX12_ifStatement_128 (by decide) ?_
          refine tm_iload_n dX12_ifStatement_130 rfl 1 rfl ?_
          refine tm_iconst dX12_ifStatement_131 ?_
          refine tm_callV (M := m_X12_ifStatement) (pc := 132) (ix := 294) (M' := m_X12_put) (As := [.int (iI 13), .int (iI (σ39.1 33)), .int (iI 0)]) (rest := []) dX12_ifStatement_132 ok_X12_put im_X12_put se_X12_put ml12_294 np_X12_put rfl rfl (Nat.le_of_ble_eq_true rfl) (Nat.le_of_ble_eq_true rfl) rfl (c_X12_put (d + 3 * lv + 42) (σ := σ86) (k := 13) (e := σ39.1 33) (o := 0) f90 (by rw [show σ86.1 30 = σ.1 30 from rs_F f89 (by decide) (rs_F f78 (by decide) (rs_F f68 (by decide) (rs_o (by decide) (rs_F f59 (by decide) (rs_F f42 (by decide) (rs_F fArg_fr (by decide) (rs_F f25 (by decide) (rs_o (by decide) (rs_F f13 (by decide) (rs_F f5 (by decide) (rfl))))))))))), show σ86.1 34 = σ86.1 34 from rfl]; omega) (by omega) (by omega) (by omega)) (fun r95 σ96 hp => ?_)
          obtain ⟨v97, rfl, f98, f99, f100, f101, f102, f103, f104⟩ := hp
          show Tm _ _ 135 b σ96 [(2, .int (iI v77)), (3, .int (iI (σ39.1 33))), (1, .int (iI (σ.1 33))), (0, .ref b)] [.int (iI v97)] _
          have jvL := f100
          have jnL := f101
          have jiL := f102
          have joL := f103
          have jrL := f104
          refine tm_istore_n (L' := [(2, .int (iI v97)), (3, .int (iI (σ39.1 33))), (1, .int (iI (σ.1 33))), (0, .ref b)]) dX12_ifStatement_135 rfl (by decide) rfl ?_
          have jvL : _ = PXx σ86 := jvL
          have fAL := (show Fr [33, 34] [3, 4, 5, 6, 7, 8] [] σ86 σ96 from (Fr.rfl.trans (Fr.sub f98 (by decide) (by decide) (by decide))))
          have eAL : σ96.1 34 = σ86.1 34 + 1 := jnL
          have pbL : PBF σ86 σ96 := PBF.it ts7.nn fAL (by decide) (by decide) (by decide) eAL jvL joL
          have tbL : TBm σ86 σ96 := TBm.of fAL (by decide) (by decide) (by decide) (by decide)
          have sg0 : SGF ρ σ10 [] := ((SGF.one e34_.1 (by omega) (fun _ _ _ => hli.2) (by have z := hli.1.1; omega) : SGF ρ σ []).cat (SGF.nil (ad1.1 34 (by decide)) (by rw [ad1.1 33 (by decide)]; omega) : SGF σ σ2 []) hln.2.2.2.1 pb1 hln.tb (TBm.of ad1 (by decide) (by decide) (by decide) (by decide)) h0c).cat (SGF.ac acx xp3 (by omega) : SGF σ2 σ10 []) ts1.1 xp3 ts1.2.2.2.1 tbx h0c
          have e33L : σ96.1 33 = σ86.1 33 := f98.1 33 (by decide)
          have ts8 := ts7.puts (m := 1) fAL pbL eAL (by omega) (by decide) hln.1 (g51 (CHG.put fAL (by decide) (by decide) (by decide) eAL))
          have sg5 : SGF σ10 σ96 (lg1 ++ lg2) := SGF.ife ⟨eAZ, e33Z⟩ (fun z1 z2 z3 => by have x1 : PXx σ10 = 220 * σ10.1 30 + σ10.1 34 := (by unfold PXx; rw [if_pos (by omega)]); rw [← x1]; exact ⟨izZ, okZ z1 z2 z3⟩) pbZ bs bp3 ⟨by rw [eDK, e345], by rw [e33K]; omega⟩ (fun z1 z2 z3 => have q := itK (by have e := be1.1 25 (by decide); omega) (by have e := be1.1 30 (by decide); omega) (by omega); by have e30 := be1.1 30 (by decide); rw [e30, e345, ← e33s] at q; exact q) (pb5.trans (pbJ.trans pbK)) cs cp3 ⟨eAL, e33L⟩ (fun z1 z2 z3 => by have x1 : PXx σ86 = 220 * σ86.1 30 + σ86.1 34 := (by unfold PXx; rw [if_pos (by omega)]); rw [← x1, ← jvL]; exact ⟨⟨jiL.1, jiL.2.1⟩, oki_bare jiL (by decide) (fun _ => by omega)⟩) pbL tbZ bt.2.2.2.1 ((TBm.of be1 (by decide) (by decide) (by decide) (by decide)).trans (tbJ.trans tbK)) ct.2.2.2.1 tbL ts2.h1
          have sg6 := sg0.cat sg5 ts2.1 (pbZ.trans (bp3.trans ((pb5.trans (pbJ.trans pbK)).trans (cp3.trans pbL)))) ts2.2.2.2.1 (tbZ.trans (bt.2.2.2.1.trans (((TBm.of be1 (by decide) (by decide) (by decide) (by decide)).trans (tbJ.trans tbK)).trans (ct.2.2.2.1.trans tbL)))) h0c
          have pqN : PBF σ σ96 := pb1.trans (xp3.trans (pbZ.trans (bp3.trans ((pb5.trans (pbJ.trans pbK)).trans (cp3.trans pbL)))))
          refine tm_iconst dX12_ifStatement_136 ?_
          exact tm_zret (v := 1) rfl (by decide) dX12_ifStatement_137 (⟨_, rfl, by omega, ((((((((((((Fr.rfl.trans (Fr.sub f5 (by decide) (by decide) (by decide))).trans (Fr.sub f13 (by decide) (by decide) (by decide))).S (by decide)).trans (Fr.sub f25 (by decide) (by decide) (by decide))).trans (Fr.sub fArg_fr (by decide) (by decide) (by decide))).trans (Fr.sub f42 (by decide) (by decide) (by decide))).trans (Fr.sub f59 (by decide) (by decide) (by decide))).S (by decide)).trans (Fr.sub f68 (by decide) (by decide) (by decide))).trans (Fr.sub f78 (by decide) (by decide) (by decide))).trans (Fr.sub f89 (by decide) (by decide) (by decide))).trans (Fr.sub f98 (by decide) (by decide) (by decide))), f99, ts8.1, fun _ => ⟨_, ts8.le (by decide), sg6, FS.of hli e34_.1 hln.2.2.2.1 pqN h0c, ((show σ96.1 28 = 0 from (fAL.1 28 (by decide)).trans e287).trans e28r.symm), (((fAL.1 29 (by decide)).trans e297).trans e29r)⟩, fun q => absurd q (by decide)⟩)
        · refine tm_iconst dX12_ifStatement_125 ?_
          exact tm_zret (v := 0) rfl (by decide) dX12_ifStatement_126 (⟨_, rfl, by omega, (((((((((((Fr.rfl.trans (Fr.sub f5 (by decide) (by decide) (by decide))).trans (Fr.sub f13 (by decide) (by decide) (by decide))).S (by decide)).trans (Fr.sub f25 (by decide) (by decide) (by decide))).trans (Fr.sub fArg_fr (by decide) (by decide) (by decide))).trans (Fr.sub f42 (by decide) (by decide) (by decide))).trans (Fr.sub f59 (by decide) (by decide) (by decide))).S (by decide)).trans (Fr.sub f68 (by decide) (by decide) (by decide))).trans (Fr.sub f78 (by decide) (by decide) (by decide))).trans (Fr.sub f89 (by decide) (by decide) (by decide))), f90, (ts6.fail cp3 (cp5 (by omega) _)).1, fun q => absurd q (by omega), fun _ => (ts6.fail cp3 (cp5 (by omega) _)).2⟩)
      · refine tm_aload_n dX12_ifStatement_70 rfl 2 rfl ?_
        refine tm_bipush dX12_ifStatement_71 (by decide) ?_
        refine tm_iload_n dX12_ifStatement_73 rfl 1 rfl ?_
        refine tm_iconst dX12_ifStatement_74 ?_
        refine tm_callV (M := m_X12_ifStatement) (pc := 75) (ix := 294) (M' := m_X12_put) (As := [.int (iI 13), .int (iI (σ.1 33)), .int (iI 0)]) (rest := []) dX12_ifStatement_75 ok_X12_put im_X12_put se_X12_put ml12_294 np_X12_put rfl rfl (Nat.le_of_ble_eq_true rfl) (Nat.le_of_ble_eq_true rfl) rfl (c_X12_put (d + 3 * lv + 42) (σ := σ39) (k := 13) (e := σ.1 33) (o := 0) f43 (by rw [show σ39.1 30 = σ.1 30 from rs_F f42 (by decide) (rs_F fArg_fr (by decide) (rs_F f25 (by decide) (rs_o (by decide) (rs_F f13 (by decide) (rs_F f5 (by decide) (rfl)))))), show σ39.1 34 = σ39.1 34 from rfl]; omega) (by omega) (by omega) (by omega)) (fun r105 σ106 hp => ?_)
        obtain ⟨v107, rfl, f108, f109, f110, f111, f112, f113, f114⟩ := hp
        show Tm _ _ 78 b σ106 [(2, .int (iI v24)), (1, .int (iI (σ.1 33))), (0, .ref b)] [.int (iI v107)] _
        have jvL := f110
        have jnL := f111
        have jiL := f112
        have joL := f113
        have jrL := f114
        refine tm_istore_n (L' := [(2, .int (iI v107)), (1, .int (iI (σ.1 33))), (0, .ref b)]) dX12_ifStatement_78 rfl (by decide) rfl ?_
        have jvL : _ = PXx σ39 := jvL
        have fAL := (show Fr [33, 34] [3, 4, 5, 6, 7, 8] [] σ39 σ106 from (Fr.rfl.trans (Fr.sub f108 (by decide) (by decide) (by decide))))
        have eAL : σ106.1 34 = σ39.1 34 + 1 := jnL
        have pbL : PBF σ39 σ106 := PBF.it ts4.nn fAL (by decide) (by decide) (by decide) eAL jvL joL
        have tbL : TBm σ39 σ106 := TBm.of fAL (by decide) (by decide) (by decide) (by decide)
        have sg0 : SGF ρ σ10 [] := ((SGF.one e34_.1 (by omega) (fun _ _ _ => hli.2) (by have z := hli.1.1; omega) : SGF ρ σ []).cat (SGF.nil (ad1.1 34 (by decide)) (by rw [ad1.1 33 (by decide)]; omega) : SGF σ σ2 []) hln.2.2.2.1 pb1 hln.tb (TBm.of ad1 (by decide) (by decide) (by decide) (by decide)) h0c).cat (SGF.ac acx xp3 (by omega) : SGF σ2 σ10 []) ts1.1 xp3 ts1.2.2.2.1 tbx h0c
        have e33L : σ106.1 33 = σ39.1 33 := f108.1 33 (by decide)
        have ts5 := (ts4.nxt (g24n (nel_ (by omega)))).puts (m := 1) fAL pbL eAL (by omega) (by decide) hln.1 (g51 (CHG.put fAL (by decide) (by decide) (by decide) eAL))
        have sg5 : SGF σ10 σ106 lg1 := SGF.ifs ⟨eAZ, e33Z⟩ izZ okZ pbZ bs bp3 ⟨eAL, e33L⟩ (by rw [← jvL]; exact ⟨jiL.1, jiL.2.1.trans e33s.symm⟩) (fun z1 z2 z3 => by rw [← jvL]; exact oki_bare jiL (by decide) (fun _ => by omega)) pbL tbZ bt.2.2.2.1 tbL ts2.h1
        have sg6 := sg0.cat sg5 ts2.1 (pbZ.trans (bp3.trans pbL)) ts2.2.2.2.1 (tbZ.trans (bt.2.2.2.1.trans tbL)) h0c
        have pqN : PBF σ σ106 := pb1.trans (xp3.trans (pbZ.trans (bp3.trans pbL)))
        refine tm_iconst dX12_ifStatement_79 ?_
        exact tm_zret (v := 1) rfl (by decide) dX12_ifStatement_80 (⟨_, rfl, by omega, (((((((Fr.rfl.trans (Fr.sub f5 (by decide) (by decide) (by decide))).trans (Fr.sub f13 (by decide) (by decide) (by decide))).S (by decide)).trans (Fr.sub f25 (by decide) (by decide) (by decide))).trans (Fr.sub fArg_fr (by decide) (by decide) (by decide))).trans (Fr.sub f42 (by decide) (by decide) (by decide))).trans (Fr.sub f108 (by decide) (by decide) (by decide))), f109, ts5.1, fun _ => ⟨_, ts5.le (by decide), sg6, FS.of hli e34_.1 hln.2.2.2.1 pqN h0c, ((show σ106.1 28 = 0 from (fAL.1 28 (by decide)).trans e284).trans e28r.symm), (((fAL.1 29 (by decide)).trans e294).trans e29r)⟩, fun q => absurd q (by decide)⟩)
    · refine tm_iconst dX12_ifStatement_58 ?_
      exact tm_zret (v := 0) rfl (by decide) dX12_ifStatement_59 (⟨_, rfl, by omega, ((((((Fr.rfl.trans (Fr.sub f5 (by decide) (by decide) (by decide))).trans (Fr.sub f13 (by decide) (by decide) (by decide))).S (by decide)).trans (Fr.sub f25 (by decide) (by decide) (by decide))).trans (Fr.sub fArg_fr (by decide) (by decide) (by decide))).trans (Fr.sub f42 (by decide) (by decide) (by decide))), f43, (ts3.fail bp3 (bp5 (by omega) _)).1, fun q => absurd q (by omega), fun _ => (ts3.fail bp3 (bp5 (by omega) _)).2⟩)
  · refine tm_iconst dX12_ifStatement_11 ?_
    exact tm_zret (v := 0) rfl (by decide) dX12_ifStatement_12 (⟨_, rfl, by omega, ((Fr.rfl.trans (Fr.sub f5 (by decide) (by decide) (by decide))).trans (Fr.sub f13 (by decide) (by decide) (by decide))), f14, (ts1.fail xp3 (xp5.2 (by omega) _)).1, fun q => absurd q (by omega), fun _ => (ts1.fail xp3 (xp5.2 (by omega) _)).2⟩)
