theorem ml12_355 : Cond.methodLink RX12 355 yX12_call ∈ pWW := pw9 (List.mem_of_getElem? (i := 13) rfl) rfl
theorem dX12_assignment_0 : decode cX12_assignment 0 = .ok (.aload_n 0, 1) := by decide +kernel
theorem dX12_assignment_1 : decode cX12_assignment 1 = .ok (.aload_n 0, 1) := by decide +kernel
theorem dX12_assignment_2 : decode cX12_assignment 2 = .ok (.getfield 219, 3) := by decide +kernel
theorem dX12_assignment_5 : decode cX12_assignment 5 = .ok (.aload_n 0, 1) := by decide +kernel
theorem dX12_assignment_6 : decode cX12_assignment 6 = .ok (.getfield 216, 3) := by decide +kernel
theorem dX12_assignment_9 : decode cX12_assignment 9 = .ok (.invokevirtual 323, 3) := by decide +kernel
theorem dX12_assignment_12 : decode cX12_assignment 12 = .ok (.istore_n 1, 1) := by decide +kernel
theorem dX12_assignment_13 : decode cX12_assignment 13 = .ok (.aload_n 0, 1) := by decide +kernel
theorem dX12_assignment_14 : decode cX12_assignment 14 = .ok (.invokevirtual 265, 3) := by decide +kernel
theorem dX12_assignment_17 : decode cX12_assignment 17 = .ok (.aload_n 0, 1) := by decide +kernel
theorem dX12_assignment_18 : decode cX12_assignment 18 = .ok (.bipush 61, 2) := by decide +kernel
theorem dX12_assignment_20 : decode cX12_assignment 20 = .ok (.invokevirtual 330, 3) := by decide +kernel
theorem dX12_assignment_23 : decode cX12_assignment 23 = .ok (.ifCond .ne 5, 3) := by decide +kernel
theorem dX12_assignment_28 : decode cX12_assignment 28 = .ok (.aload_n 0, 1) := by decide +kernel
theorem dX12_assignment_29 : decode cX12_assignment 29 = .ok (.getfield 219, 3) := by decide +kernel
theorem dX12_assignment_32 : decode cX12_assignment 32 = .ok (.lstore_n 2, 1) := by decide +kernel
theorem dX12_assignment_33 : decode cX12_assignment 33 = .ok (.aload_n 0, 1) := by decide +kernel
theorem dX12_assignment_34 : decode cX12_assignment 34 = .ok (.getfield 216, 3) := by decide +kernel
theorem dX12_assignment_37 : decode cX12_assignment 37 = .ok (.istore 4, 2) := by decide +kernel
theorem dX12_assignment_39 : decode cX12_assignment 39 = .ok (.aload_n 0, 1) := by decide +kernel
theorem dX12_assignment_40 : decode cX12_assignment 40 = .ok (.invokevirtual 320, 3) := by decide +kernel
theorem dX12_assignment_43 : decode cX12_assignment 43 = .ok (.ifCond .eq 70, 3) := by decide +kernel
theorem dX12_assignment_113 : decode cX12_assignment 113 = .ok (.aload_n 0, 1) := by decide +kernel
theorem dX12_assignment_114 : decode cX12_assignment 114 = .ok (.invokevirtual 327, 3) := by decide +kernel
theorem dX12_assignment_117 : decode cX12_assignment 117 = .ok (.ifCond .ne 5, 3) := by decide +kernel
theorem dX12_assignment_122 : decode cX12_assignment 122 = .ok (.aload_n 0, 1) := by decide +kernel
theorem dX12_assignment_123 : decode cX12_assignment 123 = .ok (.iconst 0, 1) := by decide +kernel
theorem dX12_assignment_124 : decode cX12_assignment 124 = .ok (.iload_n 1, 1) := by decide +kernel
theorem dX12_assignment_125 : decode cX12_assignment 125 = .ok (.iconst 0, 1) := by decide +kernel
theorem dX12_assignment_126 : decode cX12_assignment 126 = .ok (.invokevirtual 294, 3) := by decide +kernel
theorem dX12_assignment_129 : decode cX12_assignment 129 = .ok (.istore 5, 2) := by decide +kernel
theorem dX12_assignment_131 : decode cX12_assignment 131 = .ok (.aload_n 0, 1) := by decide +kernel
theorem dX12_assignment_132 : decode cX12_assignment 132 = .ok (.iload 5, 2) := by decide +kernel
theorem dX12_assignment_134 : decode cX12_assignment 134 = .ok (.iconst 0, 1) := by decide +kernel
theorem dX12_assignment_135 : decode cX12_assignment 135 = .ok (.aload_n 0, 1) := by decide +kernel
theorem dX12_assignment_136 : decode cX12_assignment 136 = .ok (.getfield 285, 3) := by decide +kernel
theorem dX12_assignment_139 : decode cX12_assignment 139 = .ok (.aload_n 0, 1) := by decide +kernel
theorem dX12_assignment_140 : decode cX12_assignment 140 = .ok (.getfield 288, 3) := by decide +kernel
theorem dX12_assignment_143 : decode cX12_assignment 143 = .ok (.invokevirtual 298, 3) := by decide +kernel
theorem dX12_assignment_146 : decode cX12_assignment 146 = .ok (.aload_n 0, 1) := by decide +kernel
theorem dX12_assignment_147 : decode cX12_assignment 147 = .ok (.iload_n 1, 1) := by decide +kernel
theorem dX12_assignment_148 : decode cX12_assignment 148 = .ok (.invokevirtual 359, 3) := by decide +kernel
theorem dX12_assignment_151 : decode cX12_assignment 151 = .ok (.aload_n 0, 1) := by decide +kernel
theorem dX12_assignment_152 : decode cX12_assignment 152 = .ok (.bipush 59, 2) := by decide +kernel
theorem dX12_assignment_154 : decode cX12_assignment 154 = .ok (.invokevirtual 330, 3) := by decide +kernel
theorem dX12_assignment_157 : decode cX12_assignment 157 = .ok (.ireturn, 1) := by decide +kernel
theorem dX12_assignment_120 : decode cX12_assignment 120 = .ok (.iconst 0, 1) := by decide +kernel
theorem dX12_assignment_121 : decode cX12_assignment 121 = .ok (.ireturn, 1) := by decide +kernel
theorem dX12_assignment_46 : decode cX12_assignment 46 = .ok (.aload_n 0, 1) := by decide +kernel
theorem dX12_assignment_47 : decode cX12_assignment 47 = .ok (.getfield 210, 3) := by decide +kernel
theorem dX12_assignment_50 : decode cX12_assignment 50 = .ok (.istore 5, 2) := by decide +kernel
theorem dX12_assignment_52 : decode cX12_assignment 52 = .ok (.aload_n 0, 1) := by decide +kernel
theorem dX12_assignment_53 : decode cX12_assignment 53 = .ok (.invokevirtual 265, 3) := by decide +kernel
theorem dX12_assignment_56 : decode cX12_assignment 56 = .ok (.aload_n 0, 1) := by decide +kernel
theorem dX12_assignment_57 : decode cX12_assignment 57 = .ok (.bipush 40, 2) := by decide +kernel
theorem dX12_assignment_59 : decode cX12_assignment 59 = .ok (.invokevirtual 258, 3) := by decide +kernel
theorem dX12_assignment_62 : decode cX12_assignment 62 = .ok (.ifCond .eq 29, 3) := by decide +kernel
theorem dX12_assignment_91 : decode cX12_assignment 91 = .ok (.aload_n 0, 1) := by decide +kernel
theorem dX12_assignment_92 : decode cX12_assignment 92 = .ok (.iload 5, 2) := by decide +kernel
theorem dX12_assignment_94 : decode cX12_assignment 94 = .ok (.putfield 210, 3) := by decide +kernel
theorem dX12_assignment_97 : decode cX12_assignment 97 = .ok (.aload_n 0, 1) := by decide +kernel
theorem dX12_assignment_98 : decode cX12_assignment 98 = .ok (.iload 4, 2) := by decide +kernel
theorem dX12_assignment_100 : decode cX12_assignment 100 = .ok (.putfield 216, 3) := by decide +kernel
theorem dX12_assignment_103 : decode cX12_assignment 103 = .ok (.aload_n 0, 1) := by decide +kernel
theorem dX12_assignment_104 : decode cX12_assignment 104 = .ok (.iconst 2, 1) := by decide +kernel
theorem dX12_assignment_105 : decode cX12_assignment 105 = .ok (.putfield 226, 3) := by decide +kernel
theorem dX12_assignment_108 : decode cX12_assignment 108 = .ok (.aload_n 0, 1) := by decide +kernel
theorem dX12_assignment_109 : decode cX12_assignment 109 = .ok (.lload_n 2, 1) := by decide +kernel
theorem dX12_assignment_110 : decode cX12_assignment 110 = .ok (.putfield 219, 3) := by decide +kernel
theorem dX12_assignment_65 : decode cX12_assignment 65 = .ok (.aload_n 0, 1) := by decide +kernel
theorem dX12_assignment_66 : decode cX12_assignment 66 = .ok (.iload_n 1, 1) := by decide +kernel
theorem dX12_assignment_67 : decode cX12_assignment 67 = .ok (.lload_n 2, 1) := by decide +kernel
theorem dX12_assignment_68 : decode cX12_assignment 68 = .ok (.iload 4, 2) := by decide +kernel
theorem dX12_assignment_70 : decode cX12_assignment 70 = .ok (.invokevirtual 355, 3) := by decide +kernel
theorem dX12_assignment_73 : decode cX12_assignment 73 = .ok (.ifCond .eq 16, 3) := by decide +kernel
theorem dX12_assignment_89 : decode cX12_assignment 89 = .ok (.iconst 0, 1) := by decide +kernel
theorem dX12_assignment_90 : decode cX12_assignment 90 = .ok (.ireturn, 1) := by decide +kernel
theorem dX12_assignment_76 : decode cX12_assignment 76 = .ok (.aload_n 0, 1) := by decide +kernel
theorem dX12_assignment_77 : decode cX12_assignment 77 = .ok (.bipush 59, 2) := by decide +kernel
theorem dX12_assignment_79 : decode cX12_assignment 79 = .ok (.invokevirtual 330, 3) := by decide +kernel
theorem dX12_assignment_82 : decode cX12_assignment 82 = .ok (.ifCond .eq 7, 3) := by decide +kernel
theorem dX12_assignment_85 : decode cX12_assignment 85 = .ok (.iconst 1, 1) := by decide +kernel
theorem dX12_assignment_86 : decode cX12_assignment 86 = .ok (.goto 4, 3) := by decide +kernel
theorem dX12_assignment_26 : decode cX12_assignment 26 = .ok (.iconst 0, 1) := by decide +kernel
theorem dX12_assignment_27 : decode cX12_assignment 27 = .ok (.ireturn, 1) := by decide +kernel
set_option maxHeartbeats 4000000 in
set_option maxRecDepth 20000 in
theorem c_X12_assignment (d : Nat) {b : Nat} {σ : MS} {ρ : MS} (hR : RG σ) (hln : LNP 1 ρ σ) (hli : LIT ρ σ) (hg : GOS [20] ρ (0, 0) [23] σ (0, 0) []) (h28 : σ.1 28 = 0) (ht : 0 ≤ σ.1 43 ∧ σ.1 43 ≤ 260) : Tm (d + 43) m_X12_assignment 0 b σ [(0, .ref b)] [] (fun ro σ2 => ∃ v : Int, ro = some (.int (iI v)) ∧ ((v = 0 ∨ v = 1)) ∧ (Fr [19, 20, 22, 23, 26, 27, 28, 29, 31, 32, 33, 34, 39, 40] [3, 4, 5, 6, 7, 8, 35, 37, 41, 42] [24, 38] σ σ2) ∧ (RG σ2) ∧ (PBF ρ σ2) ∧ (v = 1 → BLQ 20 2 ρ σ2) ∧ (v = 0 → GOF [20] ρ (0, 0))) := by
  have tk0 := hln.tok.1
  have rd0 := hln.1.2
  have f0 := hln.2.2.1
  have e30_ := f0.1 30 (by decide)
  have e34_ := hln.2.2.2.2.1
  have nn0 : NN σ := hln.2.2.2.1.2.2.1
  have h0c := hln.h0
  have e28r : ρ.1 28 = 0 := (f0.1 28 (by decide)).symm.trans h28
  have e29r := f0.1 29 (by decide)
  have e33r := f0.1 33 (by decide)
  refine tm_aload_n dX12_assignment_0 rfl 0 rfl ?_
  refine tm_aload_n dX12_assignment_1 rfl 0 rfl ?_
  refine tm_getW (t := σ.2.2 24 0) dX12_assignment_2 fl12_219 (rfl) ?_
  refine tm_aload_n dX12_assignment_5 rfl 0 rfl ?_
  refine tm_getS (k := 19) (t := σ.1 19) dX12_assignment_6 (by decide) fl12_216 rfl (rfl) ?_
  have g1 := RG.s hR 19
  refine tm_callV (M := m_X12_assignment) (pc := 9) (ix := 323) (M' := m_X12_nameOf) (As := [.long (σ.2.2 24 0), .int (iI (σ.1 19))]) (rest := []) dX12_assignment_9 ok_X12_nameOf im_X12_nameOf se_X12_nameOf ml12_323 np_X12_nameOf rfl rfl (Nat.le_of_ble_eq_true rfl) (Nat.le_of_ble_eq_true rfl) rfl (c_X12_nameOf (d + 40) (σ := σ) (w := σ.2.2 24 0) (p := σ.1 19) hR nn0 (by omega) (by omega)) (fun r2 σ3 hp => ?_)
  obtain ⟨v4, rfl, f5, f6, f7, f8⟩ := hp
  show Tm _ _ 12 b σ3 [(0, .ref b)] [.int (iI v4)] _
  have nm0 := f5
  have nm1 := f6
  have nm2 := f7
  have nm3 := f8
  refine tm_istore_n (L' := [(1, .int (iI v4)), (0, .ref b)]) dX12_assignment_12 rfl (by decide) rfl ?_
  refine tm_aload_n dX12_assignment_13 rfl 1 rfl ?_
  refine tm_callV (M := m_X12_assignment) (pc := 14) (ix := 265) (M' := m_X12_advance) (As := []) (rest := []) dX12_assignment_14 ok_X12_advance im_X12_advance se_X12_advance ml12_265 np_X12_advance rfl rfl (Nat.le_of_ble_eq_true rfl) (Nat.le_of_ble_eq_true rfl) rfl (c_X12_advance (d + 37) (σ := σ3)  f6 (by rw [nm0.1 20 (by decide), nm0.1 21 (by decide)]; omega)) (fun r9 σ10 hp => ?_)
  obtain ⟨rfl, f12, f13, f14, f15, f16⟩ := hp
  show Tm _ _ 17 b σ10 [(1, .int (iI v4)), (0, .ref b)] [] _
  have ad0 := f12
  have ad1 := f13
  have ad2 := f14
  have ad3 := f15
  have ad4 := f16
  have fA1 := (show Fr [19, 20, 22, 23, 26, 27] [35] [24, 38] σ σ10 from ((Fr.rfl.trans (Fr.sub f5 (by decide) (by decide) (by decide))).trans (Fr.sub f13 (by decide) (by decide) (by decide))))
  have pb1 : PBF σ σ10 := nm2.trans (PBF.nop nm2.2.2.1 ad1 (by decide) (by decide) (by decide))
  have ts1 : TS 20 (2 - 1) ρ [161, 25] σ10 (0, 0) [] := TS.line hln (by decide) fA1 pb1 ad3 (by have z := ad4; rw [nm0.1 20 (by decide)] at z; exact z) ((hg.last (vw_fr nm0 (by decide) (by decide) (by decide))).then (g23 ad0))
  have tk1 := ad3.1
  refine tm_aload_n dX12_assignment_17 rfl 1 rfl ?_
  refine tm_bipush dX12_assignment_18 (by decide) ?_
  refine tm_callV (M := m_X12_assignment) (pc := 20) (ix := 330) (M' := m_X12_need) (As := [.int (iI 61)]) (rest := []) dX12_assignment_20 ok_X12_need im_X12_need se_X12_need ml12_330 np_X12_need rfl rfl (Nat.le_of_ble_eq_true rfl) (Nat.le_of_ble_eq_true rfl) rfl (c_X12_need (d + 36) (σ := σ10) (c := 61) f14 (by omega) (by omega)) (fun r17 σ18 hp => ?_)
  obtain ⟨v19, rfl, f20, f21, f22, f23, f24, f25⟩ := hp
  show Tm _ _ 23 b σ18 [(1, .int (iI v4)), (0, .ref b)] [.int (iI v19)] _
  have yn0 := f20
  have yn1 := f21
  have yn2 := f22
  have yn3 := f23
  have yn4 := f24
  have yn5 := f25
  refine tm_if_ne (tgt := 28) dX12_assignment_23 (by decide) ⟨by omega, by omega⟩ (fun h26 => ?_) (fun h26 => ?_)
  · have ynq := yn3 (by omega)
    have ts2 := ts1.needy yn1 ynq.2.2.1 ynq.2.2.2.1 ynq.2.2.2.2 (by have z := ynq.1.1; omega) (gn_61 ynq.1 ynq.2.1)
    have pq2 : PBF σ σ18 := pb1.trans (PBF.of ts1.nn yn1 (by decide) (by decide) (by decide) yn5)
    have e342 : σ18.1 34 = σ.1 34 := rs_F f21 (by decide) (rs_F f13 (by decide) (rs_F f5 (by decide) (rfl)))
    have e282 : σ18.1 28 = σ.1 28 := rs_F f21 (by decide) (rs_F f13 (by decide) (rs_F f5 (by decide) (rfl)))
    have R28 := f22
    have tk2 := ts2.2.2.1.1.1
    refine tm_aload_n dX12_assignment_28 rfl 1 rfl ?_
    refine tm_getW (t := σ18.2.2 24 0) dX12_assignment_29 fl12_219 (rfl) ?_
    refine tm_lstore_n (L' := [(2, .long (σ18.2.2 24 0)), (1, .int (iI v4)), (0, .ref b)]) dX12_assignment_32 rfl (by decide) rfl ?_
    refine tm_aload_n dX12_assignment_33 rfl 2 rfl ?_
    refine tm_getS (k := 19) (t := σ18.1 19) dX12_assignment_34 (by decide) fl12_216 rfl (rfl) ?_
    have g27 := RG.s f22 19
    refine tm_istore (L' := [(4, .int (iI (σ18.1 19))), (2, .long (σ18.2.2 24 0)), (1, .int (iI v4)), (0, .ref b)]) dX12_assignment_37 (by decide) rfl ?_
    refine tm_aload_n dX12_assignment_39 rfl 3 rfl ?_
    refine tm_callV (M := m_X12_assignment) (pc := 40) (ix := 320) (M' := m_X12_isName) (As := []) (rest := []) dX12_assignment_40 ok_X12_isName im_X12_isName se_X12_isName ml12_320 np_X12_isName rfl rfl (Nat.le_of_ble_eq_true rfl) (Nat.le_of_ble_eq_true rfl) rfl (c2_X12_isName (d + 41) (σ := σ18)  f22) (fun r28 σ29 hp => ?_)
    obtain ⟨v30, rfl, rfl, f31, f32, f33⟩ := hp
    show Tm _ _ 43 b σ18 [(4, .int (iI (σ18.1 19))), (2, .long (σ18.2.2 24 0)), (1, .int (iI v4)), (0, .ref b)] [.int (iI v30)] _
    have inm := f32
    have nnm_ := f33
    refine tm_if_eq (tgt := 113) dX12_assignment_43 (by decide) ⟨by omega, by omega⟩ (fun h34 => ?_) (fun h34 => ?_)
    · have ts3 := ts2.nxt (g25n (nnm_ (by omega)))
      have pq3 := pq2
      have e343 := e342
      have e283 : σ18.1 28 = 0 := e282.trans h28
      refine tm_aload_n dX12_assignment_113 rfl 3 rfl ?_
      refine tm_callV (M := m_X12_assignment) (pc := 114) (ix := 327) (M' := m_X12_expression) (As := []) (rest := []) dX12_assignment_114 ok_X12_expression im_X12_expression se_X12_expression ml12_327 np_X12_expression rfl rfl (Nat.le_of_ble_eq_true rfl) (Nat.le_of_ble_eq_true rfl) rfl (c_exp8 (d + 2) (σ := σ18)  f22 ts3.2.2.1 ts3.nn e283) (fun r35 σ36 hp => ?_)
      obtain ⟨v37, rfl, f38, f39, f40, f41, f42, f43, f44⟩ := hp
      show Tm _ _ 117 b σ36 [(4, .int (iI (σ18.1 19))), (2, .long (σ18.2.2 24 0)), (1, .int (iI v4)), (0, .ref b)] [.int (iI v37)] _
      have xp0 := f38
      have xp1 := f39
      have xp2 := f40
      have xp3 := f41
      have xp4 := f42
      have xp5 := f43
      have xp6 := f44
      refine tm_if_ne (tgt := 122) dX12_assignment_117 (by decide) ⟨by omega, by omega⟩ (fun h45 => ?_) (fun h45 => ?_)
      · have ts4 := ts3.exp xp1 xp3 (xp4 (by omega)) (xp5.1 (by omega))
        have ex4 := xp4 (by omega)
        have gt := ex4.2.2.1
        unfold GTm at gt
        have rdx := ts4.2.2.1.2
        have tkx := ts4.2.2.1.1.1
        have pq4 := pq3.trans xp3
        have ac4 : AC σ σ36 := (AC.nil e343).trans pq3 ex4.2.2.2.1 xp3 (by omega)
        have e284 : σ36.1 28 = 0 := xp6.trans e283
        have e334 : σ36.1 33 = σ.1 33 := rs_F f39 (by decide) (rs_F f21 (by decide) (rs_F f13 (by decide) (rs_F f5 (by decide) (rfl))))
        refine tm_aload_n dX12_assignment_122 rfl 3 rfl ?_
        refine tm_iconst dX12_assignment_123 ?_
        refine tm_iload_n dX12_assignment_124 rfl 2 rfl ?_
        refine tm_iconst dX12_assignment_125 ?_
        refine tm_callV (M := m_X12_assignment) (pc := 126) (ix := 294) (M' := m_X12_put) (As := [.int (iI 0), .int (iI v4), .int (iI 0)]) (rest := []) dX12_assignment_126 ok_X12_put im_X12_put se_X12_put ml12_294 np_X12_put rfl rfl (Nat.le_of_ble_eq_true rfl) (Nat.le_of_ble_eq_true rfl) rfl (c_X12_put (d + 40) (σ := σ36) (k := 0) (e := v4) (o := 0) f40 (by omega) (by omega) (by omega) (by omega)) (fun r46 σ47 hp => ?_)
        obtain ⟨v48, rfl, f49, f50, f51, f52, f53, f54, f55⟩ := hp
        show Tm _ _ 129 b σ47 [(4, .int (iI (σ18.1 19))), (2, .long (σ18.2.2 24 0)), (1, .int (iI v4)), (0, .ref b)] [.int (iI v48)] _
        have jvP := f51
        have jnP := f52
        have jiP := f53
        have joP := f54
        have jrP := f55
        refine tm_istore (L' := [(5, .int (iI v48)), (4, .int (iI (σ18.1 19))), (2, .long (σ18.2.2 24 0)), (1, .int (iI v4)), (0, .ref b)]) dX12_assignment_129 (by decide) rfl ?_
        refine tm_aload_n dX12_assignment_131 rfl 4 rfl ?_
        refine tm_iload dX12_assignment_132 0 rfl ?_
        refine tm_iconst dX12_assignment_134 ?_
        refine tm_aload_n dX12_assignment_135 rfl 4 rfl ?_
        refine tm_getS (k := 39) (t := σ36.1 39) dX12_assignment_136 (by decide) fl12_285 rfl (rs_F f49 (by decide) (rfl)) ?_
        have g56 := RG.s f40 39
        refine tm_aload_n dX12_assignment_139 rfl 4 rfl ?_
        refine tm_getS (k := 40) (t := σ36.1 40) dX12_assignment_140 (by decide) fl12_288 rfl (rs_F f49 (by decide) (rfl)) ?_
        have g57 := RG.s f40 40
        refine tm_callV (M := m_X12_assignment) (pc := 143) (ix := 298) (M' := m_X12_setArg) (As := [.int (iI v48), .int (iI 0), .int (iI (σ36.1 39)), .int (iI (σ36.1 40))]) (rest := []) dX12_assignment_143 ok_X12_setArg im_X12_setArg se_X12_setArg ml12_298 np_X12_setArg rfl rfl (Nat.le_of_ble_eq_true rfl) (Nat.le_of_ble_eq_true rfl) rfl (c_X12_setArg (d + 41) (σ := σ47) (x := v48) (i := 0) (k := σ36.1 39) (w := σ36.1 40) (by omega)) (fun r58 σ59 hp => ?_)
        obtain ⟨rfl, f61⟩ := hp
        subst f61
        show Tm _ _ 146 b (fArg (v48) (0) (σ36.1 39) (σ36.1 40) σ47) [(5, .int (iI v48)), (4, .int (iI (σ18.1 19))), (2, .long (σ18.2.2 24 0)), (1, .int (iI v4)), (0, .ref b)] [] _
        have jvP : _ = PXx σ36 := jvP
        have fAP := (show Fr [33, 34] [3, 4, 5, 6, 7, 8] [] σ36 (fArg (v48) (0) (σ36.1 39) (σ36.1 40) σ47) from ((Fr.rfl.trans (Fr.sub f49 (by decide) (by decide) (by decide))).trans (Fr.sub fArg_fr (by decide) (by decide) (by decide))))
        have eAP : (fArg (v48) (0) (σ36.1 39) (σ36.1 40) σ47).1 34 = σ36.1 34 + 1 := jnP
        have pbP : PBF σ36 (fArg (v48) (0) (σ36.1 39) (σ36.1 40) σ47) := PBF.it ts4.nn fAP (by decide) (by decide) (by decide) eAP jvP (joP.trans (OFF.arg (by decide) (by decide)))
        have tbP : TBm σ36 (fArg (v48) (0) (σ36.1 39) (σ36.1 40) σ47) := TBm.of fAP (by decide) (by decide) (by decide) (by decide)
        refine tm_aload_n dX12_assignment_146 rfl 4 rfl ?_
        refine tm_iload_n dX12_assignment_147 rfl 3 rfl ?_
        refine tm_callV (M := m_X12_assignment) (pc := 148) (ix := 359) (M' := m_X12_bind) (As := [.int (iI v4)]) (rest := []) dX12_assignment_148 ok_X12_bind im_X12_bind se_X12_bind ml12_359 np_X12_bind rfl rfl (Nat.le_of_ble_eq_true rfl) (Nat.le_of_ble_eq_true rfl) rfl (c_X12_bind (d + 39) (σ := (fArg (v48) (0) (σ36.1 39) (σ36.1 40) σ47)) (k := v4) ((f50).arg (by omega) (by omega)) (by rw [show (fArg (v48) (0) (σ36.1 39) (σ36.1 40) σ47).1 30 = σ36.1 30 from fAP.1 30 (by decide), eAP]; omega) (by omega)) (fun r62 σ63 hp => ?_)
        obtain ⟨rfl, f65, f66, f67, f68, f69, f70⟩ := hp
        show Tm _ _ 151 b σ63 [(5, .int (iI v48)), (4, .int (iI (σ18.1 19))), (2, .long (σ18.2.2 24 0)), (1, .int (iI v4)), (0, .ref b)] [] _
        have pbB : PBF (fArg (v48) (0) (σ36.1 39) (σ36.1 40) σ47) σ63 := PBF.it pbP.2.2.1 f65 (by decide) (by decide) (by decide) f67 rfl f68
        have fB := (show Fr [33, 34] [3, 4, 5, 6, 7, 8] [] σ36 σ63 from (((Fr.rfl.trans (Fr.sub f49 (by decide) (by decide) (by decide))).trans (Fr.sub fArg_fr (by decide) (by decide) (by decide))).trans (Fr.sub f65 (by decide) (by decide) (by decide))))
        have fC := (show Fr [34] [3, 4, 5, 6, 7, 8] [] σ36 σ63 from (((Fr.rfl.trans (Fr.sub f49 (by decide) (by decide) (by decide))).trans (Fr.sub fArg_fr (by decide) (by decide) (by decide))).trans (Fr.sub f65 (by decide) (by decide) (by decide))))
        have tbB : TBm (fArg (v48) (0) (σ36.1 39) (σ36.1 40) σ47) σ63 := TBm.of f65 (by decide) (by decide) (by decide) (by decide)
        have eB : σ63.1 34 = σ36.1 34 + 2 := by rw [f67, eAP]; omega
        have e33B : σ63.1 33 = σ36.1 33 := fC.1 33 (by decide)
        have tsB := ts4.puts (m := 2) fB (pbP.trans pbB) eB (by omega) (by decide) hln.1 (g52 (CHG.put fB (by decide) (by decide) (by decide) eB))
        have asA : ASF σ (fArg (v48) (0) (σ36.1 39) (σ36.1 40) σ47) [] := (ASF.num ac4 pq4 (by omega)).snoc pq4 pbP tbP eAP (fun z1 z2 z3 => by rw [← jvP]; exact oki_arg1 jiP (Or.inl rfl) (fun _ => by omega) (fun q => absurd q (by decide)) (by omega)) (Or.inl (by rw [← jvP]; exact jiP.1)) (by omega)
        have asB : ASF σ σ63 [] := asA.snoc (pq4.trans pbP) pbB tbB f67 (fun _ _ _ => f69) (Or.inr (Or.inr (Or.inr f70))) (by omega)
        have pqB := pq4.trans (pbP.trans pbB)
        have e28B : σ63.1 28 = 0 := (fC.1 28 (by decide)).trans e284
        have tkB := tsB.2.2.1.1.1
        have e29B : σ63.1 29 = σ.1 29 := rs_F f65 (by decide) (rs_F fArg_fr (by decide) (rs_F f49 (by decide) (rs_F f39 (by decide) (rs_F f21 (by decide) (rs_F f13 (by decide) (rs_F f5 (by decide) (rfl)))))))
        have tbS : TBm σ σ63 := TBm.of (show Fr [19, 20, 22, 23, 26, 27, 28, 32, 34, 39, 40] [3, 4, 5, 6, 7, 8, 35] [24, 38] σ σ63 from (((((((Fr.rfl.trans (Fr.sub f5 (by decide) (by decide) (by decide))).trans (Fr.sub f13 (by decide) (by decide) (by decide))).trans (Fr.sub f21 (by decide) (by decide) (by decide))).trans (Fr.sub f39 (by decide) (by decide) (by decide))).trans (Fr.sub f49 (by decide) (by decide) (by decide))).trans (Fr.sub fArg_fr (by decide) (by decide) (by decide))).trans (Fr.sub f65 (by decide) (by decide) (by decide)))) (by decide) (by decide) (by decide) (by decide)
        refine tm_aload_n dX12_assignment_151 rfl 4 rfl ?_
        refine tm_bipush dX12_assignment_152 (by decide) ?_
        refine tm_callV (M := m_X12_assignment) (pc := 154) (ix := 330) (M' := m_X12_need) (As := [.int (iI 59)]) (rest := []) dX12_assignment_154 ok_X12_need im_X12_need se_X12_need ml12_330 np_X12_need rfl rfl (Nat.le_of_ble_eq_true rfl) (Nat.le_of_ble_eq_true rfl) rfl (c_X12_need (d + 36) (σ := σ63) (c := 59) f66 (by omega) (by omega)) (fun r71 σ72 hp => ?_)
        obtain ⟨v73, rfl, f74, f75, f76, f77, f78, f79⟩ := hp
        show Tm _ _ 157 b σ72 [(5, .int (iI v48)), (4, .int (iI (σ18.1 19))), (2, .long (σ18.2.2 24 0)), (1, .int (iI v4)), (0, .ref b)] [.int (iI v73)] _
        have zn0 := f74
        have zn1 := f75
        have zn2 := f76
        have zn3 := f77
        have zn4 := f78
        have zn5 := f79
        have pbN : PBF _ σ72 := PBF.of tsB.nn zn1 (by decide) (by decide) (by decide) zn5
        have pqN := pqB.trans pbN
        have e33N : σ72.1 33 = σ.1 33 := rs_F f75 (by decide) (rs_F f65 (by decide) (rs_F fArg_fr (by decide) (rs_F f49 (by decide) (rs_F f39 (by decide) (rs_F f21 (by decide) (rs_F f13 (by decide) (rs_F f5 (by decide) (rfl))))))))
        exact tm_zret (v := v73) rfl (by omega) dX12_assignment_157 (⟨_, rfl, zn0, ((((((((Fr.rfl.trans (Fr.sub f5 (by decide) (by decide) (by decide))).trans (Fr.sub f13 (by decide) (by decide) (by decide))).trans (Fr.sub f21 (by decide) (by decide) (by decide))).trans (Fr.sub f39 (by decide) (by decide) (by decide))).trans (Fr.sub f49 (by decide) (by decide) (by decide))).trans (Fr.sub fArg_fr (by decide) (by decide) (by decide))).trans (Fr.sub f65 (by decide) (by decide) (by decide))).trans (Fr.sub f75 (by decide) (by decide) (by decide))), f76, tsB.1.trans pbN, fun z => have znq := zn3 z; ⟨[], (tsB.needy zn1 znq.2.2.1 znq.2.2.2.1 znq.2.2.2.2 (by have z := znq.1.1; omega) (gn_59 znq.1 znq.2.1)).le (by decide), SGF.line e34_.1 hli hln.2.2.2.1 pqN hln.tb (tbS.trans (TBm.of zn1 (by decide) (by decide) (by decide) (by decide))) (by omega) (asB.mv pqB pbN (TBm.of zn1 (by decide) (by decide) (by decide) (by decide)) (zn1.1 34 (by decide)) (by omega)) h0c, FS.of hli e34_.1 hln.2.2.2.1 pqN h0c, ((zn1.1 28 (by decide)).trans e28B).trans e28r.symm, ((show σ72.1 29 = σ.1 29 from rs_F f75 (by decide) (rs_F f65 (by decide) (rs_F fArg_fr (by decide) (rs_F f49 (by decide) (rs_F f39 (by decide) (rs_F f21 (by decide) (rs_F f13 (by decide) (rs_F f5 (by decide) (rfl))))))))).trans e29r)⟩, fun z => (tsB.fail pbN (gf_59 (zn4 z))).2⟩)
      · refine tm_iconst dX12_assignment_120 ?_
        exact tm_zret (v := 0) rfl (by decide) dX12_assignment_121 (⟨_, rfl, by omega, ((((Fr.rfl.trans (Fr.sub f5 (by decide) (by decide) (by decide))).trans (Fr.sub f13 (by decide) (by decide) (by decide))).trans (Fr.sub f21 (by decide) (by decide) (by decide))).trans (Fr.sub f39 (by decide) (by decide) (by decide))), f40, (ts3.fail xp3 (xp5.2 (by omega) (0, 0))).1, fun q => absurd q (by omega), fun _ => (ts3.fail xp3 (xp5.2 (by omega) (0, 0))).2⟩)
    · refine tm_aload_n dX12_assignment_46 rfl 3 rfl ?_
      refine tm_getS (k := 20) (t := σ18.1 20) dX12_assignment_47 (by decide) fl12_210 rfl (rfl) ?_
      have g80 := RG.s f22 20
      refine tm_istore (L' := [(5, .int (iI (σ18.1 20))), (4, .int (iI (σ18.1 19))), (2, .long (σ18.2.2 24 0)), (1, .int (iI v4)), (0, .ref b)]) dX12_assignment_50 (by decide) rfl ?_
      refine tm_aload_n dX12_assignment_52 rfl 4 rfl ?_
      refine tm_callV (M := m_X12_assignment) (pc := 53) (ix := 265) (M' := m_X12_advance) (As := []) (rest := []) dX12_assignment_53 ok_X12_advance im_X12_advance se_X12_advance ml12_265 np_X12_advance rfl rfl (Nat.le_of_ble_eq_true rfl) (Nat.le_of_ble_eq_true rfl) rfl (c_X12_advance (d + 37) (σ := σ18)  f22 (by omega)) (fun r81 σ82 hp => ?_)
      obtain ⟨rfl, f84, f85, f86, f87, f88⟩ := hp
      show Tm _ _ 56 b σ82 [(5, .int (iI (σ18.1 20))), (4, .int (iI (σ18.1 19))), (2, .long (σ18.2.2 24 0)), (1, .int (iI v4)), (0, .ref b)] [] _
      have bd0 := f84
      have bd1 := f85
      have bd2 := f86
      have bd3 := f87
      have bd4 := f88
      refine tm_aload_n dX12_assignment_56 rfl 4 rfl ?_
      refine tm_bipush dX12_assignment_57 (by decide) ?_
      refine tm_callV (M := m_X12_assignment) (pc := 59) (ix := 258) (M' := m_X12_isSign) (As := [.int (iI 40)]) (rest := []) dX12_assignment_59 ok_X12_isSign im_X12_isSign se_X12_isSign ml12_258 np_X12_isSign rfl rfl (Nat.le_of_ble_eq_true rfl) (Nat.le_of_ble_eq_true rfl) rfl (c2_X12_isSign (d + 41) (σ := σ82) (c := 40) f86 (by omega)) (fun r89 σ90 hp => ?_)
      obtain ⟨v91, rfl, rfl, f92, f93, f94⟩ := hp
      show Tm _ _ 62 b σ82 [(5, .int (iI (σ18.1 20))), (4, .int (iI (σ18.1 19))), (2, .long (σ18.2.2 24 0)), (1, .int (iI v4)), (0, .ref b)] [.int (iI v91)] _
      have i40 := f93
      have n40_ := f94
      refine tm_if_eq (tgt := 91) dX12_assignment_62 (by decide) ⟨by omega, by omega⟩ (fun h95 => ?_) (fun h95 => ?_)
      · refine tm_aload_n dX12_assignment_91 rfl 4 rfl ?_
        refine tm_iload dX12_assignment_92 0 rfl ?_
        refine tm_putS (k := 20) (v := σ18.1 20) lay_12 dX12_assignment_94 (by decide) fl12_210 rfl (tyX12_ok 20 (by decide)) rfl rfl rfl ?_
        refine tm_aload_n dX12_assignment_97 rfl 4 rfl ?_
        refine tm_iload dX12_assignment_98 1 rfl ?_
        refine tm_putS (k := 19) (v := σ18.1 19) lay_12 dX12_assignment_100 (by decide) fl12_216 rfl (tyX12_ok 19 (by decide)) rfl rfl rfl ?_
        refine tm_aload_n dX12_assignment_103 rfl 4 rfl ?_
        refine tm_iconst dX12_assignment_104 ?_
        refine tm_putS (k := 22) (v := 2) lay_12 dX12_assignment_105 (by decide) fl12_226 rfl (tyX12_ok 22 (by decide)) rfl rfl rfl ?_
        refine tm_aload_n dX12_assignment_108 rfl 4 rfl ?_
        refine tm_lload_n dX12_assignment_109 rfl 2 rfl ?_
        refine tm_putW lay_12 dX12_assignment_110 fl12_219 ?_
        have fk := (show Fr [19, 20, 22, 23] [] [24] σ18 (sJ 24 0 (σ18.2.2 24 0) (sS 22 2 (sS 19 (σ18.1 19) (sS 20 (σ18.1 20) σ82)))) from (((((Fr.rfl.trans (Fr.sub f85 (by decide) (by decide) (by decide))).S (by decide)).S (by decide)).S (by decide)).J (by decide)))
        have v19 : (sJ 24 0 (σ18.2.2 24 0) (sS 22 2 (sS 19 (σ18.1 19) (sS 20 (σ18.1 20) σ82)))).1 19 = σ18.1 19 := rs_J (rs_o (by decide) (rs_eq))
        have v20 : (sJ 24 0 (σ18.2.2 24 0) (sS 22 2 (sS 19 (σ18.1 19) (sS 20 (σ18.1 20) σ82)))).1 20 = σ18.1 20 := rs_J (rs_o (by decide) (rs_o (by decide) (rs_eq)))
        have v22 : (sJ 24 0 (σ18.2.2 24 0) (sS 22 2 (sS 19 (σ18.1 19) (sS 20 (σ18.1 20) σ82)))).1 22 = 2 := rs_J (rs_eq)
        have v23 : (sJ 24 0 (σ18.2.2 24 0) (sS 22 2 (sS 19 (σ18.1 19) (sS 20 (σ18.1 20) σ82)))).1 23 = σ82.1 23 := rs_J (rs_o (by decide) (rs_o (by decide) (rs_o (by decide) (rfl))))
        have v24 : (sJ 24 0 (σ18.2.2 24 0) (sS 22 2 (sS 19 (σ18.1 19) (sS 20 (σ18.1 20) σ82)))).2.2 24 0 = σ18.2.2 24 0 := rj_eq
        have ts3 := ts2.back fk ⟨v19, v20, v22⟩ (by have z := (inm (by omega)).1; omega) (by rw [v23]; exact bd3.2.2.2) (g25b (inm (by omega)) bd0 (n40_ (by omega)) (by unfold tks; rw [v19, v20, v22, v23, v24]) (by unfold xs; rw [fk.1 28 (by decide), fk.1 29 (by decide), fk.1 34 (by decide)]) (sv_fr fk (by decide) (by decide)))
        have pq3 : PBF σ (sJ 24 0 (σ18.2.2 24 0) (sS 22 2 (sS 19 (σ18.1 19) (sS 20 (σ18.1 20) σ82)))) := pq2.trans (PBF.nop pq2.2.2.1 fk (by decide) (by decide) (by decide))
        have e343 : (sJ 24 0 (σ18.2.2 24 0) (sS 22 2 (sS 19 (σ18.1 19) (sS 20 (σ18.1 20) σ82)))).1 34 = σ.1 34 := (fk.1 34 (by decide)).trans e342
        have e283 : (sJ 24 0 (σ18.2.2 24 0) (sS 22 2 (sS 19 (σ18.1 19) (sS 20 (σ18.1 20) σ82)))).1 28 = 0 := (fk.1 28 (by decide)).trans (e282.trans h28)
        refine tm_aload_n dX12_assignment_113 rfl 4 rfl ?_
        refine tm_callV (M := m_X12_assignment) (pc := 114) (ix := 327) (M' := m_X12_expression) (As := []) (rest := []) dX12_assignment_114 ok_X12_expression im_X12_expression se_X12_expression ml12_327 np_X12_expression rfl rfl (Nat.le_of_ble_eq_true rfl) (Nat.le_of_ble_eq_true rfl) rfl (c_exp8 (d + 2) (σ := (sJ 24 0 (σ18.2.2 24 0) (sS 22 2 (sS 19 (σ18.1 19) (sS 20 (σ18.1 20) σ82)))))  ((((f86.S (by omega)).S (by omega)).S (by omega)).J) ts3.2.2.1 ts3.nn e283) (fun r96 σ97 hp => ?_)
        obtain ⟨v98, rfl, f99, f100, f101, f102, f103, f104, f105⟩ := hp
        show Tm _ _ 117 b σ97 [(5, .int (iI (σ18.1 20))), (4, .int (iI (σ18.1 19))), (2, .long (σ18.2.2 24 0)), (1, .int (iI v4)), (0, .ref b)] [.int (iI v98)] _
        have xp0 := f99
        have xp1 := f100
        have xp2 := f101
        have xp3 := f102
        have xp4 := f103
        have xp5 := f104
        have xp6 := f105
        refine tm_if_ne (tgt := 122) dX12_assignment_117 (by decide) ⟨by omega, by omega⟩ (fun h106 => ?_) (fun h106 => ?_)
        · have ts4 := ts3.exp xp1 xp3 (xp4 (by omega)) (xp5.1 (by omega))
          have ex4 := xp4 (by omega)
          have gt := ex4.2.2.1
          unfold GTm at gt
          have rdx := ts4.2.2.1.2
          have tkx := ts4.2.2.1.1.1
          have pq4 := pq3.trans xp3
          have ac4 : AC σ σ97 := (AC.nil e343).trans pq3 ex4.2.2.2.1 xp3 (by omega)
          have e284 : σ97.1 28 = 0 := xp6.trans e283
          have e334 : σ97.1 33 = σ.1 33 := rs_F f100 (by decide) (rs_J (rs_o (by decide) (rs_o (by decide) (rs_o (by decide) (rs_F f85 (by decide) (rs_F f21 (by decide) (rs_F f13 (by decide) (rs_F f5 (by decide) (rfl)))))))))
          refine tm_aload_n dX12_assignment_122 rfl 4 rfl ?_
          refine tm_iconst dX12_assignment_123 ?_
          refine tm_iload_n dX12_assignment_124 rfl 3 rfl ?_
          refine tm_iconst dX12_assignment_125 ?_
          refine tm_callV (M := m_X12_assignment) (pc := 126) (ix := 294) (M' := m_X12_put) (As := [.int (iI 0), .int (iI v4), .int (iI 0)]) (rest := []) dX12_assignment_126 ok_X12_put im_X12_put se_X12_put ml12_294 np_X12_put rfl rfl (Nat.le_of_ble_eq_true rfl) (Nat.le_of_ble_eq_true rfl) rfl (c_X12_put (d + 40) (σ := σ97) (k := 0) (e := v4) (o := 0) f101 (by omega) (by omega) (by omega) (by omega)) (fun r107 σ108 hp => ?_)
          obtain ⟨v109, rfl, f110, f111, f112, f113, f114, f115, f116⟩ := hp
          show Tm _ _ 129 b σ108 [(5, .int (iI (σ18.1 20))), (4, .int (iI (σ18.1 19))), (2, .long (σ18.2.2 24 0)), (1, .int (iI v4)), (0, .ref b)] [.int (iI v109)] _
          have jvP := f112
          have jnP := f113
          have jiP := f114
          have joP := f115
          have jrP := f116
          refine tm_istore (L' := [(5, .int (iI v109)), (4, .int (iI (σ18.1 19))), (2, .long (σ18.2.2 24 0)), (1, .int (iI v4)), (0, .ref b)]) dX12_assignment_129 (by decide) rfl ?_
          refine tm_aload_n dX12_assignment_131 rfl 4 rfl ?_
          refine tm_iload dX12_assignment_132 0 rfl ?_
          refine tm_iconst dX12_assignment_134 ?_
          refine tm_aload_n dX12_assignment_135 rfl 4 rfl ?_
          refine tm_getS (k := 39) (t := σ97.1 39) dX12_assignment_136 (by decide) fl12_285 rfl (rs_F f110 (by decide) (rfl)) ?_
          have g117 := RG.s f101 39
          refine tm_aload_n dX12_assignment_139 rfl 4 rfl ?_
          refine tm_getS (k := 40) (t := σ97.1 40) dX12_assignment_140 (by decide) fl12_288 rfl (rs_F f110 (by decide) (rfl)) ?_
          have g118 := RG.s f101 40
          refine tm_callV (M := m_X12_assignment) (pc := 143) (ix := 298) (M' := m_X12_setArg) (As := [.int (iI v109), .int (iI 0), .int (iI (σ97.1 39)), .int (iI (σ97.1 40))]) (rest := []) dX12_assignment_143 ok_X12_setArg im_X12_setArg se_X12_setArg ml12_298 np_X12_setArg rfl rfl (Nat.le_of_ble_eq_true rfl) (Nat.le_of_ble_eq_true rfl) rfl (c_X12_setArg (d + 41) (σ := σ108) (x := v109) (i := 0) (k := σ97.1 39) (w := σ97.1 40) (by omega)) (fun r119 σ120 hp => ?_)
          obtain ⟨rfl, f122⟩ := hp
          subst f122
          show Tm _ _ 146 b (fArg (v109) (0) (σ97.1 39) (σ97.1 40) σ108) [(5, .int (iI v109)), (4, .int (iI (σ18.1 19))), (2, .long (σ18.2.2 24 0)), (1, .int (iI v4)), (0, .ref b)] [] _
          have jvP : _ = PXx σ97 := jvP
          have fAP := (show Fr [33, 34] [3, 4, 5, 6, 7, 8] [] σ97 (fArg (v109) (0) (σ97.1 39) (σ97.1 40) σ108) from ((Fr.rfl.trans (Fr.sub f110 (by decide) (by decide) (by decide))).trans (Fr.sub fArg_fr (by decide) (by decide) (by decide))))
          have eAP : (fArg (v109) (0) (σ97.1 39) (σ97.1 40) σ108).1 34 = σ97.1 34 + 1 := jnP
          have pbP : PBF σ97 (fArg (v109) (0) (σ97.1 39) (σ97.1 40) σ108) := PBF.it ts4.nn fAP (by decide) (by decide) (by decide) eAP jvP (joP.trans (OFF.arg (by decide) (by decide)))
          have tbP : TBm σ97 (fArg (v109) (0) (σ97.1 39) (σ97.1 40) σ108) := TBm.of fAP (by decide) (by decide) (by decide) (by decide)
          refine tm_aload_n dX12_assignment_146 rfl 4 rfl ?_
          refine tm_iload_n dX12_assignment_147 rfl 3 rfl ?_
          refine tm_callV (M := m_X12_assignment) (pc := 148) (ix := 359) (M' := m_X12_bind) (As := [.int (iI v4)]) (rest := []) dX12_assignment_148 ok_X12_bind im_X12_bind se_X12_bind ml12_359 np_X12_bind rfl rfl (Nat.le_of_ble_eq_true rfl) (Nat.le_of_ble_eq_true rfl) rfl (c_X12_bind (d + 39) (σ := (fArg (v109) (0) (σ97.1 39) (σ97.1 40) σ108)) (k := v4) ((f111).arg (by omega) (by omega)) (by rw [show (fArg (v109) (0) (σ97.1 39) (σ97.1 40) σ108).1 30 = σ97.1 30 from fAP.1 30 (by decide), eAP]; omega) (by omega)) (fun r123 σ124 hp => ?_)
          obtain ⟨rfl, f126, f127, f128, f129, f130, f131⟩ := hp
          show Tm _ _ 151 b σ124 [(5, .int (iI v109)), (4, .int (iI (σ18.1 19))), (2, .long (σ18.2.2 24 0)), (1, .int (iI v4)), (0, .ref b)] [] _
          have pbB : PBF (fArg (v109) (0) (σ97.1 39) (σ97.1 40) σ108) σ124 := PBF.it pbP.2.2.1 f126 (by decide) (by decide) (by decide) f128 rfl f129
          have fB := (show Fr [33, 34] [3, 4, 5, 6, 7, 8] [] σ97 σ124 from (((Fr.rfl.trans (Fr.sub f110 (by decide) (by decide) (by decide))).trans (Fr.sub fArg_fr (by decide) (by decide) (by decide))).trans (Fr.sub f126 (by decide) (by decide) (by decide))))
          have fC := (show Fr [34] [3, 4, 5, 6, 7, 8] [] σ97 σ124 from (((Fr.rfl.trans (Fr.sub f110 (by decide) (by decide) (by decide))).trans (Fr.sub fArg_fr (by decide) (by decide) (by decide))).trans (Fr.sub f126 (by decide) (by decide) (by decide))))
          have tbB : TBm (fArg (v109) (0) (σ97.1 39) (σ97.1 40) σ108) σ124 := TBm.of f126 (by decide) (by decide) (by decide) (by decide)
          have eB : σ124.1 34 = σ97.1 34 + 2 := by rw [f128, eAP]; omega
          have e33B : σ124.1 33 = σ97.1 33 := fC.1 33 (by decide)
          have tsB := ts4.puts (m := 2) fB (pbP.trans pbB) eB (by omega) (by decide) hln.1 (g52 (CHG.put fB (by decide) (by decide) (by decide) eB))
          have asA : ASF σ (fArg (v109) (0) (σ97.1 39) (σ97.1 40) σ108) [] := (ASF.num ac4 pq4 (by omega)).snoc pq4 pbP tbP eAP (fun z1 z2 z3 => by rw [← jvP]; exact oki_arg1 jiP (Or.inl rfl) (fun _ => by omega) (fun q => absurd q (by decide)) (by omega)) (Or.inl (by rw [← jvP]; exact jiP.1)) (by omega)
          have asB : ASF σ σ124 [] := asA.snoc (pq4.trans pbP) pbB tbB f128 (fun _ _ _ => f130) (Or.inr (Or.inr (Or.inr f131))) (by omega)
          have pqB := pq4.trans (pbP.trans pbB)
          have e28B : σ124.1 28 = 0 := (fC.1 28 (by decide)).trans e284
          have tkB := tsB.2.2.1.1.1
          have e29B : σ124.1 29 = σ.1 29 := rs_F f126 (by decide) (rs_F fArg_fr (by decide) (rs_F f110 (by decide) (rs_F f100 (by decide) (rs_J (rs_o (by decide) (rs_o (by decide) (rs_o (by decide) (rs_F f85 (by decide) (rs_F f21 (by decide) (rs_F f13 (by decide) (rs_F f5 (by decide) (rfl))))))))))))
          have tbS : TBm σ σ124 := TBm.of (show Fr [19, 20, 22, 23, 26, 27, 28, 32, 34, 39, 40] [3, 4, 5, 6, 7, 8, 35] [24, 38] σ σ124 from ((((((((((((Fr.rfl.trans (Fr.sub f5 (by decide) (by decide) (by decide))).trans (Fr.sub f13 (by decide) (by decide) (by decide))).trans (Fr.sub f21 (by decide) (by decide) (by decide))).trans (Fr.sub f85 (by decide) (by decide) (by decide))).S (by decide)).S (by decide)).S (by decide)).J (by decide)).trans (Fr.sub f100 (by decide) (by decide) (by decide))).trans (Fr.sub f110 (by decide) (by decide) (by decide))).trans (Fr.sub fArg_fr (by decide) (by decide) (by decide))).trans (Fr.sub f126 (by decide) (by decide) (by decide)))) (by decide) (by decide) (by decide) (by decide)
          refine tm_aload_n dX12_assignment_151 rfl 4 rfl ?_
          refine tm_bipush dX12_assignment_152 (by decide) ?_
          refine tm_callV (M := m_X12_assignment) (pc := 154) (ix := 330) (M' := m_X12_need) (As := [.int (iI 59)]) (rest := []) dX12_assignment_154 ok_X12_need im_X12_need se_X12_need ml12_330 np_X12_need rfl rfl (Nat.le_of_ble_eq_true rfl) (Nat.le_of_ble_eq_true rfl) rfl (c_X12_need (d + 36) (σ := σ124) (c := 59) f127 (by omega) (by omega)) (fun r132 σ133 hp => ?_)
          obtain ⟨v134, rfl, f135, f136, f137, f138, f139, f140⟩ := hp
          show Tm _ _ 157 b σ133 [(5, .int (iI v109)), (4, .int (iI (σ18.1 19))), (2, .long (σ18.2.2 24 0)), (1, .int (iI v4)), (0, .ref b)] [.int (iI v134)] _
          have zn0 := f135
          have zn1 := f136
          have zn2 := f137
          have zn3 := f138
          have zn4 := f139
          have zn5 := f140
          have pbN : PBF _ σ133 := PBF.of tsB.nn zn1 (by decide) (by decide) (by decide) zn5
          have pqN := pqB.trans pbN
          have e33N : σ133.1 33 = σ.1 33 := rs_F f136 (by decide) (rs_F f126 (by decide) (rs_F fArg_fr (by decide) (rs_F f110 (by decide) (rs_F f100 (by decide) (rs_J (rs_o (by decide) (rs_o (by decide) (rs_o (by decide) (rs_F f85 (by decide) (rs_F f21 (by decide) (rs_F f13 (by decide) (rs_F f5 (by decide) (rfl)))))))))))))
          exact tm_zret (v := v134) rfl (by omega) dX12_assignment_157 (⟨_, rfl, zn0, (((((((((((((Fr.rfl.trans (Fr.sub f5 (by decide) (by decide) (by decide))).trans (Fr.sub f13 (by decide) (by decide) (by decide))).trans (Fr.sub f21 (by decide) (by decide) (by decide))).trans (Fr.sub f85 (by decide) (by decide) (by decide))).S (by decide)).S (by decide)).S (by decide)).J (by decide)).trans (Fr.sub f100 (by decide) (by decide) (by decide))).trans (Fr.sub f110 (by decide) (by decide) (by decide))).trans (Fr.sub fArg_fr (by decide) (by decide) (by decide))).trans (Fr.sub f126 (by decide) (by decide) (by decide))).trans (Fr.sub f136 (by decide) (by decide) (by decide))), f137, tsB.1.trans pbN, fun z => have znq := zn3 z; ⟨[], (tsB.needy zn1 znq.2.2.1 znq.2.2.2.1 znq.2.2.2.2 (by have z := znq.1.1; omega) (gn_59 znq.1 znq.2.1)).le (by decide), SGF.line e34_.1 hli hln.2.2.2.1 pqN hln.tb (tbS.trans (TBm.of zn1 (by decide) (by decide) (by decide) (by decide))) (by omega) (asB.mv pqB pbN (TBm.of zn1 (by decide) (by decide) (by decide) (by decide)) (zn1.1 34 (by decide)) (by omega)) h0c, FS.of hli e34_.1 hln.2.2.2.1 pqN h0c, ((zn1.1 28 (by decide)).trans e28B).trans e28r.symm, ((show σ133.1 29 = σ.1 29 from rs_F f136 (by decide) (rs_F f126 (by decide) (rs_F fArg_fr (by decide) (rs_F f110 (by decide) (rs_F f100 (by decide) (rs_J (rs_o (by decide) (rs_o (by decide) (rs_o (by decide) (rs_F f85 (by decide) (rs_F f21 (by decide) (rs_F f13 (by decide) (rs_F f5 (by decide) (rfl)))))))))))))).trans e29r)⟩, fun z => (tsB.fail pbN (gf_59 (zn4 z))).2⟩)
        · refine tm_iconst dX12_assignment_120 ?_
          exact tm_zret (v := 0) rfl (by decide) dX12_assignment_121 (⟨_, rfl, by omega, (((((((((Fr.rfl.trans (Fr.sub f5 (by decide) (by decide) (by decide))).trans (Fr.sub f13 (by decide) (by decide) (by decide))).trans (Fr.sub f21 (by decide) (by decide) (by decide))).trans (Fr.sub f85 (by decide) (by decide) (by decide))).S (by decide)).S (by decide)).S (by decide)).J (by decide)).trans (Fr.sub f100 (by decide) (by decide) (by decide))), f101, (ts3.fail xp3 (xp5.2 (by omega) (0, 0))).1, fun q => absurd q (by omega), fun _ => (ts3.fail xp3 (xp5.2 (by omega) (0, 0))).2⟩)
      · have ts3 := ts2.adv bd1 bd3 bd4 (by have z := (inm (by omega)).1; omega) (g25c (inm (by omega)) bd0 (i40 (by omega)))
        have pq3 : PBF σ σ82 := pq2.trans (PBF.nop pq2.2.2.1 bd1 (by decide) (by decide) (by decide))
        have e343 : σ82.1 34 = σ.1 34 := (bd1.1 34 (by decide)).trans e342
        have e283 : σ82.1 28 = 0 := (bd1.1 28 (by decide)).trans (e282.trans h28)
        have e433 : σ82.1 43 = σ.1 43 := rs_F f85 (by decide) (rs_F f21 (by decide) (rs_F f13 (by decide) (rs_F f5 (by decide) (rfl))))
        refine tm_aload_n dX12_assignment_65 rfl 4 rfl ?_
        refine tm_iload_n dX12_assignment_66 rfl 3 rfl ?_
        refine tm_lload_n dX12_assignment_67 rfl 2 rfl ?_
        refine tm_iload dX12_assignment_68 1 rfl ?_
        refine tm_callV (M := m_X12_assignment) (pc := 70) (ix := 355) (M' := m_X12_call) (As := [.int (iI v4), .long (σ18.2.2 24 0), .int (iI (σ18.1 19))]) (rest := []) dX12_assignment_70 ok_X12_call im_X12_call se_X12_call ml12_355 np_X12_call rfl rfl (Nat.le_of_ble_eq_true rfl) (Nat.le_of_ble_eq_true rfl) rfl (c_X12_call (d) (σ := σ82) (kn := v4) (w := σ18.2.2 24 0) (p := σ18.1 19) (ρ := ρ) f86 hln.1 (ts3.le (by decide)) nm3 e283 (by rw [e433]; exact ht) (i40 (by omega)) (by omega)) (fun r141 σ142 hp => ?_)
        obtain ⟨v143, rfl, f144, f145, f146, f147, f148, f149, f150⟩ := hp
        show Tm _ _ 73 b σ142 [(5, .int (iI (σ18.1 20))), (4, .int (iI (σ18.1 19))), (2, .long (σ18.2.2 24 0)), (1, .int (iI v4)), (0, .ref b)] [.int (iI v143)] _
        have cl0 := f144
        have cl1 := f145
        have cl2 := f146
        have cl3 := f147
        have cl4 := f148
        have cl5 := f149
        have cl6 := f150
        refine tm_if_eq (tgt := 89) dX12_assignment_73 (by decide) ⟨by omega, by omega⟩ (fun h151 => ?_) (fun h151 => ?_)
        · refine tm_iconst dX12_assignment_89 ?_
          exact tm_zret (v := 0) rfl (by decide) dX12_assignment_90 (⟨_, rfl, by omega, (((((Fr.rfl.trans (Fr.sub f5 (by decide) (by decide) (by decide))).trans (Fr.sub f13 (by decide) (by decide) (by decide))).trans (Fr.sub f21 (by decide) (by decide) (by decide))).trans (Fr.sub f85 (by decide) (by decide) (by decide))).trans (Fr.sub f145 (by decide) (by decide) (by decide))), f146, cl3, fun q => absurd q (by omega), fun _ => cl5 (by omega)⟩)
        · obtain ⟨lgc, tsc, asc, pbc⟩ := cl4 (by omega)
          have tkc := tsc.2.2.1.1.1
          refine tm_aload_n dX12_assignment_76 rfl 4 rfl ?_
          refine tm_bipush dX12_assignment_77 (by decide) ?_
          refine tm_callV (M := m_X12_assignment) (pc := 79) (ix := 330) (M' := m_X12_need) (As := [.int (iI 59)]) (rest := []) dX12_assignment_79 ok_X12_need im_X12_need se_X12_need ml12_330 np_X12_need rfl rfl (Nat.le_of_ble_eq_true rfl) (Nat.le_of_ble_eq_true rfl) rfl (c_X12_need (d + 36) (σ := σ142) (c := 59) f146 (by omega) (by omega)) (fun r152 σ153 hp => ?_)
          obtain ⟨v154, rfl, f155, f156, f157, f158, f159, f160⟩ := hp
          show Tm _ _ 82 b σ153 [(5, .int (iI (σ18.1 20))), (4, .int (iI (σ18.1 19))), (2, .long (σ18.2.2 24 0)), (1, .int (iI v4)), (0, .ref b)] [.int (iI v154)] _
          have zn0 := f155
          have zn1 := f156
          have zn2 := f157
          have zn3 := f158
          have zn4 := f159
          have zn5 := f160
          refine tm_if_eq (tgt := 89) dX12_assignment_82 (by decide) ⟨by omega, by omega⟩ (fun h161 => ?_) (fun h161 => ?_)
          · refine tm_iconst dX12_assignment_89 ?_
            exact tm_zret (v := 0) rfl (by decide) dX12_assignment_90 (⟨_, rfl, by omega, ((((((Fr.rfl.trans (Fr.sub f5 (by decide) (by decide) (by decide))).trans (Fr.sub f13 (by decide) (by decide) (by decide))).trans (Fr.sub f21 (by decide) (by decide) (by decide))).trans (Fr.sub f85 (by decide) (by decide) (by decide))).trans (Fr.sub f145 (by decide) (by decide) (by decide))).trans (Fr.sub f156 (by decide) (by decide) (by decide))), f157, (tsc.fail (PBF.of tsc.nn zn1 (by decide) (by decide) (by decide) zn5) (gf_59 (zn4 (by omega)))).1, fun q => absurd q (by omega), fun _ => (tsc.fail (PBF.of tsc.nn zn1 (by decide) (by decide) (by decide) zn5) (gf_59 (zn4 (by omega)))).2⟩)
          · refine tm_iconst dX12_assignment_85 ?_
            refine tm_goto (tgt := 90) dX12_assignment_86 (by decide) ?_
            have znq := zn3 (by omega)
            have pbN : PBF _ σ153 := PBF.of tsc.nn zn1 (by decide) (by decide) (by decide) zn5
            have tsn := tsc.needy zn1 znq.2.2.1 znq.2.2.2.1 znq.2.2.2.2 (by have z := znq.1.1; omega) (gn_59 znq.1 znq.2.1)
            have pqN : PBF σ σ153 := (pq3.trans pbc).trans pbN
            have e33N := (show σ153.1 33 = σ.1 33 from rs_F f156 (by decide) (rs_F f145 (by decide) (rs_F f85 (by decide) (rs_F f21 (by decide) (rs_F f13 (by decide) (rs_F f5 (by decide) (rfl)))))))
            have asN := (asc.mv pbc pbN (TBm.of zn1 (by decide) (by decide) (by decide) (by decide)) (zn1.1 34 (by decide)) ts3.h1).pre pq3 (TBm.of (show Fr [19, 20, 22, 23, 26, 27] [35] [24, 38] σ σ82 from ((((Fr.rfl.trans (Fr.sub f5 (by decide) (by decide) (by decide))).trans (Fr.sub f13 (by decide) (by decide) (by decide))).trans (Fr.sub f21 (by decide) (by decide) (by decide))).trans (Fr.sub f85 (by decide) (by decide) (by decide)))) (by decide) (by decide) (by decide) (by decide)) e343
            have tbN := (TBm.of (show Fr [19, 20, 22, 23, 26, 27, 28, 32, 34, 39, 40] [3, 4, 5, 6, 7, 8, 35, 41, 42] [24, 38] σ σ153 from ((((((Fr.rfl.trans (Fr.sub f5 (by decide) (by decide) (by decide))).trans (Fr.sub f13 (by decide) (by decide) (by decide))).trans (Fr.sub f21 (by decide) (by decide) (by decide))).trans (Fr.sub f85 (by decide) (by decide) (by decide))).trans (Fr.sub f145 (by decide) (by decide) (by decide))).trans (Fr.sub f156 (by decide) (by decide) (by decide)))) (by decide) (by decide) (by decide) (by decide))
            exact tm_zret (v := 1) rfl (by decide) dX12_assignment_90 (⟨_, rfl, by omega, ((((((Fr.rfl.trans (Fr.sub f5 (by decide) (by decide) (by decide))).trans (Fr.sub f13 (by decide) (by decide) (by decide))).trans (Fr.sub f21 (by decide) (by decide) (by decide))).trans (Fr.sub f85 (by decide) (by decide) (by decide))).trans (Fr.sub f145 (by decide) (by decide) (by decide))).trans (Fr.sub f156 (by decide) (by decide) (by decide))), f157, tsn.1, fun _ => ⟨lgc, tsn.le (by decide), SGF.line e34_.1 hli hln.2.2.2.1 pqN hln.tb tbN (by omega) asN h0c, FS.of hli e34_.1 hln.2.2.2.1 pqN h0c, ((zn1.1 28 (by decide)).trans cl6).trans e28r.symm, ((show σ153.1 29 = σ.1 29 from rs_F f156 (by decide) (rs_F f145 (by decide) (rs_F f85 (by decide) (rs_F f21 (by decide) (rs_F f13 (by decide) (rs_F f5 (by decide) (rfl))))))).trans e29r)⟩, fun q => absurd q (by decide)⟩)
  · refine tm_iconst dX12_assignment_26 ?_
    exact tm_zret (v := 0) rfl (by decide) dX12_assignment_27 (⟨_, rfl, by omega, (((Fr.rfl.trans (Fr.sub f5 (by decide) (by decide) (by decide))).trans (Fr.sub f13 (by decide) (by decide) (by decide))).trans (Fr.sub f21 (by decide) (by decide) (by decide))), f22, (ts1.fail (PBF.of ts1.nn yn1 (by decide) (by decide) (by decide) yn5) (gf_61 (yn4 (by omega)))).1, fun q => absurd q (by omega), fun _ => (ts1.fail (PBF.of ts1.nn yn1 (by decide) (by decide) (by decide) yn5) (gf_61 (yn4 (by omega)))).2⟩)
