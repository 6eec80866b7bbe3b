theorem ml12_355 : Cond.methodLink RX12 355 yX12_call ∈ pWW := pw9 (List.mem_of_getElem? (i := 13) rfl) rfl
theorem dX12_assignment_0 : decode cX12_assignment 0 = .ok (.aload_n 0, 1) := by decide +kernel
theorem dX12_assignment_1 : decode cX12_assignment 1 = .ok (.aload_n 0, 1) := by decide +kernel
theorem dX12_assignment_2 : decode cX12_assignment 2 = .ok (.getfield 219, 3) := by decide +kernel
theorem dX12_assignment_5 : decode cX12_assignment 5 = .ok (.aload_n 0, 1) := by decide +kernel
theorem dX12_assignment_6 : decode cX12_assignment 6 = .ok (.getfield 216, 3) := by decide +kernel
theorem dX12_assignment_9 : decode cX12_assignment 9 = .ok (.invokevirtual 323, 3) := by decide +kernel
theorem dX12_assignment_12 : decode cX12_assignment 12 = .ok (.istore_n 1, 1) := by decide +kernel
theorem dX12_assignment_13 : decode cX12_assignment 13 = .ok (.aload_n 0, 1) := by decide +kernel
theorem dX12_assignment_14 : decode cX12_assignment 14 = .ok (.invokevirtual 265, 3) := by decide +kernel
theorem dX12_assignment_17 : decode cX12_assignment 17 = .ok (.aload_n 0, 1) := by decide +kernel
theorem dX12_assignment_18 : decode cX12_assignment 18 = .ok (.bipush 61, 2) := by decide +kernel
theorem dX12_assignment_20 : decode cX12_assignment 20 = .ok (.invokevirtual 330, 3) := by decide +kernel
theorem dX12_assignment_23 : decode cX12_assignment 23 = .ok (.ifCond .ne 5, 3) := by decide +kernel
theorem dX12_assignment_28 : decode cX12_assignment 28 = .ok (.aload_n 0, 1) := by decide +kernel
theorem dX12_assignment_29 : decode cX12_assignment 29 = .ok (.getfield 219, 3) := by decide +kernel
theorem dX12_assignment_32 : decode cX12_assignment 32 = .ok (.lstore_n 2, 1) := by decide +kernel
theorem dX12_assignment_33 : decode cX12_assignment 33 = .ok (.aload_n 0, 1) := by decide +kernel
theorem dX12_assignment_34 : decode cX12_assignment 34 = .ok (.getfield 216, 3) := by decide +kernel
theorem dX12_assignment_37 : decode cX12_assignment 37 = .ok (.istore 4, 2) := by decide +kernel
theorem dX12_assignment_39 : decode cX12_assignment 39 = .ok (.aload_n 0, 1) := by decide +kernel
theorem dX12_assignment_40 : decode cX12_assignment 40 = .ok (.invokevirtual 320, 3) := by decide +kernel
theorem dX12_assignment_43 : decode cX12_assignment 43 = .ok (.ifCond .eq 70, 3) := by decide +kernel
theorem dX12_assignment_113 : decode cX12_assignment 113 = .ok (.aload_n 0, 1) := by decide +kernel
theorem dX12_assignment_114 : decode cX12_assignment 114 = .ok (.invokevirtual 327, 3) := by decide +kernel
theorem dX12_assignment_117 : decode cX12_assignment 117 = .ok (.ifCond .ne 5, 3) := by decide +kernel
theorem dX12_assignment_122 : decode cX12_assignment 122 = .ok (.aload_n 0, 1) := by decide +kernel
theorem dX12_assignment_123 : decode cX12_assignment 123 = .ok (.iconst 0, 1) := by decide +kernel
theorem dX12_assignment_124 : decode cX12_assignment 124 = .ok (.iload_n 1, 1) := by decide +kernel
theorem dX12_assignment_125 : decode cX12_assignment 125 = .ok (.iconst 0, 1) := by decide +kernel
theorem dX12_assignment_126 : decode cX12_assignment 126 = .ok (.invokevirtual 294, 3) := by decide +kernel
theorem dX12_assignment_129 : decode cX12_assignment 129 = .ok (.istore 5, 2) := by decide +kernel
theorem dX12_assignment_131 : decode cX12_assignment 131 = .ok (.aload_n 0, 1) := by decide +kernel
theorem dX12_assignment_132 : decode cX12_assignment 132 = .ok (.iload 5, 2) := by decide +kernel
theorem dX12_assignment_134 : decode cX12_assignment 134 = .ok (.iconst 0, 1) := by decide +kernel
theorem dX12_assignment_135 : decode cX12_assignment 135 = .ok (.aload_n 0, 1) := by decide +kernel
theorem dX12_assignment_136 : decode cX12_assignment 136 = .ok (.getfield 285, 3) := by decide +kernel
theorem dX12_assignment_139 : decode cX12_assignment 139 = .ok (.aload_n 0, 1) := by decide +kernel
theorem dX12_assignment_140 : decode cX12_assignment 140 = .ok (.getfield 288, 3) := by decide +kernel
theorem dX12_assignment_143 : decode cX12_assignment 143 = .ok (.invokevirtual 298, 3) := by decide +kernel
theorem dX12_assignment_146 : decode cX12_assignment 146 = .ok (.aload_n 0, 1) := by decide +kernel
theorem dX12_assignment_147 : decode cX12_assignment 147 = .ok (.iload_n 1, 1) := by decide +kernel
theorem dX12_assignment_148 : decode cX12_assignment 148 = .ok (.invokevirtual 359, 3) := by decide +kernel
theorem dX12_assignment_151 : decode cX12_assignment 151 = .ok (.aload_n 0, 1) := by decide +kernel
theorem dX12_assignment_152 : decode cX12_assignment 152 = .ok (.bipush 59, 2) := by decide +kernel
theorem dX12_assignment_154 : decode cX12_assignment 154 = .ok (.invokevirtual 330, 3) := by decide +kernel
theorem dX12_assignment_157 : decode cX12_assignment 157 = .ok (.ireturn, 1) := by decide +kernel
theorem dX12_assignment_120 : decode cX12_assignment 120 = .ok (.iconst 0, 1) := by decide +kernel
theorem dX12_assignment_121 : decode cX12_assignment 121 = .ok (.ireturn, 1) := by decide +kernel
theorem dX12_assignment_46 : decode cX12_assignment 46 = .ok (.aload_n 0, 1) := by decide +kernel
theorem dX12_assignment_47 : decode cX12_assignment 47 = .ok (.getfield 210, 3) := by decide +kernel
theorem dX12_assignment_50 : decode cX12_assignment 50 = .ok (.istore 5, 2) := by decide +kernel
theorem dX12_assignment_52 : decode cX12_assignment 52 = .ok (.aload_n 0, 1) := by decide +kernel
theorem dX12_assignment_53 : decode cX12_assignment 53 = .ok (.invokevirtual 265, 3) := by decide +kernel
theorem dX12_assignment_56 : decode cX12_assignment 56 = .ok (.aload_n 0, 1) := by decide +kernel
theorem dX12_assignment_57 : decode cX12_assignment 57 = .ok (.bipush 40, 2) := by decide +kernel
theorem dX12_assignment_59 : decode cX12_assignment 59 = .ok (.invokevirtual 258, 3) := by decide +kernel
theorem dX12_assignment_62 : decode cX12_assignment 62 = .ok (.ifCond .eq 29, 3) := by decide +kernel
theorem dX12_assignment_91 : decode cX12_assignment 91 = .ok (.aload_n 0, 1) := by decide +kernel
theorem dX12_assignment_92 : decode cX12_assignment 92 = .ok (.iload 5, 2) := by decide +kernel
theorem dX12_assignment_94 : decode cX12_assignment 94 = .ok (.putfield 210, 3) := by decide +kernel
theorem dX12_assignment_97 : decode cX12_assignment 97 = .ok (.aload_n 0, 1) := by decide +kernel
theorem dX12_assignment_98 : decode cX12_assignment 98 = .ok (.iload 4, 2) := by decide +kernel
theorem dX12_assignment_100 : decode cX12_assignment 100 = .ok (.putfield 216, 3) := by decide +kernel
theorem dX12_assignment_103 : decode cX12_assignment 103 = .ok (.aload_n 0, 1) := by decide +kernel
theorem dX12_assignment_104 : decode cX12_assignment 104 = .ok (.iconst 2, 1) := by decide +kernel
theorem dX12_assignment_105 : decode cX12_assignment 105 = .ok (.putfield 226, 3) := by decide +kernel
theorem dX12_assignment_108 : decode cX12_assignment 108 = .ok (.aload_n 0, 1) := by decide +kernel
theorem dX12_assignment_109 : decode cX12_assignment 109 = .ok (.lload_n 2, 1) := by decide +kernel
theorem dX12_assignment_110 : decode cX12_assignment 110 = .ok (.putfield 219, 3) := by decide +kernel
theorem dX12_assignment_65 : decode cX12_assignment 65 = .ok (.aload_n 0, 1) := by decide +kernel
theorem dX12_assignment_66 : decode cX12_assignment 66 = .ok (.iload_n 1, 1) := by decide +kernel
theorem dX12_assignment_67 : decode cX12_assignment 67 = .ok (.lload_n 2, 1) := by decide +kernel
theorem dX12_assignment_68 : decode cX12_assignment 68 = .ok (.iload 4, 2) := by decide +kernel
theorem dX12_assignment_70 : decode cX12_assignment 70 = .ok (.invokevirtual 355, 3) := by decide +kernel
theorem dX12_assignment_73 : decode cX12_assignment 73 = .ok (.ifCond .eq 16, 3) := by decide +kernel
theorem dX12_assignment_89 : decode cX12_assignment 89 = .ok (.iconst 0, 1) := by decide +kernel
theorem dX12_assignment_90 : decode cX12_assignment 90 = .ok (.ireturn, 1) := by decide +kernel
theorem dX12_assignment_76 : decode cX12_assignment 76 = .ok (.aload_n 0, 1) := by decide +kernel
theorem dX12_assignment_77 : decode cX12_assignment 77 = .ok (.bipush 59, 2) := by decide +kernel
theorem dX12_assignment_79 : decode cX12_assignment 79 = .ok (.invokevirtual 330, 3) := by decide +kernel
theorem dX12_assignment_82 : decode cX12_assignment 82 = .ok (.ifCond .eq 7, 3) := by decide +kernel
theorem dX12_assignment_85 : decode cX12_assignment 85 = .ok (.iconst 1, 1) := by decide +kernel
theorem dX12_assignment_86 : decode cX12_assignment 86 = .ok (.goto 4, 3) := by decide +kernel
theorem dX12_assignment_26 : decode cX12_assignment 26 = .ok (.iconst 0, 1) := by decide +kernel
theorem dX12_assignment_27 : decode cX12_assignment 27 = .ok (.ireturn, 1) := by decide +kernel
set_option maxHeartbeats 4000000 in
set_option maxRecDepth 20000 in
theorem c_X12_assignment (d : Nat) {b : Nat} {σ : MS} {ρ : MS} (hR : RG σ) (hln : LNP 1 ρ σ) (hli : LIT ρ σ) (hg : ∀ c : Int, GOS [20] ρ (qq c) [23] σ (qq c) []) (h28 : σ.1 28 = 0) (ht : 0 ≤ σ.1 43 ∧ σ.1 43 ≤ 260) : Tm (d + 43) m_X12_assignment 0 b σ [(0, .ref b)] [] (fun ro σ2 => ∃ v : Int, ro = some (.int (iI v)) ∧ ((v = 0 ∨ v = 1)) ∧ (Fr [19, 20, 22, 23, 26, 27, 28, 29, 31, 32, 33, 34, 39, 40] [3, 4, 5, 6, 7, 8, 35, 37, 41, 42] [24, 38] σ σ2) ∧ (RG σ2) ∧ (PBF ρ σ2) ∧ (Im v 1 (BLQ 20 2 ρ σ2)) ∧ (Im v 0 (∀ c : Int, GOF [20] ρ (qq c) σ2))) := by
  have tk0 := hln.tok.1
  have rd0 := hln.1.2
  have f0 := hln.2.2.1
  have e30_ := f0.1 30 (by decide)
  have e34_ := hln.2.2.2.2.1
  have nn0 : NN σ := hln.2.2.2.1.2.2.1
  have h0c := hln.h0
  have e28r : ρ.1 28 = 0 := (f0.1 28 (by decide)).symm.trans h28
  have e29r := f0.1 29 (by decide)
  have e33r := f0.1 33 (by decide)
  refine tm_aload_n dX12_assignment_0 rfl 0 rfl ?_
  refine tm_aload_n dX12_assignment_1 rfl 0 rfl ?_
  refine tm_getW (t := σ.2.2 24 0) dX12_assignment_2 fl12_219 (rfl) ?_
  refine tm_aload_n dX12_assignment_5 rfl 0 rfl ?_
  refine tm_getS (k := 19) (t := σ.1 19) dX12_assignment_6 (by decide) fl12_216 rfl (rfl) ?_
  have g1 := RG.s hR 19
  refine tm_callV (M := m_X12_assignment) (pc := 9) (ix := 323) (M' := m_X12_nameOf) (As := [.long (σ.2.2 24 0), .int (iI (σ.1 19))]) (rest := []) dX12_assignment_9 ok_X12_nameOf im_X12_nameOf se_X12_nameOf ml12_323 np_X12_nameOf rfl rfl (Nat.le_of_ble_eq_true rfl) (Nat.le_of_ble_eq_true rfl) rfl (c_X12_nameOf (d + 40) (σ := σ) (w := σ.2.2 24 0) (p := σ.1 19) hR nn0 (by omega) (by omega)) (fun r2 σ3 hp => ?_)
  obtain ⟨v4, rfl, f5, f6, f7, f8, f9⟩ := hp
  show Tm _ _ 12 b σ3 [(0, .ref b)] [.int (iI v4)] _
  have nm0 := f5
  have nm1 := f6
  have nm2 := f7
  have nm3 := f8
  have nm4 := f9
  refine tm_istore_n (L' := [(1, .int (iI v4)), (0, .ref b)]) dX12_assignment_12 rfl (by decide) rfl ?_
  refine tm_aload_n dX12_assignment_13 rfl 1 rfl ?_
  refine tm_callV (M := m_X12_assignment) (pc := 14) (ix := 265) (M' := m_X12_advance) (As := []) (rest := []) dX12_assignment_14 ok_X12_advance im_X12_advance se_X12_advance ml12_265 np_X12_advance rfl rfl (Nat.le_of_ble_eq_true rfl) (Nat.le_of_ble_eq_true rfl) rfl (c_X12_advance (d + 37) (σ := σ3)  f6 (by rw [nm0.1 20 (by decide), nm0.1 21 (by decide)]; omega)) (fun r10 σ11 hp => ?_)
  obtain ⟨rfl, f13, f14, f15, f16, f17⟩ := hp
  show Tm _ _ 17 b σ11 [(1, .int (iI v4)), (0, .ref b)] [] _
  have ad0 := f13
  have ad1 := f14
  have ad2 := f15
  have ad3 := f16
  have ad4 := f17
  have fA1 := (show Fr [19, 20, 22, 23, 26, 27] [35] [24, 38] σ σ11 from ((Fr.rfl.trans (Fr.sub f5 (by decide) (by decide) (by decide))).trans (Fr.sub f14 (by decide) (by decide) (by decide))))
  have pb1 : PBF σ σ11 := nm2.trans (PBF.nop nm2.2.2.1 ad1 (by decide) (by decide) (by decide))
  have g23_ : ∀ c : Int, GOS [23] σ (qq c) [161, 25] σ11 (qq c) [] := fun c => g23 (by rw [ad0.1, sv_fr nm0 (by decide) (by decide), nm0.1 20 (by decide)]) (ad0.2.1.trans (by unfold xs; rw [nm0.1 28 (by decide), nm0.1 29 (by decide), nm0.1 34 (by decide)])) (ad0.2.2.1.trans (sv_fr nm0 (by decide) (by decide))) (EFF.name (by rw [ad0.2.2.2, nm4]))
  have ts1 : TS 20 (2 - 1) ρ [161, 25] σ11 qq [] := TS.line hln (by decide) fA1 pb1 ad3 (by have z := ad4; rw [nm0.1 20 (by decide)] at z; exact z) ((hg _).then (g23_ _))
  have tk1 := ad3.1
  refine tm_aload_n dX12_assignment_17 rfl 1 rfl ?_
  refine tm_bipush dX12_assignment_18 (by decide) ?_
  refine tm_callV (M := m_X12_assignment) (pc := 20) (ix := 330) (M' := m_X12_need) (As := [.int (iI 61)]) (rest := []) dX12_assignment_20 ok_X12_need im_X12_need se_X12_need ml12_330 np_X12_need rfl rfl (Nat.le_of_ble_eq_true rfl) (Nat.le_of_ble_eq_true rfl) rfl (c_X12_need (d + 36) (σ := σ11) (c := 61) f15 (by omega) (by omega)) (fun r18 σ19 hp => ?_)
  obtain ⟨v20, rfl, f21, f22, f23, f24, f25, f26, f27⟩ := hp
  show Tm _ _ 23 b σ19 [(1, .int (iI v4)), (0, .ref b)] [.int (iI v20)] _
  have yn0 := f21
  have yn1 := f22
  have yn2 := f23
  have yn3 := f24
  have yn4 := f25
  have yn5 := f26
  have yn6 := f27
  refine tm_if_ne (tgt := 28) dX12_assignment_23 (by decide) ⟨by omega, by omega⟩ (fun h32 => ?_) (fun h32 => ?_)
  · have ynq := yn3 (by omega)
    have ts2 := ts1.needy yn1 ynq.2.2.1 ynq.2.2.2.1 ynq.2.2.2.2 (by have z := ynq.1.1; omega) (gn_61 ynq.1 ynq.2.1)
    have pq2 : PBF σ σ19 := pb1.trans (PBF.of ts1.nn yn1 (by decide) (by decide) (by decide) yn5)
    have e342 : σ19.1 34 = σ.1 34 := rs_F f22 (by decide) (rs_F f14 (by decide) (rs_F f5 (by decide) (rfl)))
    have e282 : σ19.1 28 = σ.1 28 := rs_F f22 (by decide) (rs_F f14 (by decide) (rs_F f5 (by decide) (rfl)))
    have R28 := f23
    have tk2 := ts2.2.2.1.1.1
    refine tm_aload_n dX12_assignment_28 rfl 1 rfl ?_
    refine tm_getW (t := σ19.2.2 24 0) dX12_assignment_29 fl12_219 (rfl) ?_
    refine tm_lstore_n (L' := [(2, .long (σ19.2.2 24 0)), (1, .int (iI v4)), (0, .ref b)]) dX12_assignment_32 rfl (by decide) rfl ?_
    refine tm_aload_n dX12_assignment_33 rfl 2 rfl ?_
    refine tm_getS (k := 19) (t := σ19.1 19) dX12_assignment_34 (by decide) fl12_216 rfl (rfl) ?_
    have g33 := RG.s f23 19
    refine tm_istore (L' := [(4, .int (iI (σ19.1 19))), (2, .long (σ19.2.2 24 0)), (1, .int (iI v4)), (0, .ref b)]) dX12_assignment_37 (by decide) rfl ?_
    refine tm_aload_n dX12_assignment_39 rfl 3 rfl ?_
    refine tm_callV (M := m_X12_assignment) (pc := 40) (ix := 320) (M' := m_X12_isName) (As := []) (rest := []) dX12_assignment_40 ok_X12_isName im_X12_isName se_X12_isName ml12_320 np_X12_isName rfl rfl (Nat.le_of_ble_eq_true rfl) (Nat.le_of_ble_eq_true rfl) rfl (c2_X12_isName (d + 41) (σ := σ19)  f23) (fun r34 σ35 hp => ?_)
    obtain ⟨v36, rfl, rfl, f37, f38, f39⟩ := hp
    show Tm _ _ 43 b σ19 [(4, .int (iI (σ19.1 19))), (2, .long (σ19.2.2 24 0)), (1, .int (iI v4)), (0, .ref b)] [.int (iI v36)] _
    have inm := f38
    have nnm_ := f39
    refine tm_if_eq (tgt := 113) dX12_assignment_43 (by decide) ⟨by omega, by omega⟩ (fun h40 => ?_) (fun h40 => ?_)
    · have ts3 := ts2.nxt (g25n (nnm_ (by omega)))
      have pq3 := pq2
      have e343 := e342
      have e283 : σ19.1 28 = 0 := e282.trans h28
      refine tm_aload_n dX12_assignment_113 rfl 3 rfl ?_
      refine tm_callV (M := m_X12_assignment) (pc := 114) (ix := 327) (M' := m_X12_expression) (As := []) (rest := []) dX12_assignment_114 ok_X12_expression im_X12_expression se_X12_expression ml12_327 np_X12_expression rfl rfl (Nat.le_of_ble_eq_true rfl) (Nat.le_of_ble_eq_true rfl) rfl (c_exp8 (d + 2) (σ := σ19)  f23 ts3.2.2.1 ts3.nn e283) (fun r41 σ42 hp => ?_)
      obtain ⟨v43, rfl, f44, f45, f46, f47, f48, f49, f50⟩ := hp
      show Tm _ _ 117 b σ42 [(4, .int (iI (σ19.1 19))), (2, .long (σ19.2.2 24 0)), (1, .int (iI v4)), (0, .ref b)] [.int (iI v43)] _
      have xp0 := f44
      have xp1 := f45
      have xp2 := f46
      have xp3 := f47
      have xp4 := f48
      have xp5 := f49
      have xp6 := f50
      refine tm_if_ne (tgt := 122) dX12_assignment_117 (by decide) ⟨by omega, by omega⟩ (fun h51 => ?_) (fun h51 => ?_)
      · have ts4 := ts3.exp xp1 xp3 (xp4 (by omega)) (xp5.1 (by omega))
        have ex4 := xp4 (by omega)
        have gt := ex4.2.2.1
        unfold GTm at gt
        have rdx := ts4.2.2.1.2
        have tkx := ts4.2.2.1.1.1
        have pq4 := pq3.trans xp3
        have ac4 : AC σ σ42 := (AC.nil e343).trans pq3 ex4.2.2.2.1 xp3 (by omega)
        have e284 : σ42.1 28 = 0 := xp6.trans e283
        have e334 : σ42.1 33 = σ.1 33 := rs_F f45 (by decide) (rs_F f22 (by decide) (rs_F f14 (by decide) (rs_F f5 (by decide) (rfl))))
        refine tm_aload_n dX12_assignment_122 rfl 3 rfl ?_
        refine tm_iconst dX12_assignment_123 ?_
        refine tm_iload_n dX12_assignment_124 rfl 2 rfl ?_
        refine tm_iconst dX12_assignment_125 ?_
        refine tm_callV (M := m_X12_assignment) (pc := 126) (ix := 294) (M' := m_X12_put) (As := [.int (iI 0), .int (iI v4), .int (iI 0)]) (rest := []) dX12_assignment_126 ok_X12_put im_X12_put se_X12_put ml12_294 np_X12_put rfl rfl (Nat.le_of_ble_eq_true rfl) (Nat.le_of_ble_eq_true rfl) rfl (c_X12_put (d + 40) (σ := σ42) (k := 0) (e := v4) (o := 0) f46 (by omega) (by omega) (by omega) (by omega)) (fun r52 σ53 hp => ?_)
        obtain ⟨v54, rfl, f55, f56, f57, f58, f59, f60, f61⟩ := hp
        show Tm _ _ 129 b σ53 [(4, .int (iI (σ19.1 19))), (2, .long (σ19.2.2 24 0)), (1, .int (iI v4)), (0, .ref b)] [.int (iI v54)] _
        have jvP := f57
        have jnP := f58
        have jiP := f59
        have joP := f60
        have jrP := f61
        refine tm_istore (L' := [(5, .int (iI v54)), (4, .int (iI (σ19.1 19))), (2, .long (σ19.2.2 24 0)), (1, .int (iI v4)), (0, .ref b)]) dX12_assignment_129 (by decide) rfl ?_
        refine tm_aload_n dX12_assignment_131 rfl 4 rfl ?_
        refine tm_iload dX12_assignment_132 0 rfl ?_
        refine tm_iconst dX12_assignment_134 ?_
        refine tm_aload_n dX12_assignment_135 rfl 4 rfl ?_
        refine tm_getS (k := 39) (t := σ42.1 39) dX12_assignment_136 (by decide) fl12_285 rfl (rs_F f55 (by decide) (rfl)) ?_
        have g62 := RG.s f46 39
        refine tm_aload_n dX12_assignment_139 rfl 4 rfl ?_
        refine tm_getS (k := 40) (t := σ42.1 40) dX12_assignment_140 (by decide) fl12_288 rfl (rs_F f55 (by decide) (rfl)) ?_
        have g63 := RG.s f46 40
        refine tm_callV (M := m_X12_assignment) (pc := 143) (ix := 298) (M' := m_X12_setArg) (As := [.int (iI v54), .int (iI 0), .int (iI (σ42.1 39)), .int (iI (σ42.1 40))]) (rest := []) dX12_assignment_143 ok_X12_setArg im_X12_setArg se_X12_setArg ml12_298 np_X12_setArg rfl rfl (Nat.le_of_ble_eq_true rfl) (Nat.le_of_ble_eq_true rfl) rfl (c_X12_setArg (d + 41) (σ := σ53) (x := v54) (i := 0) (k := σ42.1 39) (w := σ42.1 40) (by omega)) (fun r64 σ65 hp => ?_)
        obtain ⟨rfl, f67⟩ := hp
        subst f67
        show Tm _ _ 146 b (fArg (v54) (0) (σ42.1 39) (σ42.1 40) σ53) [(5, .int (iI v54)), (4, .int (iI (σ19.1 19))), (2, .long (σ19.2.2 24 0)), (1, .int (iI v4)), (0, .ref b)] [] _
        have jvP : _ = PXx σ42 := jvP
        have fAP := (show Fr [33, 34] [3, 4, 5, 6, 7, 8] [] σ42 (fArg (v54) (0) (σ42.1 39) (σ42.1 40) σ53) from ((Fr.rfl.trans (Fr.sub f55 (by decide) (by decide) (by decide))).trans (Fr.sub fArg_fr (by decide) (by decide) (by decide))))
        have eAP : (fArg (v54) (0) (σ42.1 39) (σ42.1 40) σ53).1 34 = σ42.1 34 + 1 := jnP
        have pbP : PBF σ42 (fArg (v54) (0) (σ42.1 39) (σ42.1 40) σ53) := PBF.it ts4.nn fAP (by decide) (by decide) (by decide) eAP jvP (joP.trans (OFF.arg (by decide) (by decide)))
        have tbP : TBm σ42 (fArg (v54) (0) (σ42.1 39) (σ42.1 40) σ53) := TBm.of fAP (by decide) (by decide) (by decide) (by decide)
        refine tm_aload_n dX12_assignment_146 rfl 4 rfl ?_
        refine tm_iload_n dX12_assignment_147 rfl 3 rfl ?_
        refine tm_callV (M := m_X12_assignment) (pc := 148) (ix := 359) (M' := m_X12_bind) (As := [.int (iI v4)]) (rest := []) dX12_assignment_148 ok_X12_bind im_X12_bind se_X12_bind ml12_359 np_X12_bind rfl rfl (Nat.le_of_ble_eq_true rfl) (Nat.le_of_ble_eq_true rfl) rfl (c_X12_bind (d + 39) (σ := (fArg (v54) (0) (σ42.1 39) (σ42.1 40) σ53)) (k := v4) ((f56).arg (by omega) (by omega)) (by rw [show (fArg (v54) (0) (σ42.1 39) (σ42.1 40) σ53).1 30 = σ42.1 30 from fAP.1 30 (by decide), eAP]; omega) (by omega)) (fun r68 σ69 hp => ?_)
        obtain ⟨rfl, f71, f72, f73, f74, f75, f76⟩ := hp
        show Tm _ _ 151 b σ69 [(5, .int (iI v54)), (4, .int (iI (σ19.1 19))), (2, .long (σ19.2.2 24 0)), (1, .int (iI v4)), (0, .ref b)] [] _
        have pbB : PBF (fArg (v54) (0) (σ42.1 39) (σ42.1 40) σ53) σ69 := PBF.it pbP.2.2.1 f71 (by decide) (by decide) (by decide) f73 rfl f74
        have fB := (show Fr [33, 34] [3, 4, 5, 6, 7, 8] [] σ42 σ69 from (((Fr.rfl.trans (Fr.sub f55 (by decide) (by decide) (by decide))).trans (Fr.sub fArg_fr (by decide) (by decide) (by decide))).trans (Fr.sub f71 (by decide) (by decide) (by decide))))
        have fC := (show Fr [34] [3, 4, 5, 6, 7, 8] [] σ42 σ69 from (((Fr.rfl.trans (Fr.sub f55 (by decide) (by decide) (by decide))).trans (Fr.sub fArg_fr (by decide) (by decide) (by decide))).trans (Fr.sub f71 (by decide) (by decide) (by decide))))
        have tbB : TBm (fArg (v54) (0) (σ42.1 39) (σ42.1 40) σ53) σ69 := TBm.of f71 (by decide) (by decide) (by decide) (by decide)
        have eB : σ69.1 34 = σ42.1 34 + 2 := by rw [f73, eAP]; omega
        have e33B : σ69.1 33 = σ42.1 33 := fC.1 33 (by decide)
        have tsB := ts4.puts (m := 2) fB (pbP.trans pbB) eB (by omega) (by decide) hln.1 (g52 (CHG.put fB (by decide) (by decide) (by decide) eB))
        have asA : ASF σ (fArg (v54) (0) (σ42.1 39) (σ42.1 40) σ53) [] := (ASF.num ac4 pq4 (by omega)).snoc pq4 pbP tbP eAP (fun z1 z2 z3 => by rw [← jvP]; exact oki_arg1 jiP (Or.inl rfl) (fun _ => by omega) (fun q => absurd q (by decide)) (by omega)) (Or.inl (by rw [← jvP]; exact jiP.1)) (by omega)
        have asB : ASF σ σ69 [] := asA.snoc (pq4.trans pbP) pbB tbB f73 (fun _ _ _ => f75) (Or.inr (Or.inr (Or.inr f76))) (by omega)
        have pqB := pq4.trans (pbP.trans pbB)
        have e28B : σ69.1 28 = 0 := (fC.1 28 (by decide)).trans e284
        have tkB := tsB.2.2.1.1.1
        have e29B : σ69.1 29 = σ.1 29 := rs_F f71 (by decide) (rs_F fArg_fr (by decide) (rs_F f55 (by decide) (rs_F f45 (by decide) (rs_F f22 (by decide) (rs_F f14 (by decide) (rs_F f5 (by decide) (rfl)))))))
        have tbS : TBm σ σ69 := TBm.of (show Fr [19, 20, 22, 23, 26, 27, 28, 32, 34, 39, 40] [3, 4, 5, 6, 7, 8, 35] [24, 38] σ σ69 from (((((((Fr.rfl.trans (Fr.sub f5 (by decide) (by decide) (by decide))).trans (Fr.sub f14 (by decide) (by decide) (by decide))).trans (Fr.sub f22 (by decide) (by decide) (by decide))).trans (Fr.sub f45 (by decide) (by decide) (by decide))).trans (Fr.sub f55 (by decide) (by decide) (by decide))).trans (Fr.sub fArg_fr (by decide) (by decide) (by decide))).trans (Fr.sub f71 (by decide) (by decide) (by decide)))) (by decide) (by decide) (by decide) (by decide)
        refine tm_aload_n dX12_assignment_151 rfl 4 rfl ?_
        refine tm_bipush dX12_assignment_152 (by decide) ?_
        refine tm_callV (M := m_X12_assignment) (pc := 154) (ix := 330) (M' := m_X12_need) (As := [.int (iI 59)]) (rest := []) dX12_assignment_154 ok_X12_need im_X12_need se_X12_need ml12_330 np_X12_need rfl rfl (Nat.le_of_ble_eq_true rfl) (Nat.le_of_ble_eq_true rfl) rfl (c_X12_need (d + 36) (σ := σ69) (c := 59) f72 (by omega) (by omega)) (fun r77 σ78 hp => ?_)
        obtain ⟨v79, rfl, f80, f81, f82, f83, f84, f85, f86⟩ := hp
        show Tm _ _ 157 b σ78 [(5, .int (iI v54)), (4, .int (iI (σ19.1 19))), (2, .long (σ19.2.2 24 0)), (1, .int (iI v4)), (0, .ref b)] [.int (iI v79)] _
        have zn0 := f80
        have zn1 := f81
        have zn2 := f82
        have zn3 := f83
        have zn4 := f84
        have zn5 := f85
        have zn6 := f86
        have pbN : PBF _ σ78 := PBF.of tsB.nn zn1 (by decide) (by decide) (by decide) zn5
        have pqN := pqB.trans pbN
        have e33N : σ78.1 33 = σ.1 33 := rs_F f81 (by decide) (rs_F f71 (by decide) (rs_F fArg_fr (by decide) (rs_F f55 (by decide) (rs_F f45 (by decide) (rs_F f22 (by decide) (rs_F f14 (by decide) (rs_F f5 (by decide) (rfl))))))))
        exact tm_zret (v := v79) rfl (by omega) dX12_assignment_157 (⟨_, rfl, zn0, ((((((((Fr.rfl.trans (Fr.sub f5 (by decide) (by decide) (by decide))).trans (Fr.sub f14 (by decide) (by decide) (by decide))).trans (Fr.sub f22 (by decide) (by decide) (by decide))).trans (Fr.sub f45 (by decide) (by decide) (by decide))).trans (Fr.sub f55 (by decide) (by decide) (by decide))).trans (Fr.sub fArg_fr (by decide) (by decide) (by decide))).trans (Fr.sub f71 (by decide) (by decide) (by decide))).trans (Fr.sub f81 (by decide) (by decide) (by decide))), f82, tsB.1.trans pbN, fun z => have znq := zn3 z; ⟨[], (tsB.needy zn1 znq.2.2.1 znq.2.2.2.1 znq.2.2.2.2 (by have z := znq.1.1; omega) (gn_59 znq.1 znq.2.1)).le (by decide), SGF.line e34_.1 hli hln.2.2.2.1 pqN hln.tb (tbS.trans (TBm.of zn1 (by decide) (by decide) (by decide) (by decide))) (by omega) (asB.mv pqB pbN (TBm.of zn1 (by decide) (by decide) (by decide) (by decide)) (zn1.1 34 (by decide)) (by omega)) h0c, FS.of hli e34_.1 hln.2.2.2.1 pqN h0c, ((zn1.1 28 (by decide)).trans e28B).trans e28r.symm, ((show σ78.1 29 = σ.1 29 from rs_F f81 (by decide) (rs_F f71 (by decide) (rs_F fArg_fr (by decide) (rs_F f55 (by decide) (rs_F f45 (by decide) (rs_F f22 (by decide) (rs_F f14 (by decide) (rs_F f5 (by decide) (rfl))))))))).trans e29r)⟩, fun z => (tsB.fail pbN (gf_59 (zn4 z) (zn6 z))).2⟩)
      · refine tm_iconst dX12_assignment_120 ?_
        exact tm_zret (v := 0) rfl (by decide) dX12_assignment_121 (⟨_, rfl, by omega, ((((Fr.rfl.trans (Fr.sub f5 (by decide) (by decide) (by decide))).trans (Fr.sub f14 (by decide) (by decide) (by decide))).trans (Fr.sub f22 (by decide) (by decide) (by decide))).trans (Fr.sub f45 (by decide) (by decide) (by decide))), f46, (ts3.fail xp3 (xp5.2 (by omega) _)).1, fun q => absurd q (by omega), fun _ => (ts3.fail xp3 (xp5.2 (by omega) _)).2⟩)
    · refine tm_aload_n dX12_assignment_46 rfl 3 rfl ?_
      refine tm_getS (k := 20) (t := σ19.1 20) dX12_assignment_47 (by decide) fl12_210 rfl (rfl) ?_
      have g87 := RG.s f23 20
      refine tm_istore (L' := [(5, .int (iI (σ19.1 20))), (4, .int (iI (σ19.1 19))), (2, .long (σ19.2.2 24 0)), (1, .int (iI v4)), (0, .ref b)]) dX12_assignment_50 (by decide) rfl ?_
      refine tm_aload_n dX12_assignment_52 rfl 4 rfl ?_
      refine tm_callV (M := m_X12_assignment) (pc := 53) (ix := 265) (M' := m_X12_advance) (As := []) (rest := []) dX12_assignment_53 ok_X12_advance im_X12_advance se_X12_advance ml12_265 np_X12_advance rfl rfl (Nat.le_of_ble_eq_true rfl) (Nat.le_of_ble_eq_true rfl) rfl (c_X12_advance (d + 37) (σ := σ19)  f23 (by omega)) (fun r88 σ89 hp => ?_)
      obtain ⟨rfl, f91, f92, f93, f94, f95⟩ := hp
      show Tm _ _ 56 b σ89 [(5, .int (iI (σ19.1 20))), (4, .int (iI (σ19.1 19))), (2, .long (σ19.2.2 24 0)), (1, .int (iI v4)), (0, .ref b)] [] _
      have bd0 := f91
      have bd1 := f92
      have bd2 := f93
      have bd3 := f94
      have bd4 := f95
      refine tm_aload_n dX12_assignment_56 rfl 4 rfl ?_
      refine tm_bipush dX12_assignment_57 (by decide) ?_
      refine tm_callV (M := m_X12_assignment) (pc := 59) (ix := 258) (M' := m_X12_isSign) (As := [.int (iI 40)]) (rest := []) dX12_assignment_59 ok_X12_isSign im_X12_isSign se_X12_isSign ml12_258 np_X12_isSign rfl rfl (Nat.le_of_ble_eq_true rfl) (Nat.le_of_ble_eq_true rfl) rfl (c2_X12_isSign (d + 41) (σ := σ89) (c := 40) f93 (by omega)) (fun r96 σ97 hp => ?_)
      obtain ⟨v98, rfl, rfl, f99, f100, f101⟩ := hp
      show Tm _ _ 62 b σ89 [(5, .int (iI (σ19.1 20))), (4, .int (iI (σ19.1 19))), (2, .long (σ19.2.2 24 0)), (1, .int (iI v4)), (0, .ref b)] [.int (iI v98)] _
      have i40 := f100
      have n40_ := f101
      refine tm_if_eq (tgt := 91) dX12_assignment_62 (by decide) ⟨by omega, by omega⟩ (fun h102 => ?_) (fun h102 => ?_)
      · refine tm_aload_n dX12_assignment_91 rfl 4 rfl ?_
        refine tm_iload dX12_assignment_92 0 rfl ?_
        refine tm_putS (k := 20) (v := σ19.1 20) lay_12 dX12_assignment_94 (by decide) fl12_210 rfl (tyX12_ok 20 (by decide)) rfl rfl rfl ?_
        refine tm_aload_n dX12_assignment_97 rfl 4 rfl ?_
        refine tm_iload dX12_assignment_98 1 rfl ?_
        refine tm_putS (k := 19) (v := σ19.1 19) lay_12 dX12_assignment_100 (by decide) fl12_216 rfl (tyX12_ok 19 (by decide)) rfl rfl rfl ?_
        refine tm_aload_n dX12_assignment_103 rfl 4 rfl ?_
        refine tm_iconst dX12_assignment_104 ?_
        refine tm_putS (k := 22) (v := 2) lay_12 dX12_assignment_105 (by decide) fl12_226 rfl (tyX12_ok 22 (by decide)) rfl rfl rfl ?_
        refine tm_aload_n dX12_assignment_108 rfl 4 rfl ?_
        refine tm_lload_n dX12_assignment_109 rfl 2 rfl ?_
        refine tm_putW lay_12 dX12_assignment_110 fl12_219 ?_
        have fk := (show Fr [19, 20, 22, 23] [] [24] σ19 (sJ 24 0 (σ19.2.2 24 0) (sS 22 2 (sS 19 (σ19.1 19) (sS 20 (σ19.1 20) σ89)))) from (((((Fr.rfl.trans (Fr.sub f92 (by decide) (by decide) (by decide))).S (by decide)).S (by decide)).S (by decide)).J (by decide)))
        have v19 : (sJ 24 0 (σ19.2.2 24 0) (sS 22 2 (sS 19 (σ19.1 19) (sS 20 (σ19.1 20) σ89)))).1 19 = σ19.1 19 := rs_J (rs_o (by decide) (rs_eq))
        have v20 : (sJ 24 0 (σ19.2.2 24 0) (sS 22 2 (sS 19 (σ19.1 19) (sS 20 (σ19.1 20) σ89)))).1 20 = σ19.1 20 := rs_J (rs_o (by decide) (rs_o (by decide) (rs_eq)))
        have v22 : (sJ 24 0 (σ19.2.2 24 0) (sS 22 2 (sS 19 (σ19.1 19) (sS 20 (σ19.1 20) σ89)))).1 22 = 2 := rs_J (rs_eq)
        have v23 : (sJ 24 0 (σ19.2.2 24 0) (sS 22 2 (sS 19 (σ19.1 19) (sS 20 (σ19.1 20) σ89)))).1 23 = σ89.1 23 := rs_J (rs_o (by decide) (rs_o (by decide) (rs_o (by decide) (rfl))))
        have v24 : (sJ 24 0 (σ19.2.2 24 0) (sS 22 2 (sS 19 (σ19.1 19) (sS 20 (σ19.1 20) σ89)))).2.2 24 0 = σ19.2.2 24 0 := rj_eq
        have ts3 := ts2.back fk ⟨v19, v20, v22⟩ (by have z := (inm (by omega)).1; omega) (by rw [v23]; exact bd3.2.2.2) (g25b (inm (by omega)) bd0 (n40_ (by omega)) (by unfold tks; rw [v19, v20, v22, v23, v24]) (by unfold xs; rw [fk.1 28 (by decide), fk.1 29 (by decide), fk.1 34 (by decide)]) (sv_fr fk (by decide) (by decide)) (srt_fr fk (by decide) (by decide) (by decide)))
        have pq3 : PBF σ (sJ 24 0 (σ19.2.2 24 0) (sS 22 2 (sS 19 (σ19.1 19) (sS 20 (σ19.1 20) σ89)))) := pq2.trans (PBF.nop pq2.2.2.1 fk (by decide) (by decide) (by decide))
        have e343 : (sJ 24 0 (σ19.2.2 24 0) (sS 22 2 (sS 19 (σ19.1 19) (sS 20 (σ19.1 20) σ89)))).1 34 = σ.1 34 := (fk.1 34 (by decide)).trans e342
        have e283 : (sJ 24 0 (σ19.2.2 24 0) (sS 22 2 (sS 19 (σ19.1 19) (sS 20 (σ19.1 20) σ89)))).1 28 = 0 := (fk.1 28 (by decide)).trans (e282.trans h28)
        refine tm_aload_n dX12_assignment_113 rfl 4 rfl ?_
        refine tm_callV (M := m_X12_assignment) (pc := 114) (ix := 327) (M' := m_X12_expression) (As := []) (rest := []) dX12_assignment_114 ok_X12_expression im_X12_expression se_X12_expression ml12_327 np_X12_expression rfl rfl (Nat.le_of_ble_eq_true rfl) (Nat.le_of_ble_eq_true rfl) rfl (c_exp8 (d + 2) (σ := (sJ 24 0 (σ19.2.2 24 0) (sS 22 2 (sS 19 (σ19.1 19) (sS 20 (σ19.1 20) σ89)))))  ((((f93.S (by omega)).S (by omega)).S (by omega)).J) ts3.2.2.1 ts3.nn e283) (fun r103 σ104 hp => ?_)
        obtain ⟨v105, rfl, f106, f107, f108, f109, f110, f111, f112⟩ := hp
        show Tm _ _ 117 b σ104 [(5, .int (iI (σ19.1 20))), (4, .int (iI (σ19.1 19))), (2, .long (σ19.2.2 24 0)), (1, .int (iI v4)), (0, .ref b)] [.int (iI v105)] _
        have xp0 := f106
        have xp1 := f107
        have xp2 := f108
        have xp3 := f109
        have xp4 := f110
        have xp5 := f111
        have xp6 := f112
        refine tm_if_ne (tgt := 122) dX12_assignment_117 (by decide) ⟨by omega, by omega⟩ (fun h113 => ?_) (fun h113 => ?_)
        · have ts4 := ts3.exp xp1 xp3 (xp4 (by omega)) (xp5.1 (by omega))
          have ex4 := xp4 (by omega)
          have gt := ex4.2.2.1
          unfold GTm at gt
          have rdx := ts4.2.2.1.2
          have tkx := ts4.2.2.1.1.1
          have pq4 := pq3.trans xp3
          have ac4 : AC σ σ104 := (AC.nil e343).trans pq3 ex4.2.2.2.1 xp3 (by omega)
          have e284 : σ104.1 28 = 0 := xp6.trans e283
          have e334 : σ104.1 33 = σ.1 33 := rs_F f107 (by decide) (rs_J (rs_o (by decide) (rs_o (by decide) (rs_o (by decide) (rs_F f92 (by decide) (rs_F f22 (by decide) (rs_F f14 (by decide) (rs_F f5 (by decide) (rfl)))))))))
          refine tm_aload_n dX12_assignment_122 rfl 4 rfl ?_
          refine tm_iconst dX12_assignment_123 ?_
          refine tm_iload_n dX12_assignment_124 rfl 3 rfl ?_
          refine tm_iconst dX12_assignment_125 ?_
          refine tm_callV (M := m_X12_assignment) (pc := 126) (ix := 294) (M' := m_X12_put) (As := [.int (iI 0), .int (iI v4), .int (iI 0)]) (rest := []) dX12_assignment_126 ok_X12_put im_X12_put se_X12_put ml12_294 np_X12_put rfl rfl (Nat.le_of_ble_eq_true rfl) (Nat.le_of_ble_eq_true rfl) rfl (c_X12_put (d + 40) (σ := σ104) (k := 0) (e := v4) (o := 0) f108 (by omega) (by omega) (by omega) (by omega)) (fun r114 σ115 hp => ?_)
          obtain ⟨v116, rfl, f117, f118, f119, f120, f121, f122, f123⟩ := hp
          show Tm _ _ 129 b σ115 [(5, .int (iI (σ19.1 20))), (4, .int (iI (σ19.1 19))), (2, .long (σ19.2.2 24 0)), (1, .int (iI v4)), (0, .ref b)] [.int (iI v116)] _
          have jvP := f119
          have jnP := f120
          have jiP := f121
          have joP := f122
          have jrP := f123
          refine tm_istore (L' := [(5, .int (iI v116)), (4, .int (iI (σ19.1 19))), (2, .long (σ19.2.2 24 0)), (1, .int (iI v4)), (0, .ref b)]) dX12_assignment_129 (by decide) rfl ?_
          refine tm_aload_n dX12_assignment_131 rfl 4 rfl ?_
          refine tm_iload dX12_assignment_132 0 rfl ?_
          refine tm_iconst dX12_assignment_134 ?_
          refine tm_aload_n dX12_assignment_135 rfl 4 rfl ?_
          refine tm_getS (k := 39) (t := σ104.1 39) dX12_assignment_136 (by decide) fl12_285 rfl (rs_F f117 (by decide) (rfl)) ?_
          have g124 := RG.s f108 39
          refine tm_aload_n dX12_assignment_139 rfl 4 rfl ?_
          refine tm_getS (k := 40) (t := σ104.1 40) dX12_assignment_140 (by decide) fl12_288 rfl (rs_F f117 (by decide) (rfl)) ?_
          have g125 := RG.s f108 40
          refine tm_callV (M := m_X12_assignment) (pc := 143) (ix := 298) (M' := m_X12_setArg) (As := [.int (iI v116), .int (iI 0), .int (iI (σ104.1 39)), .int (iI (σ104.1 40))]) (rest := []) dX12_assignment_143 ok_X12_setArg im_X12_setArg se_X12_setArg ml12_298 np_X12_setArg rfl rfl (Nat.le_of_ble_eq_true rfl) (Nat.le_of_ble_eq_true rfl) rfl (c_X12_setArg (d + 41) (σ := σ115) (x := v116) (i := 0) (k := σ104.1 39) (w := σ104.1 40) (by omega)) (fun r126 σ127 hp => ?_)
          obtain ⟨rfl, f129⟩ := hp
          subst f129
          show Tm _ _ 146 b (fArg (v116) (0) (σ104.1 39) (σ104.1 40) σ115) [(5, .int (iI v116)), (4, .int (iI (σ19.1 19))), (2, .long (σ19.2.2 24 0)), (1, .int (iI v4)), (0, .ref b)] [] _
          have jvP : _ = PXx σ104 := jvP
          have fAP := (show Fr [33, 34] [3, 4, 5, 6, 7, 8] [] σ104 (fArg (v116) (0) (σ104.1 39) (σ104.1 40) σ115) from ((Fr.rfl.trans (Fr.sub f117 (by decide) (by decide) (by decide))).trans (Fr.sub fArg_fr (by decide) (by decide) (by decide))))
          have eAP : (fArg (v116) (0) (σ104.1 39) (σ104.1 40) σ115).1 34 = σ104.1 34 + 1 := jnP
          have pbP : PBF σ104 (fArg (v116) (0) (σ104.1 39) (σ104.1 40) σ115) := PBF.it ts4.nn fAP (by decide) (by decide) (by decide) eAP jvP (joP.trans (OFF.arg (by decide) (by decide)))
          have tbP : TBm σ104 (fArg (v116) (0) (σ104.1 39) (σ104.1 40) σ115) := TBm.of fAP (by decide) (by decide) (by decide) (by decide)
          refine tm_aload_n dX12_assignment_146 rfl 4 rfl ?_
          refine tm_iload_n dX12_assignment_147 rfl 3 rfl ?_
          refine tm_callV (M := m_X12_assignment) (pc := 148) (ix := 359) (M' := m_X12_bind) (As := [.int (iI v4)]) (rest := []) dX12_assignment_148 ok_X12_bind im_X12_bind se_X12_bind ml12_359 np_X12_bind rfl rfl (Nat.le_of_ble_eq_true rfl) (Nat.le_of_ble_eq_true rfl) rfl (c_X12_bind (d + 39) (σ := (fArg (v116) (0) (σ104.1 39) (σ104.1 40) σ115)) (k := v4) ((f118).arg (by omega) (by omega)) (by rw [show (fArg (v116) (0) (σ104.1 39) (σ104.1 40) σ115).1 30 = σ104.1 30 from fAP.1 30 (by decide), eAP]; omega) (by omega)) (fun r130 σ131 hp => ?_)
          obtain ⟨rfl, f133, f134, f135, f136, f137, f138⟩ := hp
          show Tm _ _ 151 b σ131 [(5, .int (iI v116)), (4, .int (iI (σ19.1 19))), (2, .long (σ19.2.2 24 0)), (1, .int (iI v4)), (0, .ref b)] [] _
          have pbB : PBF (fArg (v116) (0) (σ104.1 39) (σ104.1 40) σ115) σ131 := PBF.it pbP.2.2.1 f133 (by decide) (by decide) (by decide) f135 rfl f136
          have fB := (show Fr [33, 34] [3, 4, 5, 6, 7, 8] [] σ104 σ131 from (((Fr.rfl.trans (Fr.sub f117 (by decide) (by decide) (by decide))).trans (Fr.sub fArg_fr (by decide) (by decide) (by decide))).trans (Fr.sub f133 (by decide) (by decide) (by decide))))
          have fC := (show Fr [34] [3, 4, 5, 6, 7, 8] [] σ104 σ131 from (((Fr.rfl.trans (Fr.sub f117 (by decide) (by decide) (by decide))).trans (Fr.sub fArg_fr (by decide) (by decide) (by decide))).trans (Fr.sub f133 (by decide) (by decide) (by decide))))
          have tbB : TBm (fArg (v116) (0) (σ104.1 39) (σ104.1 40) σ115) σ131 := TBm.of f133 (by decide) (by decide) (by decide) (by decide)
          have eB : σ131.1 34 = σ104.1 34 + 2 := by rw [f135, eAP]; omega
          have e33B : σ131.1 33 = σ104.1 33 := fC.1 33 (by decide)
          have tsB := ts4.puts (m := 2) fB (pbP.trans pbB) eB (by omega) (by decide) hln.1 (g52 (CHG.put fB (by decide) (by decide) (by decide) eB))
          have asA : ASF σ (fArg (v116) (0) (σ104.1 39) (σ104.1 40) σ115) [] := (ASF.num ac4 pq4 (by omega)).snoc pq4 pbP tbP eAP (fun z1 z2 z3 => by rw [← jvP]; exact oki_arg1 jiP (Or.inl rfl) (fun _ => by omega) (fun q => absurd q (by decide)) (by omega)) (Or.inl (by rw [← jvP]; exact jiP.1)) (by omega)
          have asB : ASF σ σ131 [] := asA.snoc (pq4.trans pbP) pbB tbB f135 (fun _ _ _ => f137) (Or.inr (Or.inr (Or.inr f138))) (by omega)
          have pqB := pq4.trans (pbP.trans pbB)
          have e28B : σ131.1 28 = 0 := (fC.1 28 (by decide)).trans e284
          have tkB := tsB.2.2.1.1.1
          have e29B : σ131.1 29 = σ.1 29 := rs_F f133 (by decide) (rs_F fArg_fr (by decide) (rs_F f117 (by decide) (rs_F f107 (by decide) (rs_J (rs_o (by decide) (rs_o (by decide) (rs_o (by decide) (rs_F f92 (by decide) (rs_F f22 (by decide) (rs_F f14 (by decide) (rs_F f5 (by decide) (rfl))))))))))))
          have tbS : TBm σ σ131 := TBm.of (show Fr [19, 20, 22, 23, 26, 27, 28, 32, 34, 39, 40] [3, 4, 5, 6, 7, 8, 35] [24, 38] σ σ131 from ((((((((((((Fr.rfl.trans (Fr.sub f5 (by decide) (by decide) (by decide))).trans (Fr.sub f14 (by decide) (by decide) (by decide))).trans (Fr.sub f22 (by decide) (by decide) (by decide))).trans (Fr.sub f92 (by decide) (by decide) (by decide))).S (by decide)).S (by decide)).S (by decide)).J (by decide)).trans (Fr.sub f107 (by decide) (by decide) (by decide))).trans (Fr.sub f117 (by decide) (by decide) (by decide))).trans (Fr.sub fArg_fr (by decide) (by decide) (by decide))).trans (Fr.sub f133 (by decide) (by decide) (by decide)))) (by decide) (by decide) (by decide) (by decide)
          refine tm_aload_n dX12_assignment_151 rfl 4 rfl ?_
          refine tm_bipush dX12_assignment_152 (by decide) ?_
          refine tm_callV (M := m_X12_assignment) (pc := 154) (ix := 330) (M' := m_X12_need) (As := [.int (iI 59)]) (rest := []) dX12_assignment_154 ok_X12_need im_X12_need se_X12_need ml12_330 np_X12_need rfl rfl (Nat.le_of_ble_eq_true rfl) (Nat.le_of_ble_eq_true rfl) rfl (c_X12_need (d + 36) (σ := σ131) (c := 59) f134 (by omega) (by omega)) (fun r139 σ140 hp => ?_)
          obtain ⟨v141, rfl, f142, f143, f144, f145, f146, f147, f148⟩ := hp
          show Tm _ _ 157 b σ140 [(5, .int (iI v116)), (4, .int (iI (σ19.1 19))), (2, .long (σ19.2.2 24 0)), (1, .int (iI v4)), (0, .ref b)] [.int (iI v141)] _
          have zn0 := f142
          have zn1 := f143
          have zn2 := f144
          have zn3 := f145
          have zn4 := f146
          have zn5 := f147
          have zn6 := f148
          have pbN : PBF _ σ140 := PBF.of tsB.nn zn1 (by decide) (by decide) (by decide) zn5
          have pqN := pqB.trans pbN
          have e33N : σ140.1 33 = σ.1 33 := rs_F f143 (by decide) (rs_F f133 (by decide) (rs_F fArg_fr (by decide) (rs_F f117 (by decide) (rs_F f107 (by decide) (rs_J (rs_o (by decide) (rs_o (by decide) (rs_o (by decide) (rs_F f92 (by decide) (rs_F f22 (by decide) (rs_F f14 (by decide) (rs_F f5 (by decide) (rfl)))))))))))))
          exact tm_zret (v := v141) rfl (by omega) dX12_assignment_157 (⟨_, rfl, zn0, (((((((((((((Fr.rfl.trans (Fr.sub f5 (by decide) (by decide) (by decide))).trans (Fr.sub f14 (by decide) (by decide) (by decide))).trans (Fr.sub f22 (by decide) (by decide) (by decide))).trans (Fr.sub f92 (by decide) (by decide) (by decide))).S (by decide)).S (by decide)).S (by decide)).J (by decide)).trans (Fr.sub f107 (by decide) (by decide) (by decide))).trans (Fr.sub f117 (by decide) (by decide) (by decide))).trans (Fr.sub fArg_fr (by decide) (by decide) (by decide))).trans (Fr.sub f133 (by decide) (by decide) (by decide))).trans (Fr.sub f143 (by decide) (by decide) (by decide))), f144, tsB.1.trans pbN, fun z => have znq := zn3 z; ⟨[], (tsB.needy zn1 znq.2.2.1 znq.2.2.2.1 znq.2.2.2.2 (by have z := znq.1.1; omega) (gn_59 znq.1 znq.2.1)).le (by decide), SGF.line e34_.1 hli hln.2.2.2.1 pqN hln.tb (tbS.trans (TBm.of zn1 (by decide) (by decide) (by decide) (by decide))) (by omega) (asB.mv pqB pbN (TBm.of zn1 (by decide) (by decide) (by decide) (by decide)) (zn1.1 34 (by decide)) (by omega)) h0c, FS.of hli e34_.1 hln.2.2.2.1 pqN h0c, ((zn1.1 28 (by decide)).trans e28B).trans e28r.symm, ((show σ140.1 29 = σ.1 29 from rs_F f143 (by decide) (rs_F f133 (by decide) (rs_F fArg_fr (by decide) (rs_F f117 (by decide) (rs_F f107 (by decide) (rs_J (rs_o (by decide) (rs_o (by decide) (rs_o (by decide) (rs_F f92 (by decide) (rs_F f22 (by decide) (rs_F f14 (by decide) (rs_F f5 (by decide) (rfl)))))))))))))).trans e29r)⟩, fun z => (tsB.fail pbN (gf_59 (zn4 z) (zn6 z))).2⟩)
        · refine tm_iconst dX12_assignment_120 ?_
          exact tm_zret (v := 0) rfl (by decide) dX12_assignment_121 (⟨_, rfl, by omega, (((((((((Fr.rfl.trans (Fr.sub f5 (by decide) (by decide) (by decide))).trans (Fr.sub f14 (by decide) (by decide) (by decide))).trans (Fr.sub f22 (by decide) (by decide) (by decide))).trans (Fr.sub f92 (by decide) (by decide) (by decide))).S (by decide)).S (by decide)).S (by decide)).J (by decide)).trans (Fr.sub f107 (by decide) (by decide) (by decide))), f108, (ts3.fail xp3 (xp5.2 (by omega) _)).1, fun q => absurd q (by omega), fun _ => (ts3.fail xp3 (xp5.2 (by omega) _)).2⟩)
      · have ts3 := ts2.adv bd1 bd3 bd4 (by have z := (inm (by omega)).1; omega) (g25c (inm (by omega)) bd0 (i40 (by omega)))
        have pq3 : PBF σ σ89 := pq2.trans (PBF.nop pq2.2.2.1 bd1 (by decide) (by decide) (by decide))
        have e343 : σ89.1 34 = σ.1 34 := (bd1.1 34 (by decide)).trans e342
        have e283 : σ89.1 28 = 0 := (bd1.1 28 (by decide)).trans (e282.trans h28)
        have e433 : σ89.1 43 = σ.1 43 := rs_F f92 (by decide) (rs_F f22 (by decide) (rs_F f14 (by decide) (rs_F f5 (by decide) (rfl))))
        refine tm_aload_n dX12_assignment_65 rfl 4 rfl ?_
        refine tm_iload_n dX12_assignment_66 rfl 3 rfl ?_
        refine tm_lload_n dX12_assignment_67 rfl 2 rfl ?_
        refine tm_iload dX12_assignment_68 1 rfl ?_
        refine tm_callV (M := m_X12_assignment) (pc := 70) (ix := 355) (M' := m_X12_call) (As := [.int (iI v4), .long (σ19.2.2 24 0), .int (iI (σ19.1 19))]) (rest := []) dX12_assignment_70 ok_X12_call im_X12_call se_X12_call ml12_355 np_X12_call rfl rfl (Nat.le_of_ble_eq_true rfl) (Nat.le_of_ble_eq_true rfl) rfl (c_X12_call (d) (σ := σ89) (kn := v4) (w := σ19.2.2 24 0) (p := σ19.1 19) (ρ := ρ) f93 hln.1 (ts3.le (by decide)) nm3 e283 (by rw [e433]; exact ht) (i40 (by omega)) (by omega)) (fun r149 σ150 hp => ?_)
        obtain ⟨v151, rfl, f152, f153, f154, f155, f156, f157, f158⟩ := hp
        show Tm _ _ 73 b σ150 [(5, .int (iI (σ19.1 20))), (4, .int (iI (σ19.1 19))), (2, .long (σ19.2.2 24 0)), (1, .int (iI v4)), (0, .ref b)] [.int (iI v151)] _
        have cl0 := f152
        have cl1 := f153
        have cl2 := f154
        have cl3 := f155
        have cl4 := f156
        have cl5 := f157
        have cl6 := f158
        refine tm_if_eq (tgt := 89) dX12_assignment_73 (by decide) ⟨by omega, by omega⟩ (fun h159 => ?_) (fun h159 => ?_)
        · refine tm_iconst dX12_assignment_89 ?_
          exact tm_zret (v := 0) rfl (by decide) dX12_assignment_90 (⟨_, rfl, by omega, (((((Fr.rfl.trans (Fr.sub f5 (by decide) (by decide) (by decide))).trans (Fr.sub f14 (by decide) (by decide) (by decide))).trans (Fr.sub f22 (by decide) (by decide) (by decide))).trans (Fr.sub f92 (by decide) (by decide) (by decide))).trans (Fr.sub f153 (by decide) (by decide) (by decide))), f154, cl3, fun q => absurd q (by omega), fun _ => cl5 (by omega)⟩)
        · obtain ⟨lgc, tsc, asc, pbc⟩ := cl4 (by omega)
          have tkc := tsc.2.2.1.1.1
          refine tm_aload_n dX12_assignment_76 rfl 4 rfl ?_
          refine tm_bipush dX12_assignment_77 (by decide) ?_
          refine tm_callV (M := m_X12_assignment) (pc := 79) (ix := 330) (M' := m_X12_need) (As := [.int (iI 59)]) (rest := []) dX12_assignment_79 ok_X12_need im_X12_need se_X12_need ml12_330 np_X12_need rfl rfl (Nat.le_of_ble_eq_true rfl) (Nat.le_of_ble_eq_true rfl) rfl (c_X12_need (d + 36) (σ := σ150) (c := 59) f154 (by omega) (by omega)) (fun r160 σ161 hp => ?_)
          obtain ⟨v162, rfl, f163, f164, f165, f166, f167, f168, f169⟩ := hp
          show Tm _ _ 82 b σ161 [(5, .int (iI (σ19.1 20))), (4, .int (iI (σ19.1 19))), (2, .long (σ19.2.2 24 0)), (1, .int (iI v4)), (0, .ref b)] [.int (iI v162)] _
          have zn0 := f163
          have zn1 := f164
          have zn2 := f165
          have zn3 := f166
          have zn4 := f167
          have zn5 := f168
          have zn6 := f169
          refine tm_if_eq (tgt := 89) dX12_assignment_82 (by decide) ⟨by omega, by omega⟩ (fun h170 => ?_) (fun h170 => ?_)
          · refine tm_iconst dX12_assignment_89 ?_
            exact tm_zret (v := 0) rfl (by decide) dX12_assignment_90 (⟨_, rfl, by omega, ((((((Fr.rfl.trans (Fr.sub f5 (by decide) (by decide) (by decide))).trans (Fr.sub f14 (by decide) (by decide) (by decide))).trans (Fr.sub f22 (by decide) (by decide) (by decide))).trans (Fr.sub f92 (by decide) (by decide) (by decide))).trans (Fr.sub f153 (by decide) (by decide) (by decide))).trans (Fr.sub f164 (by decide) (by decide) (by decide))), f165, (tsc.fail (PBF.of tsc.nn zn1 (by decide) (by decide) (by decide) zn5) (gf_59 (zn4 (by omega)) (zn6 (by omega)))).1, fun q => absurd q (by omega), fun _ => (tsc.fail (PBF.of tsc.nn zn1 (by decide) (by decide) (by decide) zn5) (gf_59 (zn4 (by omega)) (zn6 (by omega)))).2⟩)
          · refine tm_iconst dX12_assignment_85 ?_
            refine tm_goto (tgt := 90) dX12_assignment_86 (by decide) ?_
            have znq := zn3 (by omega)
            have pbN : PBF _ σ161 := PBF.of tsc.nn zn1 (by decide) (by decide) (by decide) zn5
            have tsn := tsc.needy zn1 znq.2.2.1 znq.2.2.2.1 znq.2.2.2.2 (by have z := znq.1.1; omega) (gn_59 znq.1 znq.2.1)
            have pqN : PBF σ σ161 := (pq3.trans pbc).trans pbN
            have e33N := (show σ161.1 33 = σ.1 33 from rs_F f164 (by decide) (rs_F f153 (by decide) (rs_F f92 (by decide) (rs_F f22 (by decide) (rs_F f14 (by decide) (rs_F f5 (by decide) (rfl)))))))
            have asN := (asc.mv pbc pbN (TBm.of zn1 (by decide) (by decide) (by decide) (by decide)) (zn1.1 34 (by decide)) ts3.h1).pre pq3 (TBm.of (show Fr [19, 20, 22, 23, 26, 27] [35] [24, 38] σ σ89 from ((((Fr.rfl.trans (Fr.sub f5 (by decide) (by decide) (by decide))).trans (Fr.sub f14 (by decide) (by decide) (by decide))).trans (Fr.sub f22 (by decide) (by decide) (by decide))).trans (Fr.sub f92 (by decide) (by decide) (by decide)))) (by decide) (by decide) (by decide) (by decide)) e343
            have tbN := (TBm.of (show Fr [19, 20, 22, 23, 26, 27, 28, 32, 34, 39, 40] [3, 4, 5, 6, 7, 8, 35, 41, 42] [24, 38] σ σ161 from ((((((Fr.rfl.trans (Fr.sub f5 (by decide) (by decide) (by decide))).trans (Fr.sub f14 (by decide) (by decide) (by decide))).trans (Fr.sub f22 (by decide) (by decide) (by decide))).trans (Fr.sub f92 (by decide) (by decide) (by decide))).trans (Fr.sub f153 (by decide) (by decide) (by decide))).trans (Fr.sub f164 (by decide) (by decide) (by decide)))) (by decide) (by decide) (by decide) (by decide))
            exact tm_zret (v := 1) rfl (by decide) dX12_assignment_90 (⟨_, rfl, by omega, ((((((Fr.rfl.trans (Fr.sub f5 (by decide) (by decide) (by decide))).trans (Fr.sub f14 (by decide) (by decide) (by decide))).trans (Fr.sub f22 (by decide) (by decide) (by decide))).trans (Fr.sub f92 (by decide) (by decide) (by decide))).trans (Fr.sub f153 (by decide) (by decide) (by decide))).trans (Fr.sub f164 (by decide) (by decide) (by decide))), f165, tsn.1, fun _ => ⟨lgc, tsn.le (by decide), SGF.line e34_.1 hli hln.2.2.2.1 pqN hln.tb tbN (by omega) asN h0c, FS.of hli e34_.1 hln.2.2.2.1 pqN h0c, ((zn1.1 28 (by decide)).trans cl6).trans e28r.symm, ((show σ161.1 29 = σ.1 29 from rs_F f164 (by decide) (rs_F f153 (by decide) (rs_F f92 (by decide) (rs_F f22 (by decide) (rs_F f14 (by decide) (rs_F f5 (by decide) (rfl))))))).trans e29r)⟩, fun q => absurd q (by decide)⟩)
  · refine tm_iconst dX12_assignment_26 ?_
    exact tm_zret (v := 0) rfl (by decide) dX12_assignment_27 (⟨_, rfl, by omega, (((Fr.rfl.trans (Fr.sub f5 (by decide) (by decide) (by decide))).trans (Fr.sub f14 (by decide) (by decide) (by decide))).trans (Fr.sub f22 (by decide) (by decide) (by decide))), f23, (ts1.fail (PBF.of ts1.nn yn1 (by decide) (by decide) (by decide) yn5) (gf_61 (yn4 (by omega)) (yn6 (by omega)))).1, fun q => absurd q (by omega), fun _ => (ts1.fail (PBF.of ts1.nn yn1 (by decide) (by decide) (by decide) yn5) (gf_61 (yn4 (by omega)) (yn6 (by omega)))).2⟩)
