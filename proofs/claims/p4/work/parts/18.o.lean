theorem ml12_363 : Cond.methodLink RX12 363 yX12_routineBy ∈ pWW := pw8 (List.mem_of_getElem? (i := 169) rfl) rfl
theorem ml12_367 : Cond.methodLink RX12 367 yX12_calledMany ∈ pWW := pw9 (List.mem_of_getElem? (i := 17) rfl) rfl
theorem dX12_call_0 : decode cX12_call 0 = .ok (.aload_n 0, 1) := by decide +kernel
theorem dX12_call_1 : decode cX12_call 1 = .ok (.invokevirtual 265, 3) := by decide +kernel
theorem dX12_call_4 : decode cX12_call 4 = .ok (.iconst 0, 1) := by decide +kernel
theorem dX12_call_5 : decode cX12_call 5 = .ok (.istore 5, 2) := by decide +kernel
theorem dX12_call_7 : decode cX12_call 7 = .ok (.aload_n 0, 1) := by decide +kernel
theorem dX12_call_8 : decode cX12_call 8 = .ok (.bipush 41, 2) := by decide +kernel
theorem dX12_call_10 : decode cX12_call 10 = .ok (.invokevirtual 258, 3) := by decide +kernel
theorem dX12_call_13 : decode cX12_call 13 = .ok (.ifCond .ne 7, 3) := by decide +kernel
theorem dX12_call_20 : decode cX12_call 20 = .ok (.iconst 0, 1) := by decide +kernel
theorem dX12_call_21 : decode cX12_call 21 = .ok (.istore 6, 2) := by decide +kernel
theorem dX12_call_88 : decode cX12_call 88 = .ok (.aload_n 0, 1) := by decide +kernel
theorem dX12_call_89 : decode cX12_call 89 = .ok (.lload_n 2, 1) := by decide +kernel
theorem dX12_call_90 : decode cX12_call 90 = .ok (.invokevirtual 363, 3) := by decide +kernel
theorem dX12_call_93 : decode cX12_call 93 = .ok (.istore 7, 2) := by decide +kernel
theorem dX12_call_95 : decode cX12_call 95 = .ok (.aload_n 0, 1) := by decide +kernel
theorem dX12_call_96 : decode cX12_call 96 = .ok (.getfield 255, 3) := by decide +kernel
theorem dX12_call_99 : decode cX12_call 99 = .ok (.iconst 2, 1) := by decide +kernel
theorem dX12_call_100 : decode cX12_call 100 = .ok (.if_icmp .ne 19, 3) := by decide +kernel
theorem dX12_call_119 : decode cX12_call 119 = .ok (.aload_n 0, 1) := by decide +kernel
theorem dX12_call_120 : decode cX12_call 120 = .ok (.getfield 255, 3) := by decide +kernel
theorem dX12_call_123 : decode cX12_call 123 = .ok (.iconst 2, 1) := by decide +kernel
theorem dX12_call_124 : decode cX12_call 124 = .ok (.if_icmp .ne 21, 3) := by decide +kernel
theorem dX12_call_103 : decode cX12_call 103 = .ok (.iload 7, 2) := by decide +kernel
theorem dX12_call_105 : decode cX12_call 105 = .ok (.iconst (-1), 1) := by decide +kernel
theorem dX12_call_106 : decode cX12_call 106 = .ok (.if_icmp .ne 13, 3) := by decide +kernel
theorem dX12_call_127 : decode cX12_call 127 = .ok (.iload 5, 2) := by decide +kernel
theorem dX12_call_129 : decode cX12_call 129 = .ok (.aload_n 0, 1) := by decide +kernel
theorem dX12_call_130 : decode cX12_call 130 = .ok (.iload 7, 2) := by decide +kernel
theorem dX12_call_132 : decode cX12_call 132 = .ok (.invokevirtual 367, 3) := by decide +kernel
theorem dX12_call_135 : decode cX12_call 135 = .ok (.if_icmp .eq 10, 3) := by decide +kernel
theorem dX12_call_138 : decode cX12_call 138 = .ok (.aload_n 0, 1) := by decide +kernel
theorem dX12_call_139 : decode cX12_call 139 = .ok (.iconst 4, 1) := by decide +kernel
theorem dX12_call_140 : decode cX12_call 140 = .ok (.iload 4, 2) := by decide +kernel
theorem dX12_call_142 : decode cX12_call 142 = .ok (.invokevirtual 274, 3) := by decide +kernel
theorem dX12_call_109 : decode cX12_call 109 = .ok (.aload_n 0, 1) := by decide +kernel
theorem dX12_call_110 : decode cX12_call 110 = .ok (.iconst 3, 1) := by decide +kernel
theorem dX12_call_111 : decode cX12_call 111 = .ok (.iload 4, 2) := by decide +kernel
theorem dX12_call_113 : decode cX12_call 113 = .ok (.invokevirtual 274, 3) := by decide +kernel
theorem dX12_call_116 : decode cX12_call 116 = .ok (.goto 29, 3) := by decide +kernel
theorem dX12_call_16 : decode cX12_call 16 = .ok (.iconst 1, 1) := by decide +kernel
theorem dX12_call_17 : decode cX12_call 17 = .ok (.goto 4, 3) := by decide +kernel
set_option maxHeartbeats 4000000 in
set_option maxRecDepth 20000 in
theorem c_X12_call (d : Nat) {b : Nat} {σ : MS} {kn : Int} {w : Int64} {p : Int} {ρ : MS} (hR : RG σ) (hrd0 : RDY ρ) (hts : TS 20 5 ρ [26, 159] σ (fun c => (w, 0, p, 0, c)) []) (hk12 : 0 ≤ kn ∧ kn < 12) (h28 : σ.1 28 = 0) (ht : 0 ≤ σ.1 43 ∧ σ.1 43 ≤ 260) (hs40 : SG σ 40) (h_p : -2147483648 ≤ p ∧ p ≤ 2147483647) : Tm (d + 42) m_X12_call 0 b σ [(0, .ref b), (1, .int (iI kn)), (2, .long (w)), (4, .int (iI p))] [] (fun ro σ2 => ∃ v : Int, ro = some (.int (iI v)) ∧ ((v = 0 ∨ v = 1)) ∧ (Fr [19, 20, 22, 23, 26, 27, 28, 32, 34, 39, 40] [3, 4, 5, 6, 7, 8, 35, 41, 42] [24, 38] σ σ2) ∧ (RG σ2) ∧ (PBF ρ σ2) ∧ (Im v 1 (∃ lg, TS 20 5 ρ [159] σ2 qq lg ∧ ASF σ σ2 lg ∧ PBF σ σ2)) ∧ (Im v 0 (∀ c : Int, GOF [20] ρ (qq c) σ2)) ∧ (σ2.1 28 = 0)) := by
  refine tm_aload_n dX12_call_0 rfl 0 rfl ?_
  refine tm_callV (M := m_X12_call) (pc := 1) (ix := 265) (M' := m_X12_advance) (As := []) (rest := []) dX12_call_1 ok_X12_advance im_X12_advance se_X12_advance ml12_265 np_X12_advance rfl rfl (Nat.le_of_ble_eq_true rfl) (Nat.le_of_ble_eq_true rfl) rfl (c_X12_advance (d + 36) (σ := σ)  hR (by have z := hts.2.2.1.1.1; omega)) (fun r1 σ2 hp => ?_)
  obtain ⟨rfl, f4, f5, f6, f7, f8⟩ := hp
  show Tm _ _ 4 b σ2 [(0, .ref b), (1, .int (iI kn)), (2, .long (w)), (4, .int (iI p))] [] _
  have ad0 := f4
  have ad1 := f5
  have ad2 := f6
  have ad3 := f7
  have ad4 := f8
  refine tm_iconst dX12_call_4 ?_
  refine tm_istore (L' := [(5, .int (iI 0)), (0, .ref b), (1, .int (iI kn)), (2, .long (w)), (4, .int (iI p))]) dX12_call_5 (by decide) rfl ?_
  refine tm_aload_n dX12_call_7 rfl 1 rfl ?_
  refine tm_bipush dX12_call_8 (by decide) ?_
  refine tm_callV (M := m_X12_call) (pc := 10) (ix := 258) (M' := m_X12_isSign) (As := [.int (iI 41)]) (rest := []) dX12_call_10 ok_X12_isSign im_X12_isSign se_X12_isSign ml12_258 np_X12_isSign rfl rfl (Nat.le_of_ble_eq_true rfl) (Nat.le_of_ble_eq_true rfl) rfl (c2_X12_isSign (d + 40) (σ := σ2) (c := 41) f6 (by omega)) (fun r9 σ10 hp => ?_)
  obtain ⟨v11, rfl, rfl, f12, f13, f14⟩ := hp
  show Tm _ _ 13 b σ2 [(5, .int (iI 0)), (0, .ref b), (1, .int (iI kn)), (2, .long (w)), (4, .int (iI p))] [.int (iI v11)] _
  have i41 := f13
  have n41_ := f14
  have tka := ad3.1
  have pba : PBF σ σ2 := PBF.nop hts.nn ad1 (by decide) (by decide) (by decide)
  have hnz : σ.1 22 ≠ 0 := by have z := hs40.1; omega
  have e28a : σ2.1 28 = 0 := (ad1.1 28 (by decide)).trans h28
  have e30a : σ2.1 30 = σ.1 30 := ad1.1 30 (by decide)
  have rdc := hts.2.2.1.2
  refine tm_if_ne (tgt := 20) dX12_call_13 (by decide) ⟨by omega, by omega⟩ (fun h15 => ?_) (fun h15 => ?_)
  · refine tm_iconst dX12_call_20 ?_
    refine tm_istore (L' := [(6, .int (iI 0)), (5, .int (iI 0)), (0, .ref b), (1, .int (iI kn)), (2, .long (w)), (4, .int (iI p))]) dX12_call_21 (by decide) rfl ?_
    refine tm_sub [0, 1, 5, 4, 3, 2] rfl (l_call (d + 1) (σ0 := σ2) (kn := kn) (p := p) (ρ := ρ) (w := w) f6 (by omega) (by omega) (fun m27 mo28 σ29 F19 R20 f21 f22 f23 f24 f25 f26 => ?_) (fun τ z1 z2 z3 z4 z5 => ⟨_, rfl, by omega, (show Fr [19, 20, 22, 23, 26, 27, 28, 32, 34, 39, 40] [3, 4, 5, 6, 7, 8, 35, 41, 42] [24, 38] σ σ2 from (Fr.rfl.trans (Fr.sub f5 (by decide) (by decide) (by decide)))).trans z1, z2, z3, fun q => absurd q (by decide), fun _ => z4, z5⟩) _ (0) (0) σ2 Fr.rfl f6 (by omega) ⟨fun q => absurd q (by decide), fun _ => (hts.adv ad1 ad3 ad4 hnz (g26y ad0 (i41 (by omega)))).le (by decide)⟩ (PBF.nop pba.2.2.1 (Fr.rfl : Fr [] [] [] _ _) (by decide) (by decide) (by decide)) (AC.nil rfl) CAG.nil e28a rfl)
    show Tm _ _ 88 b σ29 [(6, .int (iI mo28)), (5, .int (iI m27)), (4, .int (iI p)), (2, .long (w)), (1, .int (iI kn)), (0, .ref b)] [] _
    have le0 := f21
    have le1 := f22
    have le2 := f23
    have le3 := f24
    have le4 := f25
    have le5 := f26
    have f88 := (show Fr [19, 20, 22, 23, 26, 27, 28, 32, 34, 39, 40] [3, 4, 5, 6, 7, 8, 35, 41, 42] [24, 38] σ σ29 from ((Fr.rfl.trans (Fr.sub f5 (by decide) (by decide) (by decide))).trans (Fr.sub F19 (by decide) (by decide) (by decide))))
    have e43 : σ29.1 43 = σ.1 43 := f88.1 43 (by decide)
    have pbc : PBF σ σ29 := pba.trans le2
    have acc : AC σ σ29 := (AC.nil (ad1.1 34 (by decide))).trans pba le3 le2 (by omega)
    have tbc : TBm σ σ29 := TBm.of f88 (by decide) (by decide) (by decide) (by decide)
    have h33c := le1.2.1
    have e33c : σ29.1 33 = σ.1 33 := f88.1 33 (by decide)
    have e25c : σ29.1 25 = σ.1 25 := f88.1 25 (by decide)
    have R88 := R20
    refine tm_aload_n dX12_call_88 rfl 5 rfl ?_
    refine tm_lload_n dX12_call_89 rfl 3 rfl ?_
    refine tm_callV (M := m_X12_call) (pc := 90) (ix := 363) (M' := m_X12_routineBy) (As := [.long (w)]) (rest := []) dX12_call_90 ok_X12_routineBy im_X12_routineBy se_X12_routineBy ml12_363 np_X12_routineBy rfl rfl (Nat.le_of_ble_eq_true rfl) (Nat.le_of_ble_eq_true rfl) rfl (c2_X12_routineBy (d + 40) (σ := σ29) (w := w) R88 (by rw [e43]; exact ht)) (fun r30 σ31 hp => ?_)
    obtain ⟨v32, rfl, rfl, f33, f34⟩ := hp
    show Tm _ _ 93 b σ29 [(6, .int (iI mo28)), (5, .int (iI m27)), (4, .int (iI p)), (2, .long (w)), (1, .int (iI kn)), (0, .ref b)] [.int (iI v32)] _
    refine tm_istore (L' := [(7, .int (iI v32)), (6, .int (iI mo28)), (5, .int (iI m27)), (4, .int (iI p)), (2, .long (w)), (1, .int (iI kn)), (0, .ref b)]) dX12_call_93 (by decide) rfl ?_
    have rq := f33
    have rb := f34
    refine tm_aload_n dX12_call_95 rfl 6 rfl ?_
    refine tm_getS (k := 25) (t := σ.1 25) dX12_call_96 (by decide) fl12_255 rfl (rs_F F19 (by decide) (rs_F f5 (by decide) (rfl))) ?_
    have g35 := RG.s hR 25
    refine tm_iconst dX12_call_99 ?_
    refine tm_icmp_ne (tgt := 119) dX12_call_100 (by decide) ⟨by omega, by omega⟩ ⟨by decide, by decide⟩ (fun h36 => ?_) (fun h36 => ?_)
    · refine tm_aload_n dX12_call_119 rfl 6 rfl ?_
      refine tm_getS (k := 25) (t := σ.1 25) dX12_call_120 (by decide) fl12_255 rfl (rs_F F19 (by decide) (rs_F f5 (by decide) (rfl))) ?_
      have g37 := RG.s hR 25
      refine tm_iconst dX12_call_123 ?_
      refine tm_icmp_ne (tgt := 145) dX12_call_124 (by decide) ⟨by omega, by omega⟩ ⟨by decide, by decide⟩ (fun h38 => ?_) (fun h38 => ?_)
      · refine tm_sub [0, 2, 5, 6] rfl (b_call145 (d + 33) (σ := σ29) (kn := kn) (m := m27) (q := v32) (ρ := ρ) (σc := σ) (w := w) (σb := σ29) (p := p) R20 hrd0 le1 Fr.rfl (PBF.nop le1.nn (Fr.rfl : Fr [] [] [] _ _) (by decide) (by decide) (by decide)) (by rw [clP_off (by omega)]) le1.2.2.1 hk12 le0 rb rq (by rw [e43]; exact ht.2) (fun z => absurd z (by omega)) acc pbc tbc (by omega) ⟨by omega, by omega⟩ le4 le5 (fun v τ z1 z2 z3 z4 z5 z6 z7 => ⟨_, rfl, z3, (show Fr [19, 20, 22, 23, 26, 27, 28, 32, 34, 39, 40] [3, 4, 5, 6, 7, 8, 35, 41, 42] [24, 38] σ σ29 from ((Fr.rfl.trans (Fr.sub f5 (by decide) (by decide) (by decide))).trans (Fr.sub F19 (by decide) (by decide) (by decide)))).trans z1, z2, z4, z5, z6, z7⟩) _  rfl)
      · exact absurd h38 (by omega)
    · refine tm_iload dX12_call_103 0 rfl ?_
      refine tm_iconst dX12_call_105 ?_
      refine tm_icmp_ne (tgt := 119) dX12_call_106 (by decide) ⟨by omega, by omega⟩ ⟨by decide, by decide⟩ (fun h39 => ?_) (fun h39 => ?_)
      · refine tm_aload_n dX12_call_119 rfl 6 rfl ?_
        refine tm_getS (k := 25) (t := σ.1 25) dX12_call_120 (by decide) fl12_255 rfl (rs_F F19 (by decide) (rs_F f5 (by decide) (rfl))) ?_
        have g40 := RG.s hR 25
        refine tm_iconst dX12_call_123 ?_
        refine tm_icmp_ne (tgt := 145) dX12_call_124 (by decide) ⟨by omega, by omega⟩ ⟨by decide, by decide⟩ (fun h41 => ?_) (fun h41 => ?_)
        · exact absurd h41 (by omega)
        · refine tm_iload dX12_call_127 2 rfl ?_
          refine tm_aload_n dX12_call_129 rfl 6 rfl ?_
          refine tm_iload dX12_call_130 0 rfl ?_
          refine tm_callV (M := m_X12_call) (pc := 132) (ix := 367) (M' := m_X12_calledMany) (As := [.int (iI v32)]) (rest := [.int (iI m27)]) dX12_call_132 ok_X12_calledMany im_X12_calledMany se_X12_calledMany ml12_367 np_X12_calledMany rfl rfl (Nat.le_of_ble_eq_true rfl) (Nat.le_of_ble_eq_true rfl) rfl (c_X12_calledMany (d + 40) (σ := σ29) (q := v32) (by omega)) (fun r42 σ43 hp => ?_)
          obtain ⟨v44, rfl, rfl, f45⟩ := hp
          show Tm _ _ 135 b σ29 [(7, .int (iI v32)), (6, .int (iI mo28)), (5, .int (iI m27)), (4, .int (iI p)), (2, .long (w)), (1, .int (iI kn)), (0, .ref b)] [.int (iI v44), .int (iI m27)] _
          have cm := f45
          have g45 := RG.a R88 45 (v32)
          refine tm_icmp_eq (tgt := 145) dX12_call_135 (by decide) ⟨by omega, by omega⟩ ⟨by omega, by omega⟩ (fun h46 => ?_) (fun h46 => ?_)
          · have cme : σ29.2.1 45 (v32) = m27 := by omega
            refine tm_sub [0, 2, 5, 6] rfl (b_call145 (d + 33) (σ := σ29) (kn := kn) (m := m27) (q := v32) (ρ := ρ) (σc := σ) (w := w) (σb := σ29) (p := p) R20 hrd0 le1 Fr.rfl (PBF.nop le1.nn (Fr.rfl : Fr [] [] [] _ _) (by decide) (by decide) (by decide)) (by rw [clP_ok rb (by omega) rq.2 cme.symm]) le1.2.2.1 hk12 le0 rb rq (by rw [e43]; exact ht.2) (fun _ _ => ⟨fun z => absurd (show (1 : Int) = 0 from z) (by decide), fun _ => ⟨_, ⟨by omega, rq.2⟩, rb, cme⟩⟩) acc pbc tbc (by omega) ⟨by omega, by omega⟩ le4 le5 (fun v τ z1 z2 z3 z4 z5 z6 z7 => ⟨_, rfl, z3, (show Fr [19, 20, 22, 23, 26, 27, 28, 32, 34, 39, 40] [3, 4, 5, 6, 7, 8, 35, 41, 42] [24, 38] σ σ29 from ((Fr.rfl.trans (Fr.sub f5 (by decide) (by decide) (by decide))).trans (Fr.sub F19 (by decide) (by decide) (by decide)))).trans z1, z2, z4, z5, z6, z7⟩) _  rfl)
          · refine tm_aload_n dX12_call_138 rfl 6 rfl ?_
            refine tm_iconst dX12_call_139 ?_
            refine tm_iload dX12_call_140 3 rfl ?_
            refine tm_callV (M := m_X12_call) (pc := 142) (ix := 274) (M' := m_X12_note) (As := [.int (iI 4), .int (iI p)]) (rest := []) dX12_call_142 ok_X12_note im_X12_note se_X12_note ml12_274 np_X12_note rfl rfl (Nat.le_of_ble_eq_true rfl) (Nat.le_of_ble_eq_true rfl) rfl (c2_X12_note (d + 40) (σ := σ29) (f := 4) (p := p) R88 (by omega) (by omega)) (fun r47 σ48 hp => ?_)
            obtain ⟨rfl, f50, f51, f52, f53, f54⟩ := hp
            show Tm _ _ 145 b σ48 [(7, .int (iI v32)), (6, .int (iI mo28)), (5, .int (iI m27)), (4, .int (iI p)), (2, .long (w)), (1, .int (iI kn)), (0, .ref b)] [] _
            refine tm_sub [0, 2, 5, 6] rfl (b_call145 (d + 33) (σ := σ48) (kn := kn) (m := m27) (q := v32) (ρ := ρ) (σc := σ) (w := w) (σb := σ29) (p := p) f51 hrd0 le1 f50 (PBF.of le1.nn f50 (by decide) (by decide) (by decide) f52) (by rw [f54, clP_bad (by omega) rb (by omega) rq.2 (by omega)]) (RDY.of le1.2.2.1 ⟨f50.1 25 (by decide), f50.1 30 (by decide)⟩ (by unfold TOK; rw [f50.1 19 (by decide), f50.1 20 (by decide), f50.1 21 (by decide), f50.1 22 (by decide), f50.1 23 (by decide)]; exact le1.2.2.1.1) (PBC.nop f50 (by decide)) (by decide)) hk12 le0 (rb.tb (TBm.of f50 (by decide) (by decide) (by decide) (by decide))) (by rw [f50.1 43 (by decide)]; exact rq) (by rw [f50.1 43 (by decide), e43]; exact ht.2) (fun _ z => absurd z (f53 (by omega))) (acc.trans pbc (AC.nil (f50.1 34 (by decide))) (PBF.of le1.nn f50 (by decide) (by decide) (by decide) f52) (by omega)) (pbc.trans (PBF.of le1.nn f50 (by decide) (by decide) (by decide) f52)) (tbc.trans (TBm.of f50 (by decide) (by decide) (by decide) (by decide))) (by rw [f50.1 33 (by decide)]; omega) ⟨by omega, by omega⟩ (le4.mv f50 (by decide) (by decide) (by rw [f50.1 34 (by decide)]; omega)) ((f50.1 28 (by decide)).trans le5) (fun v τ z1 z2 z3 z4 z5 z6 z7 => ⟨_, rfl, z3, (show Fr [19, 20, 22, 23, 26, 27, 28, 32, 34, 39, 40] [3, 4, 5, 6, 7, 8, 35, 41, 42] [24, 38] σ σ48 from (((Fr.rfl.trans (Fr.sub f5 (by decide) (by decide) (by decide))).trans (Fr.sub F19 (by decide) (by decide) (by decide))).trans (Fr.sub f50 (by decide) (by decide) (by decide)))).trans z1, z2, z4, z5, z6, z7⟩) _  rfl)
      · refine tm_aload_n dX12_call_109 rfl 6 rfl ?_
        refine tm_iconst dX12_call_110 ?_
        refine tm_iload dX12_call_111 3 rfl ?_
        refine tm_callV (M := m_X12_call) (pc := 113) (ix := 274) (M' := m_X12_note) (As := [.int (iI 3), .int (iI p)]) (rest := []) dX12_call_113 ok_X12_note im_X12_note se_X12_note ml12_274 np_X12_note rfl rfl (Nat.le_of_ble_eq_true rfl) (Nat.le_of_ble_eq_true rfl) rfl (c2_X12_note (d + 40) (σ := σ29) (f := 3) (p := p) R88 (by omega) (by omega)) (fun r55 σ56 hp => ?_)
        obtain ⟨rfl, f58, f59, f60, f61, f62⟩ := hp
        show Tm _ _ 116 b σ56 [(7, .int (iI v32)), (6, .int (iI mo28)), (5, .int (iI m27)), (4, .int (iI p)), (2, .long (w)), (1, .int (iI kn)), (0, .ref b)] [] _
        refine tm_goto (tgt := 145) dX12_call_116 (by decide) ?_
        refine tm_sub [0, 2, 5, 6] rfl (b_call145 (d + 33) (σ := σ56) (kn := kn) (m := m27) (q := v32) (ρ := ρ) (σc := σ) (w := w) (σb := σ29) (p := p) f59 hrd0 le1 f58 (PBF.of le1.nn f58 (by decide) (by decide) (by decide) f60) (by rw [f62, clP_none (by omega) rb (by omega)]) (RDY.of le1.2.2.1 ⟨f58.1 25 (by decide), f58.1 30 (by decide)⟩ (by unfold TOK; rw [f58.1 19 (by decide), f58.1 20 (by decide), f58.1 21 (by decide), f58.1 22 (by decide), f58.1 23 (by decide)]; exact le1.2.2.1.1) (PBC.nop f58 (by decide)) (by decide)) hk12 le0 (rb.tb (TBm.of f58 (by decide) (by decide) (by decide) (by decide))) (by rw [f58.1 43 (by decide)]; exact rq) (by rw [f58.1 43 (by decide), e43]; exact ht.2) (fun _ z => absurd z (f61 (by omega))) (acc.trans pbc (AC.nil (f58.1 34 (by decide))) (PBF.of le1.nn f58 (by decide) (by decide) (by decide) f60) (by omega)) (pbc.trans (PBF.of le1.nn f58 (by decide) (by decide) (by decide) f60)) (tbc.trans (TBm.of f58 (by decide) (by decide) (by decide) (by decide))) (by rw [f58.1 33 (by decide)]; omega) ⟨by omega, by omega⟩ (le4.mv f58 (by decide) (by decide) (by rw [f58.1 34 (by decide)]; omega)) ((f58.1 28 (by decide)).trans le5) (fun v τ z1 z2 z3 z4 z5 z6 z7 => ⟨_, rfl, z3, (show Fr [19, 20, 22, 23, 26, 27, 28, 32, 34, 39, 40] [3, 4, 5, 6, 7, 8, 35, 41, 42] [24, 38] σ σ56 from (((Fr.rfl.trans (Fr.sub f5 (by decide) (by decide) (by decide))).trans (Fr.sub F19 (by decide) (by decide) (by decide))).trans (Fr.sub f58 (by decide) (by decide) (by decide)))).trans z1, z2, z4, z5, z6, z7⟩) _  rfl)
  · refine tm_iconst dX12_call_16 ?_
    refine tm_goto (tgt := 21) dX12_call_17 (by decide) ?_
    refine tm_istore (L' := [(6, .int (iI 1)), (5, .int (iI 0)), (0, .ref b), (1, .int (iI kn)), (2, .long (w)), (4, .int (iI p))]) dX12_call_21 (by decide) rfl ?_
    refine tm_sub [0, 1, 5, 4, 3, 2] rfl (l_call (d + 1) (σ0 := σ2) (kn := kn) (p := p) (ρ := ρ) (w := w) f6 (by omega) (by omega) (fun m74 mo75 σ76 F66 R67 f68 f69 f70 f71 f72 f73 => ?_) (fun τ z1 z2 z3 z4 z5 => ⟨_, rfl, by omega, (show Fr [19, 20, 22, 23, 26, 27, 28, 32, 34, 39, 40] [3, 4, 5, 6, 7, 8, 35, 41, 42] [24, 38] σ σ2 from (Fr.rfl.trans (Fr.sub f5 (by decide) (by decide) (by decide)))).trans z1, z2, z3, fun q => absurd q (by decide), fun _ => z4, z5⟩) _ (0) (1) σ2 Fr.rfl f6 (by omega) ⟨fun _ => (hts.adv ad1 ad3 ad4 hnz (g26n ad0 (n41_ (by omega)))).le (by decide), fun q => absurd q (by decide)⟩ (PBF.nop pba.2.2.1 (Fr.rfl : Fr [] [] [] _ _) (by decide) (by decide) (by decide)) (AC.nil rfl) CAG.nil e28a rfl)
    show Tm _ _ 88 b σ76 [(6, .int (iI mo75)), (5, .int (iI m74)), (4, .int (iI p)), (2, .long (w)), (1, .int (iI kn)), (0, .ref b)] [] _
    have le0 := f68
    have le1 := f69
    have le2 := f70
    have le3 := f71
    have le4 := f72
    have le5 := f73
    have f88 := (show Fr [19, 20, 22, 23, 26, 27, 28, 32, 34, 39, 40] [3, 4, 5, 6, 7, 8, 35, 41, 42] [24, 38] σ σ76 from ((Fr.rfl.trans (Fr.sub f5 (by decide) (by decide) (by decide))).trans (Fr.sub F66 (by decide) (by decide) (by decide))))
    have e43 : σ76.1 43 = σ.1 43 := f88.1 43 (by decide)
    have pbc : PBF σ σ76 := pba.trans le2
    have acc : AC σ σ76 := (AC.nil (ad1.1 34 (by decide))).trans pba le3 le2 (by omega)
    have tbc : TBm σ σ76 := TBm.of f88 (by decide) (by decide) (by decide) (by decide)
    have h33c := le1.2.1
    have e33c : σ76.1 33 = σ.1 33 := f88.1 33 (by decide)
    have e25c : σ76.1 25 = σ.1 25 := f88.1 25 (by decide)
    have R88 := R67
    refine tm_aload_n dX12_call_88 rfl 5 rfl ?_
    refine tm_lload_n dX12_call_89 rfl 3 rfl ?_
    refine tm_callV (M := m_X12_call) (pc := 90) (ix := 363) (M' := m_X12_routineBy) (As := [.long (w)]) (rest := []) dX12_call_90 ok_X12_routineBy im_X12_routineBy se_X12_routineBy ml12_363 np_X12_routineBy rfl rfl (Nat.le_of_ble_eq_true rfl) (Nat.le_of_ble_eq_true rfl) rfl (c2_X12_routineBy (d + 40) (σ := σ76) (w := w) R88 (by rw [e43]; exact ht)) (fun r77 σ78 hp => ?_)
    obtain ⟨v79, rfl, rfl, f80, f81⟩ := hp
    show Tm _ _ 93 b σ76 [(6, .int (iI mo75)), (5, .int (iI m74)), (4, .int (iI p)), (2, .long (w)), (1, .int (iI kn)), (0, .ref b)] [.int (iI v79)] _
    refine tm_istore (L' := [(7, .int (iI v79)), (6, .int (iI mo75)), (5, .int (iI m74)), (4, .int (iI p)), (2, .long (w)), (1, .int (iI kn)), (0, .ref b)]) dX12_call_93 (by decide) rfl ?_
    have rq := f80
    have rb := f81
    refine tm_aload_n dX12_call_95 rfl 6 rfl ?_
    refine tm_getS (k := 25) (t := σ.1 25) dX12_call_96 (by decide) fl12_255 rfl (rs_F F66 (by decide) (rs_F f5 (by decide) (rfl))) ?_
    have g82 := RG.s hR 25
    refine tm_iconst dX12_call_99 ?_
    refine tm_icmp_ne (tgt := 119) dX12_call_100 (by decide) ⟨by omega, by omega⟩ ⟨by decide, by decide⟩ (fun h83 => ?_) (fun h83 => ?_)
    · refine tm_aload_n dX12_call_119 rfl 6 rfl ?_
      refine tm_getS (k := 25) (t := σ.1 25) dX12_call_120 (by decide) fl12_255 rfl (rs_F F66 (by decide) (rs_F f5 (by decide) (rfl))) ?_
      have g84 := RG.s hR 25
      refine tm_iconst dX12_call_123 ?_
      refine tm_icmp_ne (tgt := 145) dX12_call_124 (by decide) ⟨by omega, by omega⟩ ⟨by decide, by decide⟩ (fun h85 => ?_) (fun h85 => ?_)
      · refine tm_sub [0, 2, 5, 6] rfl (b_call145 (d + 33) (σ := σ76) (kn := kn) (m := m74) (q := v79) (ρ := ρ) (σc := σ) (w := w) (σb := σ76) (p := p) R67 hrd0 le1 Fr.rfl (PBF.nop le1.nn (Fr.rfl : Fr [] [] [] _ _) (by decide) (by decide) (by decide)) (by rw [clP_off (by omega)]) le1.2.2.1 hk12 le0 rb rq (by rw [e43]; exact ht.2) (fun z => absurd z (by omega)) acc pbc tbc (by omega) ⟨by omega, by omega⟩ le4 le5 (fun v τ z1 z2 z3 z4 z5 z6 z7 => ⟨_, rfl, z3, (show Fr [19, 20, 22, 23, 26, 27, 28, 32, 34, 39, 40] [3, 4, 5, 6, 7, 8, 35, 41, 42] [24, 38] σ σ76 from ((Fr.rfl.trans (Fr.sub f5 (by decide) (by decide) (by decide))).trans (Fr.sub F66 (by decide) (by decide) (by decide)))).trans z1, z2, z4, z5, z6, z7⟩) _  rfl)
      · exact absurd h85 (by omega)
    · refine tm_iload dX12_call_103 0 rfl ?_
      refine tm_iconst dX12_call_105 ?_
      refine tm_icmp_ne (tgt := 119) dX12_call_106 (by decide) ⟨by omega, by omega⟩ ⟨by decide, by decide⟩ (fun h86 => ?_) (fun h86 => ?_)
      · refine tm_aload_n dX12_call_119 rfl 6 rfl ?_
        refine tm_getS (k := 25) (t := σ.1 25) dX12_call_120 (by decide) fl12_255 rfl (rs_F F66 (by decide) (rs_F f5 (by decide) (rfl))) ?_
        have g87 := RG.s hR 25
        refine tm_iconst dX12_call_123 ?_
        refine tm_icmp_ne (tgt := 145) dX12_call_124 (by decide) ⟨by omega, by omega⟩ ⟨by decide, by decide⟩ (fun h88 => ?_) (fun h88 => ?_)
        · exact absurd h88 (by omega)
        · refine tm_iload dX12_call_127 2 rfl ?_
          refine tm_aload_n dX12_call_129 rfl 6 rfl ?_
          refine tm_iload dX12_call_130 0 rfl ?_
          refine tm_callV (M := m_X12_call) (pc := 132) (ix := 367) (M' := m_X12_calledMany) (As := [.int (iI v79)]) (rest := [.int (iI m74)]) dX12_call_132 ok_X12_calledMany im_X12_calledMany se_X12_calledMany ml12_367 np_X12_calledMany rfl rfl (Nat.le_of_ble_eq_true rfl) (Nat.le_of_ble_eq_true rfl) rfl (c_X12_calledMany (d + 40) (σ := σ76) (q := v79) (by omega)) (fun r89 σ90 hp => ?_)
          obtain ⟨v91, rfl, rfl, f92⟩ := hp
          show Tm _ _ 135 b σ76 [(7, .int (iI v79)), (6, .int (iI mo75)), (5, .int (iI m74)), (4, .int (iI p)), (2, .long (w)), (1, .int (iI kn)), (0, .ref b)] [.int (iI v91), .int (iI m74)] _
          have cm := f92
          have g45 := RG.a R88 45 (v79)
          refine tm_icmp_eq (tgt := 145) dX12_call_135 (by decide) ⟨by omega, by omega⟩ ⟨by omega, by omega⟩ (fun h93 => ?_) (fun h93 => ?_)
          · have cme : σ76.2.1 45 (v79) = m74 := by omega
            refine tm_sub [0, 2, 5, 6] rfl (b_call145 (d + 33) (σ := σ76) (kn := kn) (m := m74) (q := v79) (ρ := ρ) (σc := σ) (w := w) (σb := σ76) (p := p) R67 hrd0 le1 Fr.rfl (PBF.nop le1.nn (Fr.rfl : Fr [] [] [] _ _) (by decide) (by decide) (by decide)) (by rw [clP_ok rb (by omega) rq.2 cme.symm]) le1.2.2.1 hk12 le0 rb rq (by rw [e43]; exact ht.2) (fun _ _ => ⟨fun z => absurd (show (1 : Int) = 0 from z) (by decide), fun _ => ⟨_, ⟨by omega, rq.2⟩, rb, cme⟩⟩) acc pbc tbc (by omega) ⟨by omega, by omega⟩ le4 le5 (fun v τ z1 z2 z3 z4 z5 z6 z7 => ⟨_, rfl, z3, (show Fr [19, 20, 22, 23, 26, 27, 28, 32, 34, 39, 40] [3, 4, 5, 6, 7, 8, 35, 41, 42] [24, 38] σ σ76 from ((Fr.rfl.trans (Fr.sub f5 (by decide) (by decide) (by decide))).trans (Fr.sub F66 (by decide) (by decide) (by decide)))).trans z1, z2, z4, z5, z6, z7⟩) _  rfl)
          · refine tm_aload_n dX12_call_138 rfl 6 rfl ?_
            refine tm_iconst dX12_call_139 ?_
            refine tm_iload dX12_call_140 3 rfl ?_
            refine tm_callV (M := m_X12_call) (pc := 142) (ix := 274) (M' := m_X12_note) (As := [.int (iI 4), .int (iI p)]) (rest := []) dX12_call_142 ok_X12_note im_X12_note se_X12_note ml12_274 np_X12_note rfl rfl (Nat.le_of_ble_eq_true rfl) (Nat.le_of_ble_eq_true rfl) rfl (c2_X12_note (d + 40) (σ := σ76) (f := 4) (p := p) R88 (by omega) (by omega)) (fun r94 σ95 hp => ?_)
            obtain ⟨rfl, f97, f98, f99, f100, f101⟩ := hp
            show Tm _ _ 145 b σ95 [(7, .int (iI v79)), (6, .int (iI mo75)), (5, .int (iI m74)), (4, .int (iI p)), (2, .long (w)), (1, .int (iI kn)), (0, .ref b)] [] _
            refine tm_sub [0, 2, 5, 6] rfl (b_call145 (d + 33) (σ := σ95) (kn := kn) (m := m74) (q := v79) (ρ := ρ) (σc := σ) (w := w) (σb := σ76) (p := p) f98 hrd0 le1 f97 (PBF.of le1.nn f97 (by decide) (by decide) (by decide) f99) (by rw [f101, clP_bad (by omega) rb (by omega) rq.2 (by omega)]) (RDY.of le1.2.2.1 ⟨f97.1 25 (by decide), f97.1 30 (by decide)⟩ (by unfold TOK; rw [f97.1 19 (by decide), f97.1 20 (by decide), f97.1 21 (by decide), f97.1 22 (by decide), f97.1 23 (by decide)]; exact le1.2.2.1.1) (PBC.nop f97 (by decide)) (by decide)) hk12 le0 (rb.tb (TBm.of f97 (by decide) (by decide) (by decide) (by decide))) (by rw [f97.1 43 (by decide)]; exact rq) (by rw [f97.1 43 (by decide), e43]; exact ht.2) (fun _ z => absurd z (f100 (by omega))) (acc.trans pbc (AC.nil (f97.1 34 (by decide))) (PBF.of le1.nn f97 (by decide) (by decide) (by decide) f99) (by omega)) (pbc.trans (PBF.of le1.nn f97 (by decide) (by decide) (by decide) f99)) (tbc.trans (TBm.of f97 (by decide) (by decide) (by decide) (by decide))) (by rw [f97.1 33 (by decide)]; omega) ⟨by omega, by omega⟩ (le4.mv f97 (by decide) (by decide) (by rw [f97.1 34 (by decide)]; omega)) ((f97.1 28 (by decide)).trans le5) (fun v τ z1 z2 z3 z4 z5 z6 z7 => ⟨_, rfl, z3, (show Fr [19, 20, 22, 23, 26, 27, 28, 32, 34, 39, 40] [3, 4, 5, 6, 7, 8, 35, 41, 42] [24, 38] σ σ95 from (((Fr.rfl.trans (Fr.sub f5 (by decide) (by decide) (by decide))).trans (Fr.sub F66 (by decide) (by decide) (by decide))).trans (Fr.sub f97 (by decide) (by decide) (by decide)))).trans z1, z2, z4, z5, z6, z7⟩) _  rfl)
      · refine tm_aload_n dX12_call_109 rfl 6 rfl ?_
        refine tm_iconst dX12_call_110 ?_
        refine tm_iload dX12_call_111 3 rfl ?_
        refine tm_callV (M := m_X12_call) (pc := 113) (ix := 274) (M' := m_X12_note) (As := [.int (iI 3), .int (iI p)]) (rest := []) dX12_call_113 ok_X12_note im_X12_note se_X12_note ml12_274 np_X12_note rfl rfl (Nat.le_of_ble_eq_true rfl) (Nat.le_of_ble_eq_true rfl) rfl (c2_X12_note (d + 40) (σ := σ76) (f := 3) (p := p) R88 (by omega) (by omega)) (fun r102 σ103 hp => ?_)
        obtain ⟨rfl, f105, f106, f107, f108, f109⟩ := hp
        show Tm _ _ 116 b σ103 [(7, .int (iI v79)), (6, .int (iI mo75)), (5, .int (iI m74)), (4, .int (iI p)), (2, .long (w)), (1, .int (iI kn)), (0, .ref b)] [] _
        refine tm_goto (tgt := 145) dX12_call_116 (by decide) ?_
        refine tm_sub [0, 2, 5, 6] rfl (b_call145 (d + 33) (σ := σ103) (kn := kn) (m := m74) (q := v79) (ρ := ρ) (σc := σ) (w := w) (σb := σ76) (p := p) f106 hrd0 le1 f105 (PBF.of le1.nn f105 (by decide) (by decide) (by decide) f107) (by rw [f109, clP_none (by omega) rb (by omega)]) (RDY.of le1.2.2.1 ⟨f105.1 25 (by decide), f105.1 30 (by decide)⟩ (by unfold TOK; rw [f105.1 19 (by decide), f105.1 20 (by decide), f105.1 21 (by decide), f105.1 22 (by decide), f105.1 23 (by decide)]; exact le1.2.2.1.1) (PBC.nop f105 (by decide)) (by decide)) hk12 le0 (rb.tb (TBm.of f105 (by decide) (by decide) (by decide) (by decide))) (by rw [f105.1 43 (by decide)]; exact rq) (by rw [f105.1 43 (by decide), e43]; exact ht.2) (fun _ z => absurd z (f108 (by omega))) (acc.trans pbc (AC.nil (f105.1 34 (by decide))) (PBF.of le1.nn f105 (by decide) (by decide) (by decide) f107) (by omega)) (pbc.trans (PBF.of le1.nn f105 (by decide) (by decide) (by decide) f107)) (tbc.trans (TBm.of f105 (by decide) (by decide) (by decide) (by decide))) (by rw [f105.1 33 (by decide)]; omega) ⟨by omega, by omega⟩ (le4.mv f105 (by decide) (by decide) (by rw [f105.1 34 (by decide)]; omega)) ((f105.1 28 (by decide)).trans le5) (fun v τ z1 z2 z3 z4 z5 z6 z7 => ⟨_, rfl, z3, (show Fr [19, 20, 22, 23, 26, 27, 28, 32, 34, 39, 40] [3, 4, 5, 6, 7, 8, 35, 41, 42] [24, 38] σ σ103 from (((Fr.rfl.trans (Fr.sub f5 (by decide) (by decide) (by decide))).trans (Fr.sub F66 (by decide) (by decide) (by decide))).trans (Fr.sub f105 (by decide) (by decide) (by decide)))).trans z1, z2, z4, z5, z6, z7⟩) _  rfl)
