section
theorem ml12_363 : Cond.methodLink RX12 363 yX12_routineBy ∈ pWW := pw8 (List.mem_of_getElem? (i := 169) rfl) rfl
theorem ml12_367 : Cond.methodLink RX12 367 yX12_calledMany ∈ pWW := pw9 (List.mem_of_getElem? (i := 17) rfl) rfl
theorem dX12_call_0 : decode cX12_call 0 = .ok (.aload_n 0, 1) := by decide +kernel
theorem dX12_call_1 : decode cX12_call 1 = .ok (.invokevirtual 265, 3) := by decide +kernel
theorem dX12_call_4 : decode cX12_call 4 = .ok (.iconst 0, 1) := by decide +kernel
theorem dX12_call_5 : decode cX12_call 5 = .ok (.istore 5, 2) := by decide +kernel
theorem dX12_call_7 : decode cX12_call 7 = .ok (.aload_n 0, 1) := by decide +kernel
theorem dX12_call_8 : decode cX12_call 8 = .ok (.bipush 41, 2) := by decide +kernel
theorem dX12_call_10 : decode cX12_call 10 = .ok (.invokevirtual 258, 3) := by decide +kernel
theorem dX12_call_13 : decode cX12_call 13 = .ok (.ifCond .ne 7, 3) := by decide +kernel
theorem dX12_call_20 : decode cX12_call 20 = .ok (.iconst 0, 1) := by decide +kernel
theorem dX12_call_21 : decode cX12_call 21 = .ok (.istore 6, 2) := by decide +kernel
theorem dX12_call_88 : decode cX12_call 88 = .ok (.aload_n 0, 1) := by decide +kernel
theorem dX12_call_89 : decode cX12_call 89 = .ok (.lload_n 2, 1) := by decide +kernel
theorem dX12_call_90 : decode cX12_call 90 = .ok (.invokevirtual 363, 3) := by decide +kernel
theorem dX12_call_93 : decode cX12_call 93 = .ok (.istore 7, 2) := by decide +kernel
theorem dX12_call_95 : decode cX12_call 95 = .ok (.aload_n 0, 1) := by decide +kernel
theorem dX12_call_96 : decode cX12_call 96 = .ok (.getfield 255, 3) := by decide +kernel
theorem dX12_call_99 : decode cX12_call 99 = .ok (.iconst 2, 1) := by decide +kernel
theorem dX12_call_100 : decode cX12_call 100 = .ok (.if_icmp .ne 19, 3) := by decide +kernel
theorem dX12_call_119 : decode cX12_call 119 = .ok (.aload_n 0, 1) := by decide +kernel
theorem dX12_call_120 : decode cX12_call 120 = .ok (.getfield 255, 3) := by decide +kernel
theorem dX12_call_123 : decode cX12_call 123 = .ok (.iconst 2, 1) := by decide +kernel
theorem dX12_call_124 : decode cX12_call 124 = .ok (.if_icmp .ne 21, 3) := by decide +kernel
theorem dX12_call_103 : decode cX12_call 103 = .ok (.iload 7, 2) := by decide +kernel
theorem dX12_call_105 : decode cX12_call 105 = .ok (.iconst (-1), 1) := by decide +kernel
theorem dX12_call_106 : decode cX12_call 106 = .ok (.if_icmp .ne 13, 3) := by decide +kernel
theorem dX12_call_127 : decode cX12_call 127 = .ok (.iload 5, 2) := by decide +kernel
theorem dX12_call_129 : decode cX12_call 129 = .ok (.aload_n 0, 1) := by decide +kernel
theorem dX12_call_130 : decode cX12_call 130 = .ok (.iload 7, 2) := by decide +kernel
theorem dX12_call_132 : decode cX12_call 132 = .ok (.invokevirtual 367, 3) := by decide +kernel
theorem dX12_call_135 : decode cX12_call 135 = .ok (.if_icmp .eq 10, 3) := by decide +kernel
theorem dX12_call_138 : decode cX12_call 138 = .ok (.aload_n 0, 1) := by decide +kernel
theorem dX12_call_139 : decode cX12_call 139 = .ok (.iconst 4, 1) := by decide +kernel
theorem dX12_call_140 : decode cX12_call 140 = .ok (.iload 4, 2) := by decide +kernel
theorem dX12_call_142 : decode cX12_call 142 = .ok (.invokevirtual 274, 3) := by decide +kernel
theorem dX12_call_109 : decode cX12_call 109 = .ok (.aload_n 0, 1) := by decide +kernel
theorem dX12_call_110 : decode cX12_call 110 = .ok (.iconst 3, 1) := by decide +kernel
theorem dX12_call_111 : decode cX12_call 111 = .ok (.iload 4, 2) := by decide +kernel
theorem dX12_call_113 : decode cX12_call 113 = .ok (.invokevirtual 274, 3) := by decide +kernel
theorem dX12_call_116 : decode cX12_call 116 = .ok (.goto 29, 3) := by decide +kernel
theorem dX12_call_16 : decode cX12_call 16 = .ok (.iconst 1, 1) := by decide +kernel
theorem dX12_call_17 : decode cX12_call 17 = .ok (.goto 4, 3) := by decide +kernel
set_option maxHeartbeats 4000000 in
set_option maxRecDepth 20000 in
theorem c_X12_call (d : Nat) {b : Nat} {σ : MS} {kn : Int} {w : Int64} {p : Int} {ρ : MS} (hR : RG σ) (hrd0 : RDY ρ) (hts : TS 20 5 ρ [26, 159] σ (fun c => (w, 0, p, 0, c)) []) (hk12 : 0 ≤ kn ∧ kn < 12) (h28 : σ.1 28 = 0) (ht : 0 ≤ σ.1 43 ∧ σ.1 43 ≤ 260) (hs40 : SG σ 40) (h_p : -2147483648 ≤ p ∧ p ≤ 2147483647) : Tm (d + 42) m_X12_call 0 b σ [(0, .ref b), (1, .int (iI kn)), (2, .long (w)), (4, .int (iI p))] [] (fun ro σ2 => ∃ v : Int, ro = some (.int (iI v)) ∧ ((v = 0 ∨ v = 1)) ∧ (Fr [19, 20, 22, 23, 26, 27, 28, 32, 34, 39, 40] [3, 4, 5, 6, 7, 8, 35, 41, 42] [24, 38] σ σ2) ∧ (RG σ2) ∧ (PBF ρ σ2) ∧ (Im v 1 (∃ lg, TS 20 5 ρ [159] σ2 qq lg ∧ ASF σ σ2 lg ∧ PBF σ σ2)) ∧ (Im v 0 (∀ c : Int, GOF [20] ρ (qq c) σ2)) ∧ (σ2.1 28 = 0)) := by
  refine tm_aload_n dX12_call_0 rfl 0 rfl ?_
  refine tm_callV (M := m_X12_call) (pc := 1) (ix := 265) (M' := m_X12_advance) (As := []) (rest := []) dX12_call_1 ok_X12_advance im_X12_advance se_X12_advance ml12_265 np_X12_advance rfl rfl (Nat.le_of_ble_eq_true rfl) (Nat.le_of_ble_eq_true rfl) rfl (c_X12_advance (d + 36) (σ := σ)  hR (by have z := hts.2.2.1.1.1; omega)) (fun r1 σ2 hp => ?_)
  obtain ⟨rfl, f4, f5, f6, f7, f8⟩ := hp
  show Tm _ _ 4 b σ2 [(0, .ref b), (1, .int (iI kn)), (2, .long (w)), (4, .int (iI p))] [] _
  have ad0 := f4
  have ad1 := f5
  have ad2 := f6
  have ad3 := f7
  have ad4 := f8
  refine tm_iconst dX12_call_4 ?_
  refine tm_istore (L' := [(5, .int (iI 0)), (0, .ref b), (1, .int (iI kn)), (2, .long (w)), (4, .int (iI p))]) dX12_call_5 (by decide) rfl ?_
  refine tm_aload_n dX12_call_7 rfl 1 rfl ?_
  refine tm_bipush dX12_call_8 (by decide) ?_
  refine tm_callV (M := m_X12_call) (pc := 10) (ix := 258) (M' := m_X12_isSign) (As := [.int (iI 41)]) (rest := []) dX12_call_10 ok_X12_isSign im_X12_isSign se_X12_isSign ml12_258 np_X12_isSign rfl rfl (Nat.le_of_ble_eq_true rfl) (Nat.le_of_ble_eq_true rfl) rfl (c2_X12_isSign (d + 40) (σ := σ2) (c := 41) f6 (by omega)) (fun r9 σ10 hp => ?_)
  obtain ⟨v11, rfl, rfl, f12, f13, f14⟩ := hp
  show Tm _ _ 13 b σ2 [(5, .int (iI 0)), (0, .ref b), (1, .int (iI kn)), (2, .long (w)), (4, .int (iI p))] [.int (iI v11)] _
  have i41 := f13
  have n41_ := f14
  have tka := ad3.1
  have pba : PBF σ σ2 := PBF.nop hts.nn ad1 (by decide) (by decide) (by decide)
  have hnz : σ.1 22 ≠ 0 := by have z := hs40.1; omega
  have e28a : σ2.1 28 = 0 := (ad1.1 28 (by decide)).trans h28
  have e30a : σ2.1 30 = σ.1 30 := ad1.1 30 (by decide)
  have rdc := hts.2.2.1.2
  refine tm_if_ne (tgt := 20) dX12_call_13 (by decide) ⟨by omega, by omega⟩ (fun h15 => ?_) (fun h15 => ?_)
  · refine tm_iconst dX12_call_20 ?_
    refine tm_istore (L' := [(6, .int (iI 0)), (5, .int (iI 0)), (0, .ref b), (1, .int (iI kn)), (2, .long (w)), (4, .int (iI p))]) dX12_call_21 (by decide) rfl ?_
    refine tm_sub [0, 1, 5, 4, 3, 2] rfl (l_call (d + 1) (σ0 := σ2) (kn := kn) (p := p) (ρ := ρ) (w := w) f6 (by omega) (by omega) (fun m27 mo28 σ29 F19 R20 f21 f22 f23 f24 f25 f26 => ?_) (fun τ z1 z2 z3 z4 z5 => ⟨_, rfl, by omega, (show Fr [19, 20, 22, 23, 26, 27, 28, 32, 34, 39, 40] [3, 4, 5, 6, 7, 8, 35, 41, 42] [24, 38] σ σ2 from (Fr.rfl.trans (Fr.sub f5 (by decide) (by decide) (by decide)))).trans z1, z2, z3, fun q => absurd q (by decide), fun _ => z4, z5⟩) _ (0) (0) σ2 Fr.rfl f6 (by omega) ⟨fun q => absurd q (by decide), fun _ => (hts.adv ad1 ad3 ad4 hnz (g26y ad0 (i41 (by omega)))).le (by decide)⟩ (PBF.nop pba.2.2.1 (Fr.rfl : Fr [] [] [] _ _) (by decide) (by decide) (by decide)) (AC.nil rfl) CAG.nil e28a rfl)
    show Tm _ _ 88 b σ29 [(6, .int (iI mo28)), (5, .int (iI m27)), (4, .int (iI p)), (2, .long (w)), (1, .int (iI kn)), (0, .ref b)] [] _
    have le0 := f21
    have le1 := f22
    have le2 := f23
    have le3 := f24
    have le4 := f25
    have le5 := f26
    have f88 := (show Fr [19, 20, 22, 23, 26, 27, 28, 32, 34, 39, 40] [3, 4, 5, 6, 7, 8, 35, 41, 42] [24, 38] σ σ29 from ((Fr.rfl.trans (Fr.sub f5 (by decide) (by decide) (by decide))).trans (Fr.sub F19 (by decide) (by decide) (by decide))))
    have e43 : σ29.1 43 = σ.1 43 := f88.1 43 (by decide)
    have pbc : PBF σ σ29 := pba.trans le2
    have acc : AC σ σ29 := (AC.nil (ad1.1 34 (by decide))).trans pba le3 le2 (by omega)
    have tbc : TBm σ σ29 := TBm.of f88 (by decide) (by decide) (by decide) (by decide)
    have h33c := le1.2.1
    have e33c : σ29.1 33 = σ.1 33 := f88.1 33 (by decide)
    have e25c : σ29.1 25 = σ.1 25 := f88.1 25 (by decide)
    have R88 := R20
    refine tm_aload_n dX12_call_88 rfl 5 rfl ?_
    refine tm_lload_n dX12_call_89 rfl 3 rfl ?_
    refine tm_callV (M := m_X12_call) (pc := 90) (ix := 363) (M' := m_X12_routineBy) (As := [.long (w)]) (rest := []) dX12_call_90 ok_X12_routineBy im_X12_routineBy se_X12_routineBy ml12_363 np_X12_routineBy rfl rfl (Nat.le_of_ble_eq_true rfl) (Nat.le_of_ble_eq_true rfl) rfl (c2_X12_routineBy (d + 40) (σ := σ29) (w := w) R88 (by rw [e43]; exact ht)) (fun r30 σ31 hp => ?_)
    obtain ⟨v32, rfl, rfl, f33, f34⟩ := hp
    show Tm _ _ 93 b σ29 [(6, .int (iI mo28)), (5, .int (iI m27)), (4, .int (iI p)), (2, .long (w)), (1, .int (iI kn)), (0, .ref b)] [.int (iI v32)] _
    refine tm_istore (L' := [(7, .int (iI v32)), (6, .int (iI mo28)), (5, .int (iI m27)), (4, .int (iI p)), (2, .long (w)), (1, .int (iI kn)), (0, .ref b)]) dX12_call_93 (by decide) rfl ?_
    have rq := f33
    have rb := f34
    refine tm_aload_n dX12_call_95 rfl 6 rfl ?_
    refine tm_getS (k := 25) (t := σ.1 25) dX12_call_96 (by decide) fl12_255 rfl (rs_F F19 (by decide) (rs_F f5 (by decide) (rfl))) ?_
    have g35 := RG.s hR 25
    refine tm_iconst dX12_call_99 ?_
    refine tm_icmp_ne (tgt := 119) dX12_call_100 (by decide) ⟨by omega, by omega⟩ ⟨by decide, by decide⟩ (fun h36 => ?_) (fun h36 => ?_)
    · refine tm_aload_n dX12_call_119 rfl 6 rfl ?_
      refine tm_getS (k := 25) (t := σ.1 25) dX12_call_120 (by decide) fl12_255 rfl (rs_F F19 (by decide) (rs_F f5 (by decide) (rfl))) ?_
      have g37 := RG.s hR 25
      refine tm_iconst dX12_call_123 ?_
      refine tm_icmp_ne (tgt := 145) dX12_call_124 (by decide) ⟨by omega, by omega⟩ ⟨by decide, by decide⟩ (fun h38 => ?_) (fun h38 => ?_)
      · refine tm_sub [0, 2, 5, 6] rfl (b_call145 (d + 33) (σ := σ29) (kn := kn) (m := m27) (q := v32) (ρ := ρ) (σc := σ) (w := w) (σb := σ29) (p := p) R20 hrd0 le1 Fr.rfl (PBF.nop le1.nn (Fr.rfl : Fr [] [] [] _ _) (by decide) (by decide) (by decide)) (by rw [clP_off (by omega)]) le1.2.2.1 hk12 le0 rb rq (by rw [e43]; exact ht.2) (fun z => absurd z (by omega)) acc pbc tbc (by omega) ⟨by omega, by omega⟩ le4 le5 (fun v τ z1 z2 z3 z4 z5 z6 z7 => ⟨_, rfl, z3, (show Fr [19, 20, 22, 23, 26, 27, 28, 32, 34, 39, 40] [3, 4, 5, 6, 7, 8, 35, 41, 42] [24, 38] σ σ29 from ((Fr.rfl.trans (Fr.sub f5 (by decide) (by decide) (by decide))).trans (Fr.sub F19 (by decide) (by decide) (by decide)))).trans z1, z2, z4, z5, z6, z7⟩) _  rfl)
      · exact absurd h38 (by omega)
    · refine tm_iload dX12_call_103 0 rfl ?_
      refine tm_iconst dX12_call_105 ?_
      refine tm_icmp_ne (tgt := 119) dX12_call_106 (by decide) ⟨by omega, by omega⟩ ⟨by decide, by decide⟩ (fun h39 => ?_) (fun h39 => ?_)
      · refine tm_aload_n dX12_call_119 rfl 6 rfl ?_
        refine tm_getS (k := 25) (t := σ.1 25) dX12_call_120 (by decide) fl12_255 rfl (rs_F F19 (by decide) (rs_F f5 (by decide) (rfl))) ?_
        have g40 := RG.s hR 25
        refine tm_iconst dX12_call_123 ?_
        refine tm_icmp_ne (tgt := 145) dX12_call_124 (by decide) ⟨by omega, by omega⟩ ⟨by decide, by decide⟩ (fun h41 => ?_) (fun h41 => ?_)
        · exact absurd h41 (by omega)
        · refine tm_iload dX12_call_127 2 rfl ?_
          refine tm_aload_n dX12_call_129 rfl 6 rfl ?_
          refine tm_iload dX12_call_130 0 rfl ?_
          refine tm_callV (M := m_X12_call) (pc := 132) (ix := 367) (M' := m_X12_calledMany) (As := [.int (iI v32)]) (rest := [.int (iI m27)]) dX12_call_132 ok_X12_calledMany im_X12_calledMany se_X12_calledMany ml12_367 np_X12_calledMany rfl rfl (Nat.le_of_ble_eq_true rfl) (Nat.le_of_ble_eq_true rfl) rfl (c_X12_calledMany (d + 40) (σ := σ29) (q := v32) (by omega)) (fun r42 σ43 hp => ?_)
          obtain ⟨v44, rfl, rfl, f45⟩ := hp
          show Tm _ _ 135 b σ29 [(7, .int (iI v32)), (6, .int (iI mo28)), (5, .int (iI m27)), (4, .int (iI p)), (2, .long (w)), (1, .int (iI kn)), (0, .ref b)] [.int (iI v44), .int (iI m27)] _
          have cm := f45
          have g45 := RG.a R88 45 (v32)
          refine tm_icmp_eq (tgt := 145) dX12_call_135 (by decide) ⟨by omega, by omega⟩ ⟨by omega, by omega⟩ (fun h46 => ?_) (fun h46 => ?_)
          · have cme : σ29.2.1 45 (v32) = m27 := by omega
            refine tm_sub [0, 2, 5, 6] rfl (b_call145 (d + 33) (σ := σ29) (kn := kn) (m := m27) (q := v32) (ρ := ρ) (σc := σ) (w := w) (σb := σ29) (p := p) R20 hrd0 le1 Fr.rfl (PBF.nop le1.nn (Fr.rfl : Fr [] [] [] _ _) (by decide) (by decide) (by decide)) (by rw [clP_ok rb (by omega) rq.2 cme.symm]) le1.2.2.1 hk12 le0 rb rq (by rw [e43]; exact ht.2) (fun _ _ => ⟨fun z => absurd (show (1 : Int) = 0 from z) (by decide), fun _ => ⟨_, ⟨by omega, rq.2⟩, rb, cme⟩⟩) acc pbc tbc (by omega) ⟨by omega, by omega⟩ le4 le5 (fun v τ z1 z2 z3 z4 z5 z6 z7 => ⟨_, rfl, z3, (show Fr [19, 20, 22, 23, 26, 27, 28, 32, 34, 39, 40] [3, 4, 5, 6, 7, 8, 35, 41, 42] [24, 38] σ σ29 from ((Fr.rfl.trans (Fr.sub f5 (by decide) (by decide) (by decide))).trans (Fr.sub F19 (by decide) (by decide) (by decide)))).trans z1, z2, z4, z5, z6, z7⟩) _  rfl)
          · refine tm_aload_n dX12_call_138 rfl 6 rfl ?_
            refine tm_iconst dX12_call_139 ?_
            refine tm_iload dX12_call_140 3 rfl ?_
            refine tm_callV (M := m_X12_call) (pc := 142) (ix := 274) (M' := m_X12_note) (As := [.int (iI 4), .int (iI p)]) (rest := []) dX12_call_142 ok_X12_note im_X12_note se_X12_note ml12_274 np_X12_note rfl rfl (Nat.le_of_ble_eq_true rfl) (Nat.le_of_ble_eq_true rfl) rfl (c2_X12_note (d + 40) (σ := σ29) (f := 4) (p := p) R88 (by omega) (by omega)) (fun r47 σ48 hp => ?_)
            obtain ⟨rfl, f50, f51, f52, f53, f54⟩ := hp
            show Tm _ _ 145 b σ48 [(7, .int (iI v32)), (6, .int (iI mo28)), (5, .int (iI m27)), (4, .int (iI p)), (2, .long (w)), (1, .int (iI kn)), (0, .ref b)] [] _
            refine tm_sub [0, 2, 5, 6] rfl (b_call145 (d + 33) (σ := σ48) (kn := kn) (m := m27) (q := v32) (ρ := ρ) (σc := σ) (w := w) (σb := σ29) (p := p) f51 hrd0 le1 f50 (PBF.of le1.nn f50 (by decide) (by decide) (by decide) f52) (by rw [f54, clP_bad (by omega) rb (by omega) rq.2 (by omega)]) (RDY.of le1.2.2.1 ⟨f50.1 25 (by decide), f50.1 30 (by decide)⟩ (by unfold TOK; rw [f50.1 19 (by decide), f50.1 20 (by decide), f50.1 21 (by decide), f50.1 22 (by decide), f50.1 23 (by decide)]; exact le1.2.2.1.1) (PBC.nop f50 (by decide)) (by decide)) hk12 le0 (rb.tb (TBm.of f50 (by decide) (by decide) (by decide) (by decide))) (by rw [f50.1 43 (by decide)]; exact rq) (by rw [f50.1 43 (by decide), e43]; exact ht.2) (fun _ z => absurd z (f53 (by omega))) (acc.trans pbc (AC.nil (f50.1 34 (by decide))) (PBF.of le1.nn f50 (by decide) (by decide) (by decide) f52) (by omega)) (pbc.trans (PBF.of le1.nn f50 (by decide) (by decide) (by decide) f52)) (tbc.trans (TBm.of f50 (by decide) (by decide) (by decide) (by decide))) (by rw [f50.1 33 (by decide)]; omega) ⟨by omega, by omega⟩ (le4.mv f50 (by decide) (by decide) (by rw [f50.1 34 (by decide)]; omega)) ((f50.1 28 (by decide)).trans le5) (fun v τ z1 z2 z3 z4 z5 z6 z7 => ⟨_, rfl, z3, (show Fr [19, 20, 22, 23, 26, 27, 28, 32, 34, 39, 40] [3, 4, 5, 6, 7, 8, 35, 41, 42] [24, 38] σ σ48 from (((Fr.rfl.trans (Fr.sub f5 (by decide) (by decide) (by decide))).trans (Fr.sub F19 (by decide) (by decide) (by decide))).trans (Fr.sub f50 (by decide) (by decide) (by decide)))).trans z1, z2, z4, z5, z6, z7⟩) _  rfl)
      · refine tm_aload_n dX12_call_109 rfl 6 rfl ?_
        refine tm_iconst dX12_call_110 ?_
        refine tm_iload dX12_call_111 3 rfl ?_
        refine tm_callV (M := m_X12_call) (pc := 113) (ix := 274) (M' := m_X12_note) (As := [.int (iI 3), .int (iI p)]) (rest := []) dX12_call_113 ok_X12_note im_X12_note se_X12_note ml12_274 np_X12_note rfl rfl (Nat.le_of_ble_eq_true rfl) (Nat.le_of_ble_eq_true rfl) rfl (c2_X12_note (d + 40) (σ := σ29) (f := 3) (p := p) R88 (by omega) (by omega)) (fun r55 σ56 hp => ?_)
        obtain ⟨rfl, f58, f59, f60, f61, f62⟩ := hp
        show Tm _ _ 116 b σ56 [(7, .int (iI v32)), (6, .int (iI mo28)), (5, .int (iI m27)), (4, .int (iI p)), (2, .long (w)), (1, .int (iI kn)), (0, .ref b)] [] _
        refine tm_goto (tgt := 145) dX12_call_116 (by decide) ?_
        refine tm_sub [0, 2, 5, 6] rfl (b_call145 (d + 33) (σ := σ56) (kn := kn) (m := m27) (q := v32) (ρ := ρ) (σc := σ) (w := w) (σb := σ29) (p := p) f59 hrd0 le1 f58 (PBF.of le1.nn f58 (by decide) (by decide) (by decide) f60) (by rw [f62, clP_none (by omega) rb (by omega)]) (RDY.of le1.2.2.1 ⟨f58.1 25 (by decide), f58.1 30 (by decide)⟩ (by unfold TOK; rw [f58.1 19 (by decide), f58.1 20 (by decide), f58.1 21 (by decide), f58.1 22 (by decide), f58.1 23 (by decide)]; exact le1.2.2.1.1) (PBC.nop f58 (by decide)) (by decide)) hk12 le0 (rb.tb (TBm.of f58 (by decide) (by decide) (by decide) (by decide))) (by rw [f58.1 43 (by decide)]; exact rq) (by rw [f58.1 43 (by decide), e43]; exact ht.2) (fun _ z => absurd z (f61 (by omega))) (acc.trans pbc (AC.nil (f58.1 34 (by decide))) (PBF.of le1.nn f58 (by decide) (by decide) (by decide) f60) (by omega)) (pbc.trans (PBF.of le1.nn f58 (by decide) (by decide) (by decide) f60)) (tbc.trans (TBm.of f58 (by decide) (by decide) (by decide) (by decide))) (by rw [f58.1 33 (by decide)]; omega) ⟨by omega, by omega⟩ (le4.mv f58 (by decide) (by decide) (by rw [f58.1 34 (by decide)]; omega)) ((f58.1 28 (by decide)).trans le5) (fun v τ z1 z2 z3 z4 z5 z6 z7 => ⟨_, rfl, z3, (show Fr [19, 20, 22, 23, 26, 27, 28, 32, 34, 39, 40] [3, 4, 5, 6, 7, 8, 35, 41, 42] [24, 38] σ σ56 from (((Fr.rfl.trans (Fr.sub f5 (by decide) (by decide) (by decide))).trans (Fr.sub F19 (by decide) (by decide) (by decide))).trans (Fr.sub f58 (by decide) (by decide) (by decide)))).trans z1, z2, z4, z5, z6, z7⟩) _  rfl)
  · refine tm_iconst dX12_call_16 ?_
    refine tm_goto (tgt := 21) dX12_call_17 (by decide) ?_
    refine tm_istore (L' := [(6, .int (iI 1)), (5, .int (iI 0)), (0, .ref b), (1, .int (iI kn)), (2, .long (w)), (4, .int (iI p))]) dX12_call_21 (by decide) rfl ?_
    refine tm_sub [0, 1, 5, 4, 3, 2] rfl (l_call (d + 1) (σ0 := σ2) (kn := kn) (p := p) (ρ := ρ) (w := w) f6 (by omega) (by omega) (fun m74 mo75 σ76 F66 R67 f68 f69 f70 f71 f72 f73 => ?_) (fun τ z1 z2 z3 z4 z5 => ⟨_, rfl, by omega, (show Fr [19, 20, 22, 23, 26, 27, 28, 32, 34, 39, 40] [3, 4, 5, 6, 7, 8, 35, 41, 42] [24, 38] σ σ2 from (Fr.rfl.trans (Fr.sub f5 (by decide) (by decide) (by decide)))).trans z1, z2, z3, fun q => absurd q (by decide), fun _ => z4, z5⟩) _ (0) (1) σ2 Fr.rfl f6 (by omega) ⟨fun _ => (hts.adv ad1 ad3 ad4 hnz (g26n ad0 (n41_ (by omega)))).le (by decide), fun q => absurd q (by decide)⟩ (PBF.nop pba.2.2.1 (Fr.rfl : Fr [] [] [] _ _) (by decide) (by decide) (by decide)) (AC.nil rfl) CAG.nil e28a rfl)
    show Tm _ _ 88 b σ76 [(6, .int (iI mo75)), (5, .int (iI m74)), (4, .int (iI p)), (2, .long (w)), (1, .int (iI kn)), (0, .ref b)] [] _
    have le0 := f68
    have le1 := f69
    have le2 := f70
    have le3 := f71
    have le4 := f72
    have le5 := f73
    have f88 := (show Fr [19, 20, 22, 23, 26, 27, 28, 32, 34, 39, 40] [3, 4, 5, 6, 7, 8, 35, 41, 42] [24, 38] σ σ76 from ((Fr.rfl.trans (Fr.sub f5 (by decide) (by decide) (by decide))).trans (Fr.sub F66 (by decide) (by decide) (by decide))))
    have e43 : σ76.1 43 = σ.1 43 := f88.1 43 (by decide)
    have pbc : PBF σ σ76 := pba.trans le2
    have acc : AC σ σ76 := (AC.nil (ad1.1 34 (by decide))).trans pba le3 le2 (by omega)
    have tbc : TBm σ σ76 := TBm.of f88 (by decide) (by decide) (by decide) (by decide)
    have h33c := le1.2.1
    have e33c : σ76.1 33 = σ.1 33 := f88.1 33 (by decide)
    have e25c : σ76.1 25 = σ.1 25 := f88.1 25 (by decide)
    have R88 := R67
    refine tm_aload_n dX12_call_88 rfl 5 rfl ?_
    refine tm_lload_n dX12_call_89 rfl 3 rfl ?_
    refine tm_callV (M := m_X12_call) (pc := 90) (ix := 363) (M' := m_X12_routineBy) (As := [.long (w)]) (rest := []) dX12_call_90 ok_X12_routineBy im_X12_routineBy se_X12_routineBy ml12_363 np_X12_routineBy rfl rfl (Nat.le_of_ble_eq_true rfl) (Nat.le_of_ble_eq_true rfl) rfl (c2_X12_routineBy (d + 40) (σ := σ76) (w := w) R88 (by rw [e43]; exact ht)) (fun r77 σ78 hp => ?_)
    obtain ⟨v79, rfl, rfl, f80, f81⟩ := hp
    show Tm _ _ 93 b σ76 [(6, .int (iI mo75)), (5, .int (iI m74)), (4, .int (iI p)), (2, .long (w)), (1, .int (iI kn)), (0, .ref b)] [.int (iI v79)] _
    refine tm_istore (L' := [(7, .int (iI v79)), (6, .int (iI mo75)), (5, .int (iI m74)), (4, .int (iI p)), (2, .long (w)), (1, .int (iI kn)), (0, .ref b)]) dX12_call_93 (by decide) rfl ?_
    have rq := f80
    have rb := f81
    refine tm_aload_n dX12_call_95 rfl 6 rfl ?_
    refine tm_getS (k := 25) (t := σ.1 25) dX12_call_96 (by decide) fl12_255 rfl (rs_F F66 (by decide) (rs_F f5 (by decide) (rfl))) ?_
    have g82 := RG.s hR 25
    refine tm_iconst dX12_call_99 ?_
    refine tm_icmp_ne (tgt := 119) dX12_call_100 (by decide) ⟨by omega, by omega⟩ ⟨by decide, by decide⟩ (fun h83 => ?_) (fun h83 => ?_)
    · refine tm_aload_n dX12_call_119 rfl 6 rfl ?_
      refine tm_getS (k := 25) (t := σ.1 25) dX12_call_120 (by decide) fl12_255 rfl (rs_F F66 (by decide) (rs_F f5 (by decide) (rfl))) ?_
      have g84 := RG.s hR 25
      refine tm_iconst dX12_call_123 ?_
      refine tm_icmp_ne (tgt := 145) dX12_call_124 (by decide) ⟨by omega, by omega⟩ ⟨by decide, by decide⟩ (fun h85 => ?_) (fun h85 => ?_)
      · refine tm_sub [0, 2, 5, 6] rfl (b_call145 (d + 33) (σ := σ76) (kn := kn) (m := m74) (q := v79) (ρ := ρ) (σc := σ) (w := w) (σb := σ76) (p := p) R67 hrd0 le1 Fr.rfl (PBF.nop le1.nn (Fr.rfl : Fr [] [] [] _ _) (by decide) (by decide) (by decide)) (by rw [clP_off (by omega)]) le1.2.2.1 hk12 le0 rb rq (by rw [e43]; exact ht.2) (fun z => absurd z (by omega)) acc pbc tbc (by omega) ⟨by omega, by omega⟩ le4 le5 (fun v τ z1 z2 z3 z4 z5 z6 z7 => ⟨_, rfl, z3, (show Fr [19, 20, 22, 23, 26, 27, 28, 32, 34, 39, 40] [3, 4, 5, 6, 7, 8, 35, 41, 42] [24, 38] σ σ76 from ((Fr.rfl.trans (Fr.sub f5 (by decide) (by decide) (by decide))).trans (Fr.sub F66 (by decide) (by decide) (by decide)))).trans z1, z2, z4, z5, z6, z7⟩) _  rfl)
      · exact absurd h85 (by omega)
    · refine tm_iload dX12_call_103 0 rfl ?_
      refine tm_iconst dX12_call_105 ?_
      refine tm_icmp_ne (tgt := 119) dX12_call_106 (by decide) ⟨by omega, by omega⟩ ⟨by decide, by decide⟩ (fun h86 => ?_) (fun h86 => ?_)
      · refine tm_aload_n dX12_call_119 rfl 6 rfl ?_
        refine tm_getS (k := 25) (t := σ.1 25) dX12_call_120 (by decide) fl12_255 rfl (rs_F F66 (by decide) (rs_F f5 (by decide) (rfl))) ?_
        have g87 := RG.s hR 25
        refine tm_iconst dX12_call_123 ?_
        refine tm_icmp_ne (tgt := 145) dX12_call_124 (by decide) ⟨by omega, by omega⟩ ⟨by decide, by decide⟩ (fun h88 => ?_) (fun h88 => ?_)
        · exact absurd h88 (by omega)
        · refine tm_iload dX12_call_127 2 rfl ?_
          refine tm_aload_n dX12_call_129 rfl 6 rfl ?_
          refine tm_iload dX12_call_130 0 rfl ?_
          refine tm_callV (M := m_X12_call) (pc := 132) (ix := 367) (M' := m_X12_calledMany) (As := [.int (iI v79)]) (rest := [.int (iI m74)]) dX12_call_132 ok_X12_calledMany im_X12_calledMany se_X12_calledMany ml12_367 np_X12_calledMany rfl rfl (Nat.le_of_ble_eq_true rfl) (Nat.le_of_ble_eq_true rfl) rfl (c_X12_calledMany (d + 40) (σ := σ76) (q := v79) (by omega)) (fun r89 σ90 hp => ?_)
          obtain ⟨v91, rfl, rfl, f92⟩ := hp
          show Tm _ _ 135 b σ76 [(7, .int (iI v79)), (6, .int (iI mo75)), (5, .int (iI m74)), (4, .int (iI p)), (2, .long (w)), (1, .int (iI kn)), (0, .ref b)] [.int (iI v91), .int (iI m74)] _
          have cm := f92
          have g45 := RG.a R88 45 (v79)
          refine tm_icmp_eq (tgt := 145) dX12_call_135 (by decide) ⟨by omega, by omega⟩ ⟨by omega, by omega⟩ (fun h93 => ?_) (fun h93 => ?_)
          · have cme : σ76.2.1 45 (v79) = m74 := by omega
            refine tm_sub [0, 2, 5, 6] rfl (b_call145 (d + 33) (σ := σ76) (kn := kn) (m := m74) (q := v79) (ρ := ρ) (σc := σ) (w := w) (σb := σ76) (p := p) R67 hrd0 le1 Fr.rfl (PBF.nop le1.nn (Fr.rfl : Fr [] [] [] _ _) (by decide) (by decide) (by decide)) (by rw [clP_ok rb (by omega) rq.2 cme.symm]) le1.2.2.1 hk12 le0 rb rq (by rw [e43]; exact ht.2) (fun _ _ => ⟨fun z => absurd (show (1 : Int) = 0 from z) (by decide), fun _ => ⟨_, ⟨by omega, rq.2⟩, rb, cme⟩⟩) acc pbc tbc (by omega) ⟨by omega, by omega⟩ le4 le5 (fun v τ z1 z2 z3 z4 z5 z6 z7 => ⟨_, rfl, z3, (show Fr [19, 20, 22, 23, 26, 27, 28, 32, 34, 39, 40] [3, 4, 5, 6, 7, 8, 35, 41, 42] [24, 38] σ σ76 from ((Fr.rfl.trans (Fr.sub f5 (by decide) (by decide) (by decide))).trans (Fr.sub F66 (by decide) (by decide) (by decide)))).trans z1, z2, z4, z5, z6, z7⟩) _  rfl)
          · refine tm_aload_n dX12_call_138 rfl 6 rfl ?_
            refine tm_iconst dX12_call_139 ?_
            refine tm_iload dX12_call_140 3 rfl ?_
            refine tm_callV (M := m_X12_call) (pc := 142) (ix := 274) (M' := m_X12_note) (As := [.int (iI 4), .int (iI p)]) (rest := []) dX12_call_142 ok_X12_note im_X12_note se_X12_note ml12_274 np_X12_note rfl rfl (Nat.le_of_ble_eq_true rfl) (Nat.le_of_ble_eq_true rfl) rfl (c2_X12_note (d + 40) (σ := σ76) (f := 4) (p := p) R88 (by omega) (by omega)) (fun r94 σ95 hp => ?_)
            obtain ⟨rfl, f97, f98, f99, f100, f101⟩ := hp
            show Tm _ _ 145 b σ95 [(7, .int (iI v79)), (6, .int (iI mo75)), (5, .int (iI m74)), (4, .int (iI p)), (2, .long (w)), (1, .int (iI kn)), (0, .ref b)] [] _
            refine tm_sub [0, 2, 5, 6] rfl (b_call145 (d + 33) (σ := σ95) (kn := kn) (m := m74) (q := v79) (ρ := ρ) (σc := σ) (w := w) (σb := σ76) (p := p) f98 hrd0 le1 f97 (PBF.of le1.nn f97 (by decide) (by decide) (by decide) f99) (by rw [f101, clP_bad (by omega) rb (by omega) rq.2 (by omega)]) (RDY.of le1.2.2.1 ⟨f97.1 25 (by decide), f97.1 30 (by decide)⟩ (by unfold TOK; rw [f97.1 19 (by decide), f97.1 20 (by decide), f97.1 21 (by decide), f97.1 22 (by decide), f97.1 23 (by decide)]; exact le1.2.2.1.1) (PBC.nop f97 (by decide)) (by decide)) hk12 le0 (rb.tb (TBm.of f97 (by decide) (by decide) (by decide) (by decide))) (by rw [f97.1 43 (by decide)]; exact rq) (by rw [f97.1 43 (by decide), e43]; exact ht.2) (fun _ z => absurd z (f100 (by omega))) (acc.trans pbc (AC.nil (f97.1 34 (by decide))) (PBF.of le1.nn f97 (by decide) (by decide) (by decide) f99) (by omega)) (pbc.trans (PBF.of le1.nn f97 (by decide) (by decide) (by decide) f99)) (tbc.trans (TBm.of f97 (by decide) (by decide) (by decide) (by decide))) (by rw [f97.1 33 (by decide)]; omega) ⟨by omega, by omega⟩ (le4.mv f97 (by decide) (by decide) (by rw [f97.1 34 (by decide)]; omega)) ((f97.1 28 (by decide)).trans le5) (fun v τ z1 z2 z3 z4 z5 z6 z7 => ⟨_, rfl, z3, (show Fr [19, 20, 22, 23, 26, 27, 28, 32, 34, 39, 40] [3, 4, 5, 6, 7, 8, 35, 41, 42] [24, 38] σ σ95 from (((Fr.rfl.trans (Fr.sub f5 (by decide) (by decide) (by decide))).trans (Fr.sub F66 (by decide) (by decide) (by decide))).trans (Fr.sub f97 (by decide) (by decide) (by decide)))).trans z1, z2, z4, z5, z6, z7⟩) _  rfl)
      · refine tm_aload_n dX12_call_109 rfl 6 rfl ?_
        refine tm_iconst dX12_call_110 ?_
        refine tm_iload dX12_call_111 3 rfl ?_
        refine tm_callV (M := m_X12_call) (pc := 113) (ix := 274) (M' := m_X12_note) (As := [.int (iI 3), .int (iI p)]) (rest := []) dX12_call_113 ok_X12_note im_X12_note se_X12_note ml12_274 np_X12_note rfl rfl (Nat.le_of_ble_eq_true rfl) (Nat.le_of_ble_eq_true rfl) rfl (c2_X12_note (d + 40) (σ := σ76) (f := 3) (p := p) R88 (by omega) (by omega)) (fun r102 σ103 hp => ?_)
        obtain ⟨rfl, f105, f106, f107, f108, f109⟩ := hp
        show Tm _ _ 116 b σ103 [(7, .int (iI v79)), (6, .int (iI mo75)), (5, .int (iI m74)), (4, .int (iI p)), (2, .long (w)), (1, .int (iI kn)), (0, .ref b)] [] _
        refine tm_goto (tgt := 145) dX12_call_116 (by decide) ?_
        refine tm_sub [0, 2, 5, 6] rfl (b_call145 (d + 33) (σ := σ103) (kn := kn) (m := m74) (q := v79) (ρ := ρ) (σc := σ) (w := w) (σb := σ76) (p := p) f106 hrd0 le1 f105 (PBF.of le1.nn f105 (by decide) (by decide) (by decide) f107) (by rw [f109, clP_none (by omega) rb (by omega)]) (RDY.of le1.2.2.1 ⟨f105.1 25 (by decide), f105.1 30 (by decide)⟩ (by unfold TOK; rw [f105.1 19 (by decide), f105.1 20 (by decide), f105.1 21 (by decide), f105.1 22 (by decide), f105.1 23 (by decide)]; exact le1.2.2.1.1) (PBC.nop f105 (by decide)) (by decide)) hk12 le0 (rb.tb (TBm.of f105 (by decide) (by decide) (by decide) (by decide))) (by rw [f105.1 43 (by decide)]; exact rq) (by rw [f105.1 43 (by decide), e43]; exact ht.2) (fun _ z => absurd z (f108 (by omega))) (acc.trans pbc (AC.nil (f105.1 34 (by decide))) (PBF.of le1.nn f105 (by decide) (by decide) (by decide) f107) (by omega)) (pbc.trans (PBF.of le1.nn f105 (by decide) (by decide) (by decide) f107)) (tbc.trans (TBm.of f105 (by decide) (by decide) (by decide) (by decide))) (by rw [f105.1 33 (by decide)]; omega) ⟨by omega, by omega⟩ (le4.mv f105 (by decide) (by decide) (by rw [f105.1 34 (by decide)]; omega)) ((f105.1 28 (by decide)).trans le5) (fun v τ z1 z2 z3 z4 z5 z6 z7 => ⟨_, rfl, z3, (show Fr [19, 20, 22, 23, 26, 27, 28, 32, 34, 39, 40] [3, 4, 5, 6, 7, 8, 35, 41, 42] [24, 38] σ σ103 from (((Fr.rfl.trans (Fr.sub f5 (by decide) (by decide) (by decide))).trans (Fr.sub F66 (by decide) (by decide) (by decide))).trans (Fr.sub f105 (by decide) (by decide) (by decide)))).trans z1, z2, z4, z5, z6, z7⟩) _  rfl)
end
section
theorem ml12_355 : Cond.methodLink RX12 355 yX12_call ∈ pWW := pw9 (List.mem_of_getElem? (i := 13) rfl) rfl
theorem dX12_assignment_0 : decode cX12_assignment 0 = .ok (.aload_n 0, 1) := by decide +kernel
theorem dX12_assignment_1 : decode cX12_assignment 1 = .ok (.aload_n 0, 1) := by decide +kernel
theorem dX12_assignment_2 : decode cX12_assignment 2 = .ok (.getfield 219, 3) := by decide +kernel
theorem dX12_assignment_5 : decode cX12_assignment 5 = .ok (.aload_n 0, 1) := by decide +kernel
theorem dX12_assignment_6 : decode cX12_assignment 6 = .ok (.getfield 216, 3) := by decide +kernel
theorem dX12_assignment_9 : decode cX12_assignment 9 = .ok (.invokevirtual 323, 3) := by decide +kernel
theorem dX12_assignment_12 : decode cX12_assignment 12 = .ok (.istore_n 1, 1) := by decide +kernel
theorem dX12_assignment_13 : decode cX12_assignment 13 = .ok (.aload_n 0, 1) := by decide +kernel
theorem dX12_assignment_14 : decode cX12_assignment 14 = .ok (.invokevirtual 265, 3) := by decide +kernel
theorem dX12_assignment_17 : decode cX12_assignment 17 = .ok (.aload_n 0, 1) := by decide +kernel
theorem dX12_assignment_18 : decode cX12_assignment 18 = .ok (.bipush 61, 2) := by decide +kernel
theorem dX12_assignment_20 : decode cX12_assignment 20 = .ok (.invokevirtual 330, 3) := by decide +kernel
theorem dX12_assignment_23 : decode cX12_assignment 23 = .ok (.ifCond .ne 5, 3) := by decide +kernel
theorem dX12_assignment_28 : decode cX12_assignment 28 = .ok (.aload_n 0, 1) := by decide +kernel
theorem dX12_assignment_29 : decode cX12_assignment 29 = .ok (.getfield 219, 3) := by decide +kernel
theorem dX12_assignment_32 : decode cX12_assignment 32 = .ok (.lstore_n 2, 1) := by decide +kernel
theorem dX12_assignment_33 : decode cX12_assignment 33 = .ok (.aload_n 0, 1) := by decide +kernel
theorem dX12_assignment_34 : decode cX12_assignment 34 = .ok (.getfield 216, 3) := by decide +kernel
theorem dX12_assignment_37 : decode cX12_assignment 37 = .ok (.istore 4, 2) := by decide +kernel
theorem dX12_assignment_39 : decode cX12_assignment 39 = .ok (.aload_n 0, 1) := by decide +kernel
theorem dX12_assignment_40 : decode cX12_assignment 40 = .ok (.invokevirtual 320, 3) := by decide +kernel
theorem dX12_assignment_43 : decode cX12_assignment 43 = .ok (.ifCond .eq 70, 3) := by decide +kernel
theorem dX12_assignment_113 : decode cX12_assignment 113 = .ok (.aload_n 0, 1) := by decide +kernel
theorem dX12_assignment_114 : decode cX12_assignment 114 = .ok (.invokevirtual 327, 3) := by decide +kernel
theorem dX12_assignment_117 : decode cX12_assignment 117 = .ok (.ifCond .ne 5, 3) := by decide +kernel
theorem dX12_assignment_122 : decode cX12_assignment 122 = .ok (.aload_n 0, 1) := by decide +kernel
theorem dX12_assignment_123 : decode cX12_assignment 123 = .ok (.iconst 0, 1) := by decide +kernel
theorem dX12_assignment_124 : decode cX12_assignment 124 = .ok (.iload_n 1, 1) := by decide +kernel
theorem dX12_assignment_125 : decode cX12_assignment 125 = .ok (.iconst 0, 1) := by decide +kernel
theorem dX12_assignment_126 : decode cX12_assignment 126 = .ok (.invokevirtual 294, 3) := by decide +kernel
theorem dX12_assignment_129 : decode cX12_assignment 129 = .ok (.istore 5, 2) := by decide +kernel
theorem dX12_assignment_131 : decode cX12_assignment 131 = .ok (.aload_n 0, 1) := by decide +kernel
theorem dX12_assignment_132 : decode cX12_assignment 132 = .ok (.iload 5, 2) := by decide +kernel
theorem dX12_assignment_134 : decode cX12_assignment 134 = .ok (.iconst 0, 1) := by decide +kernel
theorem dX12_assignment_135 : decode cX12_assignment 135 = .ok (.aload_n 0, 1) := by decide +kernel
theorem dX12_assignment_136 : decode cX12_assignment 136 = .ok (.getfield 285, 3) := by decide +kernel
theorem dX12_assignment_139 : decode cX12_assignment 139 = .ok (.aload_n 0, 1) := by decide +kernel
theorem dX12_assignment_140 : decode cX12_assignment 140 = .ok (.getfield 288, 3) := by decide +kernel
theorem dX12_assignment_143 : decode cX12_assignment 143 = .ok (.invokevirtual 298, 3) := by decide +kernel
theorem dX12_assignment_146 : decode cX12_assignment 146 = .ok (.aload_n 0, 1) := by decide +kernel
theorem dX12_assignment_147 : decode cX12_assignment 147 = .ok (.iload_n 1, 1) := by decide +kernel
theorem dX12_assignment_148 : decode cX12_assignment 148 = .ok (.invokevirtual 359, 3) := by decide +kernel
theorem dX12_assignment_151 : decode cX12_assignment 151 = .ok (.aload_n 0, 1) := by decide +kernel
theorem dX12_assignment_152 : decode cX12_assignment 152 = .ok (.bipush 59, 2) := by decide +kernel
theorem dX12_assignment_154 : decode cX12_assignment 154 = .ok (.invokevirtual 330, 3) := by decide +kernel
theorem dX12_assignment_157 : decode cX12_assignment 157 = .ok (.ireturn, 1) := by decide +kernel
theorem dX12_assignment_120 : decode cX12_assignment 120 = .ok (.iconst 0, 1) := by decide +kernel
theorem dX12_assignment_121 : decode cX12_assignment 121 = .ok (.ireturn, 1) := by decide +kernel
theorem dX12_assignment_46 : decode cX12_assignment 46 = .ok (.aload_n 0, 1) := by decide +kernel
theorem dX12_assignment_47 : decode cX12_assignment 47 = .ok (.getfield 210, 3) := by decide +kernel
theorem dX12_assignment_50 : decode cX12_assignment 50 = .ok (.istore 5, 2) := by decide +kernel
theorem dX12_assignment_52 : decode cX12_assignment 52 = .ok (.aload_n 0, 1) := by decide +kernel
theorem dX12_assignment_53 : decode cX12_assignment 53 = .ok (.invokevirtual 265, 3) := by decide +kernel
theorem dX12_assignment_56 : decode cX12_assignment 56 = .ok (.aload_n 0, 1) := by decide +kernel
theorem dX12_assignment_57 : decode cX12_assignment 57 = .ok (.bipush 40, 2) := by decide +kernel
theorem dX12_assignment_59 : decode cX12_assignment 59 = .ok (.invokevirtual 258, 3) := by decide +kernel
theorem dX12_assignment_62 : decode cX12_assignment 62 = .ok (.ifCond .eq 29, 3) := by decide +kernel
theorem dX12_assignment_91 : decode cX12_assignment 91 = .ok (.aload_n 0, 1) := by decide +kernel
theorem dX12_assignment_92 : decode cX12_assignment 92 = .ok (.iload 5, 2) := by decide +kernel
theorem dX12_assignment_94 : decode cX12_assignment 94 = .ok (.putfield 210, 3) := by decide +kernel
theorem dX12_assignment_97 : decode cX12_assignment 97 = .ok (.aload_n 0, 1) := by decide +kernel
theorem dX12_assignment_98 : decode cX12_assignment 98 = .ok (.iload 4, 2) := by decide +kernel
theorem dX12_assignment_100 : decode cX12_assignment 100 = .ok (.putfield 216, 3) := by decide +kernel
theorem dX12_assignment_103 : decode cX12_assignment 103 = .ok (.aload_n 0, 1) := by decide +kernel
theorem dX12_assignment_104 : decode cX12_assignment 104 = .ok (.iconst 2, 1) := by decide +kernel
theorem dX12_assignment_105 : decode cX12_assignment 105 = .ok (.putfield 226, 3) := by decide +kernel
theorem dX12_assignment_108 : decode cX12_assignment 108 = .ok (.aload_n 0, 1) := by decide +kernel
theorem dX12_assignment_109 : decode cX12_assignment 109 = .ok (.lload_n 2, 1) := by decide +kernel
theorem dX12_assignment_110 : decode cX12_assignment 110 = .ok (.putfield 219, 3) := by decide +kernel
theorem dX12_assignment_65 : decode cX12_assignment 65 = .ok (.aload_n 0, 1) := by decide +kernel
theorem dX12_assignment_66 : decode cX12_assignment 66 = .ok (.iload_n 1, 1) := by decide +kernel
theorem dX12_assignment_67 : decode cX12_assignment 67 = .ok (.lload_n 2, 1) := by decide +kernel
theorem dX12_assignment_68 : decode cX12_assignment 68 = .ok (.iload 4, 2) := by decide +kernel
theorem dX12_assignment_70 : decode cX12_assignment 70 = .ok (.invokevirtual 355, 3) := by decide +kernel
theorem dX12_assignment_73 : decode cX12_assignment 73 = .ok (.ifCond .eq 16, 3) := by decide +kernel
theorem dX12_assignment_89 : decode cX12_assignment 89 = .ok (.iconst 0, 1) := by decide +kernel
theorem dX12_assignment_90 : decode cX12_assignment 90 = .ok (.ireturn, 1) := by decide +kernel
theorem dX12_assignment_76 : decode cX12_assignment 76 = .ok (.aload_n 0, 1) := by decide +kernel
theorem dX12_assignment_77 : decode cX12_assignment 77 = .ok (.bipush 59, 2) := by decide +kernel
theorem dX12_assignment_79 : decode cX12_assignment 79 = .ok (.invokevirtual 330, 3) := by decide +kernel
theorem dX12_assignment_82 : decode cX12_assignment 82 = .ok (.ifCond .eq 7, 3) := by decide +kernel
theorem dX12_assignment_85 : decode cX12_assignment 85 = .ok (.iconst 1, 1) := by decide +kernel
theorem dX12_assignment_86 : decode cX12_assignment 86 = .ok (.goto 4, 3) := by decide +kernel
theorem dX12_assignment_26 : decode cX12_assignment 26 = .ok (.iconst 0, 1) := by decide +kernel
theorem dX12_assignment_27 : decode cX12_assignment 27 = .ok (.ireturn, 1) := by decide +kernel
set_option maxHeartbeats 4000000 in
set_option maxRecDepth 20000 in
theorem c_X12_assignment (d : Nat) {b : Nat} {σ : MS} {ρ : MS} (hR : RG σ) (hln : LNP 1 ρ σ) (hli : LIT ρ σ) (hg : ∀ c : Int, GOS [20] ρ (qq c) [23] σ (qq c) []) (h28 : σ.1 28 = 0) (ht : 0 ≤ σ.1 43 ∧ σ.1 43 ≤ 260) : Tm (d + 43) m_X12_assignment 0 b σ [(0, .ref b)] [] (fun ro σ2 => ∃ v : Int, ro = some (.int (iI v)) ∧ ((v = 0 ∨ v = 1)) ∧ (Fr [19, 20, 22, 23, 26, 27, 28, 29, 31, 32, 33, 34, 39, 40] [3, 4, 5, 6, 7, 8, 35, 37, 41, 42] [24, 38] σ σ2) ∧ (RG σ2) ∧ (PBF ρ σ2) ∧ (Im v 1 (BLQ 20 2 ρ σ2)) ∧ (Im v 0 (∀ c : Int, GOF [20] ρ (qq c) σ2))) := by
  have tk0 := hln.tok.1
  have rd0 := hln.1.2
  have f0 := hln.2.2.1
  have e30_ := f0.1 30 (by decide)
  have e34_ := hln.2.2.2.2.1
  have nn0 : NN σ := hln.2.2.2.1.2.2.1
  have h0c := hln.h0
  have e28r : ρ.1 28 = 0 := (f0.1 28 (by decide)).symm.trans h28
  have e29r := f0.1 29 (by decide)
  have e33r := f0.1 33 (by decide)
  refine tm_aload_n dX12_assignment_0 rfl 0 rfl ?_
  refine tm_aload_n dX12_assignment_1 rfl 0 rfl ?_
  refine tm_getW (t := σ.2.2 24 0) dX12_assignment_2 fl12_219 (rfl) ?_
  refine tm_aload_n dX12_assignment_5 rfl 0 rfl ?_
  refine tm_getS (k := 19) (t := σ.1 19) dX12_assignment_6 (by decide) fl12_216 rfl (rfl) ?_
  have g1 := RG.s hR 19
  refine tm_callV (M := m_X12_assignment) (pc := 9) (ix := 323) (M' := m_X12_nameOf) (As := [.long (σ.2.2 24 0), .int (iI (σ.1 19))]) (rest := []) dX12_assignment_9 ok_X12_nameOf im_X12_nameOf se_X12_nameOf ml12_323 np_X12_nameOf rfl rfl (Nat.le_of_ble_eq_true rfl) (Nat.le_of_ble_eq_true rfl) rfl (c_X12_nameOf (d + 40) (σ := σ) (w := σ.2.2 24 0) (p := σ.1 19) hR nn0 (by omega) (by omega)) (fun r2 σ3 hp => ?_)
  obtain ⟨v4, rfl, f5, f6, f7, f8, f9⟩ := hp
  show Tm _ _ 12 b σ3 [(0, .ref b)] [.int (iI v4)] _
  have nm0 := f5
  have nm1 := f6
  have nm2 := f7
  have nm3 := f8
  have nm4 := f9
  refine tm_istore_n (L' := [(1, .int (iI v4)), (0, .ref b)]) dX12_assignment_12 rfl (by decide) rfl ?_
  refine tm_aload_n dX12_assignment_13 rfl 1 rfl ?_
  refine tm_callV (M := m_X12_assignment) (pc := 14) (ix := 265) (M' := m_X12_advance) (As := []) (rest := []) dX12_assignment_14 ok_X12_advance im_X12_advance se_X12_advance ml12_265 np_X12_advance rfl rfl (Nat.le_of_ble_eq_true rfl) (Nat.le_of_ble_eq_true rfl) rfl (c_X12_advance (d + 37) (σ := σ3)  f6 (by rw [nm0.1 20 (by decide), nm0.1 21 (by decide)]; omega)) (fun r10 σ11 hp => ?_)
  obtain ⟨rfl, f13, f14, f15, f16, f17⟩ := hp
  show Tm _ _ 17 b σ11 [(1, .int (iI v4)), (0, .ref b)] [] _
  have ad0 := f13
  have ad1 := f14
  have ad2 := f15
  have ad3 := f16
  have ad4 := f17
  have fA1 := (show Fr [19, 20, 22, 23, 26, 27] [35] [24, 38] σ σ11 from ((Fr.rfl.trans (Fr.sub f5 (by decide) (by decide) (by decide))).trans (Fr.sub f14 (by decide) (by decide) (by decide))))
  have pb1 : PBF σ σ11 := nm2.trans (PBF.nop nm2.2.2.1 ad1 (by decide) (by decide) (by decide))
  have g23_ : ∀ c : Int, GOS [23] σ (qq c) [161, 25] σ11 (qq c) [] := fun c => g23 (by rw [ad0.1, sv_fr nm0 (by decide) (by decide), nm0.1 20 (by decide)]) (ad0.2.1.trans (by unfold xs; rw [nm0.1 28 (by decide), nm0.1 29 (by decide), nm0.1 34 (by decide)])) (ad0.2.2.1.trans (sv_fr nm0 (by decide) (by decide))) (EFF.name (by rw [ad0.2.2.2, nm4]))
  have ts1 : TS 20 (2 - 1) ρ [161, 25] σ11 qq [] := TS.line hln (by decide) fA1 pb1 ad3 (by have z := ad4; rw [nm0.1 20 (by decide)] at z; exact z) ((hg _).then (g23_ _))
  have tk1 := ad3.1
  refine tm_aload_n dX12_assignment_17 rfl 1 rfl ?_
  refine tm_bipush dX12_assignment_18 (by decide) ?_
  refine tm_callV (M := m_X12_assignment) (pc := 20) (ix := 330) (M' := m_X12_need) (As := [.int (iI 61)]) (rest := []) dX12_assignment_20 ok_X12_need im_X12_need se_X12_need ml12_330 np_X12_need rfl rfl (Nat.le_of_ble_eq_true rfl) (Nat.le_of_ble_eq_true rfl) rfl (c_X12_need (d + 36) (σ := σ11) (c := 61) f15 (by omega) (by omega)) (fun r18 σ19 hp => ?_)
  obtain ⟨v20, rfl, f21, f22, f23, f24, f25, f26, f27⟩ := hp
  show Tm _ _ 23 b σ19 [(1, .int (iI v4)), (0, .ref b)] [.int (iI v20)] _
  have yn0 := f21
  have yn1 := f22
  have yn2 := f23
  have yn3 := f24
  have yn4 := f25
  have yn5 := f26
  have yn6 := f27
  refine tm_if_ne (tgt := 28) dX12_assignment_23 (by decide) ⟨by omega, by omega⟩ (fun h32 => ?_) (fun h32 => ?_)
  · have ynq := yn3 (by omega)
    have ts2 := ts1.needy yn1 ynq.2.2.1 ynq.2.2.2.1 ynq.2.2.2.2 (by have z := ynq.1.1; omega) (gn_61 ynq.1 ynq.2.1)
    have pq2 : PBF σ σ19 := pb1.trans (PBF.of ts1.nn yn1 (by decide) (by decide) (by decide) yn5)
    have e342 : σ19.1 34 = σ.1 34 := rs_F f22 (by decide) (rs_F f14 (by decide) (rs_F f5 (by decide) (rfl)))
    have e282 : σ19.1 28 = σ.1 28 := rs_F f22 (by decide) (rs_F f14 (by decide) (rs_F f5 (by decide) (rfl)))
    have R28 := f23
    have tk2 := ts2.2.2.1.1.1
    refine tm_aload_n dX12_assignment_28 rfl 1 rfl ?_
    refine tm_getW (t := σ19.2.2 24 0) dX12_assignment_29 fl12_219 (rfl) ?_
    refine tm_lstore_n (L' := [(2, .long (σ19.2.2 24 0)), (1, .int (iI v4)), (0, .ref b)]) dX12_assignment_32 rfl (by decide) rfl ?_
    refine tm_aload_n dX12_assignment_33 rfl 2 rfl ?_
    refine tm_getS (k := 19) (t := σ19.1 19) dX12_assignment_34 (by decide) fl12_216 rfl (rfl) ?_
    have g33 := RG.s f23 19
    refine tm_istore (L' := [(4, .int (iI (σ19.1 19))), (2, .long (σ19.2.2 24 0)), (1, .int (iI v4)), (0, .ref b)]) dX12_assignment_37 (by decide) rfl ?_
    refine tm_aload_n dX12_assignment_39 rfl 3 rfl ?_
    refine tm_callV (M := m_X12_assignment) (pc := 40) (ix := 320) (M' := m_X12_isName) (As := []) (rest := []) dX12_assignment_40 ok_X12_isName im_X12_isName se_X12_isName ml12_320 np_X12_isName rfl rfl (Nat.le_of_ble_eq_true rfl) (Nat.le_of_ble_eq_true rfl) rfl (c2_X12_isName (d + 41) (σ := σ19)  f23) (fun r34 σ35 hp => ?_)
    obtain ⟨v36, rfl, rfl, f37, f38, f39⟩ := hp
    show Tm _ _ 43 b σ19 [(4, .int (iI (σ19.1 19))), (2, .long (σ19.2.2 24 0)), (1, .int (iI v4)), (0, .ref b)] [.int (iI v36)] _
    have inm := f38
    have nnm_ := f39
    refine tm_if_eq (tgt := 113) dX12_assignment_43 (by decide) ⟨by omega, by omega⟩ (fun h40 => ?_) (fun h40 => ?_)
    · have ts3 := ts2.nxt (g25n (nnm_ (by omega)))
      have pq3 := pq2
      have e343 := e342
      have e283 : σ19.1 28 = 0 := e282.trans h28
      refine tm_aload_n dX12_assignment_113 rfl 3 rfl ?_
      refine tm_callV (M := m_X12_assignment) (pc := 114) (ix := 327) (M' := m_X12_expression) (As := []) (rest := []) dX12_assignment_114 ok_X12_expression im_X12_expression se_X12_expression ml12_327 np_X12_expression rfl rfl (Nat.le_of_ble_eq_true rfl) (Nat.le_of_ble_eq_true rfl) rfl (c_exp8 (d + 2) (σ := σ19)  f23 ts3.2.2.1 ts3.nn e283) (fun r41 σ42 hp => ?_)
      obtain ⟨v43, rfl, f44, f45, f46, f47, f48, f49, f50⟩ := hp
      show Tm _ _ 117 b σ42 [(4, .int (iI (σ19.1 19))), (2, .long (σ19.2.2 24 0)), (1, .int (iI v4)), (0, .ref b)] [.int (iI v43)] _
      have xp0 := f44
      have xp1 := f45
      have xp2 := f46
      have xp3 := f47
      have xp4 := f48
      have xp5 := f49
      have xp6 := f50
      refine tm_if_ne (tgt := 122) dX12_assignment_117 (by decide) ⟨by omega, by omega⟩ (fun h51 => ?_) (fun h51 => ?_)
      · have ts4 := ts3.exp xp1 xp3 (xp4 (by omega)) (xp5.1 (by omega))
        have ex4 := xp4 (by omega)
        have gt := ex4.2.2.1
        unfold GTm at gt
        have rdx := ts4.2.2.1.2
        have tkx := ts4.2.2.1.1.1
        have pq4 := pq3.trans xp3
        have ac4 : AC σ σ42 := (AC.nil e343).trans pq3 ex4.2.2.2.1 xp3 (by omega)
        have e284 : σ42.1 28 = 0 := xp6.trans e283
        have e334 : σ42.1 33 = σ.1 33 := rs_F f45 (by decide) (rs_F f22 (by decide) (rs_F f14 (by decide) (rs_F f5 (by decide) (rfl))))
        refine tm_aload_n dX12_assignment_122 rfl 3 rfl ?_
        refine tm_iconst dX12_assignment_123 ?_
        refine tm_iload_n dX12_assignment_124 rfl 2 rfl ?_
        refine tm_iconst dX12_assignment_125 ?_
        refine tm_callV (M := m_X12_assignment) (pc := 126) (ix := 294) (M' := m_X12_put) (As := [.int (iI 0), .int (iI v4), .int (iI 0)]) (rest := []) dX12_assignment_126 ok_X12_put im_X12_put se_X12_put ml12_294 np_X12_put rfl rfl (Nat.le_of_ble_eq_true rfl) (Nat.le_of_ble_eq_true rfl) rfl (c_X12_put (d + 40) (σ := σ42) (k := 0) (e := v4) (o := 0) f46 (by omega) (by omega) (by omega) (by omega)) (fun r52 σ53 hp => ?_)
        obtain ⟨v54, rfl, f55, f56, f57, f58, f59, f60, f61⟩ := hp
        show Tm _ _ 129 b σ53 [(4, .int (iI (σ19.1 19))), (2, .long (σ19.2.2 24 0)), (1, .int (iI v4)), (0, .ref b)] [.int (iI v54)] _
        have jvP := f57
        have jnP := f58
        have jiP := f59
        have joP := f60
        have jrP := f61
        refine tm_istore (L' := [(5, .int (iI v54)), (4, .int (iI (σ19.1 19))), (2, .long (σ19.2.2 24 0)), (1, .int (iI v4)), (0, .ref b)]) dX12_assignment_129 (by decide) rfl ?_
        refine tm_aload_n dX12_assignment_131 rfl 4 rfl ?_
        refine tm_iload dX12_assignment_132 0 rfl ?_
        refine tm_iconst dX12_assignment_134 ?_
        refine tm_aload_n dX12_assignment_135 rfl 4 rfl ?_
        refine tm_getS (k := 39) (t := σ42.1 39) dX12_assignment_136 (by decide) fl12_285 rfl (rs_F f55 (by decide) (rfl)) ?_
        have g62 := RG.s f46 39
        refine tm_aload_n dX12_assignment_139 rfl 4 rfl ?_
        refine tm_getS (k := 40) (t := σ42.1 40) dX12_assignment_140 (by decide) fl12_288 rfl (rs_F f55 (by decide) (rfl)) ?_
        have g63 := RG.s f46 40
        refine tm_callV (M := m_X12_assignment) (pc := 143) (ix := 298) (M' := m_X12_setArg) (As := [.int (iI v54), .int (iI 0), .int (iI (σ42.1 39)), .int (iI (σ42.1 40))]) (rest := []) dX12_assignment_143 ok_X12_setArg im_X12_setArg se_X12_setArg ml12_298 np_X12_setArg rfl rfl (Nat.le_of_ble_eq_true rfl) (Nat.le_of_ble_eq_true rfl) rfl (c_X12_setArg (d + 41) (σ := σ53) (x := v54) (i := 0) (k := σ42.1 39) (w := σ42.1 40) (by omega)) (fun r64 σ65 hp => ?_)
        obtain ⟨rfl, f67⟩ := hp
        subst f67
        show Tm _ _ 146 b (fArg (v54) (0) (σ42.1 39) (σ42.1 40) σ53) [(5, .int (iI v54)), (4, .int (iI (σ19.1 19))), (2, .long (σ19.2.2 24 0)), (1, .int (iI v4)), (0, .ref b)] [] _
        have jvP : _ = PXx σ42 := jvP
        have fAP := (show Fr [33, 34] [3, 4, 5, 6, 7, 8] [] σ42 (fArg (v54) (0) (σ42.1 39) (σ42.1 40) σ53) from ((Fr.rfl.trans (Fr.sub f55 (by decide) (by decide) (by decide))).trans (Fr.sub fArg_fr (by decide) (by decide) (by decide))))
        have eAP : (fArg (v54) (0) (σ42.1 39) (σ42.1 40) σ53).1 34 = σ42.1 34 + 1 := jnP
        have pbP : PBF σ42 (fArg (v54) (0) (σ42.1 39) (σ42.1 40) σ53) := PBF.it ts4.nn fAP (by decide) (by decide) (by decide) eAP jvP (joP.trans (OFF.arg (by decide) (by decide)))
        have tbP : TBm σ42 (fArg (v54) (0) (σ42.1 39) (σ42.1 40) σ53) := TBm.of fAP (by decide) (by decide) (by decide) (by decide)
        refine tm_aload_n dX12_assignment_146 rfl 4 rfl ?_
        refine tm_iload_n dX12_assignment_147 rfl 3 rfl ?_
        refine tm_callV (M := m_X12_assignment) (pc := 148) (ix := 359) (M' := m_X12_bind) (As := [.int (iI v4)]) (rest := []) dX12_assignment_148 ok_X12_bind im_X12_bind se_X12_bind ml12_359 np_X12_bind rfl rfl (Nat.le_of_ble_eq_true rfl) (Nat.le_of_ble_eq_true rfl) rfl (c_X12_bind (d + 39) (σ := (fArg (v54) (0) (σ42.1 39) (σ42.1 40) σ53)) (k := v4) ((f56).arg (by omega) (by omega)) (by rw [show (fArg (v54) (0) (σ42.1 39) (σ42.1 40) σ53).1 30 = σ42.1 30 from fAP.1 30 (by decide), eAP]; omega) (by omega)) (fun r68 σ69 hp => ?_)
        obtain ⟨rfl, f71, f72, f73, f74, f75, f76⟩ := hp
        show Tm _ _ 151 b σ69 [(5, .int (iI v54)), (4, .int (iI (σ19.1 19))), (2, .long (σ19.2.2 24 0)), (1, .int (iI v4)), (0, .ref b)] [] _
        have pbB : PBF (fArg (v54) (0) (σ42.1 39) (σ42.1 40) σ53) σ69 := PBF.it pbP.2.2.1 f71 (by decide) (by decide) (by decide) f73 rfl f74
        have fB := (show Fr [33, 34] [3, 4, 5, 6, 7, 8] [] σ42 σ69 from (((Fr.rfl.trans (Fr.sub f55 (by decide) (by decide) (by decide))).trans (Fr.sub fArg_fr (by decide) (by decide) (by decide))).trans (Fr.sub f71 (by decide) (by decide) (by decide))))
        have fC := (show Fr [34] [3, 4, 5, 6, 7, 8] [] σ42 σ69 from (((Fr.rfl.trans (Fr.sub f55 (by decide) (by decide) (by decide))).trans (Fr.sub fArg_fr (by decide) (by decide) (by decide))).trans (Fr.sub f71 (by decide) (by decide) (by decide))))
        have tbB : TBm (fArg (v54) (0) (σ42.1 39) (σ42.1 40) σ53) σ69 := TBm.of f71 (by decide) (by decide) (by decide) (by decide)
        have eB : σ69.1 34 = σ42.1 34 + 2 := by rw [f73, eAP]; omega
        have e33B : σ69.1 33 = σ42.1 33 := fC.1 33 (by decide)
        have tsB := ts4.puts (m := 2) fB (pbP.trans pbB) eB (by omega) (by decide) hln.1 (g52 (CHG.put fB (by decide) (by decide) (by decide) eB))
        have asA : ASF σ (fArg (v54) (0) (σ42.1 39) (σ42.1 40) σ53) [] := (ASF.num ac4 pq4 (by omega)).snoc pq4 pbP tbP eAP (fun z1 z2 z3 => by rw [← jvP]; exact oki_arg1 jiP (Or.inl rfl) (fun _ => by omega) (fun q => absurd q (by decide)) (by omega)) (Or.inl (by rw [← jvP]; exact jiP.1)) (by omega)
        have asB : ASF σ σ69 [] := asA.snoc (pq4.trans pbP) pbB tbB f73 (fun _ _ _ => f75) (Or.inr (Or.inr (Or.inr f76))) (by omega)
        have pqB := pq4.trans (pbP.trans pbB)
        have e28B : σ69.1 28 = 0 := (fC.1 28 (by decide)).trans e284
        have tkB := tsB.2.2.1.1.1
        have e29B : σ69.1 29 = σ.1 29 := rs_F f71 (by decide) (rs_F fArg_fr (by decide) (rs_F f55 (by decide) (rs_F f45 (by decide) (rs_F f22 (by decide) (rs_F f14 (by decide) (rs_F f5 (by decide) (rfl)))))))
        have tbS : TBm σ σ69 := TBm.of (show Fr [19, 20, 22, 23, 26, 27, 28, 32, 34, 39, 40] [3, 4, 5, 6, 7, 8, 35] [24, 38] σ σ69 from (((((((Fr.rfl.trans (Fr.sub f5 (by decide) (by decide) (by decide))).trans (Fr.sub f14 (by decide) (by decide) (by decide))).trans (Fr.sub f22 (by decide) (by decide) (by decide))).trans (Fr.sub f45 (by decide) (by decide) (by decide))).trans (Fr.sub f55 (by decide) (by decide) (by decide))).trans (Fr.sub fArg_fr (by decide) (by decide) (by decide))).trans (Fr.sub f71 (by decide) (by decide) (by decide)))) (by decide) (by decide) (by decide) (by decide)
        refine tm_aload_n dX12_assignment_151 rfl 4 rfl ?_
        refine tm_bipush dX12_assignment_152 (by decide) ?_
        refine tm_callV (M := m_X12_assignment) (pc := 154) (ix := 330) (M' := m_X12_need) (As := [.int (iI 59)]) (rest := []) dX12_assignment_154 ok_X12_need im_X12_need se_X12_need ml12_330 np_X12_need rfl rfl (Nat.le_of_ble_eq_true rfl) (Nat.le_of_ble_eq_true rfl) rfl (c_X12_need (d + 36) (σ := σ69) (c := 59) f72 (by omega) (by omega)) (fun r77 σ78 hp => ?_)
        obtain ⟨v79, rfl, f80, f81, f82, f83, f84, f85, f86⟩ := hp
        show Tm _ _ 157 b σ78 [(5, .int (iI v54)), (4, .int (iI (σ19.1 19))), (2, .long (σ19.2.2 24 0)), (1, .int (iI v4)), (0, .ref b)] [.int (iI v79)] _
        have zn0 := f80
        have zn1 := f81
        have zn2 := f82
        have zn3 := f83
        have zn4 := f84
        have zn5 := f85
        have zn6 := f86
        have pbN : PBF _ σ78 := PBF.of tsB.nn zn1 (by decide) (by decide) (by decide) zn5
        have pqN := pqB.trans pbN
        have e33N : σ78.1 33 = σ.1 33 := rs_F f81 (by decide) (rs_F f71 (by decide) (rs_F fArg_fr (by decide) (rs_F f55 (by decide) (rs_F f45 (by decide) (rs_F f22 (by decide) (rs_F f14 (by decide) (rs_F f5 (by decide) (rfl))))))))
        exact tm_zret (v := v79) rfl (by omega) dX12_assignment_157 (⟨_, rfl, zn0, ((((((((Fr.rfl.trans (Fr.sub f5 (by decide) (by decide) (by decide))).trans (Fr.sub f14 (by decide) (by decide) (by decide))).trans (Fr.sub f22 (by decide) (by decide) (by decide))).trans (Fr.sub f45 (by decide) (by decide) (by decide))).trans (Fr.sub f55 (by decide) (by decide) (by decide))).trans (Fr.sub fArg_fr (by decide) (by decide) (by decide))).trans (Fr.sub f71 (by decide) (by decide) (by decide))).trans (Fr.sub f81 (by decide) (by decide) (by decide))), f82, tsB.1.trans pbN, fun z => have znq := zn3 z; ⟨[], (tsB.needy zn1 znq.2.2.1 znq.2.2.2.1 znq.2.2.2.2 (by have z := znq.1.1; omega) (gn_59 znq.1 znq.2.1)).le (by decide), SGF.line e34_.1 hli hln.2.2.2.1 pqN hln.tb (tbS.trans (TBm.of zn1 (by decide) (by decide) (by decide) (by decide))) (by omega) (asB.mv pqB pbN (TBm.of zn1 (by decide) (by decide) (by decide) (by decide)) (zn1.1 34 (by decide)) (by omega)) h0c, FS.of hli e34_.1 hln.2.2.2.1 pqN h0c, ((zn1.1 28 (by decide)).trans e28B).trans e28r.symm, ((show σ78.1 29 = σ.1 29 from rs_F f81 (by decide) (rs_F f71 (by decide) (rs_F fArg_fr (by decide) (rs_F f55 (by decide) (rs_F f45 (by decide) (rs_F f22 (by decide) (rs_F f14 (by decide) (rs_F f5 (by decide) (rfl))))))))).trans e29r)⟩, fun z => (tsB.fail pbN (gf_59 (zn4 z) (zn6 z))).2⟩)
      · refine tm_iconst dX12_assignment_120 ?_
        exact tm_zret (v := 0) rfl (by decide) dX12_assignment_121 (⟨_, rfl, by omega, ((((Fr.rfl.trans (Fr.sub f5 (by decide) (by decide) (by decide))).trans (Fr.sub f14 (by decide) (by decide) (by decide))).trans (Fr.sub f22 (by decide) (by decide) (by decide))).trans (Fr.sub f45 (by decide) (by decide) (by decide))), f46, (ts3.fail xp3 (xp5.2 (by omega) _)).1, fun q => absurd q (by omega), fun _ => (ts3.fail xp3 (xp5.2 (by omega) _)).2⟩)
    · refine tm_aload_n dX12_assignment_46 rfl 3 rfl ?_
      refine tm_getS (k := 20) (t := σ19.1 20) dX12_assignment_47 (by decide) fl12_210 rfl (rfl) ?_
      have g87 := RG.s f23 20
      refine tm_istore (L' := [(5, .int (iI (σ19.1 20))), (4, .int (iI (σ19.1 19))), (2, .long (σ19.2.2 24 0)), (1, .int (iI v4)), (0, .ref b)]) dX12_assignment_50 (by decide) rfl ?_
      refine tm_aload_n dX12_assignment_52 rfl 4 rfl ?_
      refine tm_callV (M := m_X12_assignment) (pc := 53) (ix := 265) (M' := m_X12_advance) (As := []) (rest := []) dX12_assignment_53 ok_X12_advance im_X12_advance se_X12_advance ml12_265 np_X12_advance rfl rfl (Nat.le_of_ble_eq_true rfl) (Nat.le_of_ble_eq_true rfl) rfl (c_X12_advance (d + 37) (σ := σ19)  f23 (by omega)) (fun r88 σ89 hp => ?_)
      obtain ⟨rfl, f91, f92, f93, f94, f95⟩ := hp
      show Tm _ _ 56 b σ89 [(5, .int (iI (σ19.1 20))), (4, .int (iI (σ19.1 19))), (2, .long (σ19.2.2 24 0)), (1, .int (iI v4)), (0, .ref b)] [] _
      have bd0 := f91
      have bd1 := f92
      have bd2 := f93
      have bd3 := f94
      have bd4 := f95
      refine tm_aload_n dX12_assignment_56 rfl 4 rfl ?_
      refine tm_bipush dX12_assignment_57 (by decide) ?_
      refine tm_callV (M := m_X12_assignment) (pc := 59) (ix := 258) (M' := m_X12_isSign) (As := [.int (iI 40)]) (rest := []) dX12_assignment_59 ok_X12_isSign im_X12_isSign se_X12_isSign ml12_258 np_X12_isSign rfl rfl (Nat.le_of_ble_eq_true rfl) (Nat.le_of_ble_eq_true rfl) rfl (c2_X12_isSign (d + 41) (σ := σ89) (c := 40) f93 (by omega)) (fun r96 σ97 hp => ?_)
      obtain ⟨v98, rfl, rfl, f99, f100, f101⟩ := hp
      show Tm _ _ 62 b σ89 [(5, .int (iI (σ19.1 20))), (4, .int (iI (σ19.1 19))), (2, .long (σ19.2.2 24 0)), (1, .int (iI v4)), (0, .ref b)] [.int (iI v98)] _
      have i40 := f100
      have n40_ := f101
      refine tm_if_eq (tgt := 91) dX12_assignment_62 (by decide) ⟨by omega, by omega⟩ (fun h102 => ?_) (fun h102 => ?_)
      · refine tm_aload_n dX12_assignment_91 rfl 4 rfl ?_
        refine tm_iload dX12_assignment_92 0 rfl ?_
        refine tm_putS (k := 20) (v := σ19.1 20) lay_12 dX12_assignment_94 (by decide) fl12_210 rfl (tyX12_ok 20 (by decide)) rfl rfl rfl ?_
        refine tm_aload_n dX12_assignment_97 rfl 4 rfl ?_
        refine tm_iload dX12_assignment_98 1 rfl ?_
        refine tm_putS (k := 19) (v := σ19.1 19) lay_12 dX12_assignment_100 (by decide) fl12_216 rfl (tyX12_ok 19 (by decide)) rfl rfl rfl ?_
        refine tm_aload_n dX12_assignment_103 rfl 4 rfl ?_
        refine tm_iconst dX12_assignment_104 ?_
        refine tm_putS (k := 22) (v := 2) lay_12 dX12_assignment_105 (by decide) fl12_226 rfl (tyX12_ok 22 (by decide)) rfl rfl rfl ?_
        refine tm_aload_n dX12_assignment_108 rfl 4 rfl ?_
        refine tm_lload_n dX12_assignment_109 rfl 2 rfl ?_
        refine tm_putW lay_12 dX12_assignment_110 fl12_219 ?_
        have fk := (show Fr [19, 20, 22, 23] [] [24] σ19 (sJ 24 0 (σ19.2.2 24 0) (sS 22 2 (sS 19 (σ19.1 19) (sS 20 (σ19.1 20) σ89)))) from (((((Fr.rfl.trans (Fr.sub f92 (by decide) (by decide) (by decide))).S (by decide)).S (by decide)).S (by decide)).J (by decide)))
        have v19 : (sJ 24 0 (σ19.2.2 24 0) (sS 22 2 (sS 19 (σ19.1 19) (sS 20 (σ19.1 20) σ89)))).1 19 = σ19.1 19 := rs_J (rs_o (by decide) (rs_eq))
        have v20 : (sJ 24 0 (σ19.2.2 24 0) (sS 22 2 (sS 19 (σ19.1 19) (sS 20 (σ19.1 20) σ89)))).1 20 = σ19.1 20 := rs_J (rs_o (by decide) (rs_o (by decide) (rs_eq)))
        have v22 : (sJ 24 0 (σ19.2.2 24 0) (sS 22 2 (sS 19 (σ19.1 19) (sS 20 (σ19.1 20) σ89)))).1 22 = 2 := rs_J (rs_eq)
        have v23 : (sJ 24 0 (σ19.2.2 24 0) (sS 22 2 (sS 19 (σ19.1 19) (sS 20 (σ19.1 20) σ89)))).1 23 = σ89.1 23 := rs_J (rs_o (by decide) (rs_o (by decide) (rs_o (by decide) (rfl))))
        have v24 : (sJ 24 0 (σ19.2.2 24 0) (sS 22 2 (sS 19 (σ19.1 19) (sS 20 (σ19.1 20) σ89)))).2.2 24 0 = σ19.2.2 24 0 := rj_eq
        have ts3 := ts2.back fk ⟨v19, v20, v22⟩ (by have z := (inm (by omega)).1; omega) (by rw [v23]; exact bd3.2.2.2) (g25b (inm (by omega)) bd0 (n40_ (by omega)) (by unfold tks; rw [v19, v20, v22, v23, v24]) (by unfold xs; rw [fk.1 28 (by decide), fk.1 29 (by decide), fk.1 34 (by decide)]) (sv_fr fk (by decide) (by decide)) (srt_fr fk (by decide) (by decide) (by decide)))
        have pq3 : PBF σ (sJ 24 0 (σ19.2.2 24 0) (sS 22 2 (sS 19 (σ19.1 19) (sS 20 (σ19.1 20) σ89)))) := pq2.trans (PBF.nop pq2.2.2.1 fk (by decide) (by decide) (by decide))
        have e343 : (sJ 24 0 (σ19.2.2 24 0) (sS 22 2 (sS 19 (σ19.1 19) (sS 20 (σ19.1 20) σ89)))).1 34 = σ.1 34 := (fk.1 34 (by decide)).trans e342
        have e283 : (sJ 24 0 (σ19.2.2 24 0) (sS 22 2 (sS 19 (σ19.1 19) (sS 20 (σ19.1 20) σ89)))).1 28 = 0 := (fk.1 28 (by decide)).trans (e282.trans h28)
        refine tm_aload_n dX12_assignment_113 rfl 4 rfl ?_
        refine tm_callV (M := m_X12_assignment) (pc := 114) (ix := 327) (M' := m_X12_expression) (As := []) (rest := []) dX12_assignment_114 ok_X12_expression im_X12_expression se_X12_expression ml12_327 np_X12_expression rfl rfl (Nat.le_of_ble_eq_true rfl) (Nat.le_of_ble_eq_true rfl) rfl (c_exp8 (d + 2) (σ := (sJ 24 0 (σ19.2.2 24 0) (sS 22 2 (sS 19 (σ19.1 19) (sS 20 (σ19.1 20) σ89)))))  ((((f93.S (by omega)).S (by omega)).S (by omega)).J) ts3.2.2.1 ts3.nn e283) (fun r103 σ104 hp => ?_)
        obtain ⟨v105, rfl, f106, f107, f108, f109, f110, f111, f112⟩ := hp
        show Tm _ _ 117 b σ104 [(5, .int (iI (σ19.1 20))), (4, .int (iI (σ19.1 19))), (2, .long (σ19.2.2 24 0)), (1, .int (iI v4)), (0, .ref b)] [.int (iI v105)] _
        have xp0 := f106
        have xp1 := f107
        have xp2 := f108
        have xp3 := f109
        have xp4 := f110
        have xp5 := f111
        have xp6 := f112
        refine tm_if_ne (tgt := 122) dX12_assignment_117 (by decide) ⟨by omega, by omega⟩ (fun h113 => ?_) (fun h113 => ?_)
        · have ts4 := ts3.exp xp1 xp3 (xp4 (by omega)) (xp5.1 (by omega))
          have ex4 := xp4 (by omega)
          have gt := ex4.2.2.1
          unfold GTm at gt
          have rdx := ts4.2.2.1.2
          have tkx := ts4.2.2.1.1.1
          have pq4 := pq3.trans xp3
          have ac4 : AC σ σ104 := (AC.nil e343).trans pq3 ex4.2.2.2.1 xp3 (by omega)
          have e284 : σ104.1 28 = 0 := xp6.trans e283
          have e334 : σ104.1 33 = σ.1 33 := rs_F f107 (by decide) (rs_J (rs_o (by decide) (rs_o (by decide) (rs_o (by decide) (rs_F f92 (by decide) (rs_F f22 (by decide) (rs_F f14 (by decide) (rs_F f5 (by decide) (rfl)))))))))
          refine tm_aload_n dX12_assignment_122 rfl 4 rfl ?_
          refine tm_iconst dX12_assignment_123 ?_
          refine tm_iload_n dX12_assignment_124 rfl 3 rfl ?_
          refine tm_iconst dX12_assignment_125 ?_
          refine tm_callV (M := m_X12_assignment) (pc := 126) (ix := 294) (M' := m_X12_put) (As := [.int (iI 0), .int (iI v4), .int (iI 0)]) (rest := []) dX12_assignment_126 ok_X12_put im_X12_put se_X12_put ml12_294 np_X12_put rfl rfl (Nat.le_of_ble_eq_true rfl) (Nat.le_of_ble_eq_true rfl) rfl (c_X12_put (d + 40) (σ := σ104) (k := 0) (e := v4) (o := 0) f108 (by omega) (by omega) (by omega) (by omega)) (fun r114 σ115 hp => ?_)
          obtain ⟨v116, rfl, f117, f118, f119, f120, f121, f122, f123⟩ := hp
          show Tm _ _ 129 b σ115 [(5, .int (iI (σ19.1 20))), (4, .int (iI (σ19.1 19))), (2, .long (σ19.2.2 24 0)), (1, .int (iI v4)), (0, .ref b)] [.int (iI v116)] _
          have jvP := f119
          have jnP := f120
          have jiP := f121
          have joP := f122
          have jrP := f123
          refine tm_istore (L' := [(5, .int (iI v116)), (4, .int (iI (σ19.1 19))), (2, .long (σ19.2.2 24 0)), (1, .int (iI v4)), (0, .ref b)]) dX12_assignment_129 (by decide) rfl ?_
          refine tm_aload_n dX12_assignment_131 rfl 4 rfl ?_
          refine tm_iload dX12_assignment_132 0 rfl ?_
          refine tm_iconst dX12_assignment_134 ?_
          refine tm_aload_n dX12_assignment_135 rfl 4 rfl ?_
          refine tm_getS (k := 39) (t := σ104.1 39) dX12_assignment_136 (by decide) fl12_285 rfl (rs_F f117 (by decide) (rfl)) ?_
          have g124 := RG.s f108 39
          refine tm_aload_n dX12_assignment_139 rfl 4 rfl ?_
          refine tm_getS (k := 40) (t := σ104.1 40) dX12_assignment_140 (by decide) fl12_288 rfl (rs_F f117 (by decide) (rfl)) ?_
          have g125 := RG.s f108 40
          refine tm_callV (M := m_X12_assignment) (pc := 143) (ix := 298) (M' := m_X12_setArg) (As := [.int (iI v116), .int (iI 0), .int (iI (σ104.1 39)), .int (iI (σ104.1 40))]) (rest := []) dX12_assignment_143 ok_X12_setArg im_X12_setArg se_X12_setArg ml12_298 np_X12_setArg rfl rfl (Nat.le_of_ble_eq_true rfl) (Nat.le_of_ble_eq_true rfl) rfl (c_X12_setArg (d + 41) (σ := σ115) (x := v116) (i := 0) (k := σ104.1 39) (w := σ104.1 40) (by omega)) (fun r126 σ127 hp => ?_)
          obtain ⟨rfl, f129⟩ := hp
          subst f129
          show Tm _ _ 146 b (fArg (v116) (0) (σ104.1 39) (σ104.1 40) σ115) [(5, .int (iI v116)), (4, .int (iI (σ19.1 19))), (2, .long (σ19.2.2 24 0)), (1, .int (iI v4)), (0, .ref b)] [] _
          have jvP : _ = PXx σ104 := jvP
          have fAP := (show Fr [33, 34] [3, 4, 5, 6, 7, 8] [] σ104 (fArg (v116) (0) (σ104.1 39) (σ104.1 40) σ115) from ((Fr.rfl.trans (Fr.sub f117 (by decide) (by decide) (by decide))).trans (Fr.sub fArg_fr (by decide) (by decide) (by decide))))
          have eAP : (fArg (v116) (0) (σ104.1 39) (σ104.1 40) σ115).1 34 = σ104.1 34 + 1 := jnP
          have pbP : PBF σ104 (fArg (v116) (0) (σ104.1 39) (σ104.1 40) σ115) := PBF.it ts4.nn fAP (by decide) (by decide) (by decide) eAP jvP (joP.trans (OFF.arg (by decide) (by decide)))
          have tbP : TBm σ104 (fArg (v116) (0) (σ104.1 39) (σ104.1 40) σ115) := TBm.of fAP (by decide) (by decide) (by decide) (by decide)
          refine tm_aload_n dX12_assignment_146 rfl 4 rfl ?_
          refine tm_iload_n dX12_assignment_147 rfl 3 rfl ?_
          refine tm_callV (M := m_X12_assignment) (pc := 148) (ix := 359) (M' := m_X12_bind) (As := [.int (iI v4)]) (rest := []) dX12_assignment_148 ok_X12_bind im_X12_bind se_X12_bind ml12_359 np_X12_bind rfl rfl (Nat.le_of_ble_eq_true rfl) (Nat.le_of_ble_eq_true rfl) rfl (c_X12_bind (d + 39) (σ := (fArg (v116) (0) (σ104.1 39) (σ104.1 40) σ115)) (k := v4) ((f118).arg (by omega) (by omega)) (by rw [show (fArg (v116) (0) (σ104.1 39) (σ104.1 40) σ115).1 30 = σ104.1 30 from fAP.1 30 (by decide), eAP]; omega) (by omega)) (fun r130 σ131 hp => ?_)
          obtain ⟨rfl, f133, f134, f135, f136, f137, f138⟩ := hp
          show Tm _ _ 151 b σ131 [(5, .int (iI v116)), (4, .int (iI (σ19.1 19))), (2, .long (σ19.2.2 24 0)), (1, .int (iI v4)), (0, .ref b)] [] _
          have pbB : PBF (fArg (v116) (0) (σ104.1 39) (σ104.1 40) σ115) σ131 := PBF.it pbP.2.2.1 f133 (by decide) (by decide) (by decide) f135 rfl f136
          have fB := (show Fr [33, 34] [3, 4, 5, 6, 7, 8] [] σ104 σ131 from (((Fr.rfl.trans (Fr.sub f117 (by decide) (by decide) (by decide))).trans (Fr.sub fArg_fr (by decide) (by decide) (by decide))).trans (Fr.sub f133 (by decide) (by decide) (by decide))))
          have fC := (show Fr [34] [3, 4, 5, 6, 7, 8] [] σ104 σ131 from (((Fr.rfl.trans (Fr.sub f117 (by decide) (by decide) (by decide))).trans (Fr.sub fArg_fr (by decide) (by decide) (by decide))).trans (Fr.sub f133 (by decide) (by decide) (by decide))))
          have tbB : TBm (fArg (v116) (0) (σ104.1 39) (σ104.1 40) σ115) σ131 := TBm.of f133 (by decide) (by decide) (by decide) (by decide)
          have eB : σ131.1 34 = σ104.1 34 + 2 := by rw [f135, eAP]; omega
          have e33B : σ131.1 33 = σ104.1 33 := fC.1 33 (by decide)
          have tsB := ts4.puts (m := 2) fB (pbP.trans pbB) eB (by omega) (by decide) hln.1 (g52 (CHG.put fB (by decide) (by decide) (by decide) eB))
          have asA : ASF σ (fArg (v116) (0) (σ104.1 39) (σ104.1 40) σ115) [] := (ASF.num ac4 pq4 (by omega)).snoc pq4 pbP tbP eAP (fun z1 z2 z3 => by rw [← jvP]; exact oki_arg1 jiP (Or.inl rfl) (fun _ => by omega) (fun q => absurd q (by decide)) (by omega)) (Or.inl (by rw [← jvP]; exact jiP.1)) (by omega)
          have asB : ASF σ σ131 [] := asA.snoc (pq4.trans pbP) pbB tbB f135 (fun _ _ _ => f137) (Or.inr (Or.inr (Or.inr f138))) (by omega)
          have pqB := pq4.trans (pbP.trans pbB)
          have e28B : σ131.1 28 = 0 := (fC.1 28 (by decide)).trans e284
          have tkB := tsB.2.2.1.1.1
          have e29B : σ131.1 29 = σ.1 29 := rs_F f133 (by decide) (rs_F fArg_fr (by decide) (rs_F f117 (by decide) (rs_F f107 (by decide) (rs_J (rs_o (by decide) (rs_o (by decide) (rs_o (by decide) (rs_F f92 (by decide) (rs_F f22 (by decide) (rs_F f14 (by decide) (rs_F f5 (by decide) (rfl))))))))))))
          have tbS : TBm σ σ131 := TBm.of (show Fr [19, 20, 22, 23, 26, 27, 28, 32, 34, 39, 40] [3, 4, 5, 6, 7, 8, 35] [24, 38] σ σ131 from ((((((((((((Fr.rfl.trans (Fr.sub f5 (by decide) (by decide) (by decide))).trans (Fr.sub f14 (by decide) (by decide) (by decide))).trans (Fr.sub f22 (by decide) (by decide) (by decide))).trans (Fr.sub f92 (by decide) (by decide) (by decide))).S (by decide)).S (by decide)).S (by decide)).J (by decide)).trans (Fr.sub f107 (by decide) (by decide) (by decide))).trans (Fr.sub f117 (by decide) (by decide) (by decide))).trans (Fr.sub fArg_fr (by decide) (by decide) (by decide))).trans (Fr.sub f133 (by decide) (by decide) (by decide)))) (by decide) (by decide) (by decide) (by decide)
          refine tm_aload_n dX12_assignment_151 rfl 4 rfl ?_
          refine tm_bipush dX12_assignment_152 (by decide) ?_
          refine tm_callV (M := m_X12_assignment) (pc := 154) (ix := 330) (M' := m_X12_need) (As := [.int (iI 59)]) (rest := []) dX12_assignment_154 ok_X12_need im_X12_need se_X12_need ml12_330 np_X12_need rfl rfl (Nat.le_of_ble_eq_true rfl) (Nat.le_of_ble_eq_true rfl) rfl (c_X12_need (d + 36) (σ := σ131) (c := 59) f134 (by omega) (by omega)) (fun r139 σ140 hp => ?_)
          obtain ⟨v141, rfl, f142, f143, f144, f145, f146, f147, f148⟩ := hp
          show Tm _ _ 157 b σ140 [(5, .int (iI v116)), (4, .int (iI (σ19.1 19))), (2, .long (σ19.2.2 24 0)), (1, .int (iI v4)), (0, .ref b)] [.int (iI v141)] _
          have zn0 := f142
          have zn1 := f143
          have zn2 := f144
          have zn3 := f145
          have zn4 := f146
          have zn5 := f147
          have zn6 := f148
          have pbN : PBF _ σ140 := PBF.of tsB.nn zn1 (by decide) (by decide) (by decide) zn5
          have pqN := pqB.trans pbN
          have e33N : σ140.1 33 = σ.1 33 := rs_F f143 (by decide) (rs_F f133 (by decide) (rs_F fArg_fr (by decide) (rs_F f117 (by decide) (rs_F f107 (by decide) (rs_J (rs_o (by decide) (rs_o (by decide) (rs_o (by decide) (rs_F f92 (by decide) (rs_F f22 (by decide) (rs_F f14 (by decide) (rs_F f5 (by decide) (rfl)))))))))))))
          exact tm_zret (v := v141) rfl (by omega) dX12_assignment_157 (⟨_, rfl, zn0, (((((((((((((Fr.rfl.trans (Fr.sub f5 (by decide) (by decide) (by decide))).trans (Fr.sub f14 (by decide) (by decide) (by decide))).trans (Fr.sub f22 (by decide) (by decide) (by decide))).trans (Fr.sub f92 (by decide) (by decide) (by decide))).S (by decide)).S (by decide)).S (by decide)).J (by decide)).trans (Fr.sub f107 (by decide) (by decide) (by decide))).trans (Fr.sub f117 (by decide) (by decide) (by decide))).trans (Fr.sub fArg_fr (by decide) (by decide) (by decide))).trans (Fr.sub f133 (by decide) (by decide) (by decide))).trans (Fr.sub f143 (by decide) (by decide) (by decide))), f144, tsB.1.trans pbN, fun z => have znq := zn3 z; ⟨[], (tsB.needy zn1 znq.2.2.1 znq.2.2.2.1 znq.2.2.2.2 (by have z := znq.1.1; omega) (gn_59 znq.1 znq.2.1)).le (by decide), SGF.line e34_.1 hli hln.2.2.2.1 pqN hln.tb (tbS.trans (TBm.of zn1 (by decide) (by decide) (by decide) (by decide))) (by omega) (asB.mv pqB pbN (TBm.of zn1 (by decide) (by decide) (by decide) (by decide)) (zn1.1 34 (by decide)) (by omega)) h0c, FS.of hli e34_.1 hln.2.2.2.1 pqN h0c, ((zn1.1 28 (by decide)).trans e28B).trans e28r.symm, ((show σ140.1 29 = σ.1 29 from rs_F f143 (by decide) (rs_F f133 (by decide) (rs_F fArg_fr (by decide) (rs_F f117 (by decide) (rs_F f107 (by decide) (rs_J (rs_o (by decide) (rs_o (by decide) (rs_o (by decide) (rs_F f92 (by decide) (rs_F f22 (by decide) (rs_F f14 (by decide) (rs_F f5 (by decide) (rfl)))))))))))))).trans e29r)⟩, fun z => (tsB.fail pbN (gf_59 (zn4 z) (zn6 z))).2⟩)
        · refine tm_iconst dX12_assignment_120 ?_
          exact tm_zret (v := 0) rfl (by decide) dX12_assignment_121 (⟨_, rfl, by omega, (((((((((Fr.rfl.trans (Fr.sub f5 (by decide) (by decide) (by decide))).trans (Fr.sub f14 (by decide) (by decide) (by decide))).trans (Fr.sub f22 (by decide) (by decide) (by decide))).trans (Fr.sub f92 (by decide) (by decide) (by decide))).S (by decide)).S (by decide)).S (by decide)).J (by decide)).trans (Fr.sub f107 (by decide) (by decide) (by decide))), f108, (ts3.fail xp3 (xp5.2 (by omega) _)).1, fun q => absurd q (by omega), fun _ => (ts3.fail xp3 (xp5.2 (by omega) _)).2⟩)
      · have ts3 := ts2.adv bd1 bd3 bd4 (by have z := (inm (by omega)).1; omega) (g25c (inm (by omega)) bd0 (i40 (by omega)))
        have pq3 : PBF σ σ89 := pq2.trans (PBF.nop pq2.2.2.1 bd1 (by decide) (by decide) (by decide))
        have e343 : σ89.1 34 = σ.1 34 := (bd1.1 34 (by decide)).trans e342
        have e283 : σ89.1 28 = 0 := (bd1.1 28 (by decide)).trans (e282.trans h28)
        have e433 : σ89.1 43 = σ.1 43 := rs_F f92 (by decide) (rs_F f22 (by decide) (rs_F f14 (by decide) (rs_F f5 (by decide) (rfl))))
        refine tm_aload_n dX12_assignment_65 rfl 4 rfl ?_
        refine tm_iload_n dX12_assignment_66 rfl 3 rfl ?_
        refine tm_lload_n dX12_assignment_67 rfl 2 rfl ?_
        refine tm_iload dX12_assignment_68 1 rfl ?_
        refine tm_callV (M := m_X12_assignment) (pc := 70) (ix := 355) (M' := m_X12_call) (As := [.int (iI v4), .long (σ19.2.2 24 0), .int (iI (σ19.1 19))]) (rest := []) dX12_assignment_70 ok_X12_call im_X12_call se_X12_call ml12_355 np_X12_call rfl rfl (Nat.le_of_ble_eq_true rfl) (Nat.le_of_ble_eq_true rfl) rfl (c_X12_call (d) (σ := σ89) (kn := v4) (w := σ19.2.2 24 0) (p := σ19.1 19) (ρ := ρ) f93 hln.1 (ts3.le (by decide)) nm3 e283 (by rw [e433]; exact ht) (i40 (by omega)) (by omega)) (fun r149 σ150 hp => ?_)
        obtain ⟨v151, rfl, f152, f153, f154, f155, f156, f157, f158⟩ := hp
        show Tm _ _ 73 b σ150 [(5, .int (iI (σ19.1 20))), (4, .int (iI (σ19.1 19))), (2, .long (σ19.2.2 24 0)), (1, .int (iI v4)), (0, .ref b)] [.int (iI v151)] _
        have cl0 := f152
        have cl1 := f153
        have cl2 := f154
        have cl3 := f155
        have cl4 := f156
        have cl5 := f157
        have cl6 := f158
        refine tm_if_eq (tgt := 89) dX12_assignment_73 (by decide) ⟨by omega, by omega⟩ (fun h159 => ?_) (fun h159 => ?_)
        · refine tm_iconst dX12_assignment_89 ?_
          exact tm_zret (v := 0) rfl (by decide) dX12_assignment_90 (⟨_, rfl, by omega, (((((Fr.rfl.trans (Fr.sub f5 (by decide) (by decide) (by decide))).trans (Fr.sub f14 (by decide) (by decide) (by decide))).trans (Fr.sub f22 (by decide) (by decide) (by decide))).trans (Fr.sub f92 (by decide) (by decide) (by decide))).trans (Fr.sub f153 (by decide) (by decide) (by decide))), f154, cl3, fun q => absurd q (by omega), fun _ => cl5 (by omega)⟩)
        · obtain ⟨lgc, tsc, asc, pbc⟩ := cl4 (by omega)
          have tkc := tsc.2.2.1.1.1
          refine tm_aload_n dX12_assignment_76 rfl 4 rfl ?_
          refine tm_bipush dX12_assignment_77 (by decide) ?_
          refine tm_callV (M := m_X12_assignment) (pc := 79) (ix := 330) (M' := m_X12_need) (As := [.int (iI 59)]) (rest := []) dX12_assignment_79 ok_X12_need im_X12_need se_X12_need ml12_330 np_X12_need rfl rfl (Nat.le_of_ble_eq_true rfl) (Nat.le_of_ble_eq_true rfl) rfl (c_X12_need (d + 36) (σ := σ150) (c := 59) f154 (by omega) (by omega)) (fun r160 σ161 hp => ?_)
          obtain ⟨v162, rfl, f163, f164, f165, f166, f167, f168, f169⟩ := hp
          show Tm _ _ 82 b σ161 [(5, .int (iI (σ19.1 20))), (4, .int (iI (σ19.1 19))), (2, .long (σ19.2.2 24 0)), (1, .int (iI v4)), (0, .ref b)] [.int (iI v162)] _
          have zn0 := f163
          have zn1 := f164
          have zn2 := f165
          have zn3 := f166
          have zn4 := f167
          have zn5 := f168
          have zn6 := f169
          refine tm_if_eq (tgt := 89) dX12_assignment_82 (by decide) ⟨by omega, by omega⟩ (fun h170 => ?_) (fun h170 => ?_)
          · refine tm_iconst dX12_assignment_89 ?_
            exact tm_zret (v := 0) rfl (by decide) dX12_assignment_90 (⟨_, rfl, by omega, ((((((Fr.rfl.trans (Fr.sub f5 (by decide) (by decide) (by decide))).trans (Fr.sub f14 (by decide) (by decide) (by decide))).trans (Fr.sub f22 (by decide) (by decide) (by decide))).trans (Fr.sub f92 (by decide) (by decide) (by decide))).trans (Fr.sub f153 (by decide) (by decide) (by decide))).trans (Fr.sub f164 (by decide) (by decide) (by decide))), f165, (tsc.fail (PBF.of tsc.nn zn1 (by decide) (by decide) (by decide) zn5) (gf_59 (zn4 (by omega)) (zn6 (by omega)))).1, fun q => absurd q (by omega), fun _ => (tsc.fail (PBF.of tsc.nn zn1 (by decide) (by decide) (by decide) zn5) (gf_59 (zn4 (by omega)) (zn6 (by omega)))).2⟩)
          · refine tm_iconst dX12_assignment_85 ?_
            refine tm_goto (tgt := 90) dX12_assignment_86 (by decide) ?_
            have znq := zn3 (by omega)
            have pbN : PBF _ σ161 := PBF.of tsc.nn zn1 (by decide) (by decide) (by decide) zn5
            have tsn := tsc.needy zn1 znq.2.2.1 znq.2.2.2.1 znq.2.2.2.2 (by have z := znq.1.1; omega) (gn_59 znq.1 znq.2.1)
            have pqN : PBF σ σ161 := (pq3.trans pbc).trans pbN
            have e33N := (show σ161.1 33 = σ.1 33 from rs_F f164 (by decide) (rs_F f153 (by decide) (rs_F f92 (by decide) (rs_F f22 (by decide) (rs_F f14 (by decide) (rs_F f5 (by decide) (rfl)))))))
            have asN := (asc.mv pbc pbN (TBm.of zn1 (by decide) (by decide) (by decide) (by decide)) (zn1.1 34 (by decide)) ts3.h1).pre pq3 (TBm.of (show Fr [19, 20, 22, 23, 26, 27] [35] [24, 38] σ σ89 from ((((Fr.rfl.trans (Fr.sub f5 (by decide) (by decide) (by decide))).trans (Fr.sub f14 (by decide) (by decide) (by decide))).trans (Fr.sub f22 (by decide) (by decide) (by decide))).trans (Fr.sub f92 (by decide) (by decide) (by decide)))) (by decide) (by decide) (by decide) (by decide)) e343
            have tbN := (TBm.of (show Fr [19, 20, 22, 23, 26, 27, 28, 32, 34, 39, 40] [3, 4, 5, 6, 7, 8, 35, 41, 42] [24, 38] σ σ161 from ((((((Fr.rfl.trans (Fr.sub f5 (by decide) (by decide) (by decide))).trans (Fr.sub f14 (by decide) (by decide) (by decide))).trans (Fr.sub f22 (by decide) (by decide) (by decide))).trans (Fr.sub f92 (by decide) (by decide) (by decide))).trans (Fr.sub f153 (by decide) (by decide) (by decide))).trans (Fr.sub f164 (by decide) (by decide) (by decide)))) (by decide) (by decide) (by decide) (by decide))
            exact tm_zret (v := 1) rfl (by decide) dX12_assignment_90 (⟨_, rfl, by omega, ((((((Fr.rfl.trans (Fr.sub f5 (by decide) (by decide) (by decide))).trans (Fr.sub f14 (by decide) (by decide) (by decide))).trans (Fr.sub f22 (by decide) (by decide) (by decide))).trans (Fr.sub f92 (by decide) (by decide) (by decide))).trans (Fr.sub f153 (by decide) (by decide) (by decide))).trans (Fr.sub f164 (by decide) (by decide) (by decide))), f165, tsn.1, fun _ => ⟨lgc, tsn.le (by decide), SGF.line e34_.1 hli hln.2.2.2.1 pqN hln.tb tbN (by omega) asN h0c, FS.of hli e34_.1 hln.2.2.2.1 pqN h0c, ((zn1.1 28 (by decide)).trans cl6).trans e28r.symm, ((show σ161.1 29 = σ.1 29 from rs_F f164 (by decide) (rs_F f153 (by decide) (rs_F f92 (by decide) (rs_F f22 (by decide) (rs_F f14 (by decide) (rs_F f5 (by decide) (rfl))))))).trans e29r)⟩, fun q => absurd q (by decide)⟩)
  · refine tm_iconst dX12_assignment_26 ?_
    exact tm_zret (v := 0) rfl (by decide) dX12_assignment_27 (⟨_, rfl, by omega, (((Fr.rfl.trans (Fr.sub f5 (by decide) (by decide) (by decide))).trans (Fr.sub f14 (by decide) (by decide) (by decide))).trans (Fr.sub f22 (by decide) (by decide) (by decide))), f23, (ts1.fail (PBF.of ts1.nn yn1 (by decide) (by decide) (by decide) yn5) (gf_61 (yn4 (by omega)) (yn6 (by omega)))).1, fun q => absurd q (by omega), fun _ => (ts1.fail (PBF.of ts1.nn yn1 (by decide) (by decide) (by decide) yn5) (gf_61 (yn4 (by omega)) (yn6 (by omega)))).2⟩)
end
section
theorem fl12_370 : Cond.fieldLink RX12 370 (TX12 33).1 (TX12 33).2.1 (TX12 33).2.2.1 ∈ pWW := pw7 (List.mem_of_getElem? (i := 40) rfl) rfl
theorem ml12_373 : Cond.methodLink RX12 373 yX12_block ∈ pWW := pw8 (List.mem_of_getElem? (i := 189) rfl) rfl
theorem ml12_339 : Cond.methodLink RX12 339 yX12_isWord ∈ pWW := pw8 (List.mem_of_getElem? (i := 197) rfl) rfl
theorem dX12_ifStatement_0 : decode cX12_ifStatement 0 = .ok (.aload_n 0, 1) := by decide +kernel
theorem dX12_ifStatement_1 : decode cX12_ifStatement 1 = .ok (.invokevirtual 265, 3) := by decide +kernel
theorem dX12_ifStatement_4 : decode cX12_ifStatement 4 = .ok (.aload_n 0, 1) := by decide +kernel
theorem dX12_ifStatement_5 : decode cX12_ifStatement 5 = .ok (.invokevirtual 327, 3) := by decide +kernel
theorem dX12_ifStatement_8 : decode cX12_ifStatement 8 = .ok (.ifCond .ne 5, 3) := by decide +kernel
theorem dX12_ifStatement_13 : decode cX12_ifStatement 13 = .ok (.aload_n 0, 1) := by decide +kernel
theorem dX12_ifStatement_14 : decode cX12_ifStatement 14 = .ok (.getfield 370, 3) := by decide +kernel
theorem dX12_ifStatement_17 : decode cX12_ifStatement 17 = .ok (.istore_n 1, 1) := by decide +kernel
theorem dX12_ifStatement_18 : decode cX12_ifStatement 18 = .ok (.aload_n 0, 1) := by decide +kernel
theorem dX12_ifStatement_19 : decode cX12_ifStatement 19 = .ok (.dup, 1) := by decide +kernel
theorem dX12_ifStatement_20 : decode cX12_ifStatement 20 = .ok (.getfield 370, 3) := by decide +kernel
theorem dX12_ifStatement_23 : decode cX12_ifStatement 23 = .ok (.iconst 1, 1) := by decide +kernel
theorem dX12_ifStatement_24 : decode cX12_ifStatement 24 = .ok (.iadd, 1) := by decide +kernel
theorem dX12_ifStatement_25 : decode cX12_ifStatement 25 = .ok (.putfield 370, 3) := by decide +kernel
theorem dX12_ifStatement_28 : decode cX12_ifStatement 28 = .ok (.aload_n 0, 1) := by decide +kernel
theorem dX12_ifStatement_29 : decode cX12_ifStatement 29 = .ok (.bipush 9, 2) := by decide +kernel
theorem dX12_ifStatement_31 : decode cX12_ifStatement 31 = .ok (.iload_n 1, 1) := by decide +kernel
theorem dX12_ifStatement_32 : decode cX12_ifStatement 32 = .ok (.iconst 0, 1) := by decide +kernel
theorem dX12_ifStatement_33 : decode cX12_ifStatement 33 = .ok (.invokevirtual 294, 3) := by decide +kernel
theorem dX12_ifStatement_36 : decode cX12_ifStatement 36 = .ok (.istore_n 2, 1) := by decide +kernel
theorem dX12_ifStatement_37 : decode cX12_ifStatement 37 = .ok (.aload_n 0, 1) := by decide +kernel
theorem dX12_ifStatement_38 : decode cX12_ifStatement 38 = .ok (.iload_n 2, 1) := by decide +kernel
theorem dX12_ifStatement_39 : decode cX12_ifStatement 39 = .ok (.iconst 0, 1) := by decide +kernel
theorem dX12_ifStatement_40 : decode cX12_ifStatement 40 = .ok (.aload_n 0, 1) := by decide +kernel
theorem dX12_ifStatement_41 : decode cX12_ifStatement 41 = .ok (.getfield 285, 3) := by decide +kernel
theorem dX12_ifStatement_44 : decode cX12_ifStatement 44 = .ok (.aload_n 0, 1) := by decide +kernel
theorem dX12_ifStatement_45 : decode cX12_ifStatement 45 = .ok (.getfield 288, 3) := by decide +kernel
theorem dX12_ifStatement_48 : decode cX12_ifStatement 48 = .ok (.invokevirtual 298, 3) := by decide +kernel
theorem dX12_ifStatement_51 : decode cX12_ifStatement 51 = .ok (.aload_n 0, 1) := by decide +kernel
theorem dX12_ifStatement_52 : decode cX12_ifStatement 52 = .ok (.invokevirtual 373, 3) := by decide +kernel
theorem dX12_ifStatement_55 : decode cX12_ifStatement 55 = .ok (.ifCond .ne 5, 3) := by decide +kernel
theorem dX12_ifStatement_60 : decode cX12_ifStatement 60 = .ok (.aload_n 0, 1) := by decide +kernel
theorem dX12_ifStatement_61 : decode cX12_ifStatement 61 = .ok (.ldc2_w 248, 3) := by decide +kernel
theorem dX12_ifStatement_64 : decode cX12_ifStatement 64 = .ok (.invokevirtual 339, 3) := by decide +kernel
theorem dX12_ifStatement_67 : decode cX12_ifStatement 67 = .ok (.ifCond .ne 14, 3) := by decide +kernel
theorem dX12_ifStatement_81 : decode cX12_ifStatement 81 = .ok (.aload_n 0, 1) := by decide +kernel
theorem dX12_ifStatement_82 : decode cX12_ifStatement 82 = .ok (.invokevirtual 265, 3) := by decide +kernel
theorem dX12_ifStatement_85 : decode cX12_ifStatement 85 = .ok (.aload_n 0, 1) := by decide +kernel
theorem dX12_ifStatement_86 : decode cX12_ifStatement 86 = .ok (.getfield 370, 3) := by decide +kernel
theorem dX12_ifStatement_89 : decode cX12_ifStatement 89 = .ok (.istore_n 3, 1) := by decide +kernel
theorem dX12_ifStatement_90 : decode cX12_ifStatement 90 = .ok (.aload_n 0, 1) := by decide +kernel
theorem dX12_ifStatement_91 : decode cX12_ifStatement 91 = .ok (.dup, 1) := by decide +kernel
theorem dX12_ifStatement_92 : decode cX12_ifStatement 92 = .ok (.getfield 370, 3) := by decide +kernel
theorem dX12_ifStatement_95 : decode cX12_ifStatement 95 = .ok (.iconst 1, 1) := by decide +kernel
theorem dX12_ifStatement_96 : decode cX12_ifStatement 96 = .ok (.iadd, 1) := by decide +kernel
theorem dX12_ifStatement_97 : decode cX12_ifStatement 97 = .ok (.putfield 370, 3) := by decide +kernel
theorem dX12_ifStatement_100 : decode cX12_ifStatement 100 = .ok (.aload_n 0, 1) := by decide +kernel
theorem dX12_ifStatement_101 : decode cX12_ifStatement 101 = .ok (.bipush 8, 2) := by decide +kernel
theorem dX12_ifStatement_103 : decode cX12_ifStatement 103 = .ok (.iload_n 3, 1) := by decide +kernel
theorem dX12_ifStatement_104 : decode cX12_ifStatement 104 = .ok (.iconst 0, 1) := by decide +kernel
theorem dX12_ifStatement_105 : decode cX12_ifStatement 105 = .ok (.invokevirtual 294, 3) := by decide +kernel
theorem dX12_ifStatement_108 : decode cX12_ifStatement 108 = .ok (.istore_n 2, 1) := by decide +kernel
theorem dX12_ifStatement_109 : decode cX12_ifStatement 109 = .ok (.aload_n 0, 1) := by decide +kernel
theorem dX12_ifStatement_110 : decode cX12_ifStatement 110 = .ok (.bipush 13, 2) := by decide +kernel
theorem dX12_ifStatement_112 : decode cX12_ifStatement 112 = .ok (.iload_n 1, 1) := by decide +kernel
theorem dX12_ifStatement_113 : decode cX12_ifStatement 113 = .ok (.iconst 0, 1) := by decide +kernel
theorem dX12_ifStatement_114 : decode cX12_ifStatement 114 = .ok (.invokevirtual 294, 3) := by decide +kernel
theorem dX12_ifStatement_117 : decode cX12_ifStatement 117 = .ok (.istore_n 2, 1) := by decide +kernel
theorem dX12_ifStatement_118 : decode cX12_ifStatement 118 = .ok (.aload_n 0, 1) := by decide +kernel
theorem dX12_ifStatement_119 : decode cX12_ifStatement 119 = .ok (.invokevirtual 373, 3) := by decide +kernel
theorem dX12_ifStatement_122 : decode cX12_ifStatement 122 = .ok (.ifCond .ne 5, 3) := by decide +kernel
theorem dX12_ifStatement_127 : decode cX12_ifStatement 127 = .ok (.aload_n 0, 1) := by decide +kernel
theorem dX12_ifStatement_128 : decode cX12_ifStatement 128 = .ok (.bipush 13, 2) := by decide +kernel
theorem dX12_ifStatement_130 : decode cX12_ifStatement 130 = .ok (.iload_n 3, 1) := by decide +kernel
theorem dX12_ifStatement_131 : decode cX12_ifStatement 131 = .ok (.iconst 0, 1) := by decide +kernel
theorem dX12_ifStatement_132 : decode cX12_ifStatement 132 = .ok (.invokevirtual 294, 3) := by decide +kernel
theorem dX12_ifStatement_135 : decode cX12_ifStatement 135 = .ok (.istore_n 2, 1) := by decide +kernel
theorem dX12_ifStatement_136 : decode cX12_ifStatement 136 = .ok (.iconst 1, 1) := by decide +kernel
theorem dX12_ifStatement_137 : decode cX12_ifStatement 137 = .ok (.ireturn, 1) := by decide +kernel
theorem dX12_ifStatement_125 : decode cX12_ifStatement 125 = .ok (.iconst 0, 1) := by decide +kernel
theorem dX12_ifStatement_126 : decode cX12_ifStatement 126 = .ok (.ireturn, 1) := by decide +kernel
theorem dX12_ifStatement_70 : decode cX12_ifStatement 70 = .ok (.aload_n 0, 1) := by decide +kernel
theorem dX12_ifStatement_71 : decode cX12_ifStatement 71 = .ok (.bipush 13, 2) := by decide +kernel
theorem dX12_ifStatement_73 : decode cX12_ifStatement 73 = .ok (.iload_n 1, 1) := by decide +kernel
theorem dX12_ifStatement_74 : decode cX12_ifStatement 74 = .ok (.iconst 0, 1) := by decide +kernel
theorem dX12_ifStatement_75 : decode cX12_ifStatement 75 = .ok (.invokevirtual 294, 3) := by decide +kernel
theorem dX12_ifStatement_78 : decode cX12_ifStatement 78 = .ok (.istore_n 2, 1) := by decide +kernel
theorem dX12_ifStatement_79 : decode cX12_ifStatement 79 = .ok (.iconst 1, 1) := by decide +kernel
theorem dX12_ifStatement_80 : decode cX12_ifStatement 80 = .ok (.ireturn, 1) := by decide +kernel
theorem dX12_ifStatement_58 : decode cX12_ifStatement 58 = .ok (.iconst 0, 1) := by decide +kernel
theorem dX12_ifStatement_59 : decode cX12_ifStatement 59 = .ok (.ireturn, 1) := by decide +kernel
theorem dX12_ifStatement_11 : decode cX12_ifStatement 11 = .ok (.iconst 0, 1) := by decide +kernel
theorem dX12_ifStatement_12 : decode cX12_ifStatement 12 = .ok (.ireturn, 1) := by decide +kernel
set_option maxHeartbeats 4000000 in
set_option maxRecDepth 20000 in
theorem c_X12_ifStatement (d : Nat) {b : Nat} {σ : MS} {lv : Nat} {ρ : MS} (hcb : ∀ (d : Nat) {b : Nat} {σ : MS} (hR : RG σ) (hrd : RDY σ) (hnn : NN σ) (h28 : σ.1 28 = 0) (h29 : σ.1 29 = 6 - (lv : Int)) (ht : 0 ≤ σ.1 43 ∧ σ.1 43 ≤ 260), Tm (d + 3 * lv + 44) m_X12_block 0 b σ [(0, .ref b)] [] (fun ro σ2 => ∃ v : Int, ro = some (.int (iI v)) ∧ ((v = 0 ∨ v = 1)) ∧ (Fr [19, 20, 22, 23, 26, 27, 28, 29, 31, 32, 33, 34, 39, 40] [3, 4, 5, 6, 7, 8, 35, 37, 41, 42] [24, 38] σ σ2) ∧ (RG σ2) ∧ (PBF σ σ2) ∧ (Im v 1 (BLQ 28 4 σ σ2)) ∧ (Im v 0 (∀ c : Int, GOF [28] σ (qq c) σ2)))) (hR : RG σ) (hln : LNP 1 ρ σ) (hli : LIT ρ σ) (hg : ∀ c : Int, GOS [20] ρ (qq c) [21] σ (qq c) []) (h28 : σ.1 28 = 0) (h29 : σ.1 29 = 6 - (lv : Int)) (ht : 0 ≤ σ.1 43 ∧ σ.1 43 ≤ 260) : Tm (d + 3 * lv + 45) m_X12_ifStatement 0 b σ [(0, .ref b)] [] (fun ro σ2 => ∃ v : Int, ro = some (.int (iI v)) ∧ ((v = 0 ∨ v = 1)) ∧ (Fr [19, 20, 22, 23, 26, 27, 28, 29, 31, 32, 33, 34, 39, 40] [3, 4, 5, 6, 7, 8, 35, 37, 41, 42] [24, 38] σ σ2) ∧ (RG σ2) ∧ (PBF ρ σ2) ∧ (Im v 1 (BLQ 20 2 ρ σ2)) ∧ (Im v 0 (∀ c : Int, GOF [20] ρ (qq c) σ2))) := by
  have tk0 := hln.tok.1
  have rd0 := hln.1.2
  have f0 := hln.2.2.1
  have e30_ := f0.1 30 (by decide)
  have e34_ := hln.2.2.2.2.1
  have nn0 : NN σ := hln.2.2.2.1.2.2.1
  have h0c := hln.h0
  have e28r : ρ.1 28 = 0 := (f0.1 28 (by decide)).symm.trans h28
  have e29r := f0.1 29 (by decide)
  have e33r := f0.1 33 (by decide)
  refine tm_aload_n dX12_ifStatement_0 rfl 0 rfl ?_
  refine tm_callV (M := m_X12_ifStatement) (pc := 1) (ix := 265) (M' := m_X12_advance) (As := []) (rest := []) dX12_ifStatement_1 ok_X12_advance im_X12_advance se_X12_advance ml12_265 np_X12_advance rfl rfl (Nat.le_of_ble_eq_true rfl) (Nat.le_of_ble_eq_true rfl) rfl (c_X12_advance (d + 3 * lv + 39) (σ := σ)  hR (by omega)) (fun r1 σ2 hp => ?_)
  obtain ⟨rfl, f4, f5, f6, f7, f8⟩ := hp
  show Tm _ _ 4 b σ2 [(0, .ref b)] [] _
  have ad0 := f4
  have ad1 := f5
  have ad2 := f6
  have ad3 := f7
  have ad4 := f8
  have fA1 := (show Fr [19, 20, 22, 23, 26, 27] [35] [24, 38] σ σ2 from (Fr.rfl.trans (Fr.sub f5 (by decide) (by decide) (by decide))))
  have pb1 : PBF σ σ2 := PBF.nop nn0 ad1 (by decide) (by decide) (by decide)
  have ts1 : TS 20 (2 - 1) ρ [2, 51, 28, 24] σ2 qq [] := TS.line hln (by decide) fA1 pb1 ad3 ad4 ((hg _).then (g21 ad0))
  have tk1 := ad3.1
  have e281 : σ2.1 28 = 0 := (ad1.1 28 (by decide)).trans h28
  refine tm_aload_n dX12_ifStatement_4 rfl 0 rfl ?_
  refine tm_callV (M := m_X12_ifStatement) (pc := 5) (ix := 327) (M' := m_X12_expression) (As := []) (rest := []) dX12_ifStatement_5 ok_X12_expression im_X12_expression se_X12_expression ml12_327 np_X12_expression rfl rfl (Nat.le_of_ble_eq_true rfl) (Nat.le_of_ble_eq_true rfl) rfl (c_exp8 (d + 3 * lv + 4) (σ := σ2)  f6 ts1.2.2.1 ts1.nn e281) (fun r9 σ10 hp => ?_)
  obtain ⟨v11, rfl, f12, f13, f14, f15, f16, f17, f18⟩ := hp
  show Tm _ _ 8 b σ10 [(0, .ref b)] [.int (iI v11)] _
  have xp0 := f12
  have xp1 := f13
  have xp2 := f14
  have xp3 := f15
  have xp4 := f16
  have xp5 := f17
  have xp6 := f18
  refine tm_if_ne (tgt := 13) dX12_ifStatement_8 (by decide) ⟨by omega, by omega⟩ (fun h19 => ?_) (fun h19 => ?_)
  · have ts2 := ts1.exp xp1 xp3 (xp4 (by omega)) (xp5.1 (by omega))
    have ex4 := xp4 (by omega)
    have gt := ex4.2.2.1
    unfold GTm at gt
    have rdx := ts2.2.2.1.2
    have tkx := ts2.2.2.1.1.1
    have acx := ex4.2.2.2.1
    have tbx := TBm.of xp1 (by decide) (by decide) (by decide) (by decide)
    have e33x := xp1.1 33 (by decide)
    have e33s : σ10.1 33 = σ.1 33 := rs_F f13 (by decide) (rs_F f5 (by decide) (rfl))
    refine tm_aload_n dX12_ifStatement_13 rfl 0 rfl ?_
    refine tm_getS (k := 33) (t := σ.1 33) dX12_ifStatement_14 (by decide) fl12_370 rfl (rs_F f13 (by decide) (rs_F f5 (by decide) (rfl))) ?_
    have g20 := RG.s hR 33
    refine tm_istore_n (L' := [(1, .int (iI (σ.1 33))), (0, .ref b)]) dX12_ifStatement_17 rfl (by decide) rfl ?_
    refine tm_aload_n dX12_ifStatement_18 rfl 1 rfl ?_
    refine tm_dup dX12_ifStatement_19 rfl ?_
    refine tm_getS (k := 33) (t := σ.1 33) dX12_ifStatement_20 (by decide) fl12_370 rfl (rs_F f13 (by decide) (rs_F f5 (by decide) (rfl))) ?_
    have g21 := RG.s hR 33
    refine tm_iconst dX12_ifStatement_23 ?_
    refine tm_iadd dX12_ifStatement_24 ?_
    refine tm_putS (k := 33) (v := (σ.1 33) + 1) lay_12 dX12_ifStatement_25 (by decide) fl12_370 rfl (tyX12_ok 33 (by decide)) rfl rfl rfl ?_
    refine tm_aload_n dX12_ifStatement_28 rfl 1 rfl ?_
    refine tm_bipush dX12_ifStatement_29 (by decide) ?_
    refine tm_iload_n dX12_ifStatement_31 rfl 0 rfl ?_
    refine tm_iconst dX12_ifStatement_32 ?_
    refine tm_callV (M := m_X12_ifStatement) (pc := 33) (ix := 294) (M' := m_X12_put) (As := [.int (iI 9), .int (iI (σ.1 33)), .int (iI 0)]) (rest := []) dX12_ifStatement_33 ok_X12_put im_X12_put se_X12_put ml12_294 np_X12_put rfl rfl (Nat.le_of_ble_eq_true rfl) (Nat.le_of_ble_eq_true rfl) rfl (c_X12_put (d + 3 * lv + 42) (σ := (sS 33 ((σ.1 33) + 1) σ10)) (k := 9) (e := σ.1 33) (o := 0) (f14.S (by omega)) (by rw [show (sS 33 ((σ.1 33) + 1) σ10).1 30 = σ.1 30 from rs_o (by decide) (rs_F f13 (by decide) (rs_F f5 (by decide) (rfl))), show (sS 33 ((σ.1 33) + 1) σ10).1 34 = σ10.1 34 from rs_o (by decide) (rfl)]; omega) (by omega) (by omega) (by omega)) (fun r22 σ23 hp => ?_)
    obtain ⟨v24, rfl, f25, f26, f27, f28, f29, f30, f31⟩ := hp
    show Tm _ _ 36 b σ23 [(1, .int (iI (σ.1 33))), (0, .ref b)] [.int (iI v24)] _
    have jvZ := f27
    have jnZ := f28
    have jiZ := f29
    have joZ := f30
    have jrZ := f31
    refine tm_istore_n (L' := [(2, .int (iI v24)), (1, .int (iI (σ.1 33))), (0, .ref b)]) dX12_ifStatement_36 rfl (by decide) rfl ?_
    refine tm_aload_n dX12_ifStatement_37 rfl 2 rfl ?_
    refine tm_iload_n dX12_ifStatement_38 rfl 0 rfl ?_
    refine tm_iconst dX12_ifStatement_39 ?_
    refine tm_aload_n dX12_ifStatement_40 rfl 2 rfl ?_
    refine tm_getS (k := 39) (t := σ10.1 39) dX12_ifStatement_41 (by decide) fl12_285 rfl (rs_F f25 (by decide) (rs_o (by decide) (rfl))) ?_
    have g32 := RG.s f14 39
    refine tm_aload_n dX12_ifStatement_44 rfl 2 rfl ?_
    refine tm_getS (k := 40) (t := σ10.1 40) dX12_ifStatement_45 (by decide) fl12_288 rfl (rs_F f25 (by decide) (rs_o (by decide) (rfl))) ?_
    have g33 := RG.s f14 40
    refine tm_callV (M := m_X12_ifStatement) (pc := 48) (ix := 298) (M' := m_X12_setArg) (As := [.int (iI v24), .int (iI 0), .int (iI (σ10.1 39)), .int (iI (σ10.1 40))]) (rest := []) dX12_ifStatement_48 ok_X12_setArg im_X12_setArg se_X12_setArg ml12_298 np_X12_setArg rfl rfl (Nat.le_of_ble_eq_true rfl) (Nat.le_of_ble_eq_true rfl) rfl (c_X12_setArg (d + 3 * lv + 43) (σ := σ23) (x := v24) (i := 0) (k := σ10.1 39) (w := σ10.1 40) (by omega)) (fun r34 σ35 hp => ?_)
    obtain ⟨rfl, f37⟩ := hp
    subst f37
    show Tm _ _ 51 b (fArg (v24) (0) (σ10.1 39) (σ10.1 40) σ23) [(2, .int (iI v24)), (1, .int (iI (σ.1 33))), (0, .ref b)] [] _
    have jvZ : _ = PXx σ10 := jvZ
    have fAZ := (show Fr [33, 34] [3, 4, 5, 6, 7, 8] [] σ10 (fArg (v24) (0) (σ10.1 39) (σ10.1 40) σ23) from (((Fr.rfl.S (by decide)).trans (Fr.sub f25 (by decide) (by decide) (by decide))).trans (Fr.sub fArg_fr (by decide) (by decide) (by decide))))
    have eAZ : (fArg (v24) (0) (σ10.1 39) (σ10.1 40) σ23).1 34 = σ10.1 34 + 1 := jnZ
    have pbZ : PBF σ10 (fArg (v24) (0) (σ10.1 39) (σ10.1 40) σ23) := PBF.it ts2.nn fAZ (by decide) (by decide) (by decide) eAZ jvZ (joZ.trans (OFF.arg (by decide) (by decide)))
    have tbZ : TBm σ10 (fArg (v24) (0) (σ10.1 39) (σ10.1 40) σ23) := TBm.of fAZ (by decide) (by decide) (by decide) (by decide)
    have e33Z : (fArg (v24) (0) (σ10.1 39) (σ10.1 40) σ23).1 33 = σ10.1 33 + 1 := by rw [show (fArg (v24) (0) (σ10.1 39) (σ10.1 40) σ23).1 33 = (σ.1 33) + 1 from rs_F fArg_fr (by decide) (rs_F f25 (by decide) (rs_eq)), e33s]
    have ts3 := ts2.puts (m := 1) fAZ pbZ eAZ (by omega) (by decide) hln.1 (g51 (CHG.put fAZ (by decide) (by decide) (by decide) eAZ))
    have izZ : (fArg (v24) (0) (σ10.1 39) (σ10.1 40) σ23).2.1 3 (PXx σ10) = 9 ∧ (fArg (v24) (0) (σ10.1 39) (σ10.1 40) σ23).2.1 4 (PXx σ10) = σ10.1 33 := by rw [← jvZ]; exact ⟨jiZ.1, jiZ.2.1.trans e33s.symm⟩
    have okZ : σ10.1 25 = 3 → σ10.1 30 < 6 → σ10.1 34 < 180 → OKI (fArg (v24) (0) (σ10.1 39) (σ10.1 40) σ23) 1 (PXx σ10) := (fun z1 z2 z3 => by rw [← jvZ]; exact oki_arg1 jiZ (Or.inr (Or.inr (Or.inr rfl))) (fun q => absurd q (by decide)) (fun _ => by omega) (by omega))
    have rdz := ts3.2.2.1.2
    have tkz := ts3.2.2.1.1.1
    have e28Z : (fArg (v24) (0) (σ10.1 39) (σ10.1 40) σ23).1 28 = 0 := (f25.1 28 (by decide)).trans (xp6.trans e281)
    have e29Z : (fArg (v24) (0) (σ10.1 39) (σ10.1 40) σ23).1 29 = σ.1 29 := rs_F fArg_fr (by decide) (rs_F f25 (by decide) (rs_o (by decide) (rs_F f13 (by decide) (rs_F f5 (by decide) (rfl)))))
    have e43Z : (fArg (v24) (0) (σ10.1 39) (σ10.1 40) σ23).1 43 = σ.1 43 := rs_F fArg_fr (by decide) (rs_F f25 (by decide) (rs_o (by decide) (rs_F f13 (by decide) (rs_F f5 (by decide) (rfl)))))
    refine tm_aload_n dX12_ifStatement_51 rfl 2 rfl ?_
    refine tm_callV (M := m_X12_ifStatement) (pc := 52) (ix := 373) (M' := m_X12_block) (As := []) (rest := []) dX12_ifStatement_52 ok_X12_block im_X12_block se_X12_block ml12_373 np_X12_block rfl rfl (Nat.le_of_ble_eq_true rfl) (Nat.le_of_ble_eq_true rfl) rfl (hcb (d) (σ := (fArg (v24) (0) (σ10.1 39) (σ10.1 40) σ23))  ((f26).arg (by omega) (by omega)) ts3.2.2.1 ts3.nn e28Z (e29Z.trans h29) (by rw [e43Z]; exact ht)) (fun r38 σ39 hp => ?_)
    obtain ⟨v40, rfl, f41, f42, f43, f44, f45, f46⟩ := hp
    show Tm _ _ 55 b σ39 [(2, .int (iI v24)), (1, .int (iI (σ.1 33))), (0, .ref b)] [.int (iI v40)] _
    have bp0 := f41
    have bp1 := f42
    have bp2 := f43
    have bp3 := f44
    have bp4 := f45
    have bp5 := f46
    refine tm_if_ne (tgt := 60) dX12_ifStatement_55 (by decide) ⟨by omega, by omega⟩ (fun h47 => ?_) (fun h47 => ?_)
    · obtain ⟨lg1, bt, bs, bf, b28, b29⟩ := bp4 (by omega)
      have ts4 := ts3.sub bt
      have tk4 := ts4.2.2.1.1.1
      have rd4 := ts4.2.2.1.2
      have e284 : σ39.1 28 = 0 := b28.trans e28Z
      have e294 : σ39.1 29 = σ.1 29 := b29.trans e29Z
      have R60 := f43
      have e434 : σ39.1 43 = σ.1 43 := rs_F f42 (by decide) (rs_F fArg_fr (by decide) (rs_F f25 (by decide) (rs_o (by decide) (rs_F f13 (by decide) (rs_F f5 (by decide) (rfl))))))
      refine tm_aload_n dX12_ifStatement_60 rfl 2 rfl ?_
      refine tm_ldc2 dX12_ifStatement_61 cst12_248 ?_
      refine tm_callV (M := m_X12_ifStatement) (pc := 64) (ix := 339) (M' := m_X12_isWord) (As := [.long (1701606245)]) (rest := []) dX12_ifStatement_64 ok_X12_isWord im_X12_isWord se_X12_isWord ml12_339 np_X12_isWord rfl rfl (Nat.le_of_ble_eq_true rfl) (Nat.le_of_ble_eq_true rfl) rfl (c2_X12_isWord (d + 3 * lv + 43) (σ := σ39) (w := 1701606245) f43) (fun r48 σ49 hp => ?_)
      obtain ⟨v50, rfl, rfl, f51, f52, f53⟩ := hp
      show Tm _ _ 67 b σ39 [(2, .int (iI v24)), (1, .int (iI (σ.1 33))), (0, .ref b)] [.int (iI v50)] _
      have iel := f52
      have nel_ := f53
      refine tm_if_ne (tgt := 81) dX12_ifStatement_67 (by decide) ⟨by omega, by omega⟩ (fun h54 => ?_) (fun h54 => ?_)
      · refine tm_aload_n dX12_ifStatement_81 rfl 2 rfl ?_
        refine tm_callV (M := m_X12_ifStatement) (pc := 82) (ix := 265) (M' := m_X12_advance) (As := []) (rest := []) dX12_ifStatement_82 ok_X12_advance im_X12_advance se_X12_advance ml12_265 np_X12_advance rfl rfl (Nat.le_of_ble_eq_true rfl) (Nat.le_of_ble_eq_true rfl) rfl (c_X12_advance (d + 3 * lv + 39) (σ := σ39)  f43 (by omega)) (fun r55 σ56 hp => ?_)
        obtain ⟨rfl, f58, f59, f60, f61, f62⟩ := hp
        show Tm _ _ 85 b σ56 [(2, .int (iI v24)), (1, .int (iI (σ.1 33))), (0, .ref b)] [] _
        have be0 := f58
        have be1 := f59
        have be2 := f60
        have be3 := f61
        have be4 := f62
        have ts5 := ts4.adv be1 be3 be4 (by have z := (iel (by omega)).1; omega) (g24y (iel (by omega)) be0)
        have pb5 : PBF σ39 σ56 := PBF.nop ts4.nn be1 (by decide) (by decide) (by decide)
        have tk5 := ts5.2.2.1.1.1
        have rd5 := ts5.2.2.1.2
        have e335 := be1.1 33 (by decide)
        have e345 := be1.1 34 (by decide)
        refine tm_aload_n dX12_ifStatement_85 rfl 2 rfl ?_
        refine tm_getS (k := 33) (t := σ39.1 33) dX12_ifStatement_86 (by decide) fl12_370 rfl (rs_F f59 (by decide) (rfl)) ?_
        have g63 := RG.s f43 33
        refine tm_istore_n (L' := [(3, .int (iI (σ39.1 33))), (2, .int (iI v24)), (1, .int (iI (σ.1 33))), (0, .ref b)]) dX12_ifStatement_89 rfl (by decide) rfl ?_
        refine tm_aload_n dX12_ifStatement_90 rfl 3 rfl ?_
        refine tm_dup dX12_ifStatement_91 rfl ?_
        refine tm_getS (k := 33) (t := σ39.1 33) dX12_ifStatement_92 (by decide) fl12_370 rfl (rs_F f59 (by decide) (rfl)) ?_
        have g64 := RG.s f43 33
        refine tm_iconst dX12_ifStatement_95 ?_
        refine tm_iadd dX12_ifStatement_96 ?_
        refine tm_putS (k := 33) (v := (σ39.1 33) + 1) lay_12 dX12_ifStatement_97 (by decide) fl12_370 rfl (tyX12_ok 33 (by decide)) rfl rfl rfl ?_
        refine tm_aload_n dX12_ifStatement_100 rfl 3 rfl ?_
        refine tm_bipush dX12_ifStatement_101 (by decide) ?_
        refine tm_iload_n dX12_ifStatement_103 rfl 0 rfl ?_
        refine tm_iconst dX12_ifStatement_104 ?_
        refine tm_callV (M := m_X12_ifStatement) (pc := 105) (ix := 294) (M' := m_X12_put) (As := [.int (iI 8), .int (iI (σ39.1 33)), .int (iI 0)]) (rest := []) dX12_ifStatement_105 ok_X12_put im_X12_put se_X12_put ml12_294 np_X12_put rfl rfl (Nat.le_of_ble_eq_true rfl) (Nat.le_of_ble_eq_true rfl) rfl (c_X12_put (d + 3 * lv + 42) (σ := (sS 33 ((σ39.1 33) + 1) σ56)) (k := 8) (e := σ39.1 33) (o := 0) (f60.S (by omega)) (by rw [show (sS 33 ((σ39.1 33) + 1) σ56).1 30 = σ.1 30 from rs_o (by decide) (rs_F f59 (by decide) (rs_F f42 (by decide) (rs_F fArg_fr (by decide) (rs_F f25 (by decide) (rs_o (by decide) (rs_F f13 (by decide) (rs_F f5 (by decide) (rfl)))))))), show (sS 33 ((σ39.1 33) + 1) σ56).1 34 = σ39.1 34 from rs_o (by decide) (rs_F f59 (by decide) (rfl))]; omega) (by omega) (by omega) (by omega)) (fun r65 σ66 hp => ?_)
        obtain ⟨v67, rfl, f68, f69, f70, f71, f72, f73, f74⟩ := hp
        show Tm _ _ 108 b σ66 [(3, .int (iI (σ39.1 33))), (2, .int (iI v24)), (1, .int (iI (σ.1 33))), (0, .ref b)] [.int (iI v67)] _
        have jvJ := f70
        have jnJ := f71
        have jiJ := f72
        have joJ := f73
        have jrJ := f74
        refine tm_istore_n (L' := [(2, .int (iI v67)), (3, .int (iI (σ39.1 33))), (1, .int (iI (σ.1 33))), (0, .ref b)]) dX12_ifStatement_108 rfl (by decide) rfl ?_
        have jvJ : _ = PXx σ56 := jvJ
        have fAJ := (show Fr [33, 34] [3, 4, 5, 6, 7, 8] [] σ56 σ66 from ((Fr.rfl.S (by decide)).trans (Fr.sub f68 (by decide) (by decide) (by decide))))
        have eAJ : σ66.1 34 = σ56.1 34 + 1 := jnJ
        have pbJ : PBF σ56 σ66 := PBF.it ts5.nn fAJ (by decide) (by decide) (by decide) eAJ jvJ joJ
        have tbJ : TBm σ56 σ66 := TBm.of fAJ (by decide) (by decide) (by decide) (by decide)
        have e33J : σ66.1 33 = (σ39.1 33) + 1 := rs_F f68 (by decide) (rs_eq)
        refine tm_aload_n dX12_ifStatement_109 rfl 3 rfl ?_
        refine tm_bipush dX12_ifStatement_110 (by decide) ?_
        refine tm_iload_n dX12_ifStatement_112 rfl 2 rfl ?_
        refine tm_iconst dX12_ifStatement_113 ?_
        refine tm_callV (M := m_X12_ifStatement) (pc := 114) (ix := 294) (M' := m_X12_put) (As := [.int (iI 13), .int (iI (σ.1 33)), .int (iI 0)]) (rest := []) dX12_ifStatement_114 ok_X12_put im_X12_put se_X12_put ml12_294 np_X12_put rfl rfl (Nat.le_of_ble_eq_true rfl) (Nat.le_of_ble_eq_true rfl) rfl (c_X12_put (d + 3 * lv + 42) (σ := σ66) (k := 13) (e := σ.1 33) (o := 0) f69 (by rw [show σ66.1 30 = σ.1 30 from rs_F f68 (by decide) (rs_o (by decide) (rs_F f59 (by decide) (rs_F f42 (by decide) (rs_F fArg_fr (by decide) (rs_F f25 (by decide) (rs_o (by decide) (rs_F f13 (by decide) (rs_F f5 (by decide) (rfl))))))))), show σ66.1 34 = σ66.1 34 from rfl]; omega) (by omega) (by omega) (by omega)) (fun r75 σ76 hp => ?_)
        obtain ⟨v77, rfl, f78, f79, f80, f81, f82, f83, f84⟩ := hp
        show Tm _ _ 117 b σ76 [(2, .int (iI v67)), (3, .int (iI (σ39.1 33))), (1, .int (iI (σ.1 33))), (0, .ref b)] [.int (iI v77)] _
        have jvK := f80
        have jnK := f81
        have jiK := f82
        have joK := f83
        have jrK := f84
        refine tm_istore_n (L' := [(2, .int (iI v77)), (3, .int (iI (σ39.1 33))), (1, .int (iI (σ.1 33))), (0, .ref b)]) dX12_ifStatement_117 rfl (by decide) rfl ?_
        have pbK : PBF σ66 σ76 := PBF.it pbJ.2.2.1 f78 (by decide) (by decide) (by decide) jnK jvK joK
        have tbK : TBm σ66 σ76 := TBm.of f78 (by decide) (by decide) (by decide) (by decide)
        have fDK := (show Fr [33, 34] [3, 4, 5, 6, 7, 8] [] σ56 σ76 from (((Fr.rfl.S (by decide)).trans (Fr.sub f68 (by decide) (by decide) (by decide))).trans (Fr.sub f78 (by decide) (by decide) (by decide))))
        have eDK : σ76.1 34 = σ56.1 34 + 2 := by rw [jnK, eAJ]; omega
        have e33K : σ76.1 33 = σ66.1 33 := f78.1 33 (by decide)
        have ts6 := ts5.puts (m := 2) fDK (pbJ.trans pbK) eDK (by omega) (by decide) hln.1 (g52 (CHG.put fDK (by decide) (by decide) (by decide) eDK))
        have itK : σ56.1 25 = 3 → σ56.1 30 < 6 → σ56.1 34 + 1 < 180 → ((σ76.2.1 3 (220 * σ56.1 30 + σ56.1 34) = 8 ∧ σ76.2.1 4 (220 * σ56.1 30 + σ56.1 34) = σ39.1 33) ∧ σ76.2.1 3 (220 * σ56.1 30 + (σ56.1 34 + 1)) = 13 ∧ σ76.2.1 4 (220 * σ56.1 30 + (σ56.1 34 + 1)) = σ.1 33) ∧ OKI σ76 1 (220 * σ56.1 30 + σ56.1 34) ∧ OKI σ76 1 (220 * σ56.1 30 + (σ56.1 34 + 1)) := fun z1 z2 z3 => by
          have x1 : PXx σ56 = 220 * σ56.1 30 + σ56.1 34 := by unfold PXx; rw [if_pos (by omega)]
          have m30 : σ66.1 30 = σ56.1 30 := pbJ.2.2.2.2.2.2.2
          have m25 : σ66.1 25 = σ56.1 25 := pbJ.2.2.2.2.2.2.1
          have x2 : PXx σ66 = 220 * σ56.1 30 + (σ56.1 34 + 1) := by unfold PXx; rw [if_pos (by omega), m30, eAJ]
          have ie := pbK.1 (220 * σ56.1 30 + σ56.1 34) (by omega) (by omega)
          have o1 := oki_bare jiJ (by decide) (fun _ => by omega)
          have o2 := oki_bare jiK (by decide) (fun _ => by omega)
          have a1 := jiJ
          have a2 := jiK
          rw [jvJ, x1] at o1 a1
          rw [jvK, x2] at o2 a2
          exact ⟨⟨⟨ie.1.trans a1.1, ie.2.1.trans a1.2.1⟩, a2.1, a2.2.1⟩, ie.oki tbK.2.1 o1, o2⟩
        have rd6 := ts6.2.2.1.2
        have tk6 := ts6.2.2.1.1.1
        have e286 : σ76.1 28 = 0 := by rw [show σ76.1 28 = σ39.1 28 from rs_F f78 (by decide) (rs_F f68 (by decide) (rs_o (by decide) (rs_F f59 (by decide) (rfl))))]; exact e284
        have e296 : σ76.1 29 = σ.1 29 := by rw [show σ76.1 29 = σ39.1 29 from rs_F f78 (by decide) (rs_F f68 (by decide) (rs_o (by decide) (rs_F f59 (by decide) (rfl))))]; exact e294
        have e436 : σ76.1 43 = σ.1 43 := rs_F f78 (by decide) (rs_F f68 (by decide) (rs_o (by decide) (rs_F f59 (by decide) (rs_F f42 (by decide) (rs_F fArg_fr (by decide) (rs_F f25 (by decide) (rs_o (by decide) (rs_F f13 (by decide) (rs_F f5 (by decide) (rfl))))))))))
        refine tm_aload_n dX12_ifStatement_118 rfl 3 rfl ?_
        refine tm_callV (M := m_X12_ifStatement) (pc := 119) (ix := 373) (M' := m_X12_block) (As := []) (rest := []) dX12_ifStatement_119 ok_X12_block im_X12_block se_X12_block ml12_373 np_X12_block rfl rfl (Nat.le_of_ble_eq_true rfl) (Nat.le_of_ble_eq_true rfl) rfl (hcb (d) (σ := σ76)  f79 ts6.2.2.1 ts6.nn e286 (e296.trans h29) (by rw [e436]; exact ht)) (fun r85 σ86 hp => ?_)
        obtain ⟨v87, rfl, f88, f89, f90, f91, f92, f93⟩ := hp
        show Tm _ _ 122 b σ86 [(2, .int (iI v77)), (3, .int (iI (σ39.1 33))), (1, .int (iI (σ.1 33))), (0, .ref b)] [.int (iI v87)] _
        have cp0 := f88
        have cp1 := f89
        have cp2 := f90
        have cp3 := f91
        have cp4 := f92
        have cp5 := f93
        refine tm_if_ne (tgt := 127) dX12_ifStatement_122 (by decide) ⟨by omega, by omega⟩ (fun h94 => ?_) (fun h94 => ?_)
        · obtain ⟨lg2, ct, cs, cf, c28, c29⟩ := cp4 (by omega)
          have ts7 := ts6.sub ct
          have tk7 := ts7.2.2.1.1.1
          have rd7 := ts7.2.2.1.2
          have R127 := f90
          have e287 : σ86.1 28 = 0 := c28.trans e286
          have e297 : σ86.1 29 = σ.1 29 := c29.trans e296
          refine tm_aload_n dX12_ifStatement_127 rfl 3 rfl ?_
          refine tm_bipush dX12_ifStatement_128 (by decide) ?_
          refine tm_iload_n dX12_ifStatement_130 rfl 1 rfl ?_
          refine tm_iconst dX12_ifStatement_131 ?_
          refine tm_callV (M := m_X12_ifStatement) (pc := 132) (ix := 294) (M' := m_X12_put) (As := [.int (iI 13), .int (iI (σ39.1 33)), .int (iI 0)]) (rest := []) dX12_ifStatement_132 ok_X12_put im_X12_put se_X12_put ml12_294 np_X12_put rfl rfl (Nat.le_of_ble_eq_true rfl) (Nat.le_of_ble_eq_true rfl) rfl (c_X12_put (d + 3 * lv + 42) (σ := σ86) (k := 13) (e := σ39.1 33) (o := 0) f90 (by rw [show σ86.1 30 = σ.1 30 from rs_F f89 (by decide) (rs_F f78 (by decide) (rs_F f68 (by decide) (rs_o (by decide) (rs_F f59 (by decide) (rs_F f42 (by decide) (rs_F fArg_fr (by decide) (rs_F f25 (by decide) (rs_o (by decide) (rs_F f13 (by decide) (rs_F f5 (by decide) (rfl))))))))))), show σ86.1 34 = σ86.1 34 from rfl]; omega) (by omega) (by omega) (by omega)) (fun r95 σ96 hp => ?_)
          obtain ⟨v97, rfl, f98, f99, f100, f101, f102, f103, f104⟩ := hp
          show Tm _ _ 135 b σ96 [(2, .int (iI v77)), (3, .int (iI (σ39.1 33))), (1, .int (iI (σ.1 33))), (0, .ref b)] [.int (iI v97)] _
          have jvL := f100
          have jnL := f101
          have jiL := f102
          have joL := f103
          have jrL := f104
          refine tm_istore_n (L' := [(2, .int (iI v97)), (3, .int (iI (σ39.1 33))), (1, .int (iI (σ.1 33))), (0, .ref b)]) dX12_ifStatement_135 rfl (by decide) rfl ?_
          have jvL : _ = PXx σ86 := jvL
          have fAL := (show Fr [33, 34] [3, 4, 5, 6, 7, 8] [] σ86 σ96 from (Fr.rfl.trans (Fr.sub f98 (by decide) (by decide) (by decide))))
          have eAL : σ96.1 34 = σ86.1 34 + 1 := jnL
          have pbL : PBF σ86 σ96 := PBF.it ts7.nn fAL (by decide) (by decide) (by decide) eAL jvL joL
          have tbL : TBm σ86 σ96 := TBm.of fAL (by decide) (by decide) (by decide) (by decide)
          have sg0 : SGF ρ σ10 [] := ((SGF.one e34_.1 (by omega) (fun _ _ _ => hli.2) (by have z := hli.1.1; omega) : SGF ρ σ []).cat (SGF.nil (ad1.1 34 (by decide)) (by rw [ad1.1 33 (by decide)]; omega) : SGF σ σ2 []) hln.2.2.2.1 pb1 hln.tb (TBm.of ad1 (by decide) (by decide) (by decide) (by decide)) h0c).cat (SGF.ac acx xp3 (by omega) : SGF σ2 σ10 []) ts1.1 xp3 ts1.2.2.2.1 tbx h0c
          have e33L : σ96.1 33 = σ86.1 33 := f98.1 33 (by decide)
          have ts8 := ts7.puts (m := 1) fAL pbL eAL (by omega) (by decide) hln.1 (g51 (CHG.put fAL (by decide) (by decide) (by decide) eAL))
          have sg5 : SGF σ10 σ96 (lg1 ++ lg2) := SGF.ife ⟨eAZ, e33Z⟩ (fun z1 z2 z3 => by have x1 : PXx σ10 = 220 * σ10.1 30 + σ10.1 34 := (by unfold PXx; rw [if_pos (by omega)]); rw [← x1]; exact ⟨izZ, okZ z1 z2 z3⟩) pbZ bs bp3 ⟨by rw [eDK, e345], by rw [e33K]; omega⟩ (fun z1 z2 z3 => have q := itK (by have e := be1.1 25 (by decide); omega) (by have e := be1.1 30 (by decide); omega) (by omega); by have e30 := be1.1 30 (by decide); rw [e30, e345, ← e33s] at q; exact q) (pb5.trans (pbJ.trans pbK)) cs cp3 ⟨eAL, e33L⟩ (fun z1 z2 z3 => by have x1 : PXx σ86 = 220 * σ86.1 30 + σ86.1 34 := (by unfold PXx; rw [if_pos (by omega)]); rw [← x1, ← jvL]; exact ⟨⟨jiL.1, jiL.2.1⟩, oki_bare jiL (by decide) (fun _ => by omega)⟩) pbL tbZ bt.2.2.2.1 ((TBm.of be1 (by decide) (by decide) (by decide) (by decide)).trans (tbJ.trans tbK)) ct.2.2.2.1 tbL ts2.h1
          have sg6 := sg0.cat sg5 ts2.1 (pbZ.trans (bp3.trans ((pb5.trans (pbJ.trans pbK)).trans (cp3.trans pbL)))) ts2.2.2.2.1 (tbZ.trans (bt.2.2.2.1.trans (((TBm.of be1 (by decide) (by decide) (by decide) (by decide)).trans (tbJ.trans tbK)).trans (ct.2.2.2.1.trans tbL)))) h0c
          have pqN : PBF σ σ96 := pb1.trans (xp3.trans (pbZ.trans (bp3.trans ((pb5.trans (pbJ.trans pbK)).trans (cp3.trans pbL)))))
          refine tm_iconst dX12_ifStatement_136 ?_
          exact tm_zret (v := 1) rfl (by decide) dX12_ifStatement_137 (⟨_, rfl, by omega, ((((((((((((Fr.rfl.trans (Fr.sub f5 (by decide) (by decide) (by decide))).trans (Fr.sub f13 (by decide) (by decide) (by decide))).S (by decide)).trans (Fr.sub f25 (by decide) (by decide) (by decide))).trans (Fr.sub fArg_fr (by decide) (by decide) (by decide))).trans (Fr.sub f42 (by decide) (by decide) (by decide))).trans (Fr.sub f59 (by decide) (by decide) (by decide))).S (by decide)).trans (Fr.sub f68 (by decide) (by decide) (by decide))).trans (Fr.sub f78 (by decide) (by decide) (by decide))).trans (Fr.sub f89 (by decide) (by decide) (by decide))).trans (Fr.sub f98 (by decide) (by decide) (by decide))), f99, ts8.1, fun _ => ⟨_, ts8.le (by decide), sg6, FS.of hli e34_.1 hln.2.2.2.1 pqN h0c, ((show σ96.1 28 = 0 from (fAL.1 28 (by decide)).trans e287).trans e28r.symm), (((fAL.1 29 (by decide)).trans e297).trans e29r)⟩, fun q => absurd q (by decide)⟩)
        · refine tm_iconst dX12_ifStatement_125 ?_
          exact tm_zret (v := 0) rfl (by decide) dX12_ifStatement_126 (⟨_, rfl, by omega, (((((((((((Fr.rfl.trans (Fr.sub f5 (by decide) (by decide) (by decide))).trans (Fr.sub f13 (by decide) (by decide) (by decide))).S (by decide)).trans (Fr.sub f25 (by decide) (by decide) (by decide))).trans (Fr.sub fArg_fr (by decide) (by decide) (by decide))).trans (Fr.sub f42 (by decide) (by decide) (by decide))).trans (Fr.sub f59 (by decide) (by decide) (by decide))).S (by decide)).trans (Fr.sub f68 (by decide) (by decide) (by decide))).trans (Fr.sub f78 (by decide) (by decide) (by decide))).trans (Fr.sub f89 (by decide) (by decide) (by decide))), f90, (ts6.fail cp3 (cp5 (by omega) _)).1, fun q => absurd q (by omega), fun _ => (ts6.fail cp3 (cp5 (by omega) _)).2⟩)
      · refine tm_aload_n dX12_ifStatement_70 rfl 2 rfl ?_
        refine tm_bipush dX12_ifStatement_71 (by decide) ?_
        refine tm_iload_n dX12_ifStatement_73 rfl 1 rfl ?_
        refine tm_iconst dX12_ifStatement_74 ?_
        refine tm_callV (M := m_X12_ifStatement) (pc := 75) (ix := 294) (M' := m_X12_put) (As := [.int (iI 13), .int (iI (σ.1 33)), .int (iI 0)]) (rest := []) dX12_ifStatement_75 ok_X12_put im_X12_put se_X12_put ml12_294 np_X12_put rfl rfl (Nat.le_of_ble_eq_true rfl) (Nat.le_of_ble_eq_true rfl) rfl (c_X12_put (d + 3 * lv + 42) (σ := σ39) (k := 13) (e := σ.1 33) (o := 0) f43 (by rw [show σ39.1 30 = σ.1 30 from rs_F f42 (by decide) (rs_F fArg_fr (by decide) (rs_F f25 (by decide) (rs_o (by decide) (rs_F f13 (by decide) (rs_F f5 (by decide) (rfl)))))), show σ39.1 34 = σ39.1 34 from rfl]; omega) (by omega) (by omega) (by omega)) (fun r105 σ106 hp => ?_)
        obtain ⟨v107, rfl, f108, f109, f110, f111, f112, f113, f114⟩ := hp
        show Tm _ _ 78 b σ106 [(2, .int (iI v24)), (1, .int (iI (σ.1 33))), (0, .ref b)] [.int (iI v107)] _
        have jvL := f110
        have jnL := f111
        have jiL := f112
        have joL := f113
        have jrL := f114
        refine tm_istore_n (L' := [(2, .int (iI v107)), (1, .int (iI (σ.1 33))), (0, .ref b)]) dX12_ifStatement_78 rfl (by decide) rfl ?_
        have jvL : _ = PXx σ39 := jvL
        have fAL := (show Fr [33, 34] [3, 4, 5, 6, 7, 8] [] σ39 σ106 from (Fr.rfl.trans (Fr.sub f108 (by decide) (by decide) (by decide))))
        have eAL : σ106.1 34 = σ39.1 34 + 1 := jnL
        have pbL : PBF σ39 σ106 := PBF.it ts4.nn fAL (by decide) (by decide) (by decide) eAL jvL joL
        have tbL : TBm σ39 σ106 := TBm.of fAL (by decide) (by decide) (by decide) (by decide)
        have sg0 : SGF ρ σ10 [] := ((SGF.one e34_.1 (by omega) (fun _ _ _ => hli.2) (by have z := hli.1.1; omega) : SGF ρ σ []).cat (SGF.nil (ad1.1 34 (by decide)) (by rw [ad1.1 33 (by decide)]; omega) : SGF σ σ2 []) hln.2.2.2.1 pb1 hln.tb (TBm.of ad1 (by decide) (by decide) (by decide) (by decide)) h0c).cat (SGF.ac acx xp3 (by omega) : SGF σ2 σ10 []) ts1.1 xp3 ts1.2.2.2.1 tbx h0c
        have e33L : σ106.1 33 = σ39.1 33 := f108.1 33 (by decide)
        have ts5 := (ts4.nxt (g24n (nel_ (by omega)))).puts (m := 1) fAL pbL eAL (by omega) (by decide) hln.1 (g51 (CHG.put fAL (by decide) (by decide) (by decide) eAL))
        have sg5 : SGF σ10 σ106 lg1 := SGF.ifs ⟨eAZ, e33Z⟩ izZ okZ pbZ bs bp3 ⟨eAL, e33L⟩ (by rw [← jvL]; exact ⟨jiL.1, jiL.2.1.trans e33s.symm⟩) (fun z1 z2 z3 => by rw [← jvL]; exact oki_bare jiL (by decide) (fun _ => by omega)) pbL tbZ bt.2.2.2.1 tbL ts2.h1
        have sg6 := sg0.cat sg5 ts2.1 (pbZ.trans (bp3.trans pbL)) ts2.2.2.2.1 (tbZ.trans (bt.2.2.2.1.trans tbL)) h0c
        have pqN : PBF σ σ106 := pb1.trans (xp3.trans (pbZ.trans (bp3.trans pbL)))
        refine tm_iconst dX12_ifStatement_79 ?_
        exact tm_zret (v := 1) rfl (by decide) dX12_ifStatement_80 (⟨_, rfl, by omega, (((((((Fr.rfl.trans (Fr.sub f5 (by decide) (by decide) (by decide))).trans (Fr.sub f13 (by decide) (by decide) (by decide))).S (by decide)).trans (Fr.sub f25 (by decide) (by decide) (by decide))).trans (Fr.sub fArg_fr (by decide) (by decide) (by decide))).trans (Fr.sub f42 (by decide) (by decide) (by decide))).trans (Fr.sub f108 (by decide) (by decide) (by decide))), f109, ts5.1, fun _ => ⟨_, ts5.le (by decide), sg6, FS.of hli e34_.1 hln.2.2.2.1 pqN h0c, ((show σ106.1 28 = 0 from (fAL.1 28 (by decide)).trans e284).trans e28r.symm), (((fAL.1 29 (by decide)).trans e294).trans e29r)⟩, fun q => absurd q (by decide)⟩)
    · refine tm_iconst dX12_ifStatement_58 ?_
      exact tm_zret (v := 0) rfl (by decide) dX12_ifStatement_59 (⟨_, rfl, by omega, ((((((Fr.rfl.trans (Fr.sub f5 (by decide) (by decide) (by decide))).trans (Fr.sub f13 (by decide) (by decide) (by decide))).S (by decide)).trans (Fr.sub f25 (by decide) (by decide) (by decide))).trans (Fr.sub fArg_fr (by decide) (by decide) (by decide))).trans (Fr.sub f42 (by decide) (by decide) (by decide))), f43, (ts3.fail bp3 (bp5 (by omega) _)).1, fun q => absurd q (by omega), fun _ => (ts3.fail bp3 (bp5 (by omega) _)).2⟩)
  · refine tm_iconst dX12_ifStatement_11 ?_
    exact tm_zret (v := 0) rfl (by decide) dX12_ifStatement_12 (⟨_, rfl, by omega, ((Fr.rfl.trans (Fr.sub f5 (by decide) (by decide) (by decide))).trans (Fr.sub f13 (by decide) (by decide) (by decide))), f14, (ts1.fail xp3 (xp5.2 (by omega) _)).1, fun q => absurd q (by omega), fun _ => (ts1.fail xp3 (xp5.2 (by omega) _)).2⟩)
end
section
theorem fl12_343 : Cond.fieldLink RX12 343 (TX12 31).1 (TX12 31).2.1 (TX12 31).2.2.1 ∈ pWW := pw7 (List.mem_of_getElem? (i := 38) rfl) rfl
theorem dX12_whileStatement_0 : decode cX12_whileStatement 0 = .ok (.aload_n 0, 1) := by decide +kernel
theorem dX12_whileStatement_1 : decode cX12_whileStatement 1 = .ok (.getfield 343, 3) := by decide +kernel
theorem dX12_whileStatement_4 : decode cX12_whileStatement 4 = .ok (.istore_n 1, 1) := by decide +kernel
theorem dX12_whileStatement_5 : decode cX12_whileStatement 5 = .ok (.aload_n 0, 1) := by decide +kernel
theorem dX12_whileStatement_6 : decode cX12_whileStatement 6 = .ok (.invokevirtual 265, 3) := by decide +kernel
theorem dX12_whileStatement_9 : decode cX12_whileStatement 9 = .ok (.aload_n 0, 1) := by decide +kernel
theorem dX12_whileStatement_10 : decode cX12_whileStatement 10 = .ok (.getfield 370, 3) := by decide +kernel
theorem dX12_whileStatement_13 : decode cX12_whileStatement 13 = .ok (.istore_n 2, 1) := by decide +kernel
theorem dX12_whileStatement_14 : decode cX12_whileStatement 14 = .ok (.aload_n 0, 1) := by decide +kernel
theorem dX12_whileStatement_15 : decode cX12_whileStatement 15 = .ok (.dup, 1) := by decide +kernel
theorem dX12_whileStatement_16 : decode cX12_whileStatement 16 = .ok (.getfield 370, 3) := by decide +kernel
theorem dX12_whileStatement_19 : decode cX12_whileStatement 19 = .ok (.iconst 1, 1) := by decide +kernel
theorem dX12_whileStatement_20 : decode cX12_whileStatement 20 = .ok (.iadd, 1) := by decide +kernel
theorem dX12_whileStatement_21 : decode cX12_whileStatement 21 = .ok (.putfield 370, 3) := by decide +kernel
theorem dX12_whileStatement_24 : decode cX12_whileStatement 24 = .ok (.aload_n 0, 1) := by decide +kernel
theorem dX12_whileStatement_25 : decode cX12_whileStatement 25 = .ok (.bipush 13, 2) := by decide +kernel
theorem dX12_whileStatement_27 : decode cX12_whileStatement 27 = .ok (.iload_n 2, 1) := by decide +kernel
theorem dX12_whileStatement_28 : decode cX12_whileStatement 28 = .ok (.iconst 0, 1) := by decide +kernel
theorem dX12_whileStatement_29 : decode cX12_whileStatement 29 = .ok (.invokevirtual 294, 3) := by decide +kernel
theorem dX12_whileStatement_32 : decode cX12_whileStatement 32 = .ok (.istore_n 3, 1) := by decide +kernel
theorem dX12_whileStatement_33 : decode cX12_whileStatement 33 = .ok (.aload_n 0, 1) := by decide +kernel
theorem dX12_whileStatement_34 : decode cX12_whileStatement 34 = .ok (.bipush 11, 2) := by decide +kernel
theorem dX12_whileStatement_36 : decode cX12_whileStatement 36 = .ok (.iload_n 1, 1) := by decide +kernel
theorem dX12_whileStatement_37 : decode cX12_whileStatement 37 = .ok (.iconst 0, 1) := by decide +kernel
theorem dX12_whileStatement_38 : decode cX12_whileStatement 38 = .ok (.invokevirtual 294, 3) := by decide +kernel
theorem dX12_whileStatement_41 : decode cX12_whileStatement 41 = .ok (.istore_n 3, 1) := by decide +kernel
theorem dX12_whileStatement_42 : decode cX12_whileStatement 42 = .ok (.aload_n 0, 1) := by decide +kernel
theorem dX12_whileStatement_43 : decode cX12_whileStatement 43 = .ok (.invokevirtual 327, 3) := by decide +kernel
theorem dX12_whileStatement_46 : decode cX12_whileStatement 46 = .ok (.ifCond .ne 5, 3) := by decide +kernel
theorem dX12_whileStatement_51 : decode cX12_whileStatement 51 = .ok (.aload_n 0, 1) := by decide +kernel
theorem dX12_whileStatement_52 : decode cX12_whileStatement 52 = .ok (.getfield 370, 3) := by decide +kernel
theorem dX12_whileStatement_55 : decode cX12_whileStatement 55 = .ok (.istore 4, 2) := by decide +kernel
theorem dX12_whileStatement_57 : decode cX12_whileStatement 57 = .ok (.aload_n 0, 1) := by decide +kernel
theorem dX12_whileStatement_58 : decode cX12_whileStatement 58 = .ok (.dup, 1) := by decide +kernel
theorem dX12_whileStatement_59 : decode cX12_whileStatement 59 = .ok (.getfield 370, 3) := by decide +kernel
theorem dX12_whileStatement_62 : decode cX12_whileStatement 62 = .ok (.iconst 1, 1) := by decide +kernel
theorem dX12_whileStatement_63 : decode cX12_whileStatement 63 = .ok (.iadd, 1) := by decide +kernel
theorem dX12_whileStatement_64 : decode cX12_whileStatement 64 = .ok (.putfield 370, 3) := by decide +kernel
theorem dX12_whileStatement_67 : decode cX12_whileStatement 67 = .ok (.aload_n 0, 1) := by decide +kernel
theorem dX12_whileStatement_68 : decode cX12_whileStatement 68 = .ok (.bipush 9, 2) := by decide +kernel
theorem dX12_whileStatement_70 : decode cX12_whileStatement 70 = .ok (.iload 4, 2) := by decide +kernel
theorem dX12_whileStatement_72 : decode cX12_whileStatement 72 = .ok (.iconst 0, 1) := by decide +kernel
theorem dX12_whileStatement_73 : decode cX12_whileStatement 73 = .ok (.invokevirtual 294, 3) := by decide +kernel
theorem dX12_whileStatement_76 : decode cX12_whileStatement 76 = .ok (.istore_n 3, 1) := by decide +kernel
theorem dX12_whileStatement_77 : decode cX12_whileStatement 77 = .ok (.aload_n 0, 1) := by decide +kernel
theorem dX12_whileStatement_78 : decode cX12_whileStatement 78 = .ok (.iload_n 3, 1) := by decide +kernel
theorem dX12_whileStatement_79 : decode cX12_whileStatement 79 = .ok (.iconst 0, 1) := by decide +kernel
theorem dX12_whileStatement_80 : decode cX12_whileStatement 80 = .ok (.aload_n 0, 1) := by decide +kernel
theorem dX12_whileStatement_81 : decode cX12_whileStatement 81 = .ok (.getfield 285, 3) := by decide +kernel
theorem dX12_whileStatement_84 : decode cX12_whileStatement 84 = .ok (.aload_n 0, 1) := by decide +kernel
theorem dX12_whileStatement_85 : decode cX12_whileStatement 85 = .ok (.getfield 288, 3) := by decide +kernel
theorem dX12_whileStatement_88 : decode cX12_whileStatement 88 = .ok (.invokevirtual 298, 3) := by decide +kernel
theorem dX12_whileStatement_91 : decode cX12_whileStatement 91 = .ok (.aload_n 0, 1) := by decide +kernel
theorem dX12_whileStatement_92 : decode cX12_whileStatement 92 = .ok (.invokevirtual 373, 3) := by decide +kernel
theorem dX12_whileStatement_95 : decode cX12_whileStatement 95 = .ok (.ifCond .ne 5, 3) := by decide +kernel
theorem dX12_whileStatement_100 : decode cX12_whileStatement 100 = .ok (.aload_n 0, 1) := by decide +kernel
theorem dX12_whileStatement_101 : decode cX12_whileStatement 101 = .ok (.bipush 8, 2) := by decide +kernel
theorem dX12_whileStatement_103 : decode cX12_whileStatement 103 = .ok (.iload_n 2, 1) := by decide +kernel
theorem dX12_whileStatement_104 : decode cX12_whileStatement 104 = .ok (.iconst 0, 1) := by decide +kernel
theorem dX12_whileStatement_105 : decode cX12_whileStatement 105 = .ok (.invokevirtual 294, 3) := by decide +kernel
theorem dX12_whileStatement_108 : decode cX12_whileStatement 108 = .ok (.istore_n 3, 1) := by decide +kernel
theorem dX12_whileStatement_109 : decode cX12_whileStatement 109 = .ok (.aload_n 0, 1) := by decide +kernel
theorem dX12_whileStatement_110 : decode cX12_whileStatement 110 = .ok (.bipush 13, 2) := by decide +kernel
theorem dX12_whileStatement_112 : decode cX12_whileStatement 112 = .ok (.iload 4, 2) := by decide +kernel
theorem dX12_whileStatement_114 : decode cX12_whileStatement 114 = .ok (.iconst 0, 1) := by decide +kernel
theorem dX12_whileStatement_115 : decode cX12_whileStatement 115 = .ok (.invokevirtual 294, 3) := by decide +kernel
theorem dX12_whileStatement_118 : decode cX12_whileStatement 118 = .ok (.istore_n 3, 1) := by decide +kernel
theorem dX12_whileStatement_119 : decode cX12_whileStatement 119 = .ok (.iconst 1, 1) := by decide +kernel
theorem dX12_whileStatement_120 : decode cX12_whileStatement 120 = .ok (.ireturn, 1) := by decide +kernel
theorem dX12_whileStatement_98 : decode cX12_whileStatement 98 = .ok (.iconst 0, 1) := by decide +kernel
theorem dX12_whileStatement_99 : decode cX12_whileStatement 99 = .ok (.ireturn, 1) := by decide +kernel
theorem dX12_whileStatement_49 : decode cX12_whileStatement 49 = .ok (.iconst 0, 1) := by decide +kernel
theorem dX12_whileStatement_50 : decode cX12_whileStatement 50 = .ok (.ireturn, 1) := by decide +kernel
set_option maxHeartbeats 4000000 in
set_option maxRecDepth 20000 in
theorem c_X12_whileStatement (d : Nat) {b : Nat} {σ : MS} {lv : Nat} {ρ : MS} (hcb : ∀ (d : Nat) {b : Nat} {σ : MS} (hR : RG σ) (hrd : RDY σ) (hnn : NN σ) (h28 : σ.1 28 = 0) (h29 : σ.1 29 = 6 - (lv : Int)) (ht : 0 ≤ σ.1 43 ∧ σ.1 43 ≤ 260), Tm (d + 3 * lv + 44) m_X12_block 0 b σ [(0, .ref b)] [] (fun ro σ2 => ∃ v : Int, ro = some (.int (iI v)) ∧ ((v = 0 ∨ v = 1)) ∧ (Fr [19, 20, 22, 23, 26, 27, 28, 29, 31, 32, 33, 34, 39, 40] [3, 4, 5, 6, 7, 8, 35, 37, 41, 42] [24, 38] σ σ2) ∧ (RG σ2) ∧ (PBF σ σ2) ∧ (Im v 1 (BLQ 28 4 σ σ2)) ∧ (Im v 0 (∀ c : Int, GOF [28] σ (qq c) σ2)))) (hR : RG σ) (hln : LNP 0 ρ σ) (hg : ∀ c : Int, GOS [20] ρ (qq c) [22] σ (qq c) []) (h28 : σ.1 28 = 0) (h29 : σ.1 29 = 6 - (lv : Int)) (ht : 0 ≤ σ.1 43 ∧ σ.1 43 ≤ 260) : Tm (d + 3 * lv + 45) m_X12_whileStatement 0 b σ [(0, .ref b)] [] (fun ro σ2 => ∃ v : Int, ro = some (.int (iI v)) ∧ ((v = 0 ∨ v = 1)) ∧ (Fr [19, 20, 22, 23, 26, 27, 28, 29, 31, 32, 33, 34, 39, 40] [3, 4, 5, 6, 7, 8, 35, 37, 41, 42] [24, 38] σ σ2) ∧ (RG σ2) ∧ (PBF ρ σ2) ∧ (Im v 1 (BLQ 20 2 ρ σ2)) ∧ (Im v 0 (∀ c : Int, GOF [20] ρ (qq c) σ2))) := by
  have tk0 := hln.tok.1
  have rd0 := hln.1.2
  have f0 := hln.2.2.1
  have e30_ := f0.1 30 (by decide)
  have e34_ := hln.2.2.2.2.1
  have nn0 : NN σ := hln.2.2.2.1.2.2.1
  have h0c := hln.h0
  have e28r : ρ.1 28 = 0 := (f0.1 28 (by decide)).symm.trans h28
  have e29r := f0.1 29 (by decide)
  have e33r := f0.1 33 (by decide)
  refine tm_aload_n dX12_whileStatement_0 rfl 0 rfl ?_
  refine tm_getS (k := 31) (t := σ.1 31) dX12_whileStatement_1 (by decide) fl12_343 rfl (rfl) ?_
  have g1 := RG.s hR 31
  refine tm_istore_n (L' := [(1, .int (iI (σ.1 31))), (0, .ref b)]) dX12_whileStatement_4 rfl (by decide) rfl ?_
  refine tm_aload_n dX12_whileStatement_5 rfl 1 rfl ?_
  refine tm_callV (M := m_X12_whileStatement) (pc := 6) (ix := 265) (M' := m_X12_advance) (As := []) (rest := []) dX12_whileStatement_6 ok_X12_advance im_X12_advance se_X12_advance ml12_265 np_X12_advance rfl rfl (Nat.le_of_ble_eq_true rfl) (Nat.le_of_ble_eq_true rfl) rfl (c_X12_advance (d + 3 * lv + 39) (σ := σ)  hR (by omega)) (fun r2 σ3 hp => ?_)
  obtain ⟨rfl, f5, f6, f7, f8, f9⟩ := hp
  show Tm _ _ 9 b σ3 [(1, .int (iI (σ.1 31))), (0, .ref b)] [] _
  have ad0 := f5
  have ad1 := f6
  have ad2 := f7
  have ad3 := f8
  have ad4 := f9
  have fA1 := (show Fr [19, 20, 22, 23, 26, 27] [35] [24, 38] σ σ3 from (Fr.rfl.trans (Fr.sub f6 (by decide) (by decide) (by decide))))
  have pb1 : PBF σ σ3 := PBF.nop nn0 ad1 (by decide) (by decide) (by decide)
  have ts1 : TS 20 (2 - 0) ρ [52, 2, 51, 28, 52] σ3 qq [] := TS.line hln (by decide) fA1 pb1 ad3 ad4 ((hg _).then (g22 ad0))
  have tk1 := ad3.1
  have e281 : σ3.1 28 = 0 := (ad1.1 28 (by decide)).trans h28
  have rd1 := ts1.2.2.1.2
  have i33 := ad1.1 33 (by decide)
  have i34 := ad1.1 34 (by decide)
  have i30 := ad1.1 30 (by decide)
  refine tm_aload_n dX12_whileStatement_9 rfl 1 rfl ?_
  refine tm_getS (k := 33) (t := σ.1 33) dX12_whileStatement_10 (by decide) fl12_370 rfl (rs_F f6 (by decide) (rfl)) ?_
  have g10 := RG.s hR 33
  refine tm_istore_n (L' := [(2, .int (iI (σ.1 33))), (1, .int (iI (σ.1 31))), (0, .ref b)]) dX12_whileStatement_13 rfl (by decide) rfl ?_
  refine tm_aload_n dX12_whileStatement_14 rfl 2 rfl ?_
  refine tm_dup dX12_whileStatement_15 rfl ?_
  refine tm_getS (k := 33) (t := σ.1 33) dX12_whileStatement_16 (by decide) fl12_370 rfl (rs_F f6 (by decide) (rfl)) ?_
  have g11 := RG.s hR 33
  refine tm_iconst dX12_whileStatement_19 ?_
  refine tm_iadd dX12_whileStatement_20 ?_
  refine tm_putS (k := 33) (v := (σ.1 33) + 1) lay_12 dX12_whileStatement_21 (by decide) fl12_370 rfl (tyX12_ok 33 (by decide)) rfl rfl rfl ?_
  refine tm_aload_n dX12_whileStatement_24 rfl 2 rfl ?_
  refine tm_bipush dX12_whileStatement_25 (by decide) ?_
  refine tm_iload_n dX12_whileStatement_27 rfl 0 rfl ?_
  refine tm_iconst dX12_whileStatement_28 ?_
  refine tm_callV (M := m_X12_whileStatement) (pc := 29) (ix := 294) (M' := m_X12_put) (As := [.int (iI 13), .int (iI (σ.1 33)), .int (iI 0)]) (rest := []) dX12_whileStatement_29 ok_X12_put im_X12_put se_X12_put ml12_294 np_X12_put rfl rfl (Nat.le_of_ble_eq_true rfl) (Nat.le_of_ble_eq_true rfl) rfl (c_X12_put (d + 3 * lv + 42) (σ := (sS 33 ((σ.1 33) + 1) σ3)) (k := 13) (e := σ.1 33) (o := 0) (f7.S (by omega)) (by rw [show (sS 33 ((σ.1 33) + 1) σ3).1 30 = σ.1 30 from rs_o (by decide) (rs_F f6 (by decide) (rfl)), show (sS 33 ((σ.1 33) + 1) σ3).1 34 = σ.1 34 from rs_o (by decide) (rs_F f6 (by decide) (rfl))]; omega) (by omega) (by omega) (by omega)) (fun r12 σ13 hp => ?_)
  obtain ⟨v14, rfl, f15, f16, f17, f18, f19, f20, f21⟩ := hp
  show Tm _ _ 32 b σ13 [(2, .int (iI (σ.1 33))), (1, .int (iI (σ.1 31))), (0, .ref b)] [.int (iI v14)] _
  have jvJ := f17
  have jnJ := f18
  have jiJ := f19
  have joJ := f20
  have jrJ := f21
  refine tm_istore_n (L' := [(3, .int (iI v14)), (2, .int (iI (σ.1 33))), (1, .int (iI (σ.1 31))), (0, .ref b)]) dX12_whileStatement_32 rfl (by decide) rfl ?_
  have jvJ : _ = PXx σ3 := jvJ
  have fAJ := (show Fr [33, 34] [3, 4, 5, 6, 7, 8] [] σ3 σ13 from ((Fr.rfl.S (by decide)).trans (Fr.sub f15 (by decide) (by decide) (by decide))))
  have eAJ : σ13.1 34 = σ3.1 34 + 1 := jnJ
  have pbJ : PBF σ3 σ13 := PBF.it ts1.nn fAJ (by decide) (by decide) (by decide) eAJ jvJ joJ
  have tbJ : TBm σ3 σ13 := TBm.of fAJ (by decide) (by decide) (by decide) (by decide)
  have e33J : σ13.1 33 = (σ.1 33) + 1 := rs_F f15 (by decide) (rs_eq)
  refine tm_aload_n dX12_whileStatement_33 rfl 3 rfl ?_
  refine tm_bipush dX12_whileStatement_34 (by decide) ?_
  refine tm_iload_n dX12_whileStatement_36 rfl 2 rfl ?_
  refine tm_iconst dX12_whileStatement_37 ?_
  refine tm_callV (M := m_X12_whileStatement) (pc := 38) (ix := 294) (M' := m_X12_put) (As := [.int (iI 11), .int (iI (σ.1 31)), .int (iI 0)]) (rest := []) dX12_whileStatement_38 ok_X12_put im_X12_put se_X12_put ml12_294 np_X12_put rfl rfl (Nat.le_of_ble_eq_true rfl) (Nat.le_of_ble_eq_true rfl) rfl (c_X12_put (d + 3 * lv + 42) (σ := σ13) (k := 11) (e := σ.1 31) (o := 0) f16 (by rw [show σ13.1 30 = σ.1 30 from rs_F f15 (by decide) (rs_o (by decide) (rs_F f6 (by decide) (rfl))), show σ13.1 34 = σ13.1 34 from rfl]; omega) (by omega) (by omega) (by omega)) (fun r22 σ23 hp => ?_)
  obtain ⟨v24, rfl, f25, f26, f27, f28, f29, f30, f31⟩ := hp
  show Tm _ _ 41 b σ23 [(3, .int (iI v14)), (2, .int (iI (σ.1 33))), (1, .int (iI (σ.1 31))), (0, .ref b)] [.int (iI v24)] _
  have jvK := f27
  have jnK := f28
  have jiK := f29
  have joK := f30
  have jrK := f31
  refine tm_istore_n (L' := [(3, .int (iI v24)), (2, .int (iI (σ.1 33))), (1, .int (iI (σ.1 31))), (0, .ref b)]) dX12_whileStatement_41 rfl (by decide) rfl ?_
  have pbK : PBF σ13 σ23 := PBF.it pbJ.2.2.1 f25 (by decide) (by decide) (by decide) jnK jvK joK
  have tbK : TBm σ13 σ23 := TBm.of f25 (by decide) (by decide) (by decide) (by decide)
  have fDK := (show Fr [33, 34] [3, 4, 5, 6, 7, 8] [] σ3 σ23 from (((Fr.rfl.S (by decide)).trans (Fr.sub f15 (by decide) (by decide) (by decide))).trans (Fr.sub f25 (by decide) (by decide) (by decide))))
  have eDK : σ23.1 34 = σ3.1 34 + 2 := by rw [jnK, eAJ]; omega
  have e33K : σ23.1 33 = σ13.1 33 := f25.1 33 (by decide)
  have ts2 := ts1.puts (m := 2) fDK (pbJ.trans pbK) eDK (by omega) (by decide) hln.1 (g52 (CHG.put fDK (by decide) (by decide) (by decide) eDK))
  have itK : σ3.1 25 = 3 → σ3.1 30 < 6 → σ3.1 34 + 1 < 180 → ((σ23.2.1 3 (220 * σ3.1 30 + σ3.1 34) = 13 ∧ σ23.2.1 4 (220 * σ3.1 30 + σ3.1 34) = σ.1 33) ∧ σ23.2.1 3 (220 * σ3.1 30 + (σ3.1 34 + 1)) = 11 ∧ σ23.2.1 4 (220 * σ3.1 30 + (σ3.1 34 + 1)) = σ.1 31) ∧ OKI σ23 1 (220 * σ3.1 30 + σ3.1 34) ∧ OKI σ23 1 (220 * σ3.1 30 + (σ3.1 34 + 1)) := fun z1 z2 z3 => by
    have x1 : PXx σ3 = 220 * σ3.1 30 + σ3.1 34 := by unfold PXx; rw [if_pos (by omega)]
    have m30 : σ13.1 30 = σ3.1 30 := pbJ.2.2.2.2.2.2.2
    have m25 : σ13.1 25 = σ3.1 25 := pbJ.2.2.2.2.2.2.1
    have x2 : PXx σ13 = 220 * σ3.1 30 + (σ3.1 34 + 1) := by unfold PXx; rw [if_pos (by omega), m30, eAJ]
    have ie := pbK.1 (220 * σ3.1 30 + σ3.1 34) (by omega) (by omega)
    have o1 := oki_bare jiJ (by decide) (fun _ => by omega)
    have o2 := oki_bare jiK (by decide) (fun q => absurd rfl q)
    have a1 := jiJ
    have a2 := jiK
    rw [jvJ, x1] at o1 a1
    rw [jvK, x2] at o2 a2
    exact ⟨⟨⟨ie.1.trans a1.1, ie.2.1.trans a1.2.1⟩, a2.1, a2.2.1⟩, ie.oki tbK.2.1 o1, o2⟩
  have tk2 := ts2.2.2.1.1.1
  have e282 : σ23.1 28 = 0 := by rw [show σ23.1 28 = σ3.1 28 from (show Fr [33, 34] [3, 4, 5, 6, 7, 8] [] σ3 σ23 from (((Fr.rfl.S (by decide)).trans (Fr.sub f15 (by decide) (by decide) (by decide))).trans (Fr.sub f25 (by decide) (by decide) (by decide)))).1 28 (by decide)]; exact e281
  refine tm_aload_n dX12_whileStatement_42 rfl 3 rfl ?_
  refine tm_callV (M := m_X12_whileStatement) (pc := 43) (ix := 327) (M' := m_X12_expression) (As := []) (rest := []) dX12_whileStatement_43 ok_X12_expression im_X12_expression se_X12_expression ml12_327 np_X12_expression rfl rfl (Nat.le_of_ble_eq_true rfl) (Nat.le_of_ble_eq_true rfl) rfl (c_exp8 (d + 3 * lv + 4) (σ := σ23)  f26 ts2.2.2.1 ts2.nn e282) (fun r32 σ33 hp => ?_)
  obtain ⟨v34, rfl, f35, f36, f37, f38, f39, f40, f41⟩ := hp
  show Tm _ _ 46 b σ33 [(3, .int (iI v24)), (2, .int (iI (σ.1 33))), (1, .int (iI (σ.1 31))), (0, .ref b)] [.int (iI v34)] _
  have xp0 := f35
  have xp1 := f36
  have xp2 := f37
  have xp3 := f38
  have xp4 := f39
  have xp5 := f40
  have xp6 := f41
  refine tm_if_ne (tgt := 51) dX12_whileStatement_46 (by decide) ⟨by omega, by omega⟩ (fun h42 => ?_) (fun h42 => ?_)
  · have ts3 := ts2.exp xp1 xp3 (xp4 (by omega)) (xp5.1 (by omega))
    have ex4 := xp4 (by omega)
    have gt := ex4.2.2.1
    unfold GTm at gt
    have rdx := ts3.2.2.1.2
    have tkx := ts3.2.2.1.1.1
    have acx := ex4.2.2.2.1
    have tbx := TBm.of xp1 (by decide) (by decide) (by decide) (by decide)
    have e33x := xp1.1 33 (by decide)
    have e33s : σ33.1 33 = (σ.1 33) + 1 := rs_F f36 (by decide) (rs_F f25 (by decide) (rs_F f15 (by decide) (rs_eq)))
    refine tm_aload_n dX12_whileStatement_51 rfl 3 rfl ?_
    refine tm_getS (k := 33) (t := (σ.1 33) + 1) dX12_whileStatement_52 (by decide) fl12_370 rfl (rs_F f36 (by decide) (rs_F f25 (by decide) (rs_F f15 (by decide) (rs_eq)))) ?_
    refine tm_istore (L' := [(4, .int (iI ((σ.1 33) + 1))), (3, .int (iI v24)), (2, .int (iI (σ.1 33))), (1, .int (iI (σ.1 31))), (0, .ref b)]) dX12_whileStatement_55 (by decide) rfl ?_
    refine tm_aload_n dX12_whileStatement_57 rfl 4 rfl ?_
    refine tm_dup dX12_whileStatement_58 rfl ?_
    refine tm_getS (k := 33) (t := (σ.1 33) + 1) dX12_whileStatement_59 (by decide) fl12_370 rfl (rs_F f36 (by decide) (rs_F f25 (by decide) (rs_F f15 (by decide) (rs_eq)))) ?_
    refine tm_iconst dX12_whileStatement_62 ?_
    refine tm_iadd dX12_whileStatement_63 ?_
    refine tm_putS (k := 33) (v := ((σ.1 33) + 1) + 1) lay_12 dX12_whileStatement_64 (by decide) fl12_370 rfl (tyX12_ok 33 (by decide)) rfl rfl rfl ?_
    refine tm_aload_n dX12_whileStatement_67 rfl 4 rfl ?_
    refine tm_bipush dX12_whileStatement_68 (by decide) ?_
    refine tm_iload dX12_whileStatement_70 0 rfl ?_
    refine tm_iconst dX12_whileStatement_72 ?_
    refine tm_callV (M := m_X12_whileStatement) (pc := 73) (ix := 294) (M' := m_X12_put) (As := [.int (iI 9), .int (iI ((σ.1 33) + 1)), .int (iI 0)]) (rest := []) dX12_whileStatement_73 ok_X12_put im_X12_put se_X12_put ml12_294 np_X12_put rfl rfl (Nat.le_of_ble_eq_true rfl) (Nat.le_of_ble_eq_true rfl) rfl (c_X12_put (d + 3 * lv + 42) (σ := (sS 33 (((σ.1 33) + 1) + 1) σ33)) (k := 9) (e := (σ.1 33) + 1) (o := 0) (f37.S (by omega)) (by rw [show (sS 33 (((σ.1 33) + 1) + 1) σ33).1 30 = σ.1 30 from rs_o (by decide) (rs_F f36 (by decide) (rs_F f25 (by decide) (rs_F f15 (by decide) (rs_o (by decide) (rs_F f6 (by decide) (rfl)))))), show (sS 33 (((σ.1 33) + 1) + 1) σ33).1 34 = σ33.1 34 from rs_o (by decide) (rfl)]; omega) (by omega) (by omega) (by omega)) (fun r43 σ44 hp => ?_)
    obtain ⟨v45, rfl, f46, f47, f48, f49, f50, f51, f52⟩ := hp
    show Tm _ _ 76 b σ44 [(4, .int (iI ((σ.1 33) + 1))), (3, .int (iI v24)), (2, .int (iI (σ.1 33))), (1, .int (iI (σ.1 31))), (0, .ref b)] [.int (iI v45)] _
    have jvZ := f48
    have jnZ := f49
    have jiZ := f50
    have joZ := f51
    have jrZ := f52
    refine tm_istore_n (L' := [(3, .int (iI v45)), (4, .int (iI ((σ.1 33) + 1))), (2, .int (iI (σ.1 33))), (1, .int (iI (σ.1 31))), (0, .ref b)]) dX12_whileStatement_76 rfl (by decide) rfl ?_
    refine tm_aload_n dX12_whileStatement_77 rfl 4 rfl ?_
    refine tm_iload_n dX12_whileStatement_78 rfl 0 rfl ?_
    refine tm_iconst dX12_whileStatement_79 ?_
    refine tm_aload_n dX12_whileStatement_80 rfl 4 rfl ?_
    refine tm_getS (k := 39) (t := σ33.1 39) dX12_whileStatement_81 (by decide) fl12_285 rfl (rs_F f46 (by decide) (rs_o (by decide) (rfl))) ?_
    have g53 := RG.s f37 39
    refine tm_aload_n dX12_whileStatement_84 rfl 4 rfl ?_
    refine tm_getS (k := 40) (t := σ33.1 40) dX12_whileStatement_85 (by decide) fl12_288 rfl (rs_F f46 (by decide) (rs_o (by decide) (rfl))) ?_
    have g54 := RG.s f37 40
    refine tm_callV (M := m_X12_whileStatement) (pc := 88) (ix := 298) (M' := m_X12_setArg) (As := [.int (iI v45), .int (iI 0), .int (iI (σ33.1 39)), .int (iI (σ33.1 40))]) (rest := []) dX12_whileStatement_88 ok_X12_setArg im_X12_setArg se_X12_setArg ml12_298 np_X12_setArg rfl rfl (Nat.le_of_ble_eq_true rfl) (Nat.le_of_ble_eq_true rfl) rfl (c_X12_setArg (d + 3 * lv + 43) (σ := σ44) (x := v45) (i := 0) (k := σ33.1 39) (w := σ33.1 40) (by omega)) (fun r55 σ56 hp => ?_)
    obtain ⟨rfl, f58⟩ := hp
    subst f58
    show Tm _ _ 91 b (fArg (v45) (0) (σ33.1 39) (σ33.1 40) σ44) [(3, .int (iI v45)), (4, .int (iI ((σ.1 33) + 1))), (2, .int (iI (σ.1 33))), (1, .int (iI (σ.1 31))), (0, .ref b)] [] _
    have jvZ : _ = PXx σ33 := jvZ
    have fAZ := (show Fr [33, 34] [3, 4, 5, 6, 7, 8] [] σ33 (fArg (v45) (0) (σ33.1 39) (σ33.1 40) σ44) from (((Fr.rfl.S (by decide)).trans (Fr.sub f46 (by decide) (by decide) (by decide))).trans (Fr.sub fArg_fr (by decide) (by decide) (by decide))))
    have eAZ : (fArg (v45) (0) (σ33.1 39) (σ33.1 40) σ44).1 34 = σ33.1 34 + 1 := jnZ
    have pbZ : PBF σ33 (fArg (v45) (0) (σ33.1 39) (σ33.1 40) σ44) := PBF.it ts3.nn fAZ (by decide) (by decide) (by decide) eAZ jvZ (joZ.trans (OFF.arg (by decide) (by decide)))
    have tbZ : TBm σ33 (fArg (v45) (0) (σ33.1 39) (σ33.1 40) σ44) := TBm.of fAZ (by decide) (by decide) (by decide) (by decide)
    have e33Z : (fArg (v45) (0) (σ33.1 39) (σ33.1 40) σ44).1 33 = σ33.1 33 + 1 := by rw [show (fArg (v45) (0) (σ33.1 39) (σ33.1 40) σ44).1 33 = ((σ.1 33) + 1) + 1 from rs_F fArg_fr (by decide) (rs_F f46 (by decide) (rs_eq)), e33s]
    have ts4 := ts3.puts (m := 1) fAZ pbZ eAZ (by omega) (by decide) hln.1 (g51 (CHG.put fAZ (by decide) (by decide) (by decide) eAZ))
    have izZ : (fArg (v45) (0) (σ33.1 39) (σ33.1 40) σ44).2.1 3 (PXx σ33) = 9 ∧ (fArg (v45) (0) (σ33.1 39) (σ33.1 40) σ44).2.1 4 (PXx σ33) = σ33.1 33 := by rw [← jvZ]; exact ⟨jiZ.1, jiZ.2.1.trans e33s.symm⟩
    have okZ : σ33.1 25 = 3 → σ33.1 30 < 6 → σ33.1 34 < 180 → OKI (fArg (v45) (0) (σ33.1 39) (σ33.1 40) σ44) 1 (PXx σ33) := (fun z1 z2 z3 => by rw [← jvZ]; exact oki_arg1 jiZ (Or.inr (Or.inr (Or.inr rfl))) (fun q => absurd q (by decide)) (fun _ => by omega) (by omega))
    have rdz := ts4.2.2.1.2
    have tkz := ts4.2.2.1.1.1
    have e28Z : (fArg (v45) (0) (σ33.1 39) (σ33.1 40) σ44).1 28 = 0 := (f46.1 28 (by decide)).trans (xp6.trans e282)
    have e29Z : (fArg (v45) (0) (σ33.1 39) (σ33.1 40) σ44).1 29 = σ.1 29 := rs_F fArg_fr (by decide) (rs_F f46 (by decide) (rs_o (by decide) (rs_F f36 (by decide) (rs_F f25 (by decide) (rs_F f15 (by decide) (rs_o (by decide) (rs_F f6 (by decide) (rfl))))))))
    have e43Z : (fArg (v45) (0) (σ33.1 39) (σ33.1 40) σ44).1 43 = σ.1 43 := rs_F fArg_fr (by decide) (rs_F f46 (by decide) (rs_o (by decide) (rs_F f36 (by decide) (rs_F f25 (by decide) (rs_F f15 (by decide) (rs_o (by decide) (rs_F f6 (by decide) (rfl))))))))
    refine tm_aload_n dX12_whileStatement_91 rfl 4 rfl ?_
    refine tm_callV (M := m_X12_whileStatement) (pc := 92) (ix := 373) (M' := m_X12_block) (As := []) (rest := []) dX12_whileStatement_92 ok_X12_block im_X12_block se_X12_block ml12_373 np_X12_block rfl rfl (Nat.le_of_ble_eq_true rfl) (Nat.le_of_ble_eq_true rfl) rfl (hcb (d) (σ := (fArg (v45) (0) (σ33.1 39) (σ33.1 40) σ44))  ((f47).arg (by omega) (by omega)) ts4.2.2.1 ts4.nn e28Z (e29Z.trans h29) (by rw [e43Z]; exact ht)) (fun r59 σ60 hp => ?_)
    obtain ⟨v61, rfl, f62, f63, f64, f65, f66, f67⟩ := hp
    show Tm _ _ 95 b σ60 [(3, .int (iI v45)), (4, .int (iI ((σ.1 33) + 1))), (2, .int (iI (σ.1 33))), (1, .int (iI (σ.1 31))), (0, .ref b)] [.int (iI v61)] _
    have bp0 := f62
    have bp1 := f63
    have bp2 := f64
    have bp3 := f65
    have bp4 := f66
    have bp5 := f67
    refine tm_if_ne (tgt := 100) dX12_whileStatement_95 (by decide) ⟨by omega, by omega⟩ (fun h68 => ?_) (fun h68 => ?_)
    · obtain ⟨lg1, bt, bs, bf, b28, b29⟩ := bp4 (by omega)
      have ts5 := ts4.sub bt
      have tk5 := ts5.2.2.1.1.1
      have rd5 := ts5.2.2.1.2
      have e285 : σ60.1 28 = 0 := b28.trans e28Z
      have e295 : σ60.1 29 = σ.1 29 := b29.trans e29Z
      refine tm_aload_n dX12_whileStatement_100 rfl 4 rfl ?_
      refine tm_bipush dX12_whileStatement_101 (by decide) ?_
      refine tm_iload_n dX12_whileStatement_103 rfl 2 rfl ?_
      refine tm_iconst dX12_whileStatement_104 ?_
      refine tm_callV (M := m_X12_whileStatement) (pc := 105) (ix := 294) (M' := m_X12_put) (As := [.int (iI 8), .int (iI (σ.1 33)), .int (iI 0)]) (rest := []) dX12_whileStatement_105 ok_X12_put im_X12_put se_X12_put ml12_294 np_X12_put rfl rfl (Nat.le_of_ble_eq_true rfl) (Nat.le_of_ble_eq_true rfl) rfl (c_X12_put (d + 3 * lv + 42) (σ := σ60) (k := 8) (e := σ.1 33) (o := 0) f64 (by rw [show σ60.1 30 = σ.1 30 from rs_F f63 (by decide) (rs_F fArg_fr (by decide) (rs_F f46 (by decide) (rs_o (by decide) (rs_F f36 (by decide) (rs_F f25 (by decide) (rs_F f15 (by decide) (rs_o (by decide) (rs_F f6 (by decide) (rfl))))))))), show σ60.1 34 = σ60.1 34 from rfl]; omega) (by omega) (by omega) (by omega)) (fun r69 σ70 hp => ?_)
      obtain ⟨v71, rfl, f72, f73, f74, f75, f76, f77, f78⟩ := hp
      show Tm _ _ 108 b σ70 [(3, .int (iI v45)), (4, .int (iI ((σ.1 33) + 1))), (2, .int (iI (σ.1 33))), (1, .int (iI (σ.1 31))), (0, .ref b)] [.int (iI v71)] _
      have jvM := f74
      have jnM := f75
      have jiM := f76
      have joM := f77
      have jrM := f78
      refine tm_istore_n (L' := [(3, .int (iI v71)), (4, .int (iI ((σ.1 33) + 1))), (2, .int (iI (σ.1 33))), (1, .int (iI (σ.1 31))), (0, .ref b)]) dX12_whileStatement_108 rfl (by decide) rfl ?_
      have jvM : _ = PXx σ60 := jvM
      have fAM := (show Fr [33, 34] [3, 4, 5, 6, 7, 8] [] σ60 σ70 from (Fr.rfl.trans (Fr.sub f72 (by decide) (by decide) (by decide))))
      have eAM : σ70.1 34 = σ60.1 34 + 1 := jnM
      have pbM : PBF σ60 σ70 := PBF.it ts5.nn fAM (by decide) (by decide) (by decide) eAM jvM joM
      have tbM : TBm σ60 σ70 := TBm.of fAM (by decide) (by decide) (by decide) (by decide)
      have e33M : σ70.1 33 = σ60.1 33 := rs_F f72 (by decide) (rfl)
      refine tm_aload_n dX12_whileStatement_109 rfl 4 rfl ?_
      refine tm_bipush dX12_whileStatement_110 (by decide) ?_
      refine tm_iload dX12_whileStatement_112 1 rfl ?_
      refine tm_iconst dX12_whileStatement_114 ?_
      refine tm_callV (M := m_X12_whileStatement) (pc := 115) (ix := 294) (M' := m_X12_put) (As := [.int (iI 13), .int (iI ((σ.1 33) + 1)), .int (iI 0)]) (rest := []) dX12_whileStatement_115 ok_X12_put im_X12_put se_X12_put ml12_294 np_X12_put rfl rfl (Nat.le_of_ble_eq_true rfl) (Nat.le_of_ble_eq_true rfl) rfl (c_X12_put (d + 3 * lv + 42) (σ := σ70) (k := 13) (e := (σ.1 33) + 1) (o := 0) f73 (by rw [show σ70.1 30 = σ.1 30 from rs_F f72 (by decide) (rs_F f63 (by decide) (rs_F fArg_fr (by decide) (rs_F f46 (by decide) (rs_o (by decide) (rs_F f36 (by decide) (rs_F f25 (by decide) (rs_F f15 (by decide) (rs_o (by decide) (rs_F f6 (by decide) (rfl)))))))))), show σ70.1 34 = σ70.1 34 from rfl]; omega) (by omega) (by omega) (by omega)) (fun r79 σ80 hp => ?_)
      obtain ⟨v81, rfl, f82, f83, f84, f85, f86, f87, f88⟩ := hp
      show Tm _ _ 118 b σ80 [(3, .int (iI v71)), (4, .int (iI ((σ.1 33) + 1))), (2, .int (iI (σ.1 33))), (1, .int (iI (σ.1 31))), (0, .ref b)] [.int (iI v81)] _
      have jvN := f84
      have jnN := f85
      have jiN := f86
      have joN := f87
      have jrN := f88
      refine tm_istore_n (L' := [(3, .int (iI v81)), (4, .int (iI ((σ.1 33) + 1))), (2, .int (iI (σ.1 33))), (1, .int (iI (σ.1 31))), (0, .ref b)]) dX12_whileStatement_118 rfl (by decide) rfl ?_
      have pbN : PBF σ70 σ80 := PBF.it pbM.2.2.1 f82 (by decide) (by decide) (by decide) jnN jvN joN
      have tbN : TBm σ70 σ80 := TBm.of f82 (by decide) (by decide) (by decide) (by decide)
      have fDN := (show Fr [33, 34] [3, 4, 5, 6, 7, 8] [] σ60 σ80 from ((Fr.rfl.trans (Fr.sub f72 (by decide) (by decide) (by decide))).trans (Fr.sub f82 (by decide) (by decide) (by decide))))
      have eDN : σ80.1 34 = σ60.1 34 + 2 := by rw [jnN, eAM]; omega
      have e33N : σ80.1 33 = σ70.1 33 := f82.1 33 (by decide)
      have ts6 := ts5.puts (m := 2) fDN (pbM.trans pbN) eDN (by omega) (by decide) hln.1 (g52 (CHG.put fDN (by decide) (by decide) (by decide) eDN))
      have itN : σ60.1 25 = 3 → σ60.1 30 < 6 → σ60.1 34 + 1 < 180 → ((σ80.2.1 3 (220 * σ60.1 30 + σ60.1 34) = 8 ∧ σ80.2.1 4 (220 * σ60.1 30 + σ60.1 34) = σ.1 33) ∧ σ80.2.1 3 (220 * σ60.1 30 + (σ60.1 34 + 1)) = 13 ∧ σ80.2.1 4 (220 * σ60.1 30 + (σ60.1 34 + 1)) = (σ.1 33) + 1) ∧ OKI σ80 1 (220 * σ60.1 30 + σ60.1 34) ∧ OKI σ80 1 (220 * σ60.1 30 + (σ60.1 34 + 1)) := fun z1 z2 z3 => by
        have x1 : PXx σ60 = 220 * σ60.1 30 + σ60.1 34 := by unfold PXx; rw [if_pos (by omega)]
        have m30 : σ70.1 30 = σ60.1 30 := pbM.2.2.2.2.2.2.2
        have m25 : σ70.1 25 = σ60.1 25 := pbM.2.2.2.2.2.2.1
        have x2 : PXx σ70 = 220 * σ60.1 30 + (σ60.1 34 + 1) := by unfold PXx; rw [if_pos (by omega), m30, eAM]
        have ie := pbN.1 (220 * σ60.1 30 + σ60.1 34) (by omega) (by omega)
        have o1 := oki_bare jiM (by decide) (fun _ => by omega)
        have o2 := oki_bare jiN (by decide) (fun _ => by omega)
        have a1 := jiM
        have a2 := jiN
        rw [jvM, x1] at o1 a1
        rw [jvN, x2] at o2 a2
        exact ⟨⟨⟨ie.1.trans a1.1, ie.2.1.trans a1.2.1⟩, a2.1, a2.2.1⟩, ie.oki tbN.2.1 o1, o2⟩
      have i33 := ad1.1 33 (by decide)
      have sg5 : SGF σ3 σ80 lg1 := SGF.whl ⟨eDK, by rw [e33K, e33J, i33]⟩ (fun z1 z2 z3 => by have q := itK z1 z2 z3; rw [← i33] at q; exact ⟨⟨q.1.1, q.1.2.1⟩, q.2⟩) (pbJ.trans pbK) acx xp3 e33x ⟨eAZ, e33Z⟩ (fun z1 z2 z3 => by have x1 : PXx σ33 = 220 * σ33.1 30 + σ33.1 34 := (by unfold PXx; rw [if_pos (by omega)]); rw [← x1]; exact ⟨izZ, okZ z1 z2 z3⟩) pbZ bs bp3 ⟨eDN, by rw [e33N, e33M]⟩ (fun z1 z2 z3 => by have q := itN z1 z2 z3; rw [← i33] at q; exact q) (pbM.trans pbN) (tbJ.trans tbK) tbx tbZ bt.2.2.2.1 (tbM.trans tbN) ts1.h1
      have pqA : PBF σ23 σ80 := xp3.trans (pbZ.trans (bp3.trans (pbM.trans pbN)))
      have pqB : PBF σ3 σ80 := (pbJ.trans pbK).trans pqA
      have tbB : TBm σ3 σ80 := (tbJ.trans tbK).trans (tbx.trans (tbZ.trans (bt.2.2.2.1.trans (tbM.trans tbN))))
      have e341 : σ3.1 34 = ρ.1 34 := (ad1.1 34 (by decide)).trans (by have z := e34_.1; omega)
      have sg6 := (SGF.nil e341 (by rw [i33]; omega) : SGF ρ σ3 []).cat sg5 ts1.1 pqB ts1.2.2.2.1 tbB h0c
      have fs6 : FS ρ σ80 := (FS.nil e341 : FS ρ σ3).cat (fun z1 z2 z3 => by
          have m6 := pqA.2.2.2.2.2.1
          have q := itK z1 z2 (by omega)
          have m30 : σ23.1 30 = σ3.1 30 := (pbJ.trans pbK).2.2.2.2.2.2.2
          have m34 : σ23.1 34 = σ3.1 34 + 2 := eDK
          have h1_ := ts1.h1
          exact Or.inr (Or.inr ⟨⟨(pqA.1 _ (by omega) (by omega)).1.trans q.1.1.1, (pqA.1 _ (by omega) (by omega)).1.trans q.1.2.1⟩, by omega⟩)) ts1.1 pqB h0c
      refine tm_iconst dX12_whileStatement_119 ?_
      exact tm_zret (v := 1) rfl (by decide) dX12_whileStatement_120 (⟨_, rfl, by omega, (((((((((((Fr.rfl.trans (Fr.sub f6 (by decide) (by decide) (by decide))).S (by decide)).trans (Fr.sub f15 (by decide) (by decide) (by decide))).trans (Fr.sub f25 (by decide) (by decide) (by decide))).trans (Fr.sub f36 (by decide) (by decide) (by decide))).S (by decide)).trans (Fr.sub f46 (by decide) (by decide) (by decide))).trans (Fr.sub fArg_fr (by decide) (by decide) (by decide))).trans (Fr.sub f63 (by decide) (by decide) (by decide))).trans (Fr.sub f72 (by decide) (by decide) (by decide))).trans (Fr.sub f82 (by decide) (by decide) (by decide))), f83, ts6.1, fun _ => ⟨_, ts6.le (by decide), sg6, fs6, (((show Fr [33, 34] [3, 4, 5, 6, 7, 8] [] σ60 σ80 from ((Fr.rfl.trans (Fr.sub f72 (by decide) (by decide) (by decide))).trans (Fr.sub f82 (by decide) (by decide) (by decide)))).1 28 (by decide)).trans e285).trans e28r.symm, (((show Fr [33, 34] [3, 4, 5, 6, 7, 8] [] σ60 σ80 from ((Fr.rfl.trans (Fr.sub f72 (by decide) (by decide) (by decide))).trans (Fr.sub f82 (by decide) (by decide) (by decide)))).1 29 (by decide)).trans e295).trans e29r⟩, fun q => absurd q (by decide)⟩)
    · refine tm_iconst dX12_whileStatement_98 ?_
      exact tm_zret (v := 0) rfl (by decide) dX12_whileStatement_99 (⟨_, rfl, by omega, (((((((((Fr.rfl.trans (Fr.sub f6 (by decide) (by decide) (by decide))).S (by decide)).trans (Fr.sub f15 (by decide) (by decide) (by decide))).trans (Fr.sub f25 (by decide) (by decide) (by decide))).trans (Fr.sub f36 (by decide) (by decide) (by decide))).S (by decide)).trans (Fr.sub f46 (by decide) (by decide) (by decide))).trans (Fr.sub fArg_fr (by decide) (by decide) (by decide))).trans (Fr.sub f63 (by decide) (by decide) (by decide))), f64, (ts4.fail bp3 (bp5 (by omega) _)).1, fun q => absurd q (by omega), fun _ => (ts4.fail bp3 (bp5 (by omega) _)).2⟩)
  · refine tm_iconst dX12_whileStatement_49 ?_
    exact tm_zret (v := 0) rfl (by decide) dX12_whileStatement_50 (⟨_, rfl, by omega, (((((Fr.rfl.trans (Fr.sub f6 (by decide) (by decide) (by decide))).S (by decide)).trans (Fr.sub f15 (by decide) (by decide) (by decide))).trans (Fr.sub f25 (by decide) (by decide) (by decide))).trans (Fr.sub f36 (by decide) (by decide) (by decide))), f37, (ts2.fail xp3 (xp5.2 (by omega) _)).1, fun q => absurd q (by omega), fun _ => (ts2.fail xp3 (xp5.2 (by omega) _)).2⟩)
end
section
theorem LNP.vw0 {ρ σ : MS} (h : LNP 0 ρ σ) : vw σ = vw ρ := by
  obtain ⟨-, -, f, -, e, -⟩ := h
  have e34 : σ.1 34 = ρ.1 34 := by omega
  unfold vw tks xs
  rw [sv_fr f (by decide) (by decide), f.1 19 (by decide), f.1 20 (by decide), f.1 22 (by decide), f.1 23 (by decide), f.1 28 (by decide), f.1 29 (by decide), e34, f.2.2 24 (by decide)]
theorem LNP.px {ρ σ : MS} (h : LNP 0 ρ σ) : PXx σ = PXx ρ := by
  obtain ⟨-, -, f, -, e, -⟩ := h
  have e34 : σ.1 34 = ρ.1 34 := by omega
  unfold PXx
  rw [f.1 25 (by decide), f.1 30 (by decide), e34]
theorem LNP.line {ρ σ τ : MS} (h : LNP 0 ρ σ) (f : Fr [34] [3, 4, 5, 6, 7, 8] [] σ τ) (e : τ.1 34 = σ.1 34 + 1) (pb : PBF σ τ) : LNP 1 ρ τ := by
  obtain ⟨h1, h2, h3, h4, h5, h6, h7⟩ := h
  refine ⟨h1, h2, h3.trans (Fr.sub f (by decide) (by decide) (by decide)), h4.trans pb, ⟨by omega, ?_⟩, h6, (srt_fr f (by decide) (by decide) (by decide)).trans h7⟩
  rw [f.1 31 (by decide)]
  exact h5.2
theorem LNP.sam {ρ σ : MS} (h : LNP 0 ρ σ) : SAM ρ σ := by
  have e := h.vw0
  unfold vw at e
  exact ⟨congrArg Prod.fst e, congrArg (fun z => z.2.1) e, congrArg (fun z => z.2.2) e⟩
theorem LNP.eff {j : Int} {ρ σ : MS} (h : LNP j ρ σ) : EFF [(5, ρ.1 19, 0, 0)] ρ σ := EFF.line h.2.2.2.2.2.2
theorem LNP.lin {ρ σ τ : MS} {k : Nat} (_ : LNP 0 ρ σ) (f : Fr [34] [3, 4, 5, 6, 7, 8] [] σ τ) (e : τ.1 34 = σ.1 34 + 1) (g : ∀ c : Int, GOS [20] ρ (qq c) [51, k] σ (qq c) []) : ∀ c : Int, GOS [20] ρ (qq c) [k] τ (qq c) [] := fun c => (g c).then ((g51 (CHG.put f (by decide) (by decide) (by decide) e) : GOS [51] σ (qq c) [] τ (qq c) []).more [k])
end
section
theorem dX12_statement_194 : decode cX12_statement 194 = .ok (.aload_n 0, 1) := by decide +kernel
theorem dX12_statement_195 : decode cX12_statement 195 = .ok (.invokevirtual 265, 3) := by decide +kernel
theorem dX12_statement_198 : decode cX12_statement 198 = .ok (.aload_n 0, 1) := by decide +kernel
theorem dX12_statement_199 : decode cX12_statement 199 = .ok (.invokevirtual 327, 3) := by decide +kernel
theorem dX12_statement_202 : decode cX12_statement 202 = .ok (.ifCond .ne 5, 3) := by decide +kernel
theorem dX12_statement_207 : decode cX12_statement 207 = .ok (.aload_n 0, 1) := by decide +kernel
theorem dX12_statement_208 : decode cX12_statement 208 = .ok (.iload_n 3, 1) := by decide +kernel
theorem dX12_statement_209 : decode cX12_statement 209 = .ok (.iconst 0, 1) := by decide +kernel
theorem dX12_statement_210 : decode cX12_statement 210 = .ok (.iconst 0, 1) := by decide +kernel
theorem dX12_statement_211 : decode cX12_statement 211 = .ok (.invokevirtual 294, 3) := by decide +kernel
theorem dX12_statement_214 : decode cX12_statement 214 = .ok (.istore_n 2, 1) := by decide +kernel
theorem dX12_statement_215 : decode cX12_statement 215 = .ok (.aload_n 0, 1) := by decide +kernel
theorem dX12_statement_216 : decode cX12_statement 216 = .ok (.iload_n 2, 1) := by decide +kernel
theorem dX12_statement_217 : decode cX12_statement 217 = .ok (.iconst 0, 1) := by decide +kernel
theorem dX12_statement_218 : decode cX12_statement 218 = .ok (.aload_n 0, 1) := by decide +kernel
theorem dX12_statement_219 : decode cX12_statement 219 = .ok (.getfield 285, 3) := by decide +kernel
theorem dX12_statement_222 : decode cX12_statement 222 = .ok (.aload_n 0, 1) := by decide +kernel
theorem dX12_statement_223 : decode cX12_statement 223 = .ok (.getfield 288, 3) := by decide +kernel
theorem dX12_statement_226 : decode cX12_statement 226 = .ok (.invokevirtual 298, 3) := by decide +kernel
theorem dX12_statement_229 : decode cX12_statement 229 = .ok (.aload_n 0, 1) := by decide +kernel
theorem dX12_statement_230 : decode cX12_statement 230 = .ok (.bipush 59, 2) := by decide +kernel
theorem dX12_statement_232 : decode cX12_statement 232 = .ok (.invokevirtual 330, 3) := by decide +kernel
theorem dX12_statement_235 : decode cX12_statement 235 = .ok (.ireturn, 1) := by decide +kernel
theorem dX12_statement_205 : decode cX12_statement 205 = .ok (.iconst 0, 1) := by decide +kernel
theorem dX12_statement_206 : decode cX12_statement 206 = .ok (.ireturn, 1) := by decide +kernel
set_option maxHeartbeats 4000000 in
set_option maxRecDepth 20000 in
theorem b_stm194 (d : Nat) {b : Nat} {σ : MS} {k3 : Int} {ρ : MS} {post : Option Value → MS → Prop} (hR : RG σ) (hln : LNP 1 ρ σ) (hli : LIT ρ σ) (hg : ∀ c : Int, GOS [20] ρ (qq c) [39] σ (qq c) []) (h28 : σ.1 28 = 0) (hk67 : k3 = 6 ∨ k3 = 7) (hret : ∀ (v : Int) (τ : MS), Fr [19, 20, 22, 23, 26, 27, 28, 29, 31, 32, 33, 34, 39, 40] [3, 4, 5, 6, 7, 8, 35, 37, 41, 42] [24, 38] σ τ → RG τ → (v = 0 ∨ v = 1) → PBF ρ τ → (v = 1 → BLQ 20 2 ρ τ) → (v = 0 → ∀ c : Int, GOF [20] ρ (qq c) τ) → post (some (.int (iI v))) τ) : ∀ (n : Nat) , ((0 : Int)).toNat = n → Tm (d + 41) m_X12_statement 194 b σ [(3, .int (iI k3)), (0, .ref b)] [] post := by
  intro n
  induction n using Nat.strongRecOn with
  | _ n ih =>
    intro   hm
    have tk0 := hln.tok.1
    have rd0 := hln.1.2
    have f0 := hln.2.2.1
    have e30_ := f0.1 30 (by decide)
    have e34_ := hln.2.2.2.2.1
    have nn0 : NN σ := hln.2.2.2.1.2.2.1
    have h0c := hln.h0
    have e28r : ρ.1 28 = 0 := (f0.1 28 (by decide)).symm.trans h28
    have e29r := f0.1 29 (by decide)
    have e33r := f0.1 33 (by decide)
    refine tm_aload_n dX12_statement_194 rfl 1 rfl ?_
    refine tm_callV (M := m_X12_statement) (pc := 195) (ix := 265) (M' := m_X12_advance) (As := []) (rest := []) dX12_statement_195 ok_X12_advance im_X12_advance se_X12_advance ml12_265 np_X12_advance rfl rfl (Nat.le_of_ble_eq_true rfl) (Nat.le_of_ble_eq_true rfl) rfl (c_X12_advance (d + 35) (σ := σ)  hR (by omega)) (fun r1 σ2 hp => ?_)
    obtain ⟨rfl, f4, f5, f6, f7, f8⟩ := hp
    show Tm _ _ 198 b σ2 [(3, .int (iI k3)), (0, .ref b)] [] _
    have ad0 := f4
    have ad1 := f5
    have ad2 := f6
    have ad3 := f7
    have ad4 := f8
    have fA1 := (show Fr [19, 20, 22, 23, 26, 27] [35] [24, 38] σ σ2 from (Fr.rfl.trans (Fr.sub f5 (by decide) (by decide) (by decide))))
    have pb1 : PBF σ σ2 := PBF.nop nn0 ad1 (by decide) (by decide) (by decide)
    have ts1 : TS 20 (2 - 1) ρ [2, 51, 159] σ2 qq [] := TS.line hln (by decide) fA1 pb1 ad3 ad4 ((hg _).then (g39 ad0))
    have tk1 := ad3.1
    have e281 : σ2.1 28 = 0 := (ad1.1 28 (by decide)).trans h28
    refine tm_aload_n dX12_statement_198 rfl 1 rfl ?_
    refine tm_callV (M := m_X12_statement) (pc := 199) (ix := 327) (M' := m_X12_expression) (As := []) (rest := []) dX12_statement_199 ok_X12_expression im_X12_expression se_X12_expression ml12_327 np_X12_expression rfl rfl (Nat.le_of_ble_eq_true rfl) (Nat.le_of_ble_eq_true rfl) rfl (c_exp8 (d) (σ := σ2)  f6 ts1.2.2.1 ts1.nn e281) (fun r9 σ10 hp => ?_)
    obtain ⟨v11, rfl, f12, f13, f14, f15, f16, f17, f18⟩ := hp
    show Tm _ _ 202 b σ10 [(3, .int (iI k3)), (0, .ref b)] [.int (iI v11)] _
    have xp0 := f12
    have xp1 := f13
    have xp2 := f14
    have xp3 := f15
    have xp4 := f16
    have xp5 := f17
    have xp6 := f18
    refine tm_if_ne (tgt := 207) dX12_statement_202 (by decide) ⟨by omega, by omega⟩ (fun h19 => ?_) (fun h19 => ?_)
    · have ts2 := ts1.exp xp1 xp3 (xp4 (by omega)) (xp5.1 (by omega))
      have ex4 := xp4 (by omega)
      have gt := ex4.2.2.1
      unfold GTm at gt
      have rdx := ts2.2.2.1.2
      have tkx := ts2.2.2.1.1.1
      have acx := ex4.2.2.2.1
      have tbx := TBm.of xp1 (by decide) (by decide) (by decide) (by decide)
      have e33x := xp1.1 33 (by decide)
      have e33s : σ10.1 33 = σ.1 33 := rs_F f13 (by decide) (rs_F f5 (by decide) (rfl))
      refine tm_aload_n dX12_statement_207 rfl 1 rfl ?_
      refine tm_iload_n dX12_statement_208 rfl 0 rfl ?_
      refine tm_iconst dX12_statement_209 ?_
      refine tm_iconst dX12_statement_210 ?_
      refine tm_callV (M := m_X12_statement) (pc := 211) (ix := 294) (M' := m_X12_put) (As := [.int (iI k3), .int (iI 0), .int (iI 0)]) (rest := []) dX12_statement_211 ok_X12_put im_X12_put se_X12_put ml12_294 np_X12_put rfl rfl (Nat.le_of_ble_eq_true rfl) (Nat.le_of_ble_eq_true rfl) rfl (c_X12_put (d + 38) (σ := σ10) (k := k3) (e := 0) (o := 0) f14 (by rw [show σ10.1 30 = σ.1 30 from rs_F f13 (by decide) (rs_F f5 (by decide) (rfl)), show σ10.1 34 = σ10.1 34 from rfl]; omega) (by omega) (by omega) (by omega)) (fun r20 σ21 hp => ?_)
      obtain ⟨v22, rfl, f23, f24, f25, f26, f27, f28, f29⟩ := hp
      show Tm _ _ 214 b σ21 [(3, .int (iI k3)), (0, .ref b)] [.int (iI v22)] _
      have jvP := f25
      have jnP := f26
      have jiP := f27
      have joP := f28
      have jrP := f29
      refine tm_istore_n (L' := [(2, .int (iI v22)), (3, .int (iI k3)), (0, .ref b)]) dX12_statement_214 rfl (by decide) rfl ?_
      refine tm_aload_n dX12_statement_215 rfl 2 rfl ?_
      refine tm_iload_n dX12_statement_216 rfl 0 rfl ?_
      refine tm_iconst dX12_statement_217 ?_
      refine tm_aload_n dX12_statement_218 rfl 2 rfl ?_
      refine tm_getS (k := 39) (t := σ10.1 39) dX12_statement_219 (by decide) fl12_285 rfl (rs_F f23 (by decide) (rfl)) ?_
      have g30 := RG.s f14 39
      refine tm_aload_n dX12_statement_222 rfl 2 rfl ?_
      refine tm_getS (k := 40) (t := σ10.1 40) dX12_statement_223 (by decide) fl12_288 rfl (rs_F f23 (by decide) (rfl)) ?_
      have g31 := RG.s f14 40
      refine tm_callV (M := m_X12_statement) (pc := 226) (ix := 298) (M' := m_X12_setArg) (As := [.int (iI v22), .int (iI 0), .int (iI (σ10.1 39)), .int (iI (σ10.1 40))]) (rest := []) dX12_statement_226 ok_X12_setArg im_X12_setArg se_X12_setArg ml12_298 np_X12_setArg rfl rfl (Nat.le_of_ble_eq_true rfl) (Nat.le_of_ble_eq_true rfl) rfl (c_X12_setArg (d + 39) (σ := σ21) (x := v22) (i := 0) (k := σ10.1 39) (w := σ10.1 40) (by omega)) (fun r32 σ33 hp => ?_)
      obtain ⟨rfl, f35⟩ := hp
      subst f35
      show Tm _ _ 229 b (fArg (v22) (0) (σ10.1 39) (σ10.1 40) σ21) [(2, .int (iI v22)), (3, .int (iI k3)), (0, .ref b)] [] _
      have jvP : _ = PXx σ10 := jvP
      have fAP := (show Fr [33, 34] [3, 4, 5, 6, 7, 8] [] σ10 (fArg (v22) (0) (σ10.1 39) (σ10.1 40) σ21) from ((Fr.rfl.trans (Fr.sub f23 (by decide) (by decide) (by decide))).trans (Fr.sub fArg_fr (by decide) (by decide) (by decide))))
      have eAP : (fArg (v22) (0) (σ10.1 39) (σ10.1 40) σ21).1 34 = σ10.1 34 + 1 := jnP
      have pbP : PBF σ10 (fArg (v22) (0) (σ10.1 39) (σ10.1 40) σ21) := PBF.it ts2.nn fAP (by decide) (by decide) (by decide) eAP jvP (joP.trans (OFF.arg (by decide) (by decide)))
      have tbP : TBm σ10 (fArg (v22) (0) (σ10.1 39) (σ10.1 40) σ21) := TBm.of fAP (by decide) (by decide) (by decide) (by decide)
      have e33P : (fArg (v22) (0) (σ10.1 39) (σ10.1 40) σ21).1 33 = σ10.1 33 := f23.1 33 (by decide)
      have ts3 := ts2.puts (m := 1) fAP pbP eAP (by omega) (by decide) hln.1 (g51 (CHG.put fAP (by decide) (by decide) (by decide) eAP))
      have pq2 := pb1.trans xp3
      have ac2 : AC σ σ10 := (AC.nil (ad1.1 34 (by decide))).trans pb1 acx xp3 (by omega)
      have e331 := ad1.1 33 (by decide)
      have asP : ASF σ (fArg (v22) (0) (σ10.1 39) (σ10.1 40) σ21) [] := (ASF.num ac2 pq2 (by omega)).snoc pq2 pbP tbP eAP (fun z1 z2 z3 => by rw [← jvP]; exact oki_arg1 jiP (by omega) (fun q => by omega) (fun q => by omega) (by omega)) (by rw [← jvP]; have z := jiP.1; rcases hk67 with q | q; exact Or.inr (Or.inl (by rw [← q]; exact z)); exact Or.inr (Or.inr (Or.inl (by rw [← q]; exact z)))) (by omega)
      have pqP := pq2.trans pbP
      have tkP := ts3.2.2.1.1.1
      have e28P : (fArg (v22) (0) (σ10.1 39) (σ10.1 40) σ21).1 28 = 0 := (fAP.1 28 (by decide)).trans (xp6.trans e281)
      have tbS : TBm σ (fArg (v22) (0) (σ10.1 39) (σ10.1 40) σ21) := TBm.of (show Fr [19, 20, 22, 23, 26, 27, 28, 32, 34, 39, 40] [3, 4, 5, 6, 7, 8, 35] [24, 38] σ (fArg (v22) (0) (σ10.1 39) (σ10.1 40) σ21) from ((((Fr.rfl.trans (Fr.sub f5 (by decide) (by decide) (by decide))).trans (Fr.sub f13 (by decide) (by decide) (by decide))).trans (Fr.sub f23 (by decide) (by decide) (by decide))).trans (Fr.sub fArg_fr (by decide) (by decide) (by decide)))) (by decide) (by decide) (by decide) (by decide)
      refine tm_aload_n dX12_statement_229 rfl 2 rfl ?_
      refine tm_bipush dX12_statement_230 (by decide) ?_
      refine tm_callV (M := m_X12_statement) (pc := 232) (ix := 330) (M' := m_X12_need) (As := [.int (iI 59)]) (rest := []) dX12_statement_232 ok_X12_need im_X12_need se_X12_need ml12_330 np_X12_need rfl rfl (Nat.le_of_ble_eq_true rfl) (Nat.le_of_ble_eq_true rfl) rfl (c_X12_need (d + 34) (σ := (fArg (v22) (0) (σ10.1 39) (σ10.1 40) σ21)) (c := 59) ((f24).arg (by omega) (by omega)) (by omega) (by omega)) (fun r36 σ37 hp => ?_)
      obtain ⟨v38, rfl, f39, f40, f41, f42, f43, f44, f45⟩ := hp
      show Tm _ _ 235 b σ37 [(2, .int (iI v22)), (3, .int (iI k3)), (0, .ref b)] [.int (iI v38)] _
      have zn0 := f39
      have zn1 := f40
      have zn2 := f41
      have zn3 := f42
      have zn4 := f43
      have zn5 := f44
      have zn6 := f45
      have pbN : PBF _ σ37 := PBF.of ts3.nn zn1 (by decide) (by decide) (by decide) zn5
      have pqN := pqP.trans pbN
      have e33N := zn1.1 33 (by decide)
      have e29N : σ37.1 29 = σ.1 29 := rs_F f40 (by decide) (rs_F fArg_fr (by decide) (rs_F f23 (by decide) (rs_F f13 (by decide) (rs_F f5 (by decide) (rfl)))))
      exact tm_zret (v := v38) rfl (by omega) dX12_statement_235 (hret _ _ (((((Fr.rfl.trans (Fr.sub f5 (by decide) (by decide) (by decide))).trans (Fr.sub f13 (by decide) (by decide) (by decide))).trans (Fr.sub f23 (by decide) (by decide) (by decide))).trans (Fr.sub fArg_fr (by decide) (by decide) (by decide))).trans (Fr.sub f40 (by decide) (by decide) (by decide))) f41 zn0 (ts3.1.trans pbN) (fun z => have znq := zn3 z; ⟨[], (ts3.needy zn1 znq.2.2.1 znq.2.2.2.1 znq.2.2.2.2 (by have z := znq.1.1; omega) (gn_59 znq.1 znq.2.1)).le (by decide), SGF.line e34_.1 hli hln.2.2.2.1 pqN hln.tb (tbS.trans (TBm.of zn1 (by decide) (by decide) (by decide) (by decide))) (by omega) (asP.mv pqP pbN (TBm.of zn1 (by decide) (by decide) (by decide) (by decide)) (zn1.1 34 (by decide)) (by omega)) h0c, FS.of hli e34_.1 hln.2.2.2.1 pqN h0c, ((zn1.1 28 (by decide)).trans e28P).trans e28r.symm, e29N.trans e29r⟩) (fun z => (ts3.fail pbN (gf_59 (zn4 z) (zn6 z))).2))
    · refine tm_iconst dX12_statement_205 ?_
      exact tm_zret (v := 0) rfl (by decide) dX12_statement_206 (hret _ _ ((Fr.rfl.trans (Fr.sub f5 (by decide) (by decide) (by decide))).trans (Fr.sub f13 (by decide) (by decide) (by decide))) f14 (by omega) (ts1.fail xp3 (xp5.2 (by omega) _)).1 (fun q => absurd q (by omega)) (fun _ => (ts1.fail xp3 (xp5.2 (by omega) _)).2))
theorem ml12_352 : Cond.methodLink RX12 352 yX12_assignment ∈ pWW := pw9 (List.mem_of_getElem? (i := 9) rfl) rfl
theorem ml12_349 : Cond.methodLink RX12 349 yX12_ifStatement ∈ pWW := pw9 (List.mem_of_getElem? (i := 5) rfl) rfl
theorem ml12_346 : Cond.methodLink RX12 346 yX12_whileStatement ∈ pWW := pw8 (List.mem_of_getElem? (i := 201) rfl) rfl
theorem dX12_statement_114 : decode cX12_statement 114 = .ok (.aload_n 0, 1) := by decide +kernel
theorem dX12_statement_115 : decode cX12_statement 115 = .ok (.ldc2_w 250, 3) := by decide +kernel
theorem dX12_statement_118 : decode cX12_statement 118 = .ok (.invokevirtual 339, 3) := by decide +kernel
theorem dX12_statement_121 : decode cX12_statement 121 = .ok (.ifCond .eq 8, 3) := by decide +kernel
theorem dX12_statement_129 : decode cX12_statement 129 = .ok (.aload_n 0, 1) := by decide +kernel
theorem dX12_statement_130 : decode cX12_statement 130 = .ok (.bipush 11, 2) := by decide +kernel
theorem dX12_statement_132 : decode cX12_statement 132 = .ok (.aload_n 0, 1) := by decide +kernel
theorem dX12_statement_133 : decode cX12_statement 133 = .ok (.getfield 343, 3) := by decide +kernel
theorem dX12_statement_136 : decode cX12_statement 136 = .ok (.iconst 0, 1) := by decide +kernel
theorem dX12_statement_137 : decode cX12_statement 137 = .ok (.invokevirtual 294, 3) := by decide +kernel
theorem dX12_statement_140 : decode cX12_statement 140 = .ok (.istore_n 2, 1) := by decide +kernel
theorem dX12_statement_141 : decode cX12_statement 141 = .ok (.aload_n 0, 1) := by decide +kernel
theorem dX12_statement_142 : decode cX12_statement 142 = .ok (.ldc2_w 246, 3) := by decide +kernel
theorem dX12_statement_145 : decode cX12_statement 145 = .ok (.invokevirtual 339, 3) := by decide +kernel
theorem dX12_statement_148 : decode cX12_statement 148 = .ok (.ifCond .eq 8, 3) := by decide +kernel
theorem dX12_statement_156 : decode cX12_statement 156 = .ok (.aload_n 0, 1) := by decide +kernel
theorem dX12_statement_157 : decode cX12_statement 157 = .ok (.ldc2_w 242, 3) := by decide +kernel
theorem dX12_statement_160 : decode cX12_statement 160 = .ok (.invokevirtual 339, 3) := by decide +kernel
theorem dX12_statement_163 : decode cX12_statement 163 = .ok (.ifCond .ne 13, 3) := by decide +kernel
theorem dX12_statement_176 : decode cX12_statement 176 = .ok (.aload_n 0, 1) := by decide +kernel
theorem dX12_statement_177 : decode cX12_statement 177 = .ok (.ldc2_w 242, 3) := by decide +kernel
theorem dX12_statement_180 : decode cX12_statement 180 = .ok (.invokevirtual 339, 3) := by decide +kernel
theorem dX12_statement_183 : decode cX12_statement 183 = .ok (.ifCond .eq 8, 3) := by decide +kernel
theorem dX12_statement_191 : decode cX12_statement 191 = .ok (.bipush 7, 2) := by decide +kernel
theorem dX12_statement_193 : decode cX12_statement 193 = .ok (.istore_n 3, 1) := by decide +kernel
theorem dX12_statement_186 : decode cX12_statement 186 = .ok (.bipush 6, 2) := by decide +kernel
theorem dX12_statement_188 : decode cX12_statement 188 = .ok (.goto 5, 3) := by decide +kernel
theorem dX12_statement_166 : decode cX12_statement 166 = .ok (.aload_n 0, 1) := by decide +kernel
theorem dX12_statement_167 : decode cX12_statement 167 = .ok (.ldc2_w 244, 3) := by decide +kernel
theorem dX12_statement_170 : decode cX12_statement 170 = .ok (.invokevirtual 339, 3) := by decide +kernel
theorem dX12_statement_173 : decode cX12_statement 173 = .ok (.ifCond .eq 63, 3) := by decide +kernel
theorem dX12_statement_236 : decode cX12_statement 236 = .ok (.aload_n 0, 1) := by decide +kernel
theorem dX12_statement_237 : decode cX12_statement 237 = .ok (.invokevirtual 352, 3) := by decide +kernel
theorem dX12_statement_240 : decode cX12_statement 240 = .ok (.ireturn, 1) := by decide +kernel
theorem dX12_statement_151 : decode cX12_statement 151 = .ok (.aload_n 0, 1) := by decide +kernel
theorem dX12_statement_152 : decode cX12_statement 152 = .ok (.invokevirtual 349, 3) := by decide +kernel
theorem dX12_statement_155 : decode cX12_statement 155 = .ok (.ireturn, 1) := by decide +kernel
theorem dX12_statement_124 : decode cX12_statement 124 = .ok (.aload_n 0, 1) := by decide +kernel
theorem dX12_statement_125 : decode cX12_statement 125 = .ok (.invokevirtual 346, 3) := by decide +kernel
theorem dX12_statement_128 : decode cX12_statement 128 = .ok (.ireturn, 1) := by decide +kernel
set_option maxHeartbeats 4000000 in
set_option maxRecDepth 20000 in
theorem b_stm114 (d : Nat) {b : Nat} {σ : MS} {lv : Nat} {ρ : MS} {post : Option Value → MS → Prop} (hcb : ∀ (d : Nat) {b : Nat} {σ : MS} (hR : RG σ) (hrd : RDY σ) (hnn : NN σ) (h28 : σ.1 28 = 0) (h29 : σ.1 29 = 6 - (lv : Int)) (ht : 0 ≤ σ.1 43 ∧ σ.1 43 ≤ 260), Tm (d + 3 * lv + 44) m_X12_block 0 b σ [(0, .ref b)] [] (fun ro σ2 => ∃ v : Int, ro = some (.int (iI v)) ∧ ((v = 0 ∨ v = 1)) ∧ (Fr [19, 20, 22, 23, 26, 27, 28, 29, 31, 32, 33, 34, 39, 40] [3, 4, 5, 6, 7, 8, 35, 37, 41, 42] [24, 38] σ σ2) ∧ (RG σ2) ∧ (PBF σ σ2) ∧ (Im v 1 (BLQ 28 4 σ σ2)) ∧ (Im v 0 (∀ c : Int, GOF [28] σ (qq c) σ2)))) (hR : RG σ) (hln : LNP 0 ρ σ) (hw0 : NMW ρ ∨ WD ρ 7304564 ∨ WD ρ 125780071117422 ∨ WD ρ 26982 ∨ WD ρ 512852847717) (h28 : σ.1 28 = 0) (h29 : σ.1 29 = 6 - (lv : Int)) (ht : 0 ≤ σ.1 43 ∧ σ.1 43 ≤ 260) (hret : ∀ (v : Int) (τ : MS), Fr [19, 20, 22, 23, 26, 27, 28, 29, 31, 32, 33, 34, 39, 40] [3, 4, 5, 6, 7, 8, 35, 37, 41, 42] [24, 38] σ τ → RG τ → (v = 0 ∨ v = 1) → PBF ρ τ → (v = 1 → BLQ 20 2 ρ τ) → (v = 0 → ∀ c : Int, GOF [20] ρ (qq c) τ) → post (some (.int (iI v))) τ) : ∀ (n : Nat) , ((0 : Int)).toNat = n → Tm (d + 3 * lv + 46) m_X12_statement 114 b σ [(0, .ref b)] [] post := by
  intro n
  induction n using Nat.strongRecOn with
  | _ n ih =>
    intro   hm
    have tk0 := hln.tok.1
    have rd0 := hln.1.2
    have f0 := hln.2.2.1
    have e30_ := f0.1 30 (by decide)
    have e34_ := hln.2.2.2.2.1
    have nn0 : NN σ := hln.2.2.2.1.2.2.1
    have h0c := hln.h0
    have e28r : ρ.1 28 = 0 := (f0.1 28 (by decide)).symm.trans h28
    have e29r := f0.1 29 (by decide)
    have e33r := f0.1 33 (by decide)
    have e19_ := f0.1 19 (by decide)
    refine tm_aload_n dX12_statement_114 rfl 0 rfl ?_
    refine tm_ldc2 dX12_statement_115 cst12_250 ?_
    refine tm_callV (M := m_X12_statement) (pc := 118) (ix := 339) (M' := m_X12_isWord) (As := [.long (512852847717)]) (rest := []) dX12_statement_118 ok_X12_isWord im_X12_isWord se_X12_isWord ml12_339 np_X12_isWord rfl rfl (Nat.le_of_ble_eq_true rfl) (Nat.le_of_ble_eq_true rfl) rfl (c2_X12_isWord (d + 3 * lv + 44) (σ := σ) (w := 512852847717) hR) (fun r1 σ2 hp => ?_)
    obtain ⟨v3, rfl, rfl, f4, f5, f6⟩ := hp
    show Tm _ _ 121 b σ [(0, .ref b)] [.int (iI v3)] _
    have iww := f5
    have nww_ := f6
    refine tm_if_eq (tgt := 129) dX12_statement_121 (by decide) ⟨by omega, by omega⟩ (fun h7 => ?_) (fun h7 => ?_)
    · refine tm_aload_n dX12_statement_129 rfl 0 rfl ?_
      refine tm_bipush dX12_statement_130 (by decide) ?_
      refine tm_aload_n dX12_statement_132 rfl 0 rfl ?_
      refine tm_getS (k := 31) (t := σ.1 31) dX12_statement_133 (by decide) fl12_343 rfl (rfl) ?_
      have g8 := RG.s hR 31
      refine tm_iconst dX12_statement_136 ?_
      refine tm_callV (M := m_X12_statement) (pc := 137) (ix := 294) (M' := m_X12_put) (As := [.int (iI 11), .int (iI (σ.1 31)), .int (iI 0)]) (rest := []) dX12_statement_137 ok_X12_put im_X12_put se_X12_put ml12_294 np_X12_put rfl rfl (Nat.le_of_ble_eq_true rfl) (Nat.le_of_ble_eq_true rfl) rfl (c_X12_put (d + 3 * lv + 43) (σ := σ) (k := 11) (e := σ.1 31) (o := 0) hR (by omega) (by omega) (by omega) (by omega)) (fun r9 σ10 hp => ?_)
      obtain ⟨v11, rfl, f12, f13, f14, f15, f16, f17, f18⟩ := hp
      show Tm _ _ 140 b σ10 [(0, .ref b)] [.int (iI v11)] _
      have jvP := f14
      have jnP := f15
      have jiP := f16
      have joP := f17
      have jrP := f18
      refine tm_istore_n (L' := [(2, .int (iI v11)), (0, .ref b)]) dX12_statement_140 rfl (by decide) rfl ?_
      have pbP : PBF σ σ10 := PBF.it nn0 f12 (by decide) (by decide) (by decide) jnP jvP joP
      have ln1 : LNP 1 ρ σ10 := hln.line f12 jnP pbP
      have li1 : LIT ρ σ10 := by unfold LIT; rw [← hln.px, ← jvP]; exact ⟨⟨jiP.1, jiP.2.2.1⟩, oki_bare jiP (by decide) (fun q => absurd rfl q)⟩
      have e281 : σ10.1 28 = 0 := (f12.1 28 (by decide)).trans h28
      have e291 : σ10.1 29 = 6 - (lv : Int) := (f12.1 29 (by decide)).trans h29
      have e431 : 0 ≤ σ10.1 43 ∧ σ10.1 43 ≤ 260 := by rw [f12.1 43 (by decide)]; exact ht
      have R1 := f13
      have now : ¬ WD ρ 512852847717 := fun z => nww_ (by omega) ((WD.bk hln.2.2.1 (by decide) (by decide)).mpr z)
      refine tm_aload_n dX12_statement_141 rfl 1 rfl ?_
      refine tm_ldc2 dX12_statement_142 cst12_246 ?_
      refine tm_callV (M := m_X12_statement) (pc := 145) (ix := 339) (M' := m_X12_isWord) (As := [.long (26982)]) (rest := []) dX12_statement_145 ok_X12_isWord im_X12_isWord se_X12_isWord ml12_339 np_X12_isWord rfl rfl (Nat.le_of_ble_eq_true rfl) (Nat.le_of_ble_eq_true rfl) rfl (c2_X12_isWord (d + 3 * lv + 44) (σ := σ10) (w := 26982) f13) (fun r19 σ20 hp => ?_)
      obtain ⟨v21, rfl, rfl, f22, f23, f24⟩ := hp
      show Tm _ _ 148 b σ10 [(2, .int (iI v11)), (0, .ref b)] [.int (iI v21)] _
      have iwi := f23
      have nwi_ := f24
      refine tm_if_eq (tgt := 156) dX12_statement_148 (by decide) ⟨by omega, by omega⟩ (fun h32 => ?_) (fun h32 => ?_)
      · have noi : ¬ WD ρ 26982 := fun z => nwi_ (by omega) ((WD.bk ln1.2.2.1 (by decide) (by decide)).mpr z)
        refine tm_aload_n dX12_statement_156 rfl 1 rfl ?_
        refine tm_ldc2 dX12_statement_157 cst12_242 ?_
        refine tm_callV (M := m_X12_statement) (pc := 160) (ix := 339) (M' := m_X12_isWord) (As := [.long (7304564)]) (rest := []) dX12_statement_160 ok_X12_isWord im_X12_isWord se_X12_isWord ml12_339 np_X12_isWord rfl rfl (Nat.le_of_ble_eq_true rfl) (Nat.le_of_ble_eq_true rfl) rfl (c2_X12_isWord (d + 3 * lv + 44) (σ := σ10) (w := 7304564) f13) (fun r33 σ34 hp => ?_)
        obtain ⟨v35, rfl, rfl, f36, f37, f38⟩ := hp
        show Tm _ _ 163 b σ10 [(2, .int (iI v11)), (0, .ref b)] [.int (iI v35)] _
        have iwo := f37
        have nwo_ := f38
        refine tm_if_ne (tgt := 176) dX12_statement_163 (by decide) ⟨by omega, by omega⟩ (fun h39 => ?_) (fun h39 => ?_)
        · have woy := (WD.bk ln1.2.2.1 (by decide) (by decide)).mp (iwo (by omega))
          refine tm_aload_n dX12_statement_176 rfl 1 rfl ?_
          refine tm_ldc2 dX12_statement_177 cst12_242 ?_
          refine tm_callV (M := m_X12_statement) (pc := 180) (ix := 339) (M' := m_X12_isWord) (As := [.long (7304564)]) (rest := []) dX12_statement_180 ok_X12_isWord im_X12_isWord se_X12_isWord ml12_339 np_X12_isWord rfl rfl (Nat.le_of_ble_eq_true rfl) (Nat.le_of_ble_eq_true rfl) rfl (c2_X12_isWord (d + 3 * lv + 44) (σ := σ10) (w := 7304564) f13) (fun r40 σ41 hp => ?_)
          obtain ⟨v42, rfl, rfl, f43, f44, f45⟩ := hp
          show Tm _ _ 183 b σ10 [(2, .int (iI v11)), (0, .ref b)] [.int (iI v42)] _
          have iw6 := f44
          have nw6_ := f45
          refine tm_if_eq (tgt := 191) dX12_statement_183 (by decide) ⟨by omega, by omega⟩ (fun h46 => ?_) (fun h46 => ?_)
          · refine tm_bipush dX12_statement_191 (by decide) ?_
            refine tm_istore_n (L' := [(3, .int (iI 7)), (2, .int (iI v11)), (0, .ref b)]) dX12_statement_193 rfl (by decide) rfl ?_
            refine tm_sub [0, 2] rfl (b_stm194 (d + 3 * lv + 5) (σ := σ10) (k3 := 7) (ρ := ρ) R1 ln1 li1 (hln.lin f12 jnP (fun c => g20o now noi (Or.inl woy) hln.sam hln.eff)) e281 (by omega) (fun v τ z1 z2 z3 z4 z5 z6 => hret v τ ((show Fr [19, 20, 22, 23, 26, 27, 28, 29, 31, 32, 33, 34, 39, 40] [3, 4, 5, 6, 7, 8, 35, 37, 41, 42] [24, 38] σ σ10 from (Fr.rfl.trans (Fr.sub f12 (by decide) (by decide) (by decide)))).trans z1) z2 z3 z4 z5 z6) _  rfl)
          · refine tm_bipush dX12_statement_186 (by decide) ?_
            refine tm_goto (tgt := 193) dX12_statement_188 (by decide) ?_
            refine tm_istore_n (L' := [(3, .int (iI 6)), (2, .int (iI v11)), (0, .ref b)]) dX12_statement_193 rfl (by decide) rfl ?_
            refine tm_sub [0, 2] rfl (b_stm194 (d + 3 * lv + 5) (σ := σ10) (k3 := 6) (ρ := ρ) R1 ln1 li1 (hln.lin f12 jnP (fun c => g20o now noi (Or.inl woy) hln.sam hln.eff)) e281 (by omega) (fun v τ z1 z2 z3 z4 z5 z6 => hret v τ ((show Fr [19, 20, 22, 23, 26, 27, 28, 29, 31, 32, 33, 34, 39, 40] [3, 4, 5, 6, 7, 8, 35, 37, 41, 42] [24, 38] σ σ10 from (Fr.rfl.trans (Fr.sub f12 (by decide) (by decide) (by decide)))).trans z1) z2 z3 z4 z5 z6) _  rfl)
        · refine tm_aload_n dX12_statement_166 rfl 1 rfl ?_
          refine tm_ldc2 dX12_statement_167 cst12_244 ?_
          refine tm_callV (M := m_X12_statement) (pc := 170) (ix := 339) (M' := m_X12_isWord) (As := [.long (125780071117422)]) (rest := []) dX12_statement_170 ok_X12_isWord im_X12_isWord se_X12_isWord ml12_339 np_X12_isWord rfl rfl (Nat.le_of_ble_eq_true rfl) (Nat.le_of_ble_eq_true rfl) rfl (c2_X12_isWord (d + 3 * lv + 44) (σ := σ10) (w := 125780071117422) f13) (fun r47 σ48 hp => ?_)
          obtain ⟨v49, rfl, rfl, f50, f51, f52⟩ := hp
          show Tm _ _ 173 b σ10 [(2, .int (iI v11)), (0, .ref b)] [.int (iI v49)] _
          have iwr := f51
          have nwr_ := f52
          refine tm_if_eq (tgt := 236) dX12_statement_173 (by decide) ⟨by omega, by omega⟩ (fun h53 => ?_) (fun h53 => ?_)
          · have nor : ¬ WD ρ 125780071117422 := fun z => nwr_ (by omega) ((WD.bk ln1.2.2.1 (by decide) (by decide)).mpr z)
            have noo : ¬ WD ρ 7304564 := fun z => nwo_ (by omega) ((WD.bk ln1.2.2.1 (by decide) (by decide)).mpr z)
            have nm_ : NMW ρ := by
              rcases hw0 with z | z | z | z | z
              · exact z
              · exact absurd z noo
              · exact absurd z nor
              · exact absurd z noi
              · exact absurd z now
            refine tm_aload_n dX12_statement_236 rfl 1 rfl ?_
            refine tm_callV (M := m_X12_statement) (pc := 237) (ix := 352) (M' := m_X12_assignment) (As := []) (rest := []) dX12_statement_237 ok_X12_assignment im_X12_assignment se_X12_assignment ml12_352 np_X12_assignment rfl rfl (Nat.le_of_ble_eq_true rfl) (Nat.le_of_ble_eq_true rfl) rfl (c_X12_assignment (d + 3 * lv + 2) (σ := σ10) (ρ := ρ) R1 ln1 li1 (hln.lin f12 jnP (fun c => g20n now noi noo nor nm_ hln.sam hln.eff)) e281 e431) (fun r54 σ55 hp => ?_)
            obtain ⟨v56, rfl, f57, f58, f59, f60, f61, f62⟩ := hp
            show Tm _ _ 240 b σ55 [(2, .int (iI v11)), (0, .ref b)] [.int (iI v56)] _
            exact tm_zret (v := v56) rfl (by omega) dX12_statement_240 (hret _ _ ((Fr.rfl.trans (Fr.sub f12 (by decide) (by decide) (by decide))).trans (Fr.sub f58 (by decide) (by decide) (by decide))) f59 f57 f60 f61 f62)
          · have wry := (WD.bk ln1.2.2.1 (by decide) (by decide)).mp (iwr (by omega))
            refine tm_aload_n dX12_statement_176 rfl 1 rfl ?_
            refine tm_ldc2 dX12_statement_177 cst12_242 ?_
            refine tm_callV (M := m_X12_statement) (pc := 180) (ix := 339) (M' := m_X12_isWord) (As := [.long (7304564)]) (rest := []) dX12_statement_180 ok_X12_isWord im_X12_isWord se_X12_isWord ml12_339 np_X12_isWord rfl rfl (Nat.le_of_ble_eq_true rfl) (Nat.le_of_ble_eq_true rfl) rfl (c2_X12_isWord (d + 3 * lv + 44) (σ := σ10) (w := 7304564) f13) (fun r63 σ64 hp => ?_)
            obtain ⟨v65, rfl, rfl, f66, f67, f68⟩ := hp
            show Tm _ _ 183 b σ10 [(2, .int (iI v11)), (0, .ref b)] [.int (iI v65)] _
            have iw6 := f67
            have nw6_ := f68
            refine tm_if_eq (tgt := 191) dX12_statement_183 (by decide) ⟨by omega, by omega⟩ (fun h69 => ?_) (fun h69 => ?_)
            · refine tm_bipush dX12_statement_191 (by decide) ?_
              refine tm_istore_n (L' := [(3, .int (iI 7)), (2, .int (iI v11)), (0, .ref b)]) dX12_statement_193 rfl (by decide) rfl ?_
              refine tm_sub [0, 2] rfl (b_stm194 (d + 3 * lv + 5) (σ := σ10) (k3 := 7) (ρ := ρ) R1 ln1 li1 (hln.lin f12 jnP (fun c => g20o now noi (Or.inr wry) hln.sam hln.eff)) e281 (by omega) (fun v τ z1 z2 z3 z4 z5 z6 => hret v τ ((show Fr [19, 20, 22, 23, 26, 27, 28, 29, 31, 32, 33, 34, 39, 40] [3, 4, 5, 6, 7, 8, 35, 37, 41, 42] [24, 38] σ σ10 from (Fr.rfl.trans (Fr.sub f12 (by decide) (by decide) (by decide)))).trans z1) z2 z3 z4 z5 z6) _  rfl)
            · refine tm_bipush dX12_statement_186 (by decide) ?_
              refine tm_goto (tgt := 193) dX12_statement_188 (by decide) ?_
              refine tm_istore_n (L' := [(3, .int (iI 6)), (2, .int (iI v11)), (0, .ref b)]) dX12_statement_193 rfl (by decide) rfl ?_
              refine tm_sub [0, 2] rfl (b_stm194 (d + 3 * lv + 5) (σ := σ10) (k3 := 6) (ρ := ρ) R1 ln1 li1 (hln.lin f12 jnP (fun c => g20o now noi (Or.inr wry) hln.sam hln.eff)) e281 (by omega) (fun v τ z1 z2 z3 z4 z5 z6 => hret v τ ((show Fr [19, 20, 22, 23, 26, 27, 28, 29, 31, 32, 33, 34, 39, 40] [3, 4, 5, 6, 7, 8, 35, 37, 41, 42] [24, 38] σ σ10 from (Fr.rfl.trans (Fr.sub f12 (by decide) (by decide) (by decide)))).trans z1) z2 z3 z4 z5 z6) _  rfl)
      · refine tm_aload_n dX12_statement_151 rfl 1 rfl ?_
        refine tm_callV (M := m_X12_statement) (pc := 152) (ix := 349) (M' := m_X12_ifStatement) (As := []) (rest := []) dX12_statement_152 ok_X12_ifStatement im_X12_ifStatement se_X12_ifStatement ml12_349 np_X12_ifStatement rfl rfl (Nat.le_of_ble_eq_true rfl) (Nat.le_of_ble_eq_true rfl) rfl (c_X12_ifStatement (d) (σ := σ10) (ρ := ρ) hcb R1 ln1 li1 (hln.lin f12 jnP (fun c => g20i now ((WD.bk ln1.2.2.1 (by decide) (by decide)).mp (iwi (by omega))) hln.sam hln.eff)) e281 e291 e431) (fun r70 σ71 hp => ?_)
        obtain ⟨v72, rfl, f73, f74, f75, f76, f77, f78⟩ := hp
        show Tm _ _ 155 b σ71 [(2, .int (iI v11)), (0, .ref b)] [.int (iI v72)] _
        exact tm_zret (v := v72) rfl (by omega) dX12_statement_155 (hret _ _ ((Fr.rfl.trans (Fr.sub f12 (by decide) (by decide) (by decide))).trans (Fr.sub f74 (by decide) (by decide) (by decide))) f75 f73 f76 f77 f78)
    · refine tm_aload_n dX12_statement_124 rfl 0 rfl ?_
      refine tm_callV (M := m_X12_statement) (pc := 125) (ix := 346) (M' := m_X12_whileStatement) (As := []) (rest := []) dX12_statement_125 ok_X12_whileStatement im_X12_whileStatement se_X12_whileStatement ml12_346 np_X12_whileStatement rfl rfl (Nat.le_of_ble_eq_true rfl) (Nat.le_of_ble_eq_true rfl) rfl (c_X12_whileStatement (d) (σ := σ) (ρ := ρ) hcb hR hln (fun c => g20w ((WD.bk hln.2.2.1 (by decide) (by decide)).mp (iww (by omega))) hln.sam hln.eff) h28 h29 ht) (fun r79 σ80 hp => ?_)
      obtain ⟨v81, rfl, f82, f83, f84, f85, f86, f87⟩ := hp
      show Tm _ _ 128 b σ80 [(0, .ref b)] [.int (iI v81)] _
      exact tm_zret (v := v81) rfl (by omega) dX12_statement_128 (hret _ _ (Fr.rfl.trans (Fr.sub f83 (by decide) (by decide) (by decide))) f84 f82 f85 f86 f87)
end
section
theorem fl12_69 : Cond.fieldLink RX12 69 (TX12 37).1 (TX12 37).2.1 (TX12 37).2.2.1 ∈ pWW := pw7 (List.mem_of_getElem? (i := 44) rfl) rfl
theorem dX12_statement_57 : decode cX12_statement 57 = .ok (.aload_n 0, 1) := by decide +kernel
theorem dX12_statement_58 : decode cX12_statement 58 = .ok (.dup, 1) := by decide +kernel
theorem dX12_statement_59 : decode cX12_statement 59 = .ok (.getfield 343, 3) := by decide +kernel
theorem dX12_statement_62 : decode cX12_statement 62 = .ok (.iconst 1, 1) := by decide +kernel
theorem dX12_statement_63 : decode cX12_statement 63 = .ok (.iadd, 1) := by decide +kernel
theorem dX12_statement_64 : decode cX12_statement 64 = .ok (.putfield 343, 3) := by decide +kernel
theorem dX12_statement_67 : decode cX12_statement 67 = .ok (.aload_n 0, 1) := by decide +kernel
theorem dX12_statement_68 : decode cX12_statement 68 = .ok (.getfield 343, 3) := by decide +kernel
theorem dX12_statement_71 : decode cX12_statement 71 = .ok (.bipush 41, 2) := by decide +kernel
theorem dX12_statement_73 : decode cX12_statement 73 = .ok (.if_icmp .ne 9, 3) := by decide +kernel
theorem dX12_statement_82 : decode cX12_statement 82 = .ok (.aload_n 0, 1) := by decide +kernel
theorem dX12_statement_83 : decode cX12_statement 83 = .ok (.invokevirtual 271, 3) := by decide +kernel
theorem dX12_statement_86 : decode cX12_statement 86 = .ok (.ifCond .eq 28, 3) := by decide +kernel
theorem dX12_statement_89 : decode cX12_statement 89 = .ok (.aload_n 0, 1) := by decide +kernel
theorem dX12_statement_90 : decode cX12_statement 90 = .ok (.getfield 69, 3) := by decide +kernel
theorem dX12_statement_93 : decode cX12_statement 93 = .ok (.aload_n 0, 1) := by decide +kernel
theorem dX12_statement_94 : decode cX12_statement 94 = .ok (.getfield 268, 3) := by decide +kernel
theorem dX12_statement_97 : decode cX12_statement 97 = .ok (.iaload, 1) := by decide +kernel
theorem dX12_statement_98 : decode cX12_statement 98 = .ok (.ifCond .ne 16, 3) := by decide +kernel
theorem dX12_statement_101 : decode cX12_statement 101 = .ok (.aload_n 0, 1) := by decide +kernel
theorem dX12_statement_102 : decode cX12_statement 102 = .ok (.getfield 69, 3) := by decide +kernel
theorem dX12_statement_105 : decode cX12_statement 105 = .ok (.aload_n 0, 1) := by decide +kernel
theorem dX12_statement_106 : decode cX12_statement 106 = .ok (.getfield 268, 3) := by decide +kernel
theorem dX12_statement_109 : decode cX12_statement 109 = .ok (.aload_n 0, 1) := by decide +kernel
theorem dX12_statement_110 : decode cX12_statement 110 = .ok (.getfield 343, 3) := by decide +kernel
theorem dX12_statement_113 : decode cX12_statement 113 = .ok (.iastore, 1) := by decide +kernel
theorem dX12_statement_76 : decode cX12_statement 76 = .ok (.aload_n 0, 1) := by decide +kernel
theorem dX12_statement_77 : decode cX12_statement 77 = .ok (.iconst 5, 1) := by decide +kernel
theorem dX12_statement_78 : decode cX12_statement 78 = .ok (.iload_n 1, 1) := by decide +kernel
theorem dX12_statement_79 : decode cX12_statement 79 = .ok (.invokevirtual 274, 3) := by decide +kernel
set_option maxHeartbeats 4000000 in
set_option maxRecDepth 20000 in
theorem b_stm57 (d : Nat) {b : Nat} {σ : MS} {lv : Nat} {p : Int} {post : Option Value → MS → Prop} (hcb : ∀ (d : Nat) {b : Nat} {σ : MS} (hR : RG σ) (hrd : RDY σ) (hnn : NN σ) (h28 : σ.1 28 = 0) (h29 : σ.1 29 = 6 - (lv : Int)) (ht : 0 ≤ σ.1 43 ∧ σ.1 43 ≤ 260), Tm (d + 3 * lv + 44) m_X12_block 0 b σ [(0, .ref b)] [] (fun ro σ2 => ∃ v : Int, ro = some (.int (iI v)) ∧ ((v = 0 ∨ v = 1)) ∧ (Fr [19, 20, 22, 23, 26, 27, 28, 29, 31, 32, 33, 34, 39, 40] [3, 4, 5, 6, 7, 8, 35, 37, 41, 42] [24, 38] σ σ2) ∧ (RG σ2) ∧ (PBF σ σ2) ∧ (Im v 1 (BLQ 28 4 σ σ2)) ∧ (Im v 0 (∀ c : Int, GOF [28] σ (qq c) σ2)))) (hR : RG σ) (hrd : RDY σ) (hnn : NN σ) (h28 : σ.1 28 = 0) (h29 : σ.1 29 = 6 - (lv : Int)) (ht : 0 ≤ σ.1 43 ∧ σ.1 43 ≤ 260) (hw0 : NMW σ ∨ WD σ 7304564 ∨ WD σ 125780071117422 ∨ WD σ 26982 ∨ WD σ 512852847717) (hp : p = σ.1 19) (h_p : -2147483648 ≤ p ∧ p ≤ 2147483647) (hret : ∀ (v : Int) (τ : MS), Fr [19, 20, 22, 23, 26, 27, 28, 29, 31, 32, 33, 34, 39, 40] [3, 4, 5, 6, 7, 8, 35, 37, 41, 42] [24, 38] σ τ → RG τ → (v = 0 ∨ v = 1) → PBF σ τ → (v = 1 → BLQ 20 2 σ τ) → (v = 0 → ∀ c : Int, GOF [20] σ (qq c) τ) → post (some (.int (iI v))) τ) : ∀ (n : Nat) , ((0 : Int)).toNat = n → Tm (d + 3 * lv + 46) m_X12_statement 57 b σ [(1, .int (iI p)), (0, .ref b)] [] post := by
  intro n
  induction n using Nat.strongRecOn with
  | _ n ih =>
    intro   hm
    have rd0 := hrd.2
    have tk0 := hrd.1.1
    have k28 := h28
    have k29 := h29
    refine tm_aload_n dX12_statement_57 rfl 1 rfl ?_
    refine tm_dup dX12_statement_58 rfl ?_
    refine tm_getS (k := 31) (t := σ.1 31) dX12_statement_59 (by decide) fl12_343 rfl (rfl) ?_
    have g1 := RG.s hR 31
    refine tm_iconst dX12_statement_62 ?_
    refine tm_iadd dX12_statement_63 ?_
    refine tm_putS (k := 31) (v := (σ.1 31) + 1) lay_12 dX12_statement_64 (by decide) fl12_343 rfl (tyX12_ok 31 (by decide)) rfl rfl rfl ?_
    refine tm_aload_n dX12_statement_67 rfl 1 rfl ?_
    refine tm_getS (k := 31) (t := (σ.1 31) + 1) dX12_statement_68 (by decide) fl12_343 rfl (rs_eq) ?_
    refine tm_bipush dX12_statement_71 (by decide) ?_
    refine tm_icmp_ne (tgt := 82) dX12_statement_73 (by decide) ⟨by omega, by omega⟩ ⟨by decide, by decide⟩ (fun h2 => ?_) (fun h2 => ?_)
    · refine tm_aload_n dX12_statement_82 rfl 1 rfl ?_
      refine tm_callV (M := m_X12_statement) (pc := 83) (ix := 271) (M' := m_X12_isKept) (As := []) (rest := []) dX12_statement_83 ok_X12_isKept im_X12_isKept se_X12_isKept ml12_271 np_X12_isKept rfl rfl (Nat.le_of_ble_eq_true rfl) (Nat.le_of_ble_eq_true rfl) rfl (c_X12_isKept (d + 3 * lv + 44) (σ := (sS 31 ((σ.1 31) + 1) σ))  (hR.S (by omega))) (fun r3 σ4 hp => ?_)
      obtain ⟨v5, rfl, rfl, f6, f7⟩ := hp
      show Tm _ _ 86 b (sS 31 ((σ.1 31) + 1) σ) [(1, .int (iI p)), (0, .ref b)] [.int (iI v5)] _
      have k30 : (sS 31 ((σ.1 31) + 1) σ).1 30 = σ.1 30 := rs_o (by decide) (rfl)
      refine tm_if_eq (tgt := 114) dX12_statement_86 (by decide) ⟨by omega, by omega⟩ (fun h8 => ?_) (fun h8 => ?_)
      · refine tm_sub [1] rfl (b_stm114 (d) (σ := (sS 31 ((σ.1 31) + 1) σ)) (ρ := σ) hcb (hR.S (by omega)) ⟨hrd, hnn, (Fr.rfl.S (by decide)), PBF.of hnn (show Fr [26, 27, 31] [37] [] σ (sS 31 ((σ.1 31) + 1) σ) from (Fr.rfl.S (by decide))) (by decide) (by decide) (by decide) (FLT.eq rfl), ⟨by rw [show (sS 31 ((σ.1 31) + 1) σ).1 34 = σ.1 34 from rs_o (by decide) (rfl)]; omega, rs_eq⟩, by rcases hw0 with z | z | z | z | z <;> (have q := z.1; omega), ((srt_fr (Fr.rfl : Fr [] [37] [] (sS 31 ((σ.1 31) + 1) σ) (sS 31 ((σ.1 31) + 1) σ)) (by decide) (by decide) (by decide)).trans (by unfold lnP; rw [if_neg (by omega)]))⟩ hw0 ((show (sS 31 ((σ.1 31) + 1) σ).1 28 = σ.1 28 from rs_o (by decide) (rfl)).trans k28) ((show (sS 31 ((σ.1 31) + 1) σ).1 29 = σ.1 29 from rs_o (by decide) (rfl)).trans k29) (by rw [show (sS 31 ((σ.1 31) + 1) σ).1 43 = σ.1 43 from rs_o (by decide) (rfl)]; exact ht) (fun v τ z1 z2 z3 z4 z5 z6 => hret v τ ((show Fr [19, 20, 22, 23, 26, 27, 28, 29, 31, 32, 33, 34, 39, 40] [3, 4, 5, 6, 7, 8, 35, 37, 41, 42] [24, 38] σ (sS 31 ((σ.1 31) + 1) σ) from (Fr.rfl.S (by decide))).trans z1) z2 z3 z4 z5 z6) _  rfl)
      · refine tm_aload_n dX12_statement_89 rfl 1 rfl ?_
        refine tm_get (k := 37) (v := .ref (b + 1 + 18)) lay_12 dX12_statement_90 (by decide) fl12_69 rfl ?_
        refine tm_aload_n dX12_statement_93 rfl 1 rfl ?_
        refine tm_getS (k := 30) (t := σ.1 30) dX12_statement_94 (by decide) fl12_268 rfl (rs_o (by decide) (rfl)) ?_
        have g9 := RG.s hR 30
        refine tm_iald (z := σ.1 30) (v := σ.2.1 37 (σ.1 30)) dX12_statement_97 (show mT[18]? = some (37, 0, 6) from rfl) (by omega) (by omega) (by decide) (ra_S (rfl)) ?_
        have g10 := RG.a hR 37 (σ.1 30)
        refine tm_if_ne (tgt := 114) dX12_statement_98 (by decide) ⟨by omega, by omega⟩ (fun h11 => ?_) (fun h11 => ?_)
        · refine tm_sub [1] rfl (b_stm114 (d) (σ := (sS 31 ((σ.1 31) + 1) σ)) (ρ := σ) hcb (hR.S (by omega)) ⟨hrd, hnn, (Fr.rfl.S (by decide)), PBF.of hnn (show Fr [26, 27, 31] [37] [] σ (sS 31 ((σ.1 31) + 1) σ) from (Fr.rfl.S (by decide))) (by decide) (by decide) (by decide) (FLT.eq rfl), ⟨by rw [show (sS 31 ((σ.1 31) + 1) σ).1 34 = σ.1 34 from rs_o (by decide) (rfl)]; omega, rs_eq⟩, by rcases hw0 with z | z | z | z | z <;> (have q := z.1; omega), ((srt_fr (Fr.rfl : Fr [] [37] [] (sS 31 ((σ.1 31) + 1) σ) (sS 31 ((σ.1 31) + 1) σ)) (by decide) (by decide) (by decide)).trans (by unfold lnP; rw [if_neg (by omega)]))⟩ hw0 ((show (sS 31 ((σ.1 31) + 1) σ).1 28 = σ.1 28 from rs_o (by decide) (rfl)).trans k28) ((show (sS 31 ((σ.1 31) + 1) σ).1 29 = σ.1 29 from rs_o (by decide) (rfl)).trans k29) (by rw [show (sS 31 ((σ.1 31) + 1) σ).1 43 = σ.1 43 from rs_o (by decide) (rfl)]; exact ht) (fun v τ z1 z2 z3 z4 z5 z6 => hret v τ ((show Fr [19, 20, 22, 23, 26, 27, 28, 29, 31, 32, 33, 34, 39, 40] [3, 4, 5, 6, 7, 8, 35, 37, 41, 42] [24, 38] σ (sS 31 ((σ.1 31) + 1) σ) from (Fr.rfl.S (by decide))).trans z1) z2 z3 z4 z5 z6) _  rfl)
        · refine tm_aload_n dX12_statement_101 rfl 1 rfl ?_
          refine tm_get (k := 37) (v := .ref (b + 1 + 18)) lay_12 dX12_statement_102 (by decide) fl12_69 rfl ?_
          refine tm_aload_n dX12_statement_105 rfl 1 rfl ?_
          refine tm_getS (k := 30) (t := σ.1 30) dX12_statement_106 (by decide) fl12_268 rfl (rs_o (by decide) (rfl)) ?_
          have g12 := RG.s hR 30
          refine tm_aload_n dX12_statement_109 rfl 1 rfl ?_
          refine tm_getS (k := 31) (t := (σ.1 31) + 1) dX12_statement_110 (by decide) fl12_343 rfl (rs_eq) ?_
          refine tm_iast (z := σ.1 30) (v := (σ.1 31) + 1) dX12_statement_113 (show mT[18]? = some (37, 0, 6) from rfl) (by omega) (by omega) (by decide) ?_
          refine tm_sub [1] rfl (b_stm114 (d) (σ := (sA 37 (σ.1 30) ((σ.1 31) + 1) (sS 31 ((σ.1 31) + 1) σ))) (ρ := σ) hcb ((hR.S (by omega)).A (by omega)) ⟨hrd, hnn, ((Fr.rfl.S (by decide)).A (by decide)), PBF.of hnn (show Fr [26, 27, 31] [37] [] σ (sA 37 (σ.1 30) ((σ.1 31) + 1) (sS 31 ((σ.1 31) + 1) σ)) from ((Fr.rfl.S (by decide)).A (by decide))) (by decide) (by decide) (by decide) (FLT.eq rfl), ⟨by rw [show (sA 37 (σ.1 30) ((σ.1 31) + 1) (sS 31 ((σ.1 31) + 1) σ)).1 34 = σ.1 34 from rs_A (rs_o (by decide) (rfl))]; omega, rs_A (rs_eq)⟩, by rcases hw0 with z | z | z | z | z <;> (have q := z.1; omega), ((srt_fr (show Fr [] [37] [] (sS 31 ((σ.1 31) + 1) σ) (sA 37 (σ.1 30) ((σ.1 31) + 1) (sS 31 ((σ.1 31) + 1) σ)) from (Fr.rfl.A (by decide))) (by decide) (by decide) (by decide)).trans (by unfold lnP; rw [if_neg (by omega)]))⟩ hw0 ((show (sA 37 (σ.1 30) ((σ.1 31) + 1) (sS 31 ((σ.1 31) + 1) σ)).1 28 = σ.1 28 from rs_A (rs_o (by decide) (rfl))).trans k28) ((show (sA 37 (σ.1 30) ((σ.1 31) + 1) (sS 31 ((σ.1 31) + 1) σ)).1 29 = σ.1 29 from rs_A (rs_o (by decide) (rfl))).trans k29) (by rw [show (sA 37 (σ.1 30) ((σ.1 31) + 1) (sS 31 ((σ.1 31) + 1) σ)).1 43 = σ.1 43 from rs_A (rs_o (by decide) (rfl))]; exact ht) (fun v τ z1 z2 z3 z4 z5 z6 => hret v τ ((show Fr [19, 20, 22, 23, 26, 27, 28, 29, 31, 32, 33, 34, 39, 40] [3, 4, 5, 6, 7, 8, 35, 37, 41, 42] [24, 38] σ (sA 37 (σ.1 30) ((σ.1 31) + 1) (sS 31 ((σ.1 31) + 1) σ)) from ((Fr.rfl.S (by decide)).A (by decide))).trans z1) z2 z3 z4 z5 z6) _  rfl)
    · refine tm_aload_n dX12_statement_76 rfl 1 rfl ?_
      refine tm_iconst dX12_statement_77 ?_
      refine tm_iload_n dX12_statement_78 rfl 0 rfl ?_
      refine tm_callV (M := m_X12_statement) (pc := 79) (ix := 274) (M' := m_X12_note) (As := [.int (iI 5), .int (iI p)]) (rest := []) dX12_statement_79 ok_X12_note im_X12_note se_X12_note ml12_274 np_X12_note rfl rfl (Nat.le_of_ble_eq_true rfl) (Nat.le_of_ble_eq_true rfl) rfl (c2_X12_note (d + 3 * lv + 44) (σ := (sS 31 ((σ.1 31) + 1) σ)) (f := 5) (p := p) (hR.S (by omega)) (by omega) (by omega)) (fun r13 σ14 hp => ?_)
      obtain ⟨rfl, f16, f17, f18, f19, f20⟩ := hp
      show Tm _ _ 82 b σ14 [(1, .int (iI p)), (0, .ref b)] [] _
      have nt2 := f18
      have nt4 := f20
      refine tm_aload_n dX12_statement_82 rfl 1 rfl ?_
      refine tm_callV (M := m_X12_statement) (pc := 83) (ix := 271) (M' := m_X12_isKept) (As := []) (rest := []) dX12_statement_83 ok_X12_isKept im_X12_isKept se_X12_isKept ml12_271 np_X12_isKept rfl rfl (Nat.le_of_ble_eq_true rfl) (Nat.le_of_ble_eq_true rfl) rfl (c_X12_isKept (d + 3 * lv + 44) (σ := σ14)  f17) (fun r21 σ22 hp => ?_)
      obtain ⟨v23, rfl, rfl, f24, f25⟩ := hp
      show Tm _ _ 86 b σ14 [(1, .int (iI p)), (0, .ref b)] [.int (iI v23)] _
      have k30 : σ14.1 30 = σ.1 30 := rs_F f16 (by decide) (rs_o (by decide) (rfl))
      refine tm_if_eq (tgt := 114) dX12_statement_86 (by decide) ⟨by omega, by omega⟩ (fun h32 => ?_) (fun h32 => ?_)
      · refine tm_sub [1] rfl (b_stm114 (d) (σ := σ14) (ρ := σ) hcb f17 ⟨hrd, hnn, ((Fr.rfl.S (by decide)).trans (Fr.sub f16 (by decide) (by decide) (by decide))), PBF.of hnn (show Fr [26, 27, 31] [37] [] σ σ14 from ((Fr.rfl.S (by decide)).trans (Fr.sub f16 (by decide) (by decide) (by decide)))) (by decide) (by decide) (by decide) nt2, ⟨by rw [show σ14.1 34 = σ.1 34 from rs_F f16 (by decide) (rs_o (by decide) (rfl))]; omega, rs_F f16 (by decide) (rs_eq)⟩, by rcases hw0 with z | z | z | z | z <;> (have q := z.1; omega), ((srt_fr (Fr.rfl : Fr [] [37] [] σ14 σ14) (by decide) (by decide) (by decide)).trans (by rw [nt4]; unfold lnP; rw [if_pos (by omega), hp]))⟩ hw0 ((show σ14.1 28 = σ.1 28 from rs_F f16 (by decide) (rs_o (by decide) (rfl))).trans k28) ((show σ14.1 29 = σ.1 29 from rs_F f16 (by decide) (rs_o (by decide) (rfl))).trans k29) (by rw [show σ14.1 43 = σ.1 43 from rs_F f16 (by decide) (rs_o (by decide) (rfl))]; exact ht) (fun v τ z1 z2 z3 z4 z5 z6 => hret v τ ((show Fr [19, 20, 22, 23, 26, 27, 28, 29, 31, 32, 33, 34, 39, 40] [3, 4, 5, 6, 7, 8, 35, 37, 41, 42] [24, 38] σ σ14 from ((Fr.rfl.S (by decide)).trans (Fr.sub f16 (by decide) (by decide) (by decide)))).trans z1) z2 z3 z4 z5 z6) _  rfl)
      · refine tm_aload_n dX12_statement_89 rfl 1 rfl ?_
        refine tm_get (k := 37) (v := .ref (b + 1 + 18)) lay_12 dX12_statement_90 (by decide) fl12_69 rfl ?_
        refine tm_aload_n dX12_statement_93 rfl 1 rfl ?_
        refine tm_getS (k := 30) (t := σ.1 30) dX12_statement_94 (by decide) fl12_268 rfl (rs_F f16 (by decide) (rs_o (by decide) (rfl))) ?_
        have g33 := RG.s hR 30
        refine tm_iald (z := σ.1 30) (v := σ.2.1 37 (σ.1 30)) dX12_statement_97 (show mT[18]? = some (37, 0, 6) from rfl) (by omega) (by omega) (by decide) (ra_F f16 (by decide) (ra_S (rfl))) ?_
        have g34 := RG.a hR 37 (σ.1 30)
        refine tm_if_ne (tgt := 114) dX12_statement_98 (by decide) ⟨by omega, by omega⟩ (fun h35 => ?_) (fun h35 => ?_)
        · refine tm_sub [1] rfl (b_stm114 (d) (σ := σ14) (ρ := σ) hcb f17 ⟨hrd, hnn, ((Fr.rfl.S (by decide)).trans (Fr.sub f16 (by decide) (by decide) (by decide))), PBF.of hnn (show Fr [26, 27, 31] [37] [] σ σ14 from ((Fr.rfl.S (by decide)).trans (Fr.sub f16 (by decide) (by decide) (by decide)))) (by decide) (by decide) (by decide) nt2, ⟨by rw [show σ14.1 34 = σ.1 34 from rs_F f16 (by decide) (rs_o (by decide) (rfl))]; omega, rs_F f16 (by decide) (rs_eq)⟩, by rcases hw0 with z | z | z | z | z <;> (have q := z.1; omega), ((srt_fr (Fr.rfl : Fr [] [37] [] σ14 σ14) (by decide) (by decide) (by decide)).trans (by rw [nt4]; unfold lnP; rw [if_pos (by omega), hp]))⟩ hw0 ((show σ14.1 28 = σ.1 28 from rs_F f16 (by decide) (rs_o (by decide) (rfl))).trans k28) ((show σ14.1 29 = σ.1 29 from rs_F f16 (by decide) (rs_o (by decide) (rfl))).trans k29) (by rw [show σ14.1 43 = σ.1 43 from rs_F f16 (by decide) (rs_o (by decide) (rfl))]; exact ht) (fun v τ z1 z2 z3 z4 z5 z6 => hret v τ ((show Fr [19, 20, 22, 23, 26, 27, 28, 29, 31, 32, 33, 34, 39, 40] [3, 4, 5, 6, 7, 8, 35, 37, 41, 42] [24, 38] σ σ14 from ((Fr.rfl.S (by decide)).trans (Fr.sub f16 (by decide) (by decide) (by decide)))).trans z1) z2 z3 z4 z5 z6) _  rfl)
        · refine tm_aload_n dX12_statement_101 rfl 1 rfl ?_
          refine tm_get (k := 37) (v := .ref (b + 1 + 18)) lay_12 dX12_statement_102 (by decide) fl12_69 rfl ?_
          refine tm_aload_n dX12_statement_105 rfl 1 rfl ?_
          refine tm_getS (k := 30) (t := σ.1 30) dX12_statement_106 (by decide) fl12_268 rfl (rs_F f16 (by decide) (rs_o (by decide) (rfl))) ?_
          have g36 := RG.s hR 30
          refine tm_aload_n dX12_statement_109 rfl 1 rfl ?_
          refine tm_getS (k := 31) (t := (σ.1 31) + 1) dX12_statement_110 (by decide) fl12_343 rfl (rs_F f16 (by decide) (rs_eq)) ?_
          refine tm_iast (z := σ.1 30) (v := (σ.1 31) + 1) dX12_statement_113 (show mT[18]? = some (37, 0, 6) from rfl) (by omega) (by omega) (by decide) ?_
          refine tm_sub [1] rfl (b_stm114 (d) (σ := (sA 37 (σ.1 30) ((σ.1 31) + 1) σ14)) (ρ := σ) hcb (f17.A (by omega)) ⟨hrd, hnn, (((Fr.rfl.S (by decide)).trans (Fr.sub f16 (by decide) (by decide) (by decide))).A (by decide)), PBF.of hnn (show Fr [26, 27, 31] [37] [] σ (sA 37 (σ.1 30) ((σ.1 31) + 1) σ14) from (((Fr.rfl.S (by decide)).trans (Fr.sub f16 (by decide) (by decide) (by decide))).A (by decide))) (by decide) (by decide) (by decide) nt2, ⟨by rw [show (sA 37 (σ.1 30) ((σ.1 31) + 1) σ14).1 34 = σ.1 34 from rs_A (rs_F f16 (by decide) (rs_o (by decide) (rfl)))]; omega, rs_A (rs_F f16 (by decide) (rs_eq))⟩, by rcases hw0 with z | z | z | z | z <;> (have q := z.1; omega), ((srt_fr (show Fr [] [37] [] σ14 (sA 37 (σ.1 30) ((σ.1 31) + 1) σ14) from (Fr.rfl.A (by decide))) (by decide) (by decide) (by decide)).trans (by rw [nt4]; unfold lnP; rw [if_pos (by omega), hp]))⟩ hw0 ((show (sA 37 (σ.1 30) ((σ.1 31) + 1) σ14).1 28 = σ.1 28 from rs_A (rs_F f16 (by decide) (rs_o (by decide) (rfl)))).trans k28) ((show (sA 37 (σ.1 30) ((σ.1 31) + 1) σ14).1 29 = σ.1 29 from rs_A (rs_F f16 (by decide) (rs_o (by decide) (rfl)))).trans k29) (by rw [show (sA 37 (σ.1 30) ((σ.1 31) + 1) σ14).1 43 = σ.1 43 from rs_A (rs_F f16 (by decide) (rs_o (by decide) (rfl)))]; exact ht) (fun v τ z1 z2 z3 z4 z5 z6 => hret v τ ((show Fr [19, 20, 22, 23, 26, 27, 28, 29, 31, 32, 33, 34, 39, 40] [3, 4, 5, 6, 7, 8, 35, 37, 41, 42] [24, 38] σ (sA 37 (σ.1 30) ((σ.1 31) + 1) σ14) from (((Fr.rfl.S (by decide)).trans (Fr.sub f16 (by decide) (by decide) (by decide))).A (by decide))).trans z1) z2 z3 z4 z5 z6) _  rfl)
theorem dX12_statement_0 : decode cX12_statement 0 = .ok (.aload_n 0, 1) := by decide +kernel
theorem dX12_statement_1 : decode cX12_statement 1 = .ok (.getfield 216, 3) := by decide +kernel
theorem dX12_statement_4 : decode cX12_statement 4 = .ok (.istore_n 1, 1) := by decide +kernel
theorem dX12_statement_5 : decode cX12_statement 5 = .ok (.aload_n 0, 1) := by decide +kernel
theorem dX12_statement_6 : decode cX12_statement 6 = .ok (.invokevirtual 320, 3) := by decide +kernel
theorem dX12_statement_9 : decode cX12_statement 9 = .ok (.ifCond .ne 48, 3) := by decide +kernel
theorem dX12_statement_12 : decode cX12_statement 12 = .ok (.aload_n 0, 1) := by decide +kernel
theorem dX12_statement_13 : decode cX12_statement 13 = .ok (.ldc2_w 242, 3) := by decide +kernel
theorem dX12_statement_16 : decode cX12_statement 16 = .ok (.invokevirtual 339, 3) := by decide +kernel
theorem dX12_statement_19 : decode cX12_statement 19 = .ok (.ifCond .ne 38, 3) := by decide +kernel
theorem dX12_statement_22 : decode cX12_statement 22 = .ok (.aload_n 0, 1) := by decide +kernel
theorem dX12_statement_23 : decode cX12_statement 23 = .ok (.ldc2_w 244, 3) := by decide +kernel
theorem dX12_statement_26 : decode cX12_statement 26 = .ok (.invokevirtual 339, 3) := by decide +kernel
theorem dX12_statement_29 : decode cX12_statement 29 = .ok (.ifCond .ne 28, 3) := by decide +kernel
theorem dX12_statement_32 : decode cX12_statement 32 = .ok (.aload_n 0, 1) := by decide +kernel
theorem dX12_statement_33 : decode cX12_statement 33 = .ok (.ldc2_w 246, 3) := by decide +kernel
theorem dX12_statement_36 : decode cX12_statement 36 = .ok (.invokevirtual 339, 3) := by decide +kernel
theorem dX12_statement_39 : decode cX12_statement 39 = .ok (.ifCond .ne 18, 3) := by decide +kernel
theorem dX12_statement_42 : decode cX12_statement 42 = .ok (.aload_n 0, 1) := by decide +kernel
theorem dX12_statement_43 : decode cX12_statement 43 = .ok (.ldc2_w 250, 3) := by decide +kernel
theorem dX12_statement_46 : decode cX12_statement 46 = .ok (.invokevirtual 339, 3) := by decide +kernel
theorem dX12_statement_49 : decode cX12_statement 49 = .ok (.ifCond .ne 8, 3) := by decide +kernel
theorem dX12_statement_52 : decode cX12_statement 52 = .ok (.aload_n 0, 1) := by decide +kernel
theorem dX12_statement_53 : decode cX12_statement 53 = .ok (.invokevirtual 261, 3) := by decide +kernel
theorem dX12_statement_56 : decode cX12_statement 56 = .ok (.ireturn, 1) := by decide +kernel
set_option maxHeartbeats 4000000 in
set_option maxRecDepth 20000 in
theorem c_X12_statement (d : Nat) {b : Nat} {σ : MS} {lv : Nat} (hcb : ∀ (d : Nat) {b : Nat} {σ : MS} (hR : RG σ) (hrd : RDY σ) (hnn : NN σ) (h28 : σ.1 28 = 0) (h29 : σ.1 29 = 6 - (lv : Int)) (ht : 0 ≤ σ.1 43 ∧ σ.1 43 ≤ 260), Tm (d + 3 * lv + 44) m_X12_block 0 b σ [(0, .ref b)] [] (fun ro σ2 => ∃ v : Int, ro = some (.int (iI v)) ∧ ((v = 0 ∨ v = 1)) ∧ (Fr [19, 20, 22, 23, 26, 27, 28, 29, 31, 32, 33, 34, 39, 40] [3, 4, 5, 6, 7, 8, 35, 37, 41, 42] [24, 38] σ σ2) ∧ (RG σ2) ∧ (PBF σ σ2) ∧ (Im v 1 (BLQ 28 4 σ σ2)) ∧ (Im v 0 (∀ c : Int, GOF [28] σ (qq c) σ2)))) (hR : RG σ) (hrd : RDY σ) (hnn : NN σ) (h28 : σ.1 28 = 0) (h29 : σ.1 29 = 6 - (lv : Int)) (ht : 0 ≤ σ.1 43 ∧ σ.1 43 ≤ 260) : Tm (d + 3 * lv + 46) m_X12_statement 0 b σ [(0, .ref b)] [] (fun ro σ2 => ∃ v : Int, ro = some (.int (iI v)) ∧ ((v = 0 ∨ v = 1)) ∧ (Fr [19, 20, 22, 23, 26, 27, 28, 29, 31, 32, 33, 34, 39, 40] [3, 4, 5, 6, 7, 8, 35, 37, 41, 42] [24, 38] σ σ2) ∧ (RG σ2) ∧ (PBF σ σ2) ∧ (Im v 1 (BLQ 20 2 σ σ2)) ∧ (Im v 0 (∀ c : Int, GOF [20] σ (qq c) σ2))) := by
  have rd0 := hrd.2
  have tk0 := hrd.1.1
  have k28 := h28
  have k29 := h29
  refine tm_aload_n dX12_statement_0 rfl 0 rfl ?_
  refine tm_getS (k := 19) (t := σ.1 19) dX12_statement_1 (by decide) fl12_216 rfl (rfl) ?_
  have g1 := RG.s hR 19
  refine tm_istore_n (L' := [(1, .int (iI (σ.1 19))), (0, .ref b)]) dX12_statement_4 rfl (by decide) rfl ?_
  refine tm_aload_n dX12_statement_5 rfl 1 rfl ?_
  refine tm_callV (M := m_X12_statement) (pc := 6) (ix := 320) (M' := m_X12_isName) (As := []) (rest := []) dX12_statement_6 ok_X12_isName im_X12_isName se_X12_isName ml12_320 np_X12_isName rfl rfl (Nat.le_of_ble_eq_true rfl) (Nat.le_of_ble_eq_true rfl) rfl (c2_X12_isName (d + 3 * lv + 44) (σ := σ)  hR) (fun r2 σ3 hp => ?_)
  obtain ⟨v4, rfl, rfl, f5, f6, f7⟩ := hp
  show Tm _ _ 9 b σ [(1, .int (iI (σ.1 19))), (0, .ref b)] [.int (iI v4)] _
  have q0 := f6
  have n0_ := f7
  refine tm_if_ne (tgt := 57) dX12_statement_9 (by decide) ⟨by omega, by omega⟩ (fun h8 => ?_) (fun h8 => ?_)
  · refine tm_sub [0, 1] rfl (b_stm57 (d) (σ := σ) (p := σ.1 19) hcb hR hrd hnn k28 k29 ht (Or.inl (q0 (by omega))) rfl (by omega) (fun v τ z1 z2 z3 z4 z5 z6 => ⟨_, rfl, z3, z1, z2, z4, z5, z6⟩) _  rfl)
  · refine tm_aload_n dX12_statement_12 rfl 1 rfl ?_
    refine tm_ldc2 dX12_statement_13 cst12_242 ?_
    refine tm_callV (M := m_X12_statement) (pc := 16) (ix := 339) (M' := m_X12_isWord) (As := [.long (7304564)]) (rest := []) dX12_statement_16 ok_X12_isWord im_X12_isWord se_X12_isWord ml12_339 np_X12_isWord rfl rfl (Nat.le_of_ble_eq_true rfl) (Nat.le_of_ble_eq_true rfl) rfl (c2_X12_isWord (d + 3 * lv + 44) (σ := σ) (w := 7304564) hR) (fun r9 σ10 hp => ?_)
    obtain ⟨v11, rfl, rfl, f12, f13, f14⟩ := hp
    show Tm _ _ 19 b σ [(1, .int (iI (σ.1 19))), (0, .ref b)] [.int (iI v11)] _
    have q1 := f13
    have n1_ := f14
    refine tm_if_ne (tgt := 57) dX12_statement_19 (by decide) ⟨by omega, by omega⟩ (fun h15 => ?_) (fun h15 => ?_)
    · refine tm_sub [0, 1] rfl (b_stm57 (d) (σ := σ) (p := σ.1 19) hcb hR hrd hnn k28 k29 ht (Or.inr (Or.inl (q1 (by omega)))) rfl (by omega) (fun v τ z1 z2 z3 z4 z5 z6 => ⟨_, rfl, z3, z1, z2, z4, z5, z6⟩) _  rfl)
    · refine tm_aload_n dX12_statement_22 rfl 1 rfl ?_
      refine tm_ldc2 dX12_statement_23 cst12_244 ?_
      refine tm_callV (M := m_X12_statement) (pc := 26) (ix := 339) (M' := m_X12_isWord) (As := [.long (125780071117422)]) (rest := []) dX12_statement_26 ok_X12_isWord im_X12_isWord se_X12_isWord ml12_339 np_X12_isWord rfl rfl (Nat.le_of_ble_eq_true rfl) (Nat.le_of_ble_eq_true rfl) rfl (c2_X12_isWord (d + 3 * lv + 44) (σ := σ) (w := 125780071117422) hR) (fun r16 σ17 hp => ?_)
      obtain ⟨v18, rfl, rfl, f19, f20, f21⟩ := hp
      show Tm _ _ 29 b σ [(1, .int (iI (σ.1 19))), (0, .ref b)] [.int (iI v18)] _
      have q2 := f20
      have n2_ := f21
      refine tm_if_ne (tgt := 57) dX12_statement_29 (by decide) ⟨by omega, by omega⟩ (fun h22 => ?_) (fun h22 => ?_)
      · refine tm_sub [0, 1] rfl (b_stm57 (d) (σ := σ) (p := σ.1 19) hcb hR hrd hnn k28 k29 ht (Or.inr (Or.inr (Or.inl (q2 (by omega))))) rfl (by omega) (fun v τ z1 z2 z3 z4 z5 z6 => ⟨_, rfl, z3, z1, z2, z4, z5, z6⟩) _  rfl)
      · refine tm_aload_n dX12_statement_32 rfl 1 rfl ?_
        refine tm_ldc2 dX12_statement_33 cst12_246 ?_
        refine tm_callV (M := m_X12_statement) (pc := 36) (ix := 339) (M' := m_X12_isWord) (As := [.long (26982)]) (rest := []) dX12_statement_36 ok_X12_isWord im_X12_isWord se_X12_isWord ml12_339 np_X12_isWord rfl rfl (Nat.le_of_ble_eq_true rfl) (Nat.le_of_ble_eq_true rfl) rfl (c2_X12_isWord (d + 3 * lv + 44) (σ := σ) (w := 26982) hR) (fun r23 σ24 hp => ?_)
        obtain ⟨v25, rfl, rfl, f26, f27, f28⟩ := hp
        show Tm _ _ 39 b σ [(1, .int (iI (σ.1 19))), (0, .ref b)] [.int (iI v25)] _
        have q3 := f27
        have n3_ := f28
        refine tm_if_ne (tgt := 57) dX12_statement_39 (by decide) ⟨by omega, by omega⟩ (fun h32 => ?_) (fun h32 => ?_)
        · refine tm_sub [0, 1] rfl (b_stm57 (d) (σ := σ) (p := σ.1 19) hcb hR hrd hnn k28 k29 ht (Or.inr (Or.inr (Or.inr (Or.inl (q3 (by omega)))))) rfl (by omega) (fun v τ z1 z2 z3 z4 z5 z6 => ⟨_, rfl, z3, z1, z2, z4, z5, z6⟩) _  rfl)
        · refine tm_aload_n dX12_statement_42 rfl 1 rfl ?_
          refine tm_ldc2 dX12_statement_43 cst12_250 ?_
          refine tm_callV (M := m_X12_statement) (pc := 46) (ix := 339) (M' := m_X12_isWord) (As := [.long (512852847717)]) (rest := []) dX12_statement_46 ok_X12_isWord im_X12_isWord se_X12_isWord ml12_339 np_X12_isWord rfl rfl (Nat.le_of_ble_eq_true rfl) (Nat.le_of_ble_eq_true rfl) rfl (c2_X12_isWord (d + 3 * lv + 44) (σ := σ) (w := 512852847717) hR) (fun r33 σ34 hp => ?_)
          obtain ⟨v35, rfl, rfl, f36, f37, f38⟩ := hp
          show Tm _ _ 49 b σ [(1, .int (iI (σ.1 19))), (0, .ref b)] [.int (iI v35)] _
          have q4 := f37
          have n4_ := f38
          refine tm_if_ne (tgt := 57) dX12_statement_49 (by decide) ⟨by omega, by omega⟩ (fun h39 => ?_) (fun h39 => ?_)
          · refine tm_sub [0, 1] rfl (b_stm57 (d) (σ := σ) (p := σ.1 19) hcb hR hrd hnn k28 k29 ht (Or.inr (Or.inr (Or.inr (Or.inr ((q4 (by omega))))))) rfl (by omega) (fun v τ z1 z2 z3 z4 z5 z6 => ⟨_, rfl, z3, z1, z2, z4, z5, z6⟩) _  rfl)
          · refine tm_aload_n dX12_statement_52 rfl 1 rfl ?_
            refine tm_callV (M := m_X12_statement) (pc := 53) (ix := 261) (M' := m_X12_wrong) (As := []) (rest := []) dX12_statement_53 ok_X12_wrong im_X12_wrong se_X12_wrong ml12_261 np_X12_wrong rfl rfl (Nat.le_of_ble_eq_true rfl) (Nat.le_of_ble_eq_true rfl) rfl (c_X12_wrong (d + 3 * lv + 44) (σ := σ)  hR) (fun r40 σ41 hp => ?_)
            obtain ⟨v42, rfl, f43, f44, f45, f46, f47, f48⟩ := hp
            show Tm _ _ 56 b σ41 [(1, .int (iI (σ.1 19))), (0, .ref b)] [.int (iI v42)] _
            exact tm_zret (v := v42) rfl (by omega) dX12_statement_56 (⟨_, rfl, by omega, (Fr.rfl.trans (Fr.sub f44 (by decide) (by decide) (by decide))), f45, ((TS.start hrd hnn : TS 20 0 σ [20] σ qq []).fail (PBF.of hnn f44 (by decide) (by decide) (by decide) (FLT.wr f47 f48)) (g20f (n4_ (by omega)) (n3_ (by omega)) (n1_ (by omega)) (n2_ (by omega)) (n0_ (by omega)) (WRG.of f48))).1, fun q => absurd q (by omega), fun _ => ((TS.start hrd hnn : TS 20 0 σ [20] σ qq []).fail (PBF.of hnn f44 (by decide) (by decide) (by decide) (FLT.wr f47 f48)) (g20f (n4_ (by omega)) (n3_ (by omega)) (n1_ (by omega)) (n2_ (by omega)) (n0_ (by omega)) (WRG.of f48))).2⟩)
end
section
theorem ml12_336 : Cond.methodLink RX12 336 yX12_statement ∈ pWW := pw8 (List.mem_of_getElem? (i := 193) rfl) rfl
theorem dX12_block_35 : decode cX12_block 35 = .ok (.aload_n 0, 1) := by decide +kernel
theorem dX12_block_36 : decode cX12_block 36 = .ok (.bipush 125, 2) := by decide +kernel
theorem dX12_block_38 : decode cX12_block 38 = .ok (.invokevirtual 258, 3) := by decide +kernel
theorem dX12_block_41 : decode cX12_block 41 = .ok (.ifCond .ne 12, 3) := by decide +kernel
theorem dX12_block_44 : decode cX12_block 44 = .ok (.aload_n 0, 1) := by decide +kernel
theorem dX12_block_45 : decode cX12_block 45 = .ok (.invokevirtual 336, 3) := by decide +kernel
theorem dX12_block_48 : decode cX12_block 48 = .ok (.ifCond .ne (-13), 3) := by decide +kernel
theorem dX12_block_51 : decode cX12_block 51 = .ok (.iconst 0, 1) := by decide +kernel
theorem dX12_block_52 : decode cX12_block 52 = .ok (.ireturn, 1) := by decide +kernel
set_option maxHeartbeats 4000000 in
set_option maxRecDepth 20000 in
theorem l_blk (d : Nat) {b : Nat} {σ0 : MS} {lv : Nat} {ρ : MS} {post : Option Value → MS → Prop} (hcb : ∀ (d : Nat) {b : Nat} {σ : MS} (hR : RG σ) (hrd : RDY σ) (hnn : NN σ) (h28 : σ.1 28 = 0) (h29 : σ.1 29 = 6 - (lv : Int)) (ht : 0 ≤ σ.1 43 ∧ σ.1 43 ≤ 260), Tm (d + 3 * lv + 44) m_X12_block 0 b σ [(0, .ref b)] [] (fun ro σ2 => ∃ v : Int, ro = some (.int (iI v)) ∧ ((v = 0 ∨ v = 1)) ∧ (Fr [19, 20, 22, 23, 26, 27, 28, 29, 31, 32, 33, 34, 39, 40] [3, 4, 5, 6, 7, 8, 35, 37, 41, 42] [24, 38] σ σ2) ∧ (RG σ2) ∧ (PBF σ σ2) ∧ (Im v 1 (BLQ 28 4 σ σ2)) ∧ (Im v 0 (∀ c : Int, GOF [28] σ (qq c) σ2)))) (hR0 : RG σ0) (ht : 0 ≤ σ0.1 43 ∧ σ0.1 43 ≤ 260) (h0r : 0 ≤ ρ.1 30 ∧ 0 ≤ ρ.1 34) (hx_53 : ∀ (σ : MS) , (Fr [19, 20, 22, 23, 26, 27, 28, 29, 31, 32, 33, 34, 39, 40] [3, 4, 5, 6, 7, 8, 35, 37, 41, 42] [24, 38] σ0 σ) → (RG σ) → (∃ lg, TS 28 2 ρ [29] σ qq lg ∧ SGF ρ σ lg ∧ FS ρ σ) → (σ.1 28 = 0) → (σ.1 29 = 6 - (lv : Int)) → (SG σ 125) → Tm (d + 3 * lv + 47) m_X12_block 53 b σ [(0, .ref b)] [] post) (hr0 : ∀ (τ : MS), Fr [19, 20, 22, 23, 26, 27, 28, 29, 31, 32, 33, 34, 39, 40] [3, 4, 5, 6, 7, 8, 35, 37, 41, 42] [24, 38] σ0 τ → RG τ → PBF ρ τ → (∀ c : Int, GOF [28] ρ (qq c) τ) → post (some (.int (iI 0))) τ) : ∀ (n : Nat) (σ : MS) , (Fr [19, 20, 22, 23, 26, 27, 28, 29, 31, 32, 33, 34, 39, 40] [3, 4, 5, 6, 7, 8, 35, 37, 41, 42] [24, 38] σ0 σ) → (RG σ) → (∃ lg, TS 28 2 ρ [29] σ qq lg ∧ SGF ρ σ lg ∧ FS ρ σ) → (σ.1 28 = 0) → (σ.1 29 = 6 - (lv : Int)) → (1300 - σ.1 19).toNat = n → Tm (d + 3 * lv + 47) m_X12_block 35 b σ [(0, .ref b)] [] post := by
  intro n
  induction n using Nat.strongRecOn with
  | _ n ih =>
    intro  σ hF hR hts h28 h29 hm
    obtain ⟨lg, ts, sg, fs⟩ := hts
    have tkb := ts.2.2.1.1.1
    have e43b : σ.1 43 = σ0.1 43 := hF.1 43 (by decide)
    refine tm_aload_n dX12_block_35 rfl 0 rfl ?_
    refine tm_bipush dX12_block_36 (by decide) ?_
    refine tm_callV (M := m_X12_block) (pc := 38) (ix := 258) (M' := m_X12_isSign) (As := [.int (iI 125)]) (rest := []) dX12_block_38 ok_X12_isSign im_X12_isSign se_X12_isSign ml12_258 np_X12_isSign rfl rfl (Nat.le_of_ble_eq_true rfl) (Nat.le_of_ble_eq_true rfl) rfl (c2_X12_isSign (d + 3 * lv + 45) (σ := σ) (c := 125) hR (by omega)) (fun r1 σ2 hp => ?_)
    obtain ⟨v3, rfl, rfl, f4, f5, f6⟩ := hp
    show Tm _ _ 41 b σ [(0, .ref b)] [.int (iI v3)] _
    have i125 := f5
    have n125_ := f6
    refine tm_if_ne (tgt := 53) dX12_block_41 (by decide) ⟨by omega, by omega⟩ (fun h7 => ?_) (fun h7 => ?_)
    · exact tm_sub [0] rfl (hx_53  σ (Fr.rfl.trans (Fr.sub hF (by decide) (by decide) (by decide))) hR ⟨lg, ts, sg, fs⟩ h28 h29 (i125 (by omega)))
    · refine tm_aload_n dX12_block_44 rfl 0 rfl ?_
      refine tm_callV (M := m_X12_block) (pc := 45) (ix := 336) (M' := m_X12_statement) (As := []) (rest := []) dX12_block_45 ok_X12_statement im_X12_statement se_X12_statement ml12_336 np_X12_statement rfl rfl (Nat.le_of_ble_eq_true rfl) (Nat.le_of_ble_eq_true rfl) rfl (c_X12_statement (d) (σ := σ)  hcb hR ts.2.2.1 ts.nn h28 h29 (by rw [e43b]; exact ht)) (fun r8 σ9 hp => ?_)
      obtain ⟨v10, rfl, f11, f12, f13, f14, f15, f16⟩ := hp
      show Tm _ _ 48 b σ9 [(0, .ref b)] [.int (iI v10)] _
      have sp0 := f11
      have sp1 := f12
      have sp2 := f13
      have sp3 := f14
      have sp4 := f15
      have sp5 := f16
      refine tm_if_ne (tgt := 35) dX12_block_48 (by decide) ⟨by omega, by omega⟩ (fun h17 => ?_) (fun h17 => ?_)
      · obtain ⟨l2, t2, s2, f2, a28, a29⟩ := sp4 (by omega)
        have z1 := t2.2.1
        unfold PBC at z1
        have z2 := sp3.2.2.2.2.2.1
        have z3 := t2.2.2.1.1.1
        exact tm_sub [0] rfl (ih _ (by omega)  σ9 ((Fr.rfl.trans (Fr.sub hF (by decide) (by decide) (by decide))).trans (Fr.sub f12 (by decide) (by decide) (by decide))) f13 (⟨_, ((ts.nxt (g29n (n125_ (by omega)))).sub t2).le (by decide), sg.cat s2 ts.1 sp3 ts.2.2.2.1 t2.2.2.2.1 h0r, fs.cat f2 ts.1 sp3 h0r⟩) (a28.trans h28) (a29.trans h29) rfl)
      · refine tm_iconst dX12_block_51 ?_
        exact tm_zret (v := 0) rfl (by decide) dX12_block_52 ((fun z => hr0 _ ((Fr.rfl.trans (Fr.sub hF (by decide) (by decide) (by decide))).trans (Fr.sub f12 (by decide) (by decide) (by decide))) f13 z.1 z.2) ((ts.nxt (g29n (n125_ (by omega)))).fail sp3 (sp5 (by omega) _)))
theorem fl12_333 : Cond.fieldLink RX12 333 (TX12 29).1 (TX12 29).2.1 (TX12 29).2.2.1 ∈ pWW := pw7 (List.mem_of_getElem? (i := 36) rfl) rfl
theorem dX12_block_0 : decode cX12_block 0 = .ok (.aload_n 0, 1) := by decide +kernel
theorem dX12_block_1 : decode cX12_block 1 = .ok (.getfield 333, 3) := by decide +kernel
theorem dX12_block_4 : decode cX12_block 4 = .ok (.bipush 6, 2) := by decide +kernel
theorem dX12_block_6 : decode cX12_block 6 = .ok (.if_icmp .ne 8, 3) := by decide +kernel
theorem dX12_block_14 : decode cX12_block 14 = .ok (.aload_n 0, 1) := by decide +kernel
theorem dX12_block_15 : decode cX12_block 15 = .ok (.dup, 1) := by decide +kernel
theorem dX12_block_16 : decode cX12_block 16 = .ok (.getfield 333, 3) := by decide +kernel
theorem dX12_block_19 : decode cX12_block 19 = .ok (.iconst 1, 1) := by decide +kernel
theorem dX12_block_20 : decode cX12_block 20 = .ok (.iadd, 1) := by decide +kernel
theorem dX12_block_21 : decode cX12_block 21 = .ok (.putfield 333, 3) := by decide +kernel
theorem dX12_block_24 : decode cX12_block 24 = .ok (.aload_n 0, 1) := by decide +kernel
theorem dX12_block_25 : decode cX12_block 25 = .ok (.bipush 123, 2) := by decide +kernel
theorem dX12_block_27 : decode cX12_block 27 = .ok (.invokevirtual 330, 3) := by decide +kernel
theorem dX12_block_30 : decode cX12_block 30 = .ok (.ifCond .ne 5, 3) := by decide +kernel
theorem dX12_block_53 : decode cX12_block 53 = .ok (.aload_n 0, 1) := by decide +kernel
theorem dX12_block_54 : decode cX12_block 54 = .ok (.invokevirtual 265, 3) := by decide +kernel
theorem dX12_block_57 : decode cX12_block 57 = .ok (.aload_n 0, 1) := by decide +kernel
theorem dX12_block_58 : decode cX12_block 58 = .ok (.dup, 1) := by decide +kernel
theorem dX12_block_59 : decode cX12_block 59 = .ok (.getfield 333, 3) := by decide +kernel
theorem dX12_block_62 : decode cX12_block 62 = .ok (.iconst 1, 1) := by decide +kernel
theorem dX12_block_63 : decode cX12_block 63 = .ok (.isub, 1) := by decide +kernel
theorem dX12_block_64 : decode cX12_block 64 = .ok (.putfield 333, 3) := by decide +kernel
theorem dX12_block_67 : decode cX12_block 67 = .ok (.iconst 1, 1) := by decide +kernel
theorem dX12_block_68 : decode cX12_block 68 = .ok (.ireturn, 1) := by decide +kernel
theorem dX12_block_33 : decode cX12_block 33 = .ok (.iconst 0, 1) := by decide +kernel
theorem dX12_block_34 : decode cX12_block 34 = .ok (.ireturn, 1) := by decide +kernel
set_option maxHeartbeats 4000000 in
set_option maxRecDepth 20000 in
theorem cs_X12_block (d : Nat) {b : Nat} {σ : MS} {lv : Nat} (hcb : ∀ (d : Nat) {b : Nat} {σ : MS} (hR : RG σ) (hrd : RDY σ) (hnn : NN σ) (h28 : σ.1 28 = 0) (h29 : σ.1 29 = 6 - (lv : Int)) (ht : 0 ≤ σ.1 43 ∧ σ.1 43 ≤ 260), Tm (d + 3 * lv + 44) m_X12_block 0 b σ [(0, .ref b)] [] (fun ro σ2 => ∃ v : Int, ro = some (.int (iI v)) ∧ ((v = 0 ∨ v = 1)) ∧ (Fr [19, 20, 22, 23, 26, 27, 28, 29, 31, 32, 33, 34, 39, 40] [3, 4, 5, 6, 7, 8, 35, 37, 41, 42] [24, 38] σ σ2) ∧ (RG σ2) ∧ (PBF σ σ2) ∧ (Im v 1 (BLQ 28 4 σ σ2)) ∧ (Im v 0 (∀ c : Int, GOF [28] σ (qq c) σ2)))) (hR : RG σ) (hrd : RDY σ) (hnn : NN σ) (h28 : σ.1 28 = 0) (h29 : σ.1 29 = 5 - (lv : Int)) (ht : 0 ≤ σ.1 43 ∧ σ.1 43 ≤ 260) : Tm (d + 3 * lv + 47) m_X12_block 0 b σ [(0, .ref b)] [] (fun ro σ2 => ∃ v : Int, ro = some (.int (iI v)) ∧ ((v = 0 ∨ v = 1)) ∧ (Fr [19, 20, 22, 23, 26, 27, 28, 29, 31, 32, 33, 34, 39, 40] [3, 4, 5, 6, 7, 8, 35, 37, 41, 42] [24, 38] σ σ2) ∧ (RG σ2) ∧ (PBF σ σ2) ∧ (Im v 1 (BLQ 28 4 σ σ2)) ∧ (Im v 0 (∀ c : Int, GOF [28] σ (qq c) σ2))) := by
  have rd0 := hrd.2
  have h0r : 0 ≤ σ.1 30 ∧ 0 ≤ σ.1 34 := ⟨hrd.2.2.1.1, hrd.2.2.2.1.1⟩
  refine tm_aload_n dX12_block_0 rfl 0 rfl ?_
  refine tm_getS (k := 29) (t := σ.1 29) dX12_block_1 (by decide) fl12_333 rfl (rfl) ?_
  have g1 := RG.s hR 29
  refine tm_bipush dX12_block_4 (by decide) ?_
  refine tm_icmp_ne (tgt := 14) dX12_block_6 (by decide) ⟨by omega, by omega⟩ ⟨by decide, by decide⟩ (fun h2 => ?_) (fun h2 => ?_)
  · refine tm_aload_n dX12_block_14 rfl 0 rfl ?_
    refine tm_dup dX12_block_15 rfl ?_
    refine tm_getS (k := 29) (t := σ.1 29) dX12_block_16 (by decide) fl12_333 rfl (rfl) ?_
    have g3 := RG.s hR 29
    refine tm_iconst dX12_block_19 ?_
    refine tm_iadd dX12_block_20 ?_
    refine tm_putS (k := 29) (v := (σ.1 29) + 1) lay_12 dX12_block_21 (by decide) fl12_333 rfl (tyX12_ok 29 (by decide)) rfl rfl rfl ?_
    have ts1 := (TS.start hrd hnn : TS 28 0 σ [28] σ qq []).blk (show Fr [29] [] [] σ (sS 29 ((σ.1 29) + 1) σ) from (Fr.rfl.S (by decide))) (g28 (by omega) ⟨rfl, rfl, rfl, rfl⟩)
    have tk1 := ts1.2.2.1.1.1
    refine tm_aload_n dX12_block_24 rfl 0 rfl ?_
    refine tm_bipush dX12_block_25 (by decide) ?_
    refine tm_callV (M := m_X12_block) (pc := 27) (ix := 330) (M' := m_X12_need) (As := [.int (iI 123)]) (rest := []) dX12_block_27 ok_X12_need im_X12_need se_X12_need ml12_330 np_X12_need rfl rfl (Nat.le_of_ble_eq_true rfl) (Nat.le_of_ble_eq_true rfl) rfl (c_X12_need (d + 3 * lv + 40) (σ := (sS 29 ((σ.1 29) + 1) σ)) (c := 123) (hR.S (by omega)) (by omega) (by omega)) (fun r4 σ5 hp => ?_)
    obtain ⟨v6, rfl, f7, f8, f9, f10, f11, f12, f13⟩ := hp
    show Tm _ _ 30 b σ5 [(0, .ref b)] [.int (iI v6)] _
    have yn0 := f7
    have yn1 := f8
    have yn2 := f9
    have yn3 := f10
    have yn4 := f11
    have yn5 := f12
    have yn6 := f13
    refine tm_if_ne (tgt := 35) dX12_block_30 (by decide) ⟨by omega, by omega⟩ (fun h14 => ?_) (fun h14 => ?_)
    · have ynq := yn3 (by omega)
      have ts2 := ts1.needy yn1 ynq.2.2.1 ynq.2.2.2.1 ynq.2.2.2.2 (by have z := ynq.1.1; omega) (gn_123 ynq.1 ynq.2.1)
      refine tm_sub [0] rfl (l_blk (d) (σ0 := σ5) (ρ := σ) hcb f9 (by rw [show σ5.1 43 = σ.1 43 from rs_F f8 (by decide) (rs_o (by decide) (rfl))]; exact ht) ⟨hrd.2.2.1.1, hrd.2.2.2.1.1⟩ (fun σ22 F16 R17 f18 f19 f20 f21 => ?_) (fun τ z1 z2 z3 z4 => ⟨_, rfl, by omega, (show Fr [19, 20, 22, 23, 26, 27, 28, 29, 31, 32, 33, 34, 39, 40] [3, 4, 5, 6, 7, 8, 35, 37, 41, 42] [24, 38] σ σ5 from ((Fr.rfl.S (by decide)).trans (Fr.sub f8 (by decide) (by decide) (by decide)))).trans z1, z2, z3, fun q => absurd q (by decide), fun _ => z4⟩) _ σ5 Fr.rfl f9 ⟨[], ts2.le (by decide), SGF.nil (show σ5.1 34 = σ.1 34 from rs_F f8 (by decide) (rs_o (by decide) (rfl))) (by rw [show σ5.1 33 = σ.1 33 from rs_F f8 (by decide) (rs_o (by decide) (rfl))]; omega), FS.nil (show σ5.1 34 = σ.1 34 from rs_F f8 (by decide) (rs_o (by decide) (rfl)))⟩ ((show σ5.1 28 = σ.1 28 from rs_F f8 (by decide) (rs_o (by decide) (rfl))).trans h28) (by rw [show σ5.1 29 = (σ.1 29) + 1 from rs_F f8 (by decide) (rs_eq)]; omega) rfl)
      show Tm _ _ 53 b σ22 [(0, .ref b)] [] _
      obtain ⟨lg, ts3, sg, fs⟩ := f18
      have l28 := f19
      have l29 := f20
      have l125 := f21
      have tk3 := ts3.2.2.1.1.1
      have R53 := R17
      refine tm_aload_n dX12_block_53 rfl 0 rfl ?_
      refine tm_callV (M := m_X12_block) (pc := 54) (ix := 265) (M' := m_X12_advance) (As := []) (rest := []) dX12_block_54 ok_X12_advance im_X12_advance se_X12_advance ml12_265 np_X12_advance rfl rfl (Nat.le_of_ble_eq_true rfl) (Nat.le_of_ble_eq_true rfl) rfl (c_X12_advance (d + 3 * lv + 41) (σ := σ22)  R53 (by omega)) (fun r23 σ24 hp => ?_)
      obtain ⟨rfl, f26, f27, f28, f29, f30⟩ := hp
      show Tm _ _ 57 b σ24 [(0, .ref b)] [] _
      have ad0 := f26
      have ad1 := f27
      have ad2 := f28
      have ad3 := f29
      have ad4 := f30
      have ts4 := ts3.adv ad1 ad3 ad4 (by have z := l125.1; omega) (g29y l125 ad0)
      have e29d : σ24.1 29 = 6 - (lv : Int) := (ad1.1 29 (by decide)).trans l29
      refine tm_aload_n dX12_block_57 rfl 0 rfl ?_
      refine tm_dup dX12_block_58 rfl ?_
      refine tm_getS (k := 29) (t := σ22.1 29) dX12_block_59 (by decide) fl12_333 rfl (rs_F f27 (by decide) (rfl)) ?_
      have g31 := RG.s R17 29
      refine tm_iconst dX12_block_62 ?_
      refine tm_isub dX12_block_63 ?_
      refine tm_putS (k := 29) (v := (σ22.1 29) - 1) lay_12 dX12_block_64 (by decide) fl12_333 rfl (tyX12_ok 29 (by decide)) rfl rfl rfl ?_
      have fz := (show Fr [29] [] [] σ24 (sS 29 ((σ22.1 29) - 1) σ24) from (Fr.rfl.S (by decide)))
      have ts5 := ts4.blk fz (g40 ⟨rfl, by unfold xs; rw [show (sS 29 ((σ22.1 29) - 1) σ24).1 29 = (σ22.1 29) - 1 from rs_eq, fz.1 28 (by decide), fz.1 34 (by decide), ad1.1 29 (by decide)], rfl, rfl⟩)
      have pbz : PBF σ22 (sS 29 ((σ22.1 29) - 1) σ24) := (PBF.nop ts3.nn ad1 (by decide) (by decide) (by decide)).trans (PBF.nop ts4.nn fz (by decide) (by decide) (by decide))
      have e34z : (sS 29 ((σ22.1 29) - 1) σ24).1 34 = σ22.1 34 := (fz.1 34 (by decide)).trans (ad1.1 34 (by decide))
      have e33z : (sS 29 ((σ22.1 29) - 1) σ24).1 33 = σ22.1 33 := (fz.1 33 (by decide)).trans (ad1.1 33 (by decide))
      have tbz : TBm σ22 (sS 29 ((σ22.1 29) - 1) σ24) := (TBm.of ad1 (by decide) (by decide) (by decide) (by decide)).trans (TBm.of fz (by decide) (by decide) (by decide) (by decide))
      refine tm_iconst dX12_block_67 ?_
      exact tm_zret (v := 1) rfl (by decide) dX12_block_68 (⟨_, rfl, by omega, (((((Fr.rfl.S (by decide)).trans (Fr.sub f8 (by decide) (by decide) (by decide))).trans (Fr.sub F16 (by decide) (by decide) (by decide))).trans (Fr.sub f27 (by decide) (by decide) (by decide))).S (by decide)), (f28.S (by omega)), ts5.1, fun _ => ⟨lg, ts5.le (by decide), (by have z := sg.cat (SGF.nil e34z (by rw [e33z]; omega) : SGF _ (sS 29 ((σ22.1 29) - 1) σ24) []) ts3.1 pbz ts3.2.2.2.1 tbz h0r; rw [List.append_nil] at z; exact z), fs.cat (FS.nil e34z) ts3.1 pbz h0r, (fz.1 28 (by decide)).trans ((ad1.1 28 (by decide)).trans (l28.trans h28.symm)), (by rw [show (sS 29 ((σ22.1 29) - 1) σ24).1 29 = (σ22.1 29) - 1 from rs_eq]; omega)⟩, fun q => absurd q (by decide)⟩)
    · refine tm_iconst dX12_block_33 ?_
      exact tm_zret (v := 0) rfl (by decide) dX12_block_34 (⟨_, rfl, by omega, ((Fr.rfl.S (by decide)).trans (Fr.sub f8 (by decide) (by decide) (by decide))), f9, (ts1.fail (PBF.of ts1.nn yn1 (by decide) (by decide) (by decide) yn5) (gf_123 (yn4 (by omega)) (yn6 (by omega)))).1, fun q => absurd q (by omega), fun _ => (ts1.fail (PBF.of ts1.nn yn1 (by decide) (by decide) (by decide) yn5) (gf_123 (yn4 (by omega)) (yn6 (by omega)))).2⟩)
  · exfalso; omega
theorem dX12_block_9 : decode cX12_block 9 = .ok (.aload_n 0, 1) := by decide +kernel
theorem dX12_block_10 : decode cX12_block 10 = .ok (.invokevirtual 261, 3) := by decide +kernel
theorem dX12_block_13 : decode cX12_block 13 = .ok (.ireturn, 1) := by decide +kernel
set_option maxHeartbeats 4000000 in
set_option maxRecDepth 20000 in
theorem c0_X12_block (d : Nat) {b : Nat} {σ : MS} (hR : RG σ) (hrd : RDY σ) (hnn : NN σ) (h28 : σ.1 28 = 0) (h29 : σ.1 29 = 6) (ht : 0 ≤ σ.1 43 ∧ σ.1 43 ≤ 260) : Tm (d + 44) m_X12_block 0 b σ [(0, .ref b)] [] (fun ro σ2 => ∃ v : Int, ro = some (.int (iI v)) ∧ ((v = 0 ∨ v = 1)) ∧ (Fr [19, 20, 22, 23, 26, 27, 28, 29, 31, 32, 33, 34, 39, 40] [3, 4, 5, 6, 7, 8, 35, 37, 41, 42] [24, 38] σ σ2) ∧ (RG σ2) ∧ (PBF σ σ2) ∧ (Im v 1 (BLQ 28 4 σ σ2)) ∧ (Im v 0 (∀ c : Int, GOF [28] σ (qq c) σ2))) := by
  refine tm_aload_n dX12_block_0 rfl 0 rfl ?_
  refine tm_getS (k := 29) (t := σ.1 29) dX12_block_1 (by decide) fl12_333 rfl (rfl) ?_
  have g1 := RG.s hR 29
  refine tm_bipush dX12_block_4 (by decide) ?_
  refine tm_icmp_ne (tgt := 14) dX12_block_6 (by decide) ⟨by omega, by omega⟩ ⟨by decide, by decide⟩ (fun h2 => ?_) (fun h2 => ?_)
  · exfalso; omega
  · refine tm_aload_n dX12_block_9 rfl 0 rfl ?_
    refine tm_callV (M := m_X12_block) (pc := 10) (ix := 261) (M' := m_X12_wrong) (As := []) (rest := []) dX12_block_10 ok_X12_wrong im_X12_wrong se_X12_wrong ml12_261 np_X12_wrong rfl rfl (Nat.le_of_ble_eq_true rfl) (Nat.le_of_ble_eq_true rfl) rfl (c_X12_wrong (d + 42) (σ := σ)  hR) (fun r3 σ4 hp => ?_)
    obtain ⟨v5, rfl, f6, f7, f8, f9, f10, f11⟩ := hp
    show Tm _ _ 13 b σ4 [(0, .ref b)] [.int (iI v5)] _
    exact tm_zret (v := v5) rfl (by omega) dX12_block_13 (⟨_, rfl, by omega, (Fr.rfl.trans (Fr.sub f7 (by decide) (by decide) (by decide))), f8, ((TS.start hrd hnn : TS 28 0 σ [28] σ qq []).fail (PBF.of hnn f7 (by decide) (by decide) (by decide) (FLT.wr f10 f11)) (g28f (by omega) (WRG.of f11))).1, fun q => absurd q (by omega), fun _ => ((TS.start hrd hnn : TS 28 0 σ [28] σ qq []).fail (PBF.of hnn f7 (by decide) (by decide) (by decide) (FLT.wr f10 f11)) (g28f (by omega) (WRG.of f11))).2⟩)
theorem c_blk : ∀ (lv : Nat), ∀ (d : Nat) {b : Nat} {σ : MS} (hR : RG σ) (hrd : RDY σ) (hnn : NN σ) (h28 : σ.1 28 = 0) (h29 : σ.1 29 = 6 - (lv : Int)) (ht : 0 ≤ σ.1 43 ∧ σ.1 43 ≤ 260), Tm (d + 3 * lv + 44) m_X12_block 0 b σ [(0, .ref b)] [] (fun ro σ2 => ∃ v : Int, ro = some (.int (iI v)) ∧ ((v = 0 ∨ v = 1)) ∧ (Fr [19, 20, 22, 23, 26, 27, 28, 29, 31, 32, 33, 34, 39, 40] [3, 4, 5, 6, 7, 8, 35, 37, 41, 42] [24, 38] σ σ2) ∧ (RG σ2) ∧ (PBF σ σ2) ∧ (Im v 1 (BLQ 28 4 σ σ2)) ∧ (Im v 0 (∀ c : Int, GOF [28] σ (qq c) σ2))) := by
  intro lv
  induction lv with
  | zero =>
    intro d b σ hR hrd hnn h28 h29 ht
    exact c0_X12_block d hR hrd hnn h28 (by omega) ht
  | succ lv ih =>
    intro d b σ hR hrd hnn h28 h29 ht
    rw [show d + 3 * (lv + 1) + 44 = d + 3 * lv + 47 by omega]
    exact cs_X12_block d (lv := lv) ih hR hrd hnn h28 (by omega) ht
theorem c_blk6 (d : Nat) {b : Nat} {σ : MS} (hR : RG σ) (hrd : RDY σ) (hnn : NN σ) (h28 : σ.1 28 = 0) (h29 : σ.1 29 = 0) (ht : 0 ≤ σ.1 43 ∧ σ.1 43 ≤ 260) : Tm (d + 62) m_X12_block 0 b σ [(0, .ref b)] [] (fun ro σ2 => ∃ v : Int, ro = some (.int (iI v)) ∧ ((v = 0 ∨ v = 1)) ∧ (Fr [19, 20, 22, 23, 26, 27, 28, 29, 31, 32, 33, 34, 39, 40] [3, 4, 5, 6, 7, 8, 35, 37, 41, 42] [24, 38] σ σ2) ∧ (RG σ2) ∧ (PBF σ σ2) ∧ (Im v 1 (BLQ 28 4 σ σ2)) ∧ (Im v 0 (∀ c : Int, GOF [28] σ (qq c) σ2))) := c_blk 6 d hR hrd hnn h28 (by omega) ht
end
