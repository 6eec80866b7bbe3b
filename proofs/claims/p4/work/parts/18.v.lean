theorem ml12_336 : Cond.methodLink RX12 336 yX12_statement ∈ pWW := pw8 (List.mem_of_getElem? (i := 193) rfl) rfl
theorem dX12_block_35 : decode cX12_block 35 = .ok (.aload_n 0, 1) := by decide +kernel
theorem dX12_block_36 : decode cX12_block 36 = .ok (.bipush 125, 2) := by decide +kernel
theorem dX12_block_38 : decode cX12_block 38 = .ok (.invokevirtual 258, 3) := by decide +kernel
theorem dX12_block_41 : decode cX12_block 41 = .ok (.ifCond .ne 12, 3) := by decide +kernel
theorem dX12_block_44 : decode cX12_block 44 = .ok (.aload_n 0, 1) := by decide +kernel
theorem dX12_block_45 : decode cX12_block 45 = .ok (.invokevirtual 336, 3) := by decide +kernel
theorem dX12_block_48 : decode cX12_block 48 = .ok (.ifCond .ne (-13), 3) := by decide +kernel
theorem dX12_block_51 : decode cX12_block 51 = .ok (.iconst 0, 1) := by decide +kernel
theorem dX12_block_52 : decode cX12_block 52 = .ok (.ireturn, 1) := by decide +kernel
set_option maxHeartbeats 4000000 in
set_option maxRecDepth 20000 in
theorem l_blk (d : Nat) {b : Nat} {σ0 : MS} {lv : Nat} {ρ : MS} {post : Option Value → MS → Prop} (hcb : ∀ (d : Nat) {b : Nat} {σ : MS} (hR : RG σ) (hrd : RDY σ) (hnn : NN σ) (h28 : σ.1 28 = 0) (h29 : σ.1 29 = 6 - (lv : Int)) (ht : 0 ≤ σ.1 43 ∧ σ.1 43 ≤ 260), Tm (d + 3 * lv + 44) m_X12_block 0 b σ [(0, .ref b)] [] (fun ro σ2 => ∃ v : Int, ro = some (.int (iI v)) ∧ ((v = 0 ∨ v = 1)) ∧ (Fr [19, 20, 22, 23, 26, 27, 28, 29, 31, 32, 33, 34, 39, 40] [3, 4, 5, 6, 7, 8, 35, 37, 41, 42] [24, 38] σ σ2) ∧ (RG σ2) ∧ (PBF σ σ2) ∧ (Im v 1 (BLQ 28 4 σ σ2)) ∧ (Im v 0 (∀ c : Int, GOF [28] σ (qq c) σ2)))) (hR0 : RG σ0) (ht : 0 ≤ σ0.1 43 ∧ σ0.1 43 ≤ 260) (h0r : 0 ≤ ρ.1 30 ∧ 0 ≤ ρ.1 34) (hx_53 : ∀ (σ : MS) , (Fr [19, 20, 22, 23, 26, 27, 28, 29, 31, 32, 33, 34, 39, 40] [3, 4, 5, 6, 7, 8, 35, 37, 41, 42] [24, 38] σ0 σ) → (RG σ) → (∃ lg, TS 28 2 ρ [29] σ qq lg ∧ SGF ρ σ lg ∧ FS ρ σ) → (σ.1 28 = 0) → (σ.1 29 = 6 - (lv : Int)) → (SG σ 125) → Tm (d + 3 * lv + 47) m_X12_block 53 b σ [(0, .ref b)] [] post) (hr0 : ∀ (τ : MS), Fr [19, 20, 22, 23, 26, 27, 28, 29, 31, 32, 33, 34, 39, 40] [3, 4, 5, 6, 7, 8, 35, 37, 41, 42] [24, 38] σ0 τ → RG τ → PBF ρ τ → (∀ c : Int, GOF [28] ρ (qq c) τ) → post (some (.int (iI 0))) τ) : ∀ (n : Nat) (σ : MS) , (Fr [19, 20, 22, 23, 26, 27, 28, 29, 31, 32, 33, 34, 39, 40] [3, 4, 5, 6, 7, 8, 35, 37, 41, 42] [24, 38] σ0 σ) → (RG σ) → (∃ lg, TS 28 2 ρ [29] σ qq lg ∧ SGF ρ σ lg ∧ FS ρ σ) → (σ.1 28 = 0) → (σ.1 29 = 6 - (lv : Int)) → (1300 - σ.1 19).toNat = n → Tm (d + 3 * lv + 47) m_X12_block 35 b σ [(0, .ref b)] [] post := by
  intro n
  induction n using Nat.strongRecOn with
  | _ n ih =>
    intro  σ hF hR hts h28 h29 hm
    obtain ⟨lg, ts, sg, fs⟩ := hts
    have tkb := ts.2.2.1.1.1
    have e43b : σ.1 43 = σ0.1 43 := hF.1 43 (by decide)
    refine tm_aload_n dX12_block_35 rfl 0 rfl ?_
    refine tm_bipush dX12_block_36 (by decide) ?_
    refine tm_callV (M := m_X12_block) (pc := 38) (ix := 258) (M' := m_X12_isSign) (As := [.int (iI 125)]) (rest := []) dX12_block_38 ok_X12_isSign im_X12_isSign se_X12_isSign ml12_258 np_X12_isSign rfl rfl (Nat.le_of_ble_eq_true rfl) (Nat.le_of_ble_eq_true rfl) rfl (c2_X12_isSign (d + 3 * lv + 45) (σ := σ) (c := 125) hR (by omega)) (fun r1 σ2 hp => ?_)
    obtain ⟨v3, rfl, rfl, f4, f5, f6⟩ := hp
    show Tm _ _ 41 b σ [(0, .ref b)] [.int (iI v3)] _
    have i125 := f5
    have n125_ := f6
    refine tm_if_ne (tgt := 53) dX12_block_41 (by decide) ⟨by omega, by omega⟩ (fun h7 => ?_) (fun h7 => ?_)
    · exact tm_sub [0] rfl (hx_53  σ (Fr.rfl.trans (Fr.sub hF (by decide) (by decide) (by decide))) hR ⟨lg, ts, sg, fs⟩ h28 h29 (i125 (by omega)))
    · refine tm_aload_n dX12_block_44 rfl 0 rfl ?_
      refine tm_callV (M := m_X12_block) (pc := 45) (ix := 336) (M' := m_X12_statement) (As := []) (rest := []) dX12_block_45 ok_X12_statement im_X12_statement se_X12_statement ml12_336 np_X12_statement rfl rfl (Nat.le_of_ble_eq_true rfl) (Nat.le_of_ble_eq_true rfl) rfl (c_X12_statement (d) (σ := σ)  hcb hR ts.2.2.1 ts.nn h28 h29 (by rw [e43b]; exact ht)) (fun r8 σ9 hp => ?_)
      obtain ⟨v10, rfl, f11, f12, f13, f14, f15, f16⟩ := hp
      show Tm _ _ 48 b σ9 [(0, .ref b)] [.int (iI v10)] _
      have sp0 := f11
      have sp1 := f12
      have sp2 := f13
      have sp3 := f14
      have sp4 := f15
      have sp5 := f16
      refine tm_if_ne (tgt := 35) dX12_block_48 (by decide) ⟨by omega, by omega⟩ (fun h17 => ?_) (fun h17 => ?_)
      · obtain ⟨l2, t2, s2, f2, a28, a29⟩ := sp4 (by omega)
        have z1 := t2.2.1
        unfold PBC at z1
        have z2 := sp3.2.2.2.2.2.1
        have z3 := t2.2.2.1.1.1
        exact tm_sub [0] rfl (ih _ (by omega)  σ9 ((Fr.rfl.trans (Fr.sub hF (by decide) (by decide) (by decide))).trans (Fr.sub f12 (by decide) (by decide) (by decide))) f13 (⟨_, ((ts.nxt (g29n (n125_ (by omega)))).sub t2).le (by decide), sg.cat s2 ts.1 sp3 ts.2.2.2.1 t2.2.2.2.1 h0r, fs.cat f2 ts.1 sp3 h0r⟩) (a28.trans h28) (a29.trans h29) rfl)
      · refine tm_iconst dX12_block_51 ?_
        exact tm_zret (v := 0) rfl (by decide) dX12_block_52 ((fun z => hr0 _ ((Fr.rfl.trans (Fr.sub hF (by decide) (by decide) (by decide))).trans (Fr.sub f12 (by decide) (by decide) (by decide))) f13 z.1 z.2) ((ts.nxt (g29n (n125_ (by omega)))).fail sp3 (sp5 (by omega) _)))
theorem fl12_333 : Cond.fieldLink RX12 333 (TX12 29).1 (TX12 29).2.1 (TX12 29).2.2.1 ∈ pWW := pw7 (List.mem_of_getElem? (i := 36) rfl) rfl
theorem dX12_block_0 : decode cX12_block 0 = .ok (.aload_n 0, 1) := by decide +kernel
theorem dX12_block_1 : decode cX12_block 1 = .ok (.getfield 333, 3) := by decide +kernel
theorem dX12_block_4 : decode cX12_block 4 = .ok (.bipush 6, 2) := by decide +kernel
theorem dX12_block_6 : decode cX12_block 6 = .ok (.if_icmp .ne 8, 3) := by decide +kernel
theorem dX12_block_14 : decode cX12_block 14 = .ok (.aload_n 0, 1) := by decide +kernel
theorem dX12_block_15 : decode cX12_block 15 = .ok (.dup, 1) := by decide +kernel
theorem dX12_block_16 : decode cX12_block 16 = .ok (.getfield 333, 3) := by decide +kernel
theorem dX12_block_19 : decode cX12_block 19 = .ok (.iconst 1, 1) := by decide +kernel
theorem dX12_block_20 : decode cX12_block 20 = .ok (.iadd, 1) := by decide +kernel
theorem dX12_block_21 : decode cX12_block 21 = .ok (.putfield 333, 3) := by decide +kernel
theorem dX12_block_24 : decode cX12_block 24 = .ok (.aload_n 0, 1) := by decide +kernel
theorem dX12_block_25 : decode cX12_block 25 = .ok (.bipush 123, 2) := by decide +kernel
theorem dX12_block_27 : decode cX12_block 27 = .ok (.invokevirtual 330, 3) := by decide +kernel
theorem dX12_block_30 : decode cX12_block 30 = .ok (.ifCond .ne 5, 3) := by decide +kernel
theorem dX12_block_53 : decode cX12_block 53 = .ok (.aload_n 0, 1) := by decide +kernel
theorem dX12_block_54 : decode cX12_block 54 = .ok (.invokevirtual 265, 3) := by decide +kernel
theorem dX12_block_57 : decode cX12_block 57 = .ok (.aload_n 0, 1) := by decide +kernel
theorem dX12_block_58 : decode cX12_block 58 = .ok (.dup, 1) := by decide +kernel
theorem dX12_block_59 : decode cX12_block 59 = .ok (.getfield 333, 3) := by decide +kernel
theorem dX12_block_62 : decode cX12_block 62 = .ok (.iconst 1, 1) := by decide +kernel
theorem dX12_block_63 : decode cX12_block 63 = .ok (.isub, 1) := by decide +kernel
theorem dX12_block_64 : decode cX12_block 64 = .ok (.putfield 333, 3) := by decide +kernel
theorem dX12_block_67 : decode cX12_block 67 = .ok (.iconst 1, 1) := by decide +kernel
theorem dX12_block_68 : decode cX12_block 68 = .ok (.ireturn, 1) := by decide +kernel
theorem dX12_block_33 : decode cX12_block 33 = .ok (.iconst 0, 1) := by decide +kernel
theorem dX12_block_34 : decode cX12_block 34 = .ok (.ireturn, 1) := by decide +kernel
set_option maxHeartbeats 4000000 in
set_option maxRecDepth 20000 in
theorem cs_X12_block (d : Nat) {b : Nat} {σ : MS} {lv : Nat} (hcb : ∀ (d : Nat) {b : Nat} {σ : MS} (hR : RG σ) (hrd : RDY σ) (hnn : NN σ) (h28 : σ.1 28 = 0) (h29 : σ.1 29 = 6 - (lv : Int)) (ht : 0 ≤ σ.1 43 ∧ σ.1 43 ≤ 260), Tm (d + 3 * lv + 44) m_X12_block 0 b σ [(0, .ref b)] [] (fun ro σ2 => ∃ v : Int, ro = some (.int (iI v)) ∧ ((v = 0 ∨ v = 1)) ∧ (Fr [19, 20, 22, 23, 26, 27, 28, 29, 31, 32, 33, 34, 39, 40] [3, 4, 5, 6, 7, 8, 35, 37, 41, 42] [24, 38] σ σ2) ∧ (RG σ2) ∧ (PBF σ σ2) ∧ (Im v 1 (BLQ 28 4 σ σ2)) ∧ (Im v 0 (∀ c : Int, GOF [28] σ (qq c) σ2)))) (hR : RG σ) (hrd : RDY σ) (hnn : NN σ) (h28 : σ.1 28 = 0) (h29 : σ.1 29 = 5 - (lv : Int)) (ht : 0 ≤ σ.1 43 ∧ σ.1 43 ≤ 260) : Tm (d + 3 * lv + 47) m_X12_block 0 b σ [(0, .ref b)] [] (fun ro σ2 => ∃ v : Int, ro = some (.int (iI v)) ∧ ((v = 0 ∨ v = 1)) ∧ (Fr [19, 20, 22, 23, 26, 27, 28, 29, 31, 32, 33, 34, 39, 40] [3, 4, 5, 6, 7, 8, 35, 37, 41, 42] [24, 38] σ σ2) ∧ (RG σ2) ∧ (PBF σ σ2) ∧ (Im v 1 (BLQ 28 4 σ σ2)) ∧ (Im v 0 (∀ c : Int, GOF [28] σ (qq c) σ2))) := by
  have rd0 := hrd.2
  have h0r : 0 ≤ σ.1 30 ∧ 0 ≤ σ.1 34 := ⟨hrd.2.2.1.1, hrd.2.2.2.1.1⟩
  refine tm_aload_n dX12_block_0 rfl 0 rfl ?_
  refine tm_getS (k := 29) (t := σ.1 29) dX12_block_1 (by decide) fl12_333 rfl (rfl) ?_
  have g1 := RG.s hR 29
  refine tm_bipush dX12_block_4 (by decide) ?_
  refine tm_icmp_ne (tgt := 14) dX12_block_6 (by decide) ⟨by omega, by omega⟩ ⟨by decide, by decide⟩ (fun h2 => ?_) (fun h2 => ?_)
  · refine tm_aload_n dX12_block_14 rfl 0 rfl ?_
    refine tm_dup dX12_block_15 rfl ?_
    refine tm_getS (k := 29) (t := σ.1 29) dX12_block_16 (by decide) fl12_333 rfl (rfl) ?_
    have g3 := RG.s hR 29
    refine tm_iconst dX12_block_19 ?_
    refine tm_iadd dX12_block_20 ?_
    refine tm_putS (k := 29) (v := (σ.1 29) + 1) lay_12 dX12_block_21 (by decide) fl12_333 rfl (tyX12_ok 29 (by decide)) rfl rfl rfl ?_
    have ts1 := (TS.start hrd hnn : TS 28 0 σ [28] σ qq []).blk (show Fr [29] [] [] σ (sS 29 ((σ.1 29) + 1) σ) from (Fr.rfl.S (by decide))) (g28 (by omega) ⟨rfl, rfl, rfl, rfl⟩)
    have tk1 := ts1.2.2.1.1.1
    refine tm_aload_n dX12_block_24 rfl 0 rfl ?_
    refine tm_bipush dX12_block_25 (by decide) ?_
    refine tm_callV (M := m_X12_block) (pc := 27) (ix := 330) (M' := m_X12_need) (As := [.int (iI 123)]) (rest := []) dX12_block_27 ok_X12_need im_X12_need se_X12_need ml12_330 np_X12_need rfl rfl (Nat.le_of_ble_eq_true rfl) (Nat.le_of_ble_eq_true rfl) rfl (c_X12_need (d + 3 * lv + 40) (σ := (sS 29 ((σ.1 29) + 1) σ)) (c := 123) (hR.S (by omega)) (by omega) (by omega)) (fun r4 σ5 hp => ?_)
    obtain ⟨v6, rfl, f7, f8, f9, f10, f11, f12, f13⟩ := hp
    show Tm _ _ 30 b σ5 [(0, .ref b)] [.int (iI v6)] _
    have yn0 := f7
    have yn1 := f8
    have yn2 := f9
    have yn3 := f10
    have yn4 := f11
    have yn5 := f12
    have yn6 := f13
    refine tm_if_ne (tgt := 35) dX12_block_30 (by decide) ⟨by omega, by omega⟩ (fun h14 => ?_) (fun h14 => ?_)
    · have ynq := yn3 (by omega)
      have ts2 := ts1.needy yn1 ynq.2.2.1 ynq.2.2.2.1 ynq.2.2.2.2 (by have z := ynq.1.1; omega) (gn_123 ynq.1 ynq.2.1)
      refine tm_sub [0] rfl (l_blk (d) (σ0 := σ5) (ρ := σ) hcb f9 (by rw [show σ5.1 43 = σ.1 43 from rs_F f8 (by decide) (rs_o (by decide) (rfl))]; exact ht) ⟨hrd.2.2.1.1, hrd.2.2.2.1.1⟩ (fun σ22 F16 R17 f18 f19 f20 f21 => ?_) (fun τ z1 z2 z3 z4 => ⟨_, rfl, by omega, (show Fr [19, 20, 22, 23, 26, 27, 28, 29, 31, 32, 33, 34, 39, 40] [3, 4, 5, 6, 7, 8, 35, 37, 41, 42] [24, 38] σ σ5 from ((Fr.rfl.S (by decide)).trans (Fr.sub f8 (by decide) (by decide) (by decide)))).trans z1, z2, z3, fun q => absurd q (by decide), fun _ => z4⟩) _ σ5 Fr.rfl f9 ⟨[], ts2.le (by decide), SGF.nil (show σ5.1 34 = σ.1 34 from rs_F f8 (by decide) (rs_o (by decide) (rfl))) (by rw [show σ5.1 33 = σ.1 33 from rs_F f8 (by decide) (rs_o (by decide) (rfl))]; omega), FS.nil (show σ5.1 34 = σ.1 34 from rs_F f8 (by decide) (rs_o (by decide) (rfl)))⟩ ((show σ5.1 28 = σ.1 28 from rs_F f8 (by decide) (rs_o (by decide) (rfl))).trans h28) (by rw [show σ5.1 29 = (σ.1 29) + 1 from rs_F f8 (by decide) (rs_eq)]; omega) rfl)
      show Tm _ _ 53 b σ22 [(0, .ref b)] [] _
      obtain ⟨lg, ts3, sg, fs⟩ := f18
      have l28 := f19
      have l29 := f20
      have l125 := f21
      have tk3 := ts3.2.2.1.1.1
      have R53 := R17
      refine tm_aload_n dX12_block_53 rfl 0 rfl ?_
      refine tm_callV (M := m_X12_block) (pc := 54) (ix := 265) (M' := m_X12_advance) (As := []) (rest := []) dX12_block_54 ok_X12_advance im_X12_advance se_X12_advance ml12_265 np_X12_advance rfl rfl (Nat.le_of_ble_eq_true rfl) (Nat.le_of_ble_eq_true rfl) rfl (c_X12_advance (d + 3 * lv + 41) (σ := σ22)  R53 (by omega)) (fun r23 σ24 hp => ?_)
      obtain ⟨rfl, f26, f27, f28, f29, f30⟩ := hp
      show Tm _ _ 57 b σ24 [(0, .ref b)] [] _
      have ad0 := f26
      have ad1 := f27
      have ad2 := f28
      have ad3 := f29
      have ad4 := f30
      have ts4 := ts3.adv ad1 ad3 ad4 (by have z := l125.1; omega) (g29y l125 ad0)
      have e29d : σ24.1 29 = 6 - (lv : Int) := (ad1.1 29 (by decide)).trans l29
      refine tm_aload_n dX12_block_57 rfl 0 rfl ?_
      refine tm_dup dX12_block_58 rfl ?_
      refine tm_getS (k := 29) (t := σ22.1 29) dX12_block_59 (by decide) fl12_333 rfl (rs_F f27 (by decide) (rfl)) ?_
      have g31 := RG.s R17 29
      refine tm_iconst dX12_block_62 ?_
      refine tm_isub dX12_block_63 ?_
      refine tm_putS (k := 29) (v := (σ22.1 29) - 1) lay_12 dX12_block_64 (by decide) fl12_333 rfl (tyX12_ok 29 (by decide)) rfl rfl rfl ?_
      have fz := (show Fr [29] [] [] σ24 (sS 29 ((σ22.1 29) - 1) σ24) from (Fr.rfl.S (by decide)))
      have ts5 := ts4.blk fz (g40 ⟨rfl, by unfold xs; rw [show (sS 29 ((σ22.1 29) - 1) σ24).1 29 = (σ22.1 29) - 1 from rs_eq, fz.1 28 (by decide), fz.1 34 (by decide), ad1.1 29 (by decide)], rfl, rfl⟩)
      have pbz : PBF σ22 (sS 29 ((σ22.1 29) - 1) σ24) := (PBF.nop ts3.nn ad1 (by decide) (by decide) (by decide)).trans (PBF.nop ts4.nn fz (by decide) (by decide) (by decide))
      have e34z : (sS 29 ((σ22.1 29) - 1) σ24).1 34 = σ22.1 34 := (fz.1 34 (by decide)).trans (ad1.1 34 (by decide))
      have e33z : (sS 29 ((σ22.1 29) - 1) σ24).1 33 = σ22.1 33 := (fz.1 33 (by decide)).trans (ad1.1 33 (by decide))
      have tbz : TBm σ22 (sS 29 ((σ22.1 29) - 1) σ24) := (TBm.of ad1 (by decide) (by decide) (by decide) (by decide)).trans (TBm.of fz (by decide) (by decide) (by decide) (by decide))
      refine tm_iconst dX12_block_67 ?_
      exact tm_zret (v := 1) rfl (by decide) dX12_block_68 (⟨_, rfl, by omega, (((((Fr.rfl.S (by decide)).trans (Fr.sub f8 (by decide) (by decide) (by decide))).trans (Fr.sub F16 (by decide) (by decide) (by decide))).trans (Fr.sub f27 (by decide) (by decide) (by decide))).S (by decide)), (f28.S (by omega)), ts5.1, fun _ => ⟨lg, ts5.le (by decide), (by have z := sg.cat (SGF.nil e34z (by rw [e33z]; omega) : SGF _ (sS 29 ((σ22.1 29) - 1) σ24) []) ts3.1 pbz ts3.2.2.2.1 tbz h0r; rw [List.append_nil] at z; exact z), fs.cat (FS.nil e34z) ts3.1 pbz h0r, (fz.1 28 (by decide)).trans ((ad1.1 28 (by decide)).trans (l28.trans h28.symm)), (by rw [show (sS 29 ((σ22.1 29) - 1) σ24).1 29 = (σ22.1 29) - 1 from rs_eq]; omega)⟩, fun q => absurd q (by decide)⟩)
    · refine tm_iconst dX12_block_33 ?_
      exact tm_zret (v := 0) rfl (by decide) dX12_block_34 (⟨_, rfl, by omega, ((Fr.rfl.S (by decide)).trans (Fr.sub f8 (by decide) (by decide) (by decide))), f9, (ts1.fail (PBF.of ts1.nn yn1 (by decide) (by decide) (by decide) yn5) (gf_123 (yn4 (by omega)) (yn6 (by omega)))).1, fun q => absurd q (by omega), fun _ => (ts1.fail (PBF.of ts1.nn yn1 (by decide) (by decide) (by decide) yn5) (gf_123 (yn4 (by omega)) (yn6 (by omega)))).2⟩)
  · exfalso; omega
theorem dX12_block_9 : decode cX12_block 9 = .ok (.aload_n 0, 1) := by decide +kernel
theorem dX12_block_10 : decode cX12_block 10 = .ok (.invokevirtual 261, 3) := by decide +kernel
theorem dX12_block_13 : decode cX12_block 13 = .ok (.ireturn, 1) := by decide +kernel
set_option maxHeartbeats 4000000 in
set_option maxRecDepth 20000 in
theorem c0_X12_block (d : Nat) {b : Nat} {σ : MS} (hR : RG σ) (hrd : RDY σ) (hnn : NN σ) (h28 : σ.1 28 = 0) (h29 : σ.1 29 = 6) (ht : 0 ≤ σ.1 43 ∧ σ.1 43 ≤ 260) : Tm (d + 44) m_X12_block 0 b σ [(0, .ref b)] [] (fun ro σ2 => ∃ v : Int, ro = some (.int (iI v)) ∧ ((v = 0 ∨ v = 1)) ∧ (Fr [19, 20, 22, 23, 26, 27, 28, 29, 31, 32, 33, 34, 39, 40] [3, 4, 5, 6, 7, 8, 35, 37, 41, 42] [24, 38] σ σ2) ∧ (RG σ2) ∧ (PBF σ σ2) ∧ (Im v 1 (BLQ 28 4 σ σ2)) ∧ (Im v 0 (∀ c : Int, GOF [28] σ (qq c) σ2))) := by
  refine tm_aload_n dX12_block_0 rfl 0 rfl ?_
  refine tm_getS (k := 29) (t := σ.1 29) dX12_block_1 (by decide) fl12_333 rfl (rfl) ?_
  have g1 := RG.s hR 29
  refine tm_bipush dX12_block_4 (by decide) ?_
  refine tm_icmp_ne (tgt := 14) dX12_block_6 (by decide) ⟨by omega, by omega⟩ ⟨by decide, by decide⟩ (fun h2 => ?_) (fun h2 => ?_)
  · exfalso; omega
  · refine tm_aload_n dX12_block_9 rfl 0 rfl ?_
    refine tm_callV (M := m_X12_block) (pc := 10) (ix := 261) (M' := m_X12_wrong) (As := []) (rest := []) dX12_block_10 ok_X12_wrong im_X12_wrong se_X12_wrong ml12_261 np_X12_wrong rfl rfl (Nat.le_of_ble_eq_true rfl) (Nat.le_of_ble_eq_true rfl) rfl (c_X12_wrong (d + 42) (σ := σ)  hR) (fun r3 σ4 hp => ?_)
    obtain ⟨v5, rfl, f6, f7, f8, f9, f10, f11⟩ := hp
    show Tm _ _ 13 b σ4 [(0, .ref b)] [.int (iI v5)] _
    exact tm_zret (v := v5) rfl (by omega) dX12_block_13 (⟨_, rfl, by omega, (Fr.rfl.trans (Fr.sub f7 (by decide) (by decide) (by decide))), f8, ((TS.start hrd hnn : TS 28 0 σ [28] σ qq []).fail (PBF.of hnn f7 (by decide) (by decide) (by decide) (FLT.wr f10 f11)) (g28f (by omega) (WRG.of f11))).1, fun q => absurd q (by omega), fun _ => ((TS.start hrd hnn : TS 28 0 σ [28] σ qq []).fail (PBF.of hnn f7 (by decide) (by decide) (by decide) (FLT.wr f10 f11)) (g28f (by omega) (WRG.of f11))).2⟩)
theorem c_blk : ∀ (lv : Nat), ∀ (d : Nat) {b : Nat} {σ : MS} (hR : RG σ) (hrd : RDY σ) (hnn : NN σ) (h28 : σ.1 28 = 0) (h29 : σ.1 29 = 6 - (lv : Int)) (ht : 0 ≤ σ.1 43 ∧ σ.1 43 ≤ 260), Tm (d + 3 * lv + 44) m_X12_block 0 b σ [(0, .ref b)] [] (fun ro σ2 => ∃ v : Int, ro = some (.int (iI v)) ∧ ((v = 0 ∨ v = 1)) ∧ (Fr [19, 20, 22, 23, 26, 27, 28, 29, 31, 32, 33, 34, 39, 40] [3, 4, 5, 6, 7, 8, 35, 37, 41, 42] [24, 38] σ σ2) ∧ (RG σ2) ∧ (PBF σ σ2) ∧ (Im v 1 (BLQ 28 4 σ σ2)) ∧ (Im v 0 (∀ c : Int, GOF [28] σ (qq c) σ2))) := by
  intro lv
  induction lv with
  | zero =>
    intro d b σ hR hrd hnn h28 h29 ht
    exact c0_X12_block d hR hrd hnn h28 (by omega) ht
  | succ lv ih =>
    intro d b σ hR hrd hnn h28 h29 ht
    rw [show d + 3 * (lv + 1) + 44 = d + 3 * lv + 47 by omega]
    exact cs_X12_block d (lv := lv) ih hR hrd hnn h28 (by omega) ht
theorem c_blk6 (d : Nat) {b : Nat} {σ : MS} (hR : RG σ) (hrd : RDY σ) (hnn : NN σ) (h28 : σ.1 28 = 0) (h29 : σ.1 29 = 0) (ht : 0 ≤ σ.1 43 ∧ σ.1 43 ≤ 260) : Tm (d + 62) m_X12_block 0 b σ [(0, .ref b)] [] (fun ro σ2 => ∃ v : Int, ro = some (.int (iI v)) ∧ ((v = 0 ∨ v = 1)) ∧ (Fr [19, 20, 22, 23, 26, 27, 28, 29, 31, 32, 33, 34, 39, 40] [3, 4, 5, 6, 7, 8, 35, 37, 41, 42] [24, 38] σ σ2) ∧ (RG σ2) ∧ (PBF σ σ2) ∧ (Im v 1 (BLQ 28 4 σ σ2)) ∧ (Im v 0 (∀ c : Int, GOF [28] σ (qq c) σ2))) := c_blk 6 d hR hrd hnn h28 (by omega) ht

