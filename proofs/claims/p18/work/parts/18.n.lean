section
theorem fl12_76 : Cond.fieldLink RX12 76 (TX12 41).1 (TX12 41).2.1 (TX12 41).2.2.1 ∈ pWW := pw7 (List.mem_of_getElem? (i := 48) rfl) rfl
theorem fl12_79 : Cond.fieldLink RX12 79 (TX12 42).1 (TX12 42).2.1 (TX12 42).2.2.1 ∈ pWW := pw7 (List.mem_of_getElem? (i := 49) rfl) rfl
theorem dX12_call_23 : decode cX12_call 23 = .ok (.iload 6, 2) := by decide +kernel
theorem dX12_call_25 : decode cX12_call 25 = .ok (.ifCond .eq 63, 3) := by decide +kernel
theorem dX12_call_28 : decode cX12_call 28 = .ok (.aload_n 0, 1) := by decide +kernel
theorem dX12_call_29 : decode cX12_call 29 = .ok (.invokevirtual 327, 3) := by decide +kernel
theorem dX12_call_32 : decode cX12_call 32 = .ok (.ifCond .ne 5, 3) := by decide +kernel
theorem dX12_call_37 : decode cX12_call 37 = .ok (.iload 5, 2) := by decide +kernel
theorem dX12_call_39 : decode cX12_call 39 = .ok (.iconst 4, 1) := by decide +kernel
theorem dX12_call_40 : decode cX12_call 40 = .ok (.if_icmp .ge 25, 3) := by decide +kernel
theorem dX12_call_65 : decode cX12_call 65 = .ok (.iinc 5 1, 3) := by decide +kernel
theorem dX12_call_68 : decode cX12_call 68 = .ok (.aload_n 0, 1) := by decide +kernel
theorem dX12_call_69 : decode cX12_call 69 = .ok (.bipush 44, 2) := by decide +kernel
theorem dX12_call_71 : decode cX12_call 71 = .ok (.invokevirtual 258, 3) := by decide +kernel
theorem dX12_call_74 : decode cX12_call 74 = .ok (.istore 6, 2) := by decide +kernel
theorem dX12_call_76 : decode cX12_call 76 = .ok (.iload 6, 2) := by decide +kernel
theorem dX12_call_78 : decode cX12_call 78 = .ok (.ifCond .eq (-55), 3) := by decide +kernel
theorem dX12_call_81 : decode cX12_call 81 = .ok (.aload_n 0, 1) := by decide +kernel
theorem dX12_call_82 : decode cX12_call 82 = .ok (.invokevirtual 265, 3) := by decide +kernel
theorem dX12_call_85 : decode cX12_call 85 = .ok (.goto (-62), 3) := by decide +kernel
theorem dX12_call_43 : decode cX12_call 43 = .ok (.aload_n 0, 1) := by decide +kernel
theorem dX12_call_44 : decode cX12_call 44 = .ok (.getfield 76, 3) := by decide +kernel
theorem dX12_call_47 : decode cX12_call 47 = .ok (.iload 5, 2) := by decide +kernel
theorem dX12_call_49 : decode cX12_call 49 = .ok (.aload_n 0, 1) := by decide +kernel
theorem dX12_call_50 : decode cX12_call 50 = .ok (.getfield 285, 3) := by decide +kernel
theorem dX12_call_53 : decode cX12_call 53 = .ok (.iastore, 1) := by decide +kernel
theorem dX12_call_54 : decode cX12_call 54 = .ok (.aload_n 0, 1) := by decide +kernel
theorem dX12_call_55 : decode cX12_call 55 = .ok (.getfield 79, 3) := by decide +kernel
theorem dX12_call_58 : decode cX12_call 58 = .ok (.iload 5, 2) := by decide +kernel
theorem dX12_call_60 : decode cX12_call 60 = .ok (.aload_n 0, 1) := by decide +kernel
theorem dX12_call_61 : decode cX12_call 61 = .ok (.getfield 288, 3) := by decide +kernel
theorem dX12_call_64 : decode cX12_call 64 = .ok (.iastore, 1) := by decide +kernel
theorem dX12_call_35 : decode cX12_call 35 = .ok (.iconst 0, 1) := by decide +kernel
theorem dX12_call_36 : decode cX12_call 36 = .ok (.ireturn, 1) := by decide +kernel
set_option maxHeartbeats 4000000 in
set_option maxRecDepth 20000 in
theorem l_call (d : Nat) {b : Nat} {σ0 : MS} {kn : Int} {w : Int64} {p : Int} {ρ : MS} {post : Option Value → MS → Prop} (hR0 : RG σ0) (h30 : 0 ≤ σ0.1 30) (htk0 : 0 ≤ σ0.1 19) (hx_88 : ∀ (m : Int) (mo : Int) (σ : MS) , (Fr [19, 20, 22, 23, 26, 27, 28, 32, 34, 39, 40] [3, 4, 5, 6, 7, 8, 35, 41, 42] [24, 38] σ0 σ) → (RG σ) → (0 ≤ m ∧ m ≤ 1200) → (∃ as, CAA as m σ ∧ TS 20 7 ρ [38, 141, 159] σ (fun c => (w, m, p, 0, c)) [] [(9, kn, 0, as)]) → (PBF σ0 σ) → (AC σ0 σ) → (CAG m σ) → (σ.1 28 = 0) → Tm (d + 41) m_X12_call 88 b σ [(6, .int (iI mo)), (5, .int (iI m)), (4, .int (iI p)), (2, .long (w)), (1, .int (iI kn)), (0, .ref b)] [] post) (hr0 : ∀ (τ : MS), Fr [19, 20, 22, 23, 26, 27, 28, 32, 34, 39, 40] [3, 4, 5, 6, 7, 8, 35, 41, 42] [24, 38] σ0 τ → RG τ → PBF ρ τ → (∀ c : Int, GOF [20] ρ (qq c) τ) → τ.1 28 = 0 → post (some (.int (iI 0))) τ) : ∀ (n : Nat) (m : Int) (mo : Int) (σ : MS) , (Fr [19, 20, 22, 23, 26, 27, 28, 32, 34, 39, 40] [3, 4, 5, 6, 7, 8, 35, 41, 42] [24, 38] σ0 σ) → (RG σ) → ((0 ≤ m ∧ m ≤ σ.1 19 ∧ σ.1 19 ≤ 1200) ∧ (mo = 0 ∨ mo = 1)) → ((mo = 1 → ∃ as, CAA as m σ ∧ TS 20 7 ρ [2, 27, 159] σ (fun c => (w, m, p, 0, c)) [] [(9, kn, 0, as)]) ∧ (mo = 0 → ∃ as, CAA as m σ ∧ TS 20 7 ρ [38, 141, 159] σ (fun c => (w, m, p, 0, c)) [] [(9, kn, 0, as)])) → (PBF σ0 σ) → (AC σ0 σ) → (CAG m σ) → (σ.1 28 = 0) → (1300 - σ.1 19).toNat = n → Tm (d + 41) m_X12_call 23 b σ [(6, .int (iI mo)), (5, .int (iI m)), (4, .int (iI p)), (2, .long (w)), (1, .int (iI kn)), (0, .ref b)] [] post := by
  intro n
  induction n using Nat.strongRecOn with
  | _ n ih =>
    intro m mo σ hF hR h0 htq hpb hac hcg h28 hm
    refine tm_iload dX12_call_23 0 rfl ?_
    refine tm_if_eq (tgt := 88) dX12_call_25 (by decide) ⟨by omega, by omega⟩ (fun h1 => ?_) (fun h1 => ?_)
    · exact tm_sub [0, 1, 2, 3, 4, 5] rfl (hx_88 (m) (mo) σ (Fr.rfl.trans (Fr.sub hF (by decide) (by decide) (by decide))) hR (by omega) (htq.2 (by omega)) hpb hac hcg h28)
    · obtain ⟨as, ca, tq⟩ := htq.1 (by omega)
      have tkq := tq.2.2.1.1.1
      refine tm_aload_n dX12_call_28 rfl 5 rfl ?_
      refine tm_callV (M := m_X12_call) (pc := 29) (ix := 327) (M' := m_X12_expression) (As := []) (rest := []) dX12_call_29 ok_X12_expression im_X12_expression se_X12_expression ml12_327 np_X12_expression rfl rfl (Nat.le_of_ble_eq_true rfl) (Nat.le_of_ble_eq_true rfl) rfl (c_exp8 (d) (σ := σ)  hR tq.2.2.1 tq.nn h28) (fun r2 σ3 hp => ?_)
      obtain ⟨v4, rfl, f5, f6, f7, f8, f9, f10, f11⟩ := hp
      show Tm _ _ 32 b σ3 [(6, .int (iI mo)), (5, .int (iI m)), (4, .int (iI p)), (2, .long (w)), (1, .int (iI kn)), (0, .ref b)] [.int (iI v4)] _
      have xp0 := f5
      have xp1 := f6
      have xp2 := f7
      have xp3 := f8
      have xp4 := f9
      have xp5 := f10
      have xp6 := f11
      refine tm_if_ne (tgt := 37) dX12_call_32 (by decide) ⟨by omega, by omega⟩ (fun h12 => ?_) (fun h12 => ?_)
      · have ts1 := tq.exp xp1 xp3 (xp4 (by omega)) (xp5.1 (by omega))
        have ex4 := xp4 (by omega)
        have gt1 := ex4.2.2.1
        have pl1 : σ.1 19 < σ3.1 19 := by have z := ex4.2.1; unfold PBC at z; have z2 := xp3.2.2.2.2.2.1; omega
        have tk1 := ts1.2.2.1.1.1
        have pq1 := hpb.trans xp3
        have ac1 := hac.trans hpb ex4.2.2.2.1 xp3 h30
        have cg1 := hcg.mv xp1 (by decide) (by decide) xp3.2.2.2.2.2.1
        have ca1 := ca.mv xp1 (by decide) (by decide)
        have e281 : σ3.1 28 = 0 := xp6.trans h28
        refine tm_iload dX12_call_37 1 rfl ?_
        refine tm_iconst dX12_call_39 ?_
        refine tm_icmp_ge (tgt := 65) dX12_call_40 (by decide) ⟨by omega, by omega⟩ ⟨by decide, by decide⟩ (fun h13 => ?_) (fun h13 => ?_)
        · have ts2 := ts1
          have pq2 := pq1
          have ac2 := ac1
          have cg2 := cg1.more (by omega)
          have ca2 := ca1.more (z := (σ3.1 39, σ3.1 40)) (by omega)
          have e282 := e281
          have e192 : σ3.1 19 = σ3.1 19 := rfl
          refine tm_iinc (q0 := 1) (L' := [(5, .int (iI (m + 1))), (6, .int (iI mo)), (4, .int (iI p)), (2, .long (w)), (1, .int (iI kn)), (0, .ref b)]) dX12_call_65 rfl (by decide) rfl ?_
          refine tm_aload_n dX12_call_68 rfl 5 rfl ?_
          refine tm_bipush dX12_call_69 (by decide) ?_
          refine tm_callV (M := m_X12_call) (pc := 71) (ix := 258) (M' := m_X12_isSign) (As := [.int (iI 44)]) (rest := []) dX12_call_71 ok_X12_isSign im_X12_isSign se_X12_isSign ml12_258 np_X12_isSign rfl rfl (Nat.le_of_ble_eq_true rfl) (Nat.le_of_ble_eq_true rfl) rfl (c2_X12_isSign (d + 39) (σ := σ3) (c := 44) f7 (by omega)) (fun r14 σ15 hp => ?_)
          obtain ⟨v16, rfl, rfl, f17, f18, f19⟩ := hp
          show Tm _ _ 74 b σ3 [(5, .int (iI (m + 1))), (6, .int (iI mo)), (4, .int (iI p)), (2, .long (w)), (1, .int (iI kn)), (0, .ref b)] [.int (iI v16)] _
          have i44 := f18
          have n44_ := f19
          refine tm_istore (L' := [(6, .int (iI v16)), (5, .int (iI (m + 1))), (4, .int (iI p)), (2, .long (w)), (1, .int (iI kn)), (0, .ref b)]) dX12_call_74 (by decide) rfl ?_
          refine tm_iload dX12_call_76 0 rfl ?_
          refine tm_if_eq (tgt := 23) dX12_call_78 (by decide) ⟨by omega, by omega⟩ (fun h20 => ?_) (fun h20 => ?_)
          · exact tm_sub [0, 1, 2, 3, 4, 5] rfl (ih _ (by omega) (m + 1) (v16) σ3 ((Fr.rfl.trans (Fr.sub hF (by decide) (by decide) (by decide))).trans (Fr.sub f6 (by decide) (by decide) (by decide))) f7 (by omega) (⟨fun q => absurd q (by omega), fun _ => ⟨_, ca2, (ts2.nxtE (u27n (n44_ (by omega)))).le (by decide)⟩⟩) pq2 ac2 cg2 e282 rfl)
          · refine tm_aload_n dX12_call_81 rfl 5 rfl ?_
            refine tm_callV (M := m_X12_call) (pc := 82) (ix := 265) (M' := m_X12_advance) (As := []) (rest := []) dX12_call_82 ok_X12_advance im_X12_advance se_X12_advance ml12_265 np_X12_advance rfl rfl (Nat.le_of_ble_eq_true rfl) (Nat.le_of_ble_eq_true rfl) rfl (c_X12_advance (d + 35) (σ := σ3)  f7 (by have z := ts2.2.2.1.1.1; omega)) (fun r21 σ22 hp => ?_)
            obtain ⟨rfl, f24, f25, f26, f27, f28⟩ := hp
            show Tm _ _ 85 b σ22 [(6, .int (iI v16)), (5, .int (iI (m + 1))), (4, .int (iI p)), (2, .long (w)), (1, .int (iI kn)), (0, .ref b)] [] _
            refine tm_goto (tgt := 23) dX12_call_85 (by decide) ?_
            exact tm_sub [0, 1, 2, 3, 4, 5] rfl (ih _ (by have z := f28; have z2 := ts2.2.2.1.1.1; omega) (m + 1) (v16) σ22 (((Fr.rfl.trans (Fr.sub hF (by decide) (by decide) (by decide))).trans (Fr.sub f6 (by decide) (by decide) (by decide))).trans (Fr.sub f25 (by decide) (by decide) (by decide))) f26 (by have z := f28; have z2 := ts2.2.2.1.1.1; have z3 := f27.1; omega) (⟨fun _ => ⟨_, ca2.mv f25 (by decide) (by decide), (ts2.advE f25 f27 f28 (by have z := (i44 (by omega)).1; omega) (u27y (i44 (by omega)) f24 (MSE.fr f25 (by decide) (by decide) (by decide)))).le (by decide)⟩, fun q => absurd q (by omega)⟩) (pq2.trans (PBF.nop ts2.nn f25 (by decide) (by decide) (by decide))) (ac2.trans pq2 (AC.nil (f25.1 34 (by decide))) (PBF.nop ts2.nn f25 (by decide) (by decide) (by decide)) h30) (cg2.mv f25 (by decide) (by decide) (by rw [f25.1 34 (by decide)]; omega)) ((f25.1 28 (by decide)).trans e282) rfl)
        · refine tm_aload_n dX12_call_43 rfl 5 rfl ?_
          refine tm_get (k := 41) (v := .ref (b + 1 + 20)) lay_12 dX12_call_44 (by decide) fl12_76 rfl ?_
          refine tm_iload dX12_call_47 1 rfl ?_
          refine tm_aload_n dX12_call_49 rfl 5 rfl ?_
          refine tm_getS (k := 39) (t := σ3.1 39) dX12_call_50 (by decide) fl12_285 rfl (rfl) ?_
          have g29 := RG.s f7 39
          refine tm_iast (z := m) (v := σ3.1 39) dX12_call_53 (show mT[20]? = some (41, 0, 4) from rfl) (by omega) (by omega) (by decide) ?_
          refine tm_aload_n dX12_call_54 rfl 5 rfl ?_
          refine tm_get (k := 42) (v := .ref (b + 1 + 21)) lay_12 dX12_call_55 (by decide) fl12_79 rfl ?_
          refine tm_iload dX12_call_58 1 rfl ?_
          refine tm_aload_n dX12_call_60 rfl 5 rfl ?_
          refine tm_getS (k := 40) (t := σ3.1 40) dX12_call_61 (by decide) fl12_288 rfl (rs_A (rfl)) ?_
          have g30 := RG.s f7 40
          refine tm_iast (z := m) (v := σ3.1 40) dX12_call_64 (show mT[21]? = some (42, 0, 4) from rfl) (by omega) (by omega) (by decide) ?_
          have fk := (show Fr [] [41, 42] [] σ3 (sA 42 (m) (σ3.1 40) (sA 41 (m) (σ3.1 39) σ3)) from ((Fr.rfl.A (by decide)).A (by decide)))
          have pbk : PBF σ3 (sA 42 (m) (σ3.1 40) (sA 41 (m) (σ3.1 39) σ3)) := PBF.nop ts1.nn fk (by decide) (by decide) (by decide)
          have ts2 := ts1.keep fk (by decide) (by decide) (by decide) (by decide) pbk
          have pq2 := pq1.trans pbk
          have ac2 := ac1.trans pq1 (AC.nil (fk.1 34 (by decide))) pbk h30
          have cg2 := cg1.put gt1
          have ca2 := ca1.put
          have e282 : (sA 42 (m) (σ3.1 40) (sA 41 (m) (σ3.1 39) σ3)).1 28 = 0 := e281
          have e192 : (sA 42 (m) (σ3.1 40) (sA 41 (m) (σ3.1 39) σ3)).1 19 = σ3.1 19 := rfl
          refine tm_iinc (q0 := 1) (L' := [(5, .int (iI (m + 1))), (6, .int (iI mo)), (4, .int (iI p)), (2, .long (w)), (1, .int (iI kn)), (0, .ref b)]) dX12_call_65 rfl (by decide) rfl ?_
          refine tm_aload_n dX12_call_68 rfl 5 rfl ?_
          refine tm_bipush dX12_call_69 (by decide) ?_
          refine tm_callV (M := m_X12_call) (pc := 71) (ix := 258) (M' := m_X12_isSign) (As := [.int (iI 44)]) (rest := []) dX12_call_71 ok_X12_isSign im_X12_isSign se_X12_isSign ml12_258 np_X12_isSign rfl rfl (Nat.le_of_ble_eq_true rfl) (Nat.le_of_ble_eq_true rfl) rfl (c2_X12_isSign (d + 39) (σ := (sA 42 (m) (σ3.1 40) (sA 41 (m) (σ3.1 39) σ3))) (c := 44) ((f7.A (by omega)).A (by omega)) (by omega)) (fun r31 σ32 hp => ?_)
          obtain ⟨v33, rfl, rfl, f34, f35, f36⟩ := hp
          show Tm _ _ 74 b (sA 42 (m) (σ3.1 40) (sA 41 (m) (σ3.1 39) σ3)) [(5, .int (iI (m + 1))), (6, .int (iI mo)), (4, .int (iI p)), (2, .long (w)), (1, .int (iI kn)), (0, .ref b)] [.int (iI v33)] _
          have i44 := f35
          have n44_ := f36
          refine tm_istore (L' := [(6, .int (iI v33)), (5, .int (iI (m + 1))), (4, .int (iI p)), (2, .long (w)), (1, .int (iI kn)), (0, .ref b)]) dX12_call_74 (by decide) rfl ?_
          refine tm_iload dX12_call_76 0 rfl ?_
          refine tm_if_eq (tgt := 23) dX12_call_78 (by decide) ⟨by omega, by omega⟩ (fun h37 => ?_) (fun h37 => ?_)
          · exact tm_sub [0, 1, 2, 3, 4, 5] rfl (ih _ (by omega) (m + 1) (v33) (sA 42 (m) (σ3.1 40) (sA 41 (m) (σ3.1 39) σ3)) ((((Fr.rfl.trans (Fr.sub hF (by decide) (by decide) (by decide))).trans (Fr.sub f6 (by decide) (by decide) (by decide))).A (by decide)).A (by decide)) ((f7.A (by omega)).A (by omega)) (by omega) (⟨fun q => absurd q (by omega), fun _ => ⟨_, ca2, (ts2.nxtE (u27n (n44_ (by omega)))).le (by decide)⟩⟩) pq2 ac2 cg2 e282 rfl)
          · refine tm_aload_n dX12_call_81 rfl 5 rfl ?_
            refine tm_callV (M := m_X12_call) (pc := 82) (ix := 265) (M' := m_X12_advance) (As := []) (rest := []) dX12_call_82 ok_X12_advance im_X12_advance se_X12_advance ml12_265 np_X12_advance rfl rfl (Nat.le_of_ble_eq_true rfl) (Nat.le_of_ble_eq_true rfl) rfl (c_X12_advance (d + 35) (σ := (sA 42 (m) (σ3.1 40) (sA 41 (m) (σ3.1 39) σ3)))  ((f7.A (by omega)).A (by omega)) (by have z := ts2.2.2.1.1.1; omega)) (fun r38 σ39 hp => ?_)
            obtain ⟨rfl, f41, f42, f43, f44, f45⟩ := hp
            show Tm _ _ 85 b σ39 [(6, .int (iI v33)), (5, .int (iI (m + 1))), (4, .int (iI p)), (2, .long (w)), (1, .int (iI kn)), (0, .ref b)] [] _
            refine tm_goto (tgt := 23) dX12_call_85 (by decide) ?_
            exact tm_sub [0, 1, 2, 3, 4, 5] rfl (ih _ (by have z := f45; have z2 := ts2.2.2.1.1.1; omega) (m + 1) (v33) σ39 (((((Fr.rfl.trans (Fr.sub hF (by decide) (by decide) (by decide))).trans (Fr.sub f6 (by decide) (by decide) (by decide))).A (by decide)).A (by decide)).trans (Fr.sub f42 (by decide) (by decide) (by decide))) f43 (by have z := f45; have z2 := ts2.2.2.1.1.1; have z3 := f44.1; omega) (⟨fun _ => ⟨_, ca2.mv f42 (by decide) (by decide), (ts2.advE f42 f44 f45 (by have z := (i44 (by omega)).1; omega) (u27y (i44 (by omega)) f41 (MSE.fr f42 (by decide) (by decide) (by decide)))).le (by decide)⟩, fun q => absurd q (by omega)⟩) (pq2.trans (PBF.nop ts2.nn f42 (by decide) (by decide) (by decide))) (ac2.trans pq2 (AC.nil (f42.1 34 (by decide))) (PBF.nop ts2.nn f42 (by decide) (by decide) (by decide)) h30) (cg2.mv f42 (by decide) (by decide) (by rw [f42.1 34 (by decide)]; omega)) ((f42.1 28 (by decide)).trans e282) rfl)
      · refine tm_iconst dX12_call_35 ?_
        exact tm_zret (v := 0) rfl (by decide) dX12_call_36 ((fun z => hr0 _ ((Fr.rfl.trans (Fr.sub hF (by decide) (by decide) (by decide))).trans (Fr.sub f6 (by decide) (by decide) (by decide))) f7 z.1 z.2 (xp6.trans h28)) (tq.fail xp3 (xp5.2 (by omega) _)))
theorem dX12_call_180 : decode cX12_call 180 = .ok (.iload 9, 2) := by decide +kernel
theorem dX12_call_182 : decode cX12_call 182 = .ok (.iconst 4, 1) := by decide +kernel
theorem dX12_call_183 : decode cX12_call 183 = .ok (.if_icmp .ge 38, 3) := by decide +kernel
theorem dX12_call_186 : decode cX12_call 186 = .ok (.iload 9, 2) := by decide +kernel
theorem dX12_call_188 : decode cX12_call 188 = .ok (.iload 5, 2) := by decide +kernel
theorem dX12_call_190 : decode cX12_call 190 = .ok (.if_icmp .ge 31, 3) := by decide +kernel
theorem dX12_call_193 : decode cX12_call 193 = .ok (.aload_n 0, 1) := by decide +kernel
theorem dX12_call_194 : decode cX12_call 194 = .ok (.iload 8, 2) := by decide +kernel
theorem dX12_call_196 : decode cX12_call 196 = .ok (.iload 9, 2) := by decide +kernel
theorem dX12_call_198 : decode cX12_call 198 = .ok (.aload_n 0, 1) := by decide +kernel
theorem dX12_call_199 : decode cX12_call 199 = .ok (.getfield 76, 3) := by decide +kernel
theorem dX12_call_202 : decode cX12_call 202 = .ok (.iload 9, 2) := by decide +kernel
theorem dX12_call_204 : decode cX12_call 204 = .ok (.iaload, 1) := by decide +kernel
theorem dX12_call_205 : decode cX12_call 205 = .ok (.aload_n 0, 1) := by decide +kernel
theorem dX12_call_206 : decode cX12_call 206 = .ok (.getfield 79, 3) := by decide +kernel
theorem dX12_call_209 : decode cX12_call 209 = .ok (.iload 9, 2) := by decide +kernel
theorem dX12_call_211 : decode cX12_call 211 = .ok (.iaload, 1) := by decide +kernel
theorem dX12_call_212 : decode cX12_call 212 = .ok (.invokevirtual 298, 3) := by decide +kernel
theorem dX12_call_215 : decode cX12_call 215 = .ok (.iinc 9 1, 3) := by decide +kernel
theorem dX12_call_218 : decode cX12_call 218 = .ok (.goto (-38), 3) := by decide +kernel
set_option maxHeartbeats 4000000 in
set_option maxRecDepth 20000 in
theorem l_callA (d : Nat) {b : Nat} {σ0 : MS} {kn : Int} {m : Int} {x : Int} {post : Option Value → MS → Prop} (hR0 : RG σ0) (hx : 0 ≤ x ∧ x ≤ 2640) (hm : 0 ≤ m ∧ m ≤ 1200) (hx_221 : ∀ (i : Int) (σ : MS) , (Fr [] [7, 8] [] σ0 σ) → (RG σ) → (0 ≤ i ∧ i ≤ 4 ∧ i ≤ m) → (CRG σ0 σ x i) → (OFF x σ0 σ) → (4 ≤ i ∨ m ≤ i) → Tm (d + 2) m_X12_call 221 b σ [(9, .int (iI i)), (8, .int (iI x)), (5, .int (iI m)), (1, .int (iI kn)), (0, .ref b)] [] post) : ∀ (n : Nat) (i : Int) (σ : MS) , (Fr [] [7, 8] [] σ0 σ) → (RG σ) → (0 ≤ i ∧ i ≤ 4 ∧ i ≤ m) → (CRG σ0 σ x i) → (OFF x σ0 σ) → (4 - i).toNat = n → Tm (d + 2) m_X12_call 180 b σ [(9, .int (iI i)), (8, .int (iI x)), (5, .int (iI m)), (1, .int (iI kn)), (0, .ref b)] [] post := by
  intro n
  induction n using Nat.strongRecOn with
  | _ n ih =>
    intro i σ hF hR h0 hcr hof hm
    refine tm_iload dX12_call_180 0 rfl ?_
    refine tm_iconst dX12_call_182 ?_
    refine tm_icmp_ge (tgt := 221) dX12_call_183 (by decide) ⟨by omega, by omega⟩ ⟨by decide, by decide⟩ (fun h1 => ?_) (fun h1 => ?_)
    · exact tm_sub [0, 1, 2, 3, 4] rfl (hx_221 (i) σ (Fr.rfl.trans (Fr.sub hF (by decide) (by decide) (by decide))) hR (by omega) hcr hof (by omega))
    · refine tm_iload dX12_call_186 0 rfl ?_
      refine tm_iload dX12_call_188 2 rfl ?_
      refine tm_icmp_ge (tgt := 221) dX12_call_190 (by decide) ⟨by omega, by omega⟩ ⟨by omega, by omega⟩ (fun h2 => ?_) (fun h2 => ?_)
      · exact tm_sub [0, 1, 2, 3, 4] rfl (hx_221 (i) σ (Fr.rfl.trans (Fr.sub hF (by decide) (by decide) (by decide))) hR (by omega) hcr hof (by omega))
      · refine tm_aload_n dX12_call_193 rfl 4 rfl ?_
        refine tm_iload dX12_call_194 1 rfl ?_
        refine tm_iload dX12_call_196 0 rfl ?_
        refine tm_aload_n dX12_call_198 rfl 4 rfl ?_
        refine tm_get (k := 41) (v := .ref (b + 1 + 20)) lay_12 dX12_call_199 (by decide) fl12_76 rfl ?_
        refine tm_iload dX12_call_202 0 rfl ?_
        refine tm_iald (z := i) (v := σ0.2.1 41 i) dX12_call_204 (show mT[20]? = some (41, 0, 4) from rfl) (by omega) (by omega) (by decide) (ra_F hF (by decide) (rfl)) ?_
        have g3 := RG.a hR0 41 (i)
        refine tm_aload_n dX12_call_205 rfl 4 rfl ?_
        refine tm_get (k := 42) (v := .ref (b + 1 + 21)) lay_12 dX12_call_206 (by decide) fl12_79 rfl ?_
        refine tm_iload dX12_call_209 0 rfl ?_
        refine tm_iald (z := i) (v := σ0.2.1 42 i) dX12_call_211 (show mT[21]? = some (42, 0, 4) from rfl) (by omega) (by omega) (by decide) (ra_F hF (by decide) (rfl)) ?_
        have g4 := RG.a hR0 42 (i)
        refine tm_callV (M := m_X12_call) (pc := 212) (ix := 298) (M' := m_X12_setArg) (As := [.int (iI x), .int (iI i), .int (iI (σ0.2.1 41 i)), .int (iI (σ0.2.1 42 i))]) (rest := []) dX12_call_212 ok_X12_setArg im_X12_setArg se_X12_setArg ml12_298 np_X12_setArg rfl rfl (Nat.le_of_ble_eq_true rfl) (Nat.le_of_ble_eq_true rfl) rfl (c_X12_setArg (d) (σ := σ) (x := x) (i := i) (k := σ0.2.1 41 i) (w := σ0.2.1 42 i) (by omega)) (fun r5 σ6 hp => ?_)
        obtain ⟨rfl, f8⟩ := hp
        subst f8
        show Tm _ _ 215 b (fArg (x) (i) (σ0.2.1 41 i) (σ0.2.1 42 i) σ) [(9, .int (iI i)), (8, .int (iI x)), (5, .int (iI m)), (1, .int (iI kn)), (0, .ref b)] [] _
        refine tm_iinc (q0 := 0) (L' := [(9, .int (iI (i + 1))), (8, .int (iI x)), (5, .int (iI m)), (1, .int (iI kn)), (0, .ref b)]) dX12_call_215 rfl (by decide) rfl ?_
        refine tm_goto (tgt := 180) dX12_call_218 (by decide) ?_
        exact tm_sub [0, 1, 2, 3, 4] rfl (ih _ (by omega) (i + 1) (fArg (x) (i) (σ0.2.1 41 i) (σ0.2.1 42 i) σ) ((Fr.rfl.trans (Fr.sub hF (by decide) (by decide) (by decide))).trans (Fr.sub fArg_fr (by decide) (by decide) (by decide))) ((hR).arg (by omega) (by omega)) (by omega) (hcr.step h0.1 rfl rfl) (hof.trans (OFF.arg (by omega) (by omega))) rfl)
theorem ml12_359 : Cond.methodLink RX12 359 yX12_bind ∈ pWW := pw9 (List.mem_of_getElem? (i := 21) rfl) rfl
theorem dX12_call_145 : decode cX12_call 145 = .ok (.aload_n 0, 1) := by decide +kernel
theorem dX12_call_146 : decode cX12_call 146 = .ok (.bipush 10, 2) := by decide +kernel
theorem dX12_call_148 : decode cX12_call 148 = .ok (.iload_n 1, 1) := by decide +kernel
theorem dX12_call_149 : decode cX12_call 149 = .ok (.iload 7, 2) := by decide +kernel
theorem dX12_call_151 : decode cX12_call 151 = .ok (.iconst (-1), 1) := by decide +kernel
theorem dX12_call_152 : decode cX12_call 152 = .ok (.if_icmp .ne 7, 3) := by decide +kernel
theorem dX12_call_159 : decode cX12_call 159 = .ok (.iload 7, 2) := by decide +kernel
theorem dX12_call_161 : decode cX12_call 161 = .ok (.bipush 6, 2) := by decide +kernel
theorem dX12_call_163 : decode cX12_call 163 = .ok (.if_icmp .ge 8, 3) := by decide +kernel
theorem dX12_call_171 : decode cX12_call 171 = .ok (.iconst 0, 1) := by decide +kernel
theorem dX12_call_172 : decode cX12_call 172 = .ok (.invokevirtual 294, 3) := by decide +kernel
theorem dX12_call_175 : decode cX12_call 175 = .ok (.istore 8, 2) := by decide +kernel
theorem dX12_call_177 : decode cX12_call 177 = .ok (.iconst 0, 1) := by decide +kernel
theorem dX12_call_178 : decode cX12_call 178 = .ok (.istore 9, 2) := by decide +kernel
theorem dX12_call_221 : decode cX12_call 221 = .ok (.aload_n 0, 1) := by decide +kernel
theorem dX12_call_222 : decode cX12_call 222 = .ok (.iload_n 1, 1) := by decide +kernel
theorem dX12_call_223 : decode cX12_call 223 = .ok (.invokevirtual 359, 3) := by decide +kernel
theorem dX12_call_226 : decode cX12_call 226 = .ok (.aload_n 0, 1) := by decide +kernel
theorem dX12_call_227 : decode cX12_call 227 = .ok (.bipush 41, 2) := by decide +kernel
theorem dX12_call_229 : decode cX12_call 229 = .ok (.invokevirtual 330, 3) := by decide +kernel
theorem dX12_call_232 : decode cX12_call 232 = .ok (.ireturn, 1) := by decide +kernel
theorem dX12_call_166 : decode cX12_call 166 = .ok (.iload 7, 2) := by decide +kernel
theorem dX12_call_168 : decode cX12_call 168 = .ok (.goto 4, 3) := by decide +kernel
theorem dX12_call_155 : decode cX12_call 155 = .ok (.iconst 0, 1) := by decide +kernel
theorem dX12_call_156 : decode cX12_call 156 = .ok (.goto 16, 3) := by decide +kernel
set_option maxHeartbeats 4000000 in
set_option maxRecDepth 20000 in
theorem b_call145 (d : Nat) {b : Nat} {σ : MS} {kn : Int} {w : Int64} {m : Int} {q : Int} {p : Int} {ρ : MS} {σc : MS} {σb : MS} {as : List (Int × Int)} {post : Option Value → MS → Prop} (hR : RG σ) (hrd0 : RDY ρ) (hts : TS 20 7 ρ [38, 141, 159] σb (fun c => (w, m, p, 0, c)) [] [(9, kn, 0, as)]) (hca : CAA as m σ) (hfn : Fr [26, 27] [] [] σb σ) (hpn : PBF σb σ) (hsn : srt σ = srt (clP w p m σb)) (hrds : RDY σ) (hk12 : 0 ≤ kn ∧ kn < 12) (hm : 0 ≤ m ∧ m ≤ 1200) (hrb : RBY σ w q) (hq : -1 ≤ q ∧ q < σ.1 43) (ht43 : σ.1 43 ≤ 260) (hE : σ.1 25 = 2 → σ.1 26 = 0 → E2 σ (1, m, w)) (hac : AC σc σ) (hpc : PBF σc σ) (htb : TBm σc σ) (hts33 : σc.1 33 ≤ σ.1 33) (h0c : 0 ≤ σc.1 30 ∧ 0 ≤ σc.1 34) (hcg : CAG m σ) (h28 : σ.1 28 = 0) (hret : ∀ (v : Int) (τ : MS), Fr [19, 20, 22, 23, 26, 27, 28, 32, 34, 39, 40] [3, 4, 5, 6, 7, 8, 35, 41, 42] [24, 38] σ τ → RG τ → (v = 0 ∨ v = 1) → PBF ρ τ → (v = 1 → ∃ lg, TS 20 5 ρ [159] τ qq lg [] ∧ ASF σc τ lg ∧ PBF σc τ) → (v = 0 → ∀ c : Int, GOF [20] ρ (qq c) τ) → τ.1 28 = 0 → post (some (.int (iI v))) τ) : ∀ (n : Nat) , ((0 : Int)).toNat = n → Tm (d + 9) m_X12_call 145 b σ [(7, .int (iI q)), (5, .int (iI m)), (1, .int (iI kn)), (0, .ref b)] [] post := by
  intro n
  induction n using Nat.strongRecOn with
  | _ n ih =>
    intro   hm
    have rdc := hrds.2
    have tkc := hrds.1.1
    refine tm_aload_n dX12_call_145 rfl 3 rfl ?_
    refine tm_bipush dX12_call_146 (by decide) ?_
    refine tm_iload_n dX12_call_148 rfl 2 rfl ?_
    refine tm_iload dX12_call_149 0 rfl ?_
    refine tm_iconst dX12_call_151 ?_
    refine tm_icmp_ne (tgt := 159) dX12_call_152 (by decide) ⟨by omega, by omega⟩ ⟨by decide, by decide⟩ (fun h1 => ?_) (fun h1 => ?_)
    · refine tm_iload dX12_call_159 0 rfl ?_
      refine tm_bipush dX12_call_161 (by decide) ?_
      refine tm_icmp_ge (tgt := 171) dX12_call_163 (by decide) ⟨by omega, by omega⟩ ⟨by decide, by decide⟩ (fun h2 => ?_) (fun h2 => ?_)
      · refine tm_iconst dX12_call_171 ?_
        refine tm_callV (M := m_X12_call) (pc := 172) (ix := 294) (M' := m_X12_put) (As := [.int (iI 10), .int (iI kn), .int (iI 0)]) (rest := []) dX12_call_172 ok_X12_put im_X12_put se_X12_put ml12_294 np_X12_put rfl rfl (Nat.le_of_ble_eq_true rfl) (Nat.le_of_ble_eq_true rfl) rfl (c_X12_put (d + 6) (σ := σ) (k := 10) (e := kn) (o := 0) hR (by omega) (by omega) (by omega) (by omega)) (fun r3 σ4 hp => ?_)
        obtain ⟨v5, rfl, f6, f7, f8, f9, f10, f11, f12, f13⟩ := hp
        show Tm _ _ 175 b σ4 [(7, .int (iI q)), (5, .int (iI m)), (1, .int (iI kn)), (0, .ref b)] [.int (iI v5)] _
        refine tm_istore (L' := [(8, .int (iI v5)), (7, .int (iI q)), (5, .int (iI m)), (1, .int (iI kn)), (0, .ref b)]) dX12_call_175 (by decide) rfl ?_
        have jv := f8
        have jn := f9
        have ji := f10
        have jo := f11
        have jr := f12
        have jz := f13
        refine tm_iconst dX12_call_177 ?_
        refine tm_istore (L' := [(9, .int (iI 0)), (8, .int (iI v5)), (7, .int (iI q)), (5, .int (iI m)), (1, .int (iI kn)), (0, .ref b)]) dX12_call_178 (by decide) rfl ?_
        refine tm_sub [0, 1, 3, 4, 5] rfl (l_callA (d + 7) (σ0 := σ4) (kn := kn) (m := m) (x := v5) f7 (by omega) (by omega) (fun i22 σ23 F16 R17 f18 f19 f20 f21 => ?_) _ (0) σ4 Fr.rfl f7 (by omega) CRG.start ⟨fun _ _ => ⟨rfl, rfl, rfl, rfl⟩, fun _ _ => ⟨rfl, rfl⟩, rfl, rfl⟩ rfl)
        show Tm _ _ 221 b σ23 [(9, .int (iI i22)), (8, .int (iI v5)), (5, .int (iI m)), (1, .int (iI kn)), (0, .ref b)] [] _
        have la0 := f18
        have la1 := f19
        have la2 := f20
        have la3 := f21
        have ptA : PIT σ σ23 (itC kn _ as) := PIT.at jv ((F16.1 34 (by decide)).trans jn) (jo.trans la2) (ri_call jz F16 la1 ⟨la0, la3⟩ (hca.mv f6 (by decide) (by decide)))
        have fA := (show Fr [34] [3, 4, 5, 6, 7, 8] [] σ σ23 from ((Fr.rfl.trans (Fr.sub f6 (by decide) (by decide) (by decide))).trans (Fr.sub F16 (by decide) (by decide) (by decide))))
        have eA : σ23.1 34 = σ.1 34 + 1 := (F16.1 34 (by decide)).trans jn
        have pbA : PBF σ σ23 := PBF.it hpn.2.2.1 fA (by decide) (by decide) (by decide) eA jv (jo.trans la2)
        have tbA : TBm σ σ23 := TBm.of fA (by decide) (by decide) (by decide) (by decide)
        have e30A : σ23.1 30 = σ.1 30 := fA.1 30 (by decide)
        refine tm_aload_n dX12_call_221 rfl 4 rfl ?_
        refine tm_iload_n dX12_call_222 rfl 3 rfl ?_
        refine tm_callV (M := m_X12_call) (pc := 223) (ix := 359) (M' := m_X12_bind) (As := [.int (iI kn)]) (rest := []) dX12_call_223 ok_X12_bind im_X12_bind se_X12_bind ml12_359 np_X12_bind rfl rfl (Nat.le_of_ble_eq_true rfl) (Nat.le_of_ble_eq_true rfl) rfl (c_X12_bind (d + 5) (σ := σ23) (k := kn) R17 (by rw [e30A, eA]; omega) hk12) (fun r24 σ25 hp => ?_)
        obtain ⟨rfl, f27, f28, f29, f30, f31, f32, f33⟩ := hp
        show Tm _ _ 226 b σ25 [(9, .int (iI i22)), (8, .int (iI v5)), (5, .int (iI m)), (1, .int (iI kn)), (0, .ref b)] [] _
        have pbB : PBF σ23 σ25 := PBF.it pbA.2.2.1 f27 (by decide) (by decide) (by decide) f29 rfl f30
        have fB := (show Fr [34] [3, 4, 5, 6, 7, 8] [] σ σ25 from (((Fr.rfl.trans (Fr.sub f6 (by decide) (by decide) (by decide))).trans (Fr.sub F16 (by decide) (by decide) (by decide))).trans (Fr.sub f27 (by decide) (by decide) (by decide))))
        have tbB : TBm σ23 σ25 := TBm.of f27 (by decide) (by decide) (by decide) (by decide)
        have e26B : σ25.1 26 = σ.1 26 := fB.1 26 (by decide)
        have tsB := hts.putc ((Fr.sub hfn (by decide) (by decide) (by decide)).trans (Fr.sub fB (by decide) (by decide) (by decide))) (hpn.trans (pbA.trans pbB)) (by rw [f29, eA, hfn.1 34 (by decide)]; omega) (by decide) hrd0 (fun z1 z2 => (hE (by rw [hfn.1 25 (by decide)]; exact z1) (by rw [← e26B]; exact z2)).bt (TBm.of hfn (by decide) (by decide) (by decide) (by decide))) (by rw [srt_fr fB (by decide) (by decide) (by decide)]; exact hsn) ((show RNV σ w _ by first | exact RNV.no hrb (by omega) | exact RNV.inn hrb (by omega) hq.2 (by omega) | exact RNV.out hrb (by omega) hq.2 (by omega)).fr hfn (by decide) (by decide)) (ptA.pre hfn (by decide) (by decide)) ((Fr.sub hfn (by decide) (by decide) (by decide)).trans (Fr.sub fA (by decide) (by decide) (by decide))) f33 f27
        have asA : ASF σc σ23 [(1, m, w)] := ASF.call hac hpc pbA tbA hts33 eA (by rw [← jv]; exact (congrFun (F16.2.1 3 (by decide)) _).trans ji.1) (fun z1 z2 z3 z4 => by have ev := ((z4 (1, m, w) (List.mem_singleton.mpr rfl)).tb htb).rby hrb hq; rw [← jv]; have e5 := (congrFun (F16.2.1 5 (by decide)) _).trans ji.2.2.1; refine ⟨oki_call ji hk12 (by omega) F16 la1 ⟨la0.2.2, la0.2.1⟩ (hcg.mv f6 (by decide) (by decide) (by rw [jn]; omega)) (by rw [jn]; omega) (by rw [f6.2.1 11 (by decide)]; first | exact ev.2 | (exfalso; omega)), ?_, ?_⟩ <;> (rw [e5]; have z9 := htb.1; omega)) h0c
        have asB : ASF σc σ25 [(1, m, w)] := asA.snoc (hpc.trans pbA) pbB tbB f29 (fun _ _ _ => f31) (Or.inr (Or.inr (Or.inr f32))) h0c
        have e28B : σ25.1 28 = 0 := (fB.1 28 (by decide)).trans h28
        have tkB := tsB.2.2.1.1.1
        refine tm_aload_n dX12_call_226 rfl 4 rfl ?_
        refine tm_bipush dX12_call_227 (by decide) ?_
        refine tm_callV (M := m_X12_call) (pc := 229) (ix := 330) (M' := m_X12_need) (As := [.int (iI 41)]) (rest := []) dX12_call_229 ok_X12_need im_X12_need se_X12_need ml12_330 np_X12_need rfl rfl (Nat.le_of_ble_eq_true rfl) (Nat.le_of_ble_eq_true rfl) rfl (c_X12_need (d + 2) (σ := σ25) (c := 41) f28 (by omega) (by omega)) (fun r34 σ35 hp => ?_)
        obtain ⟨v36, rfl, f37, f38, f39, f40, f41, f42, f43⟩ := hp
        show Tm _ _ 232 b σ35 [(9, .int (iI i22)), (8, .int (iI v5)), (5, .int (iI m)), (1, .int (iI kn)), (0, .ref b)] [.int (iI v36)] _
        exact tm_zret (v := v36) rfl (by omega) dX12_call_232 ((fun (pbN : PBF _ _) => hret _ _ ((((Fr.rfl.trans (Fr.sub f6 (by decide) (by decide) (by decide))).trans (Fr.sub F16 (by decide) (by decide) (by decide))).trans (Fr.sub f27 (by decide) (by decide) (by decide))).trans (Fr.sub f38 (by decide) (by decide) (by decide))) f39 f37 (tsB.1.trans pbN) (fun z => have yq := f40 z; ⟨_, (tsB.needy f38 yq.2.2.1 yq.2.2.2.1 yq.2.2.2.2 (by have z2 := yq.1.1; omega) (un_41 yq.1 yq.2.1 (MSE.fr f38 (by decide) (by decide) (by decide)))).le (by decide), asB.mv (hpc.trans (pbA.trans pbB)) pbN (TBm.of f38 (by decide) (by decide) (by decide) (by decide)) (f38.1 34 (by decide)) h0c, hpc.trans ((pbA.trans pbB).trans pbN)⟩) (fun z => (tsB.fail pbN (gf_41 (f41 z) (f43 z))).2) ((f38.1 28 (by decide)).trans e28B)) (PBF.of tsB.nn f38 (by decide) (by decide) (by decide) f42))
      · refine tm_iload dX12_call_166 0 rfl ?_
        refine tm_goto (tgt := 172) dX12_call_168 (by decide) ?_
        refine tm_callV (M := m_X12_call) (pc := 172) (ix := 294) (M' := m_X12_put) (As := [.int (iI 10), .int (iI kn), .int (iI q)]) (rest := []) dX12_call_172 ok_X12_put im_X12_put se_X12_put ml12_294 np_X12_put rfl rfl (Nat.le_of_ble_eq_true rfl) (Nat.le_of_ble_eq_true rfl) rfl (c_X12_put (d + 6) (σ := σ) (k := 10) (e := kn) (o := q) hR (by omega) (by omega) (by omega) (by omega)) (fun r44 σ45 hp => ?_)
        obtain ⟨v46, rfl, f47, f48, f49, f50, f51, f52, f53, f54⟩ := hp
        show Tm _ _ 175 b σ45 [(7, .int (iI q)), (5, .int (iI m)), (1, .int (iI kn)), (0, .ref b)] [.int (iI v46)] _
        refine tm_istore (L' := [(8, .int (iI v46)), (7, .int (iI q)), (5, .int (iI m)), (1, .int (iI kn)), (0, .ref b)]) dX12_call_175 (by decide) rfl ?_
        have jv := f49
        have jn := f50
        have ji := f51
        have jo := f52
        have jr := f53
        have jz := f54
        refine tm_iconst dX12_call_177 ?_
        refine tm_istore (L' := [(9, .int (iI 0)), (8, .int (iI v46)), (7, .int (iI q)), (5, .int (iI m)), (1, .int (iI kn)), (0, .ref b)]) dX12_call_178 (by decide) rfl ?_
        refine tm_sub [0, 1, 3, 4, 5] rfl (l_callA (d + 7) (σ0 := σ45) (kn := kn) (m := m) (x := v46) f48 (by omega) (by omega) (fun i63 σ64 F57 R58 f59 f60 f61 f62 => ?_) _ (0) σ45 Fr.rfl f48 (by omega) CRG.start ⟨fun _ _ => ⟨rfl, rfl, rfl, rfl⟩, fun _ _ => ⟨rfl, rfl⟩, rfl, rfl⟩ rfl)
        show Tm _ _ 221 b σ64 [(9, .int (iI i63)), (8, .int (iI v46)), (5, .int (iI m)), (1, .int (iI kn)), (0, .ref b)] [] _
        have la0 := f59
        have la1 := f60
        have la2 := f61
        have la3 := f62
        have ptA : PIT σ σ64 (itC kn _ as) := PIT.at jv ((F57.1 34 (by decide)).trans jn) (jo.trans la2) (ri_call jz F57 la1 ⟨la0, la3⟩ (hca.mv f47 (by decide) (by decide)))
        have fA := (show Fr [34] [3, 4, 5, 6, 7, 8] [] σ σ64 from ((Fr.rfl.trans (Fr.sub f47 (by decide) (by decide) (by decide))).trans (Fr.sub F57 (by decide) (by decide) (by decide))))
        have eA : σ64.1 34 = σ.1 34 + 1 := (F57.1 34 (by decide)).trans jn
        have pbA : PBF σ σ64 := PBF.it hpn.2.2.1 fA (by decide) (by decide) (by decide) eA jv (jo.trans la2)
        have tbA : TBm σ σ64 := TBm.of fA (by decide) (by decide) (by decide) (by decide)
        have e30A : σ64.1 30 = σ.1 30 := fA.1 30 (by decide)
        refine tm_aload_n dX12_call_221 rfl 4 rfl ?_
        refine tm_iload_n dX12_call_222 rfl 3 rfl ?_
        refine tm_callV (M := m_X12_call) (pc := 223) (ix := 359) (M' := m_X12_bind) (As := [.int (iI kn)]) (rest := []) dX12_call_223 ok_X12_bind im_X12_bind se_X12_bind ml12_359 np_X12_bind rfl rfl (Nat.le_of_ble_eq_true rfl) (Nat.le_of_ble_eq_true rfl) rfl (c_X12_bind (d + 5) (σ := σ64) (k := kn) R58 (by rw [e30A, eA]; omega) hk12) (fun r65 σ66 hp => ?_)
        obtain ⟨rfl, f68, f69, f70, f71, f72, f73, f74⟩ := hp
        show Tm _ _ 226 b σ66 [(9, .int (iI i63)), (8, .int (iI v46)), (5, .int (iI m)), (1, .int (iI kn)), (0, .ref b)] [] _
        have pbB : PBF σ64 σ66 := PBF.it pbA.2.2.1 f68 (by decide) (by decide) (by decide) f70 rfl f71
        have fB := (show Fr [34] [3, 4, 5, 6, 7, 8] [] σ σ66 from (((Fr.rfl.trans (Fr.sub f47 (by decide) (by decide) (by decide))).trans (Fr.sub F57 (by decide) (by decide) (by decide))).trans (Fr.sub f68 (by decide) (by decide) (by decide))))
        have tbB : TBm σ64 σ66 := TBm.of f68 (by decide) (by decide) (by decide) (by decide)
        have e26B : σ66.1 26 = σ.1 26 := fB.1 26 (by decide)
        have tsB := hts.putc ((Fr.sub hfn (by decide) (by decide) (by decide)).trans (Fr.sub fB (by decide) (by decide) (by decide))) (hpn.trans (pbA.trans pbB)) (by rw [f70, eA, hfn.1 34 (by decide)]; omega) (by decide) hrd0 (fun z1 z2 => (hE (by rw [hfn.1 25 (by decide)]; exact z1) (by rw [← e26B]; exact z2)).bt (TBm.of hfn (by decide) (by decide) (by decide) (by decide))) (by rw [srt_fr fB (by decide) (by decide) (by decide)]; exact hsn) ((show RNV σ w _ by first | exact RNV.no hrb (by omega) | exact RNV.inn hrb (by omega) hq.2 (by omega) | exact RNV.out hrb (by omega) hq.2 (by omega)).fr hfn (by decide) (by decide)) (ptA.pre hfn (by decide) (by decide)) ((Fr.sub hfn (by decide) (by decide) (by decide)).trans (Fr.sub fA (by decide) (by decide) (by decide))) f74 f68
        have asA : ASF σc σ64 [(1, m, w)] := ASF.call hac hpc pbA tbA hts33 eA (by rw [← jv]; exact (congrFun (F57.2.1 3 (by decide)) _).trans ji.1) (fun z1 z2 z3 z4 => by have ev := ((z4 (1, m, w) (List.mem_singleton.mpr rfl)).tb htb).rby hrb hq; rw [← jv]; have e5 := (congrFun (F57.2.1 5 (by decide)) _).trans ji.2.2.1; refine ⟨oki_call ji hk12 (by omega) F57 la1 ⟨la0.2.2, la0.2.1⟩ (hcg.mv f47 (by decide) (by decide) (by rw [jn]; omega)) (by rw [jn]; omega) (by rw [f47.2.1 11 (by decide)]; first | exact ev.2 | (exfalso; omega)), ?_, ?_⟩ <;> (rw [e5]; have z9 := htb.1; omega)) h0c
        have asB : ASF σc σ66 [(1, m, w)] := asA.snoc (hpc.trans pbA) pbB tbB f70 (fun _ _ _ => f72) (Or.inr (Or.inr (Or.inr f73))) h0c
        have e28B : σ66.1 28 = 0 := (fB.1 28 (by decide)).trans h28
        have tkB := tsB.2.2.1.1.1
        refine tm_aload_n dX12_call_226 rfl 4 rfl ?_
        refine tm_bipush dX12_call_227 (by decide) ?_
        refine tm_callV (M := m_X12_call) (pc := 229) (ix := 330) (M' := m_X12_need) (As := [.int (iI 41)]) (rest := []) dX12_call_229 ok_X12_need im_X12_need se_X12_need ml12_330 np_X12_need rfl rfl (Nat.le_of_ble_eq_true rfl) (Nat.le_of_ble_eq_true rfl) rfl (c_X12_need (d + 2) (σ := σ66) (c := 41) f69 (by omega) (by omega)) (fun r75 σ76 hp => ?_)
        obtain ⟨v77, rfl, f78, f79, f80, f81, f82, f83, f84⟩ := hp
        show Tm _ _ 232 b σ76 [(9, .int (iI i63)), (8, .int (iI v46)), (5, .int (iI m)), (1, .int (iI kn)), (0, .ref b)] [.int (iI v77)] _
        exact tm_zret (v := v77) rfl (by omega) dX12_call_232 ((fun (pbN : PBF _ _) => hret _ _ ((((Fr.rfl.trans (Fr.sub f47 (by decide) (by decide) (by decide))).trans (Fr.sub F57 (by decide) (by decide) (by decide))).trans (Fr.sub f68 (by decide) (by decide) (by decide))).trans (Fr.sub f79 (by decide) (by decide) (by decide))) f80 f78 (tsB.1.trans pbN) (fun z => have yq := f81 z; ⟨_, (tsB.needy f79 yq.2.2.1 yq.2.2.2.1 yq.2.2.2.2 (by have z2 := yq.1.1; omega) (un_41 yq.1 yq.2.1 (MSE.fr f79 (by decide) (by decide) (by decide)))).le (by decide), asB.mv (hpc.trans (pbA.trans pbB)) pbN (TBm.of f79 (by decide) (by decide) (by decide) (by decide)) (f79.1 34 (by decide)) h0c, hpc.trans ((pbA.trans pbB).trans pbN)⟩) (fun z => (tsB.fail pbN (gf_41 (f82 z) (f84 z))).2) ((f79.1 28 (by decide)).trans e28B)) (PBF.of tsB.nn f79 (by decide) (by decide) (by decide) f83))
    · refine tm_iconst dX12_call_155 ?_
      refine tm_goto (tgt := 172) dX12_call_156 (by decide) ?_
      refine tm_callV (M := m_X12_call) (pc := 172) (ix := 294) (M' := m_X12_put) (As := [.int (iI 10), .int (iI kn), .int (iI 0)]) (rest := []) dX12_call_172 ok_X12_put im_X12_put se_X12_put ml12_294 np_X12_put rfl rfl (Nat.le_of_ble_eq_true rfl) (Nat.le_of_ble_eq_true rfl) rfl (c_X12_put (d + 6) (σ := σ) (k := 10) (e := kn) (o := 0) hR (by omega) (by omega) (by omega) (by omega)) (fun r85 σ86 hp => ?_)
      obtain ⟨v87, rfl, f88, f89, f90, f91, f92, f93, f94, f95⟩ := hp
      show Tm _ _ 175 b σ86 [(7, .int (iI q)), (5, .int (iI m)), (1, .int (iI kn)), (0, .ref b)] [.int (iI v87)] _
      refine tm_istore (L' := [(8, .int (iI v87)), (7, .int (iI q)), (5, .int (iI m)), (1, .int (iI kn)), (0, .ref b)]) dX12_call_175 (by decide) rfl ?_
      have jv := f90
      have jn := f91
      have ji := f92
      have jo := f93
      have jr := f94
      have jz := f95
      refine tm_iconst dX12_call_177 ?_
      refine tm_istore (L' := [(9, .int (iI 0)), (8, .int (iI v87)), (7, .int (iI q)), (5, .int (iI m)), (1, .int (iI kn)), (0, .ref b)]) dX12_call_178 (by decide) rfl ?_
      refine tm_sub [0, 1, 3, 4, 5] rfl (l_callA (d + 7) (σ0 := σ86) (kn := kn) (m := m) (x := v87) f89 (by omega) (by omega) (fun i104 σ105 F98 R99 f100 f101 f102 f103 => ?_) _ (0) σ86 Fr.rfl f89 (by omega) CRG.start ⟨fun _ _ => ⟨rfl, rfl, rfl, rfl⟩, fun _ _ => ⟨rfl, rfl⟩, rfl, rfl⟩ rfl)
      show Tm _ _ 221 b σ105 [(9, .int (iI i104)), (8, .int (iI v87)), (5, .int (iI m)), (1, .int (iI kn)), (0, .ref b)] [] _
      have la0 := f100
      have la1 := f101
      have la2 := f102
      have la3 := f103
      have ptA : PIT σ σ105 (itC kn _ as) := PIT.at jv ((F98.1 34 (by decide)).trans jn) (jo.trans la2) (ri_call jz F98 la1 ⟨la0, la3⟩ (hca.mv f88 (by decide) (by decide)))
      have fA := (show Fr [34] [3, 4, 5, 6, 7, 8] [] σ σ105 from ((Fr.rfl.trans (Fr.sub f88 (by decide) (by decide) (by decide))).trans (Fr.sub F98 (by decide) (by decide) (by decide))))
      have eA : σ105.1 34 = σ.1 34 + 1 := (F98.1 34 (by decide)).trans jn
      have pbA : PBF σ σ105 := PBF.it hpn.2.2.1 fA (by decide) (by decide) (by decide) eA jv (jo.trans la2)
      have tbA : TBm σ σ105 := TBm.of fA (by decide) (by decide) (by decide) (by decide)
      have e30A : σ105.1 30 = σ.1 30 := fA.1 30 (by decide)
      refine tm_aload_n dX12_call_221 rfl 4 rfl ?_
      refine tm_iload_n dX12_call_222 rfl 3 rfl ?_
      refine tm_callV (M := m_X12_call) (pc := 223) (ix := 359) (M' := m_X12_bind) (As := [.int (iI kn)]) (rest := []) dX12_call_223 ok_X12_bind im_X12_bind se_X12_bind ml12_359 np_X12_bind rfl rfl (Nat.le_of_ble_eq_true rfl) (Nat.le_of_ble_eq_true rfl) rfl (c_X12_bind (d + 5) (σ := σ105) (k := kn) R99 (by rw [e30A, eA]; omega) hk12) (fun r106 σ107 hp => ?_)
      obtain ⟨rfl, f109, f110, f111, f112, f113, f114, f115⟩ := hp
      show Tm _ _ 226 b σ107 [(9, .int (iI i104)), (8, .int (iI v87)), (5, .int (iI m)), (1, .int (iI kn)), (0, .ref b)] [] _
      have pbB : PBF σ105 σ107 := PBF.it pbA.2.2.1 f109 (by decide) (by decide) (by decide) f111 rfl f112
      have fB := (show Fr [34] [3, 4, 5, 6, 7, 8] [] σ σ107 from (((Fr.rfl.trans (Fr.sub f88 (by decide) (by decide) (by decide))).trans (Fr.sub F98 (by decide) (by decide) (by decide))).trans (Fr.sub f109 (by decide) (by decide) (by decide))))
      have tbB : TBm σ105 σ107 := TBm.of f109 (by decide) (by decide) (by decide) (by decide)
      have e26B : σ107.1 26 = σ.1 26 := fB.1 26 (by decide)
      have tsB := hts.putc ((Fr.sub hfn (by decide) (by decide) (by decide)).trans (Fr.sub fB (by decide) (by decide) (by decide))) (hpn.trans (pbA.trans pbB)) (by rw [f111, eA, hfn.1 34 (by decide)]; omega) (by decide) hrd0 (fun z1 z2 => (hE (by rw [hfn.1 25 (by decide)]; exact z1) (by rw [← e26B]; exact z2)).bt (TBm.of hfn (by decide) (by decide) (by decide) (by decide))) (by rw [srt_fr fB (by decide) (by decide) (by decide)]; exact hsn) ((show RNV σ w _ by first | exact RNV.no hrb (by omega) | exact RNV.inn hrb (by omega) hq.2 (by omega) | exact RNV.out hrb (by omega) hq.2 (by omega)).fr hfn (by decide) (by decide)) (ptA.pre hfn (by decide) (by decide)) ((Fr.sub hfn (by decide) (by decide) (by decide)).trans (Fr.sub fA (by decide) (by decide) (by decide))) f115 f109
      have asA : ASF σc σ105 [(1, m, w)] := ASF.call hac hpc pbA tbA hts33 eA (by rw [← jv]; exact (congrFun (F98.2.1 3 (by decide)) _).trans ji.1) (fun z1 z2 z3 z4 => by have ev := ((z4 (1, m, w) (List.mem_singleton.mpr rfl)).tb htb).rby hrb hq; rw [← jv]; have e5 := (congrFun (F98.2.1 5 (by decide)) _).trans ji.2.2.1; refine ⟨oki_call ji hk12 (by omega) F98 la1 ⟨la0.2.2, la0.2.1⟩ (hcg.mv f88 (by decide) (by decide) (by rw [jn]; omega)) (by rw [jn]; omega) (by rw [f88.2.1 11 (by decide)]; first | exact ev.2 | (exfalso; omega)), ?_, ?_⟩ <;> (rw [e5]; have z9 := htb.1; omega)) h0c
      have asB : ASF σc σ107 [(1, m, w)] := asA.snoc (hpc.trans pbA) pbB tbB f111 (fun _ _ _ => f113) (Or.inr (Or.inr (Or.inr f114))) h0c
      have e28B : σ107.1 28 = 0 := (fB.1 28 (by decide)).trans h28
      have tkB := tsB.2.2.1.1.1
      refine tm_aload_n dX12_call_226 rfl 4 rfl ?_
      refine tm_bipush dX12_call_227 (by decide) ?_
      refine tm_callV (M := m_X12_call) (pc := 229) (ix := 330) (M' := m_X12_need) (As := [.int (iI 41)]) (rest := []) dX12_call_229 ok_X12_need im_X12_need se_X12_need ml12_330 np_X12_need rfl rfl (Nat.le_of_ble_eq_true rfl) (Nat.le_of_ble_eq_true rfl) rfl (c_X12_need (d + 2) (σ := σ107) (c := 41) f110 (by omega) (by omega)) (fun r116 σ117 hp => ?_)
      obtain ⟨v118, rfl, f119, f120, f121, f122, f123, f124, f125⟩ := hp
      show Tm _ _ 232 b σ117 [(9, .int (iI i104)), (8, .int (iI v87)), (5, .int (iI m)), (1, .int (iI kn)), (0, .ref b)] [.int (iI v118)] _
      exact tm_zret (v := v118) rfl (by omega) dX12_call_232 ((fun (pbN : PBF _ _) => hret _ _ ((((Fr.rfl.trans (Fr.sub f88 (by decide) (by decide) (by decide))).trans (Fr.sub F98 (by decide) (by decide) (by decide))).trans (Fr.sub f109 (by decide) (by decide) (by decide))).trans (Fr.sub f120 (by decide) (by decide) (by decide))) f121 f119 (tsB.1.trans pbN) (fun z => have yq := f122 z; ⟨_, (tsB.needy f120 yq.2.2.1 yq.2.2.2.1 yq.2.2.2.2 (by have z2 := yq.1.1; omega) (un_41 yq.1 yq.2.1 (MSE.fr f120 (by decide) (by decide) (by decide)))).le (by decide), asB.mv (hpc.trans (pbA.trans pbB)) pbN (TBm.of f120 (by decide) (by decide) (by decide) (by decide)) (f120.1 34 (by decide)) h0c, hpc.trans ((pbA.trans pbB).trans pbN)⟩) (fun z => (tsB.fail pbN (gf_41 (f123 z) (f125 z))).2) ((f120.1 28 (by decide)).trans e28B)) (PBF.of tsB.nn f120 (by decide) (by decide) (by decide) f124))
end
section
theorem ml12_363 : Cond.methodLink RX12 363 yX12_routineBy ∈ pWW := pw8 (List.mem_of_getElem? (i := 169) rfl) rfl
theorem ml12_367 : Cond.methodLink RX12 367 yX12_calledMany ∈ pWW := pw9 (List.mem_of_getElem? (i := 17) rfl) rfl
theorem dX12_call_0 : decode cX12_call 0 = .ok (.aload_n 0, 1) := by decide +kernel
theorem dX12_call_1 : decode cX12_call 1 = .ok (.invokevirtual 265, 3) := by decide +kernel
theorem dX12_call_4 : decode cX12_call 4 = .ok (.iconst 0, 1) := by decide +kernel
theorem dX12_call_5 : decode cX12_call 5 = .ok (.istore 5, 2) := by decide +kernel
theorem dX12_call_7 : decode cX12_call 7 = .ok (.aload_n 0, 1) := by decide +kernel
theorem dX12_call_8 : decode cX12_call 8 = .ok (.bipush 41, 2) := by decide +kernel
theorem dX12_call_10 : decode cX12_call 10 = .ok (.invokevirtual 258, 3) := by decide +kernel
theorem dX12_call_13 : decode cX12_call 13 = .ok (.ifCond .ne 7, 3) := by decide +kernel
theorem dX12_call_20 : decode cX12_call 20 = .ok (.iconst 0, 1) := by decide +kernel
theorem dX12_call_21 : decode cX12_call 21 = .ok (.istore 6, 2) := by decide +kernel
theorem dX12_call_88 : decode cX12_call 88 = .ok (.aload_n 0, 1) := by decide +kernel
theorem dX12_call_89 : decode cX12_call 89 = .ok (.lload_n 2, 1) := by decide +kernel
theorem dX12_call_90 : decode cX12_call 90 = .ok (.invokevirtual 363, 3) := by decide +kernel
theorem dX12_call_93 : decode cX12_call 93 = .ok (.istore 7, 2) := by decide +kernel
theorem dX12_call_95 : decode cX12_call 95 = .ok (.aload_n 0, 1) := by decide +kernel
theorem dX12_call_96 : decode cX12_call 96 = .ok (.getfield 255, 3) := by decide +kernel
theorem dX12_call_99 : decode cX12_call 99 = .ok (.iconst 2, 1) := by decide +kernel
theorem dX12_call_100 : decode cX12_call 100 = .ok (.if_icmp .ne 19, 3) := by decide +kernel
theorem dX12_call_119 : decode cX12_call 119 = .ok (.aload_n 0, 1) := by decide +kernel
theorem dX12_call_120 : decode cX12_call 120 = .ok (.getfield 255, 3) := by decide +kernel
theorem dX12_call_123 : decode cX12_call 123 = .ok (.iconst 2, 1) := by decide +kernel
theorem dX12_call_124 : decode cX12_call 124 = .ok (.if_icmp .ne 21, 3) := by decide +kernel
theorem dX12_call_103 : decode cX12_call 103 = .ok (.iload 7, 2) := by decide +kernel
theorem dX12_call_105 : decode cX12_call 105 = .ok (.iconst (-1), 1) := by decide +kernel
theorem dX12_call_106 : decode cX12_call 106 = .ok (.if_icmp .ne 13, 3) := by decide +kernel
theorem dX12_call_127 : decode cX12_call 127 = .ok (.iload 5, 2) := by decide +kernel
theorem dX12_call_129 : decode cX12_call 129 = .ok (.aload_n 0, 1) := by decide +kernel
theorem dX12_call_130 : decode cX12_call 130 = .ok (.iload 7, 2) := by decide +kernel
theorem dX12_call_132 : decode cX12_call 132 = .ok (.invokevirtual 367, 3) := by decide +kernel
theorem dX12_call_135 : decode cX12_call 135 = .ok (.if_icmp .eq 10, 3) := by decide +kernel
theorem dX12_call_138 : decode cX12_call 138 = .ok (.aload_n 0, 1) := by decide +kernel
theorem dX12_call_139 : decode cX12_call 139 = .ok (.iconst 4, 1) := by decide +kernel
theorem dX12_call_140 : decode cX12_call 140 = .ok (.iload 4, 2) := by decide +kernel
theorem dX12_call_142 : decode cX12_call 142 = .ok (.invokevirtual 274, 3) := by decide +kernel
theorem dX12_call_109 : decode cX12_call 109 = .ok (.aload_n 0, 1) := by decide +kernel
theorem dX12_call_110 : decode cX12_call 110 = .ok (.iconst 3, 1) := by decide +kernel
theorem dX12_call_111 : decode cX12_call 111 = .ok (.iload 4, 2) := by decide +kernel
theorem dX12_call_113 : decode cX12_call 113 = .ok (.invokevirtual 274, 3) := by decide +kernel
theorem dX12_call_116 : decode cX12_call 116 = .ok (.goto 29, 3) := by decide +kernel
theorem dX12_call_16 : decode cX12_call 16 = .ok (.iconst 1, 1) := by decide +kernel
theorem dX12_call_17 : decode cX12_call 17 = .ok (.goto 4, 3) := by decide +kernel
set_option maxHeartbeats 4000000 in
set_option maxRecDepth 20000 in
theorem c_X12_call (d : Nat) {b : Nat} {σ : MS} {kn : Int} {w : Int64} {p : Int} {ρ : MS} (hR : RG σ) (hrd0 : RDY ρ) (hts : TS 20 5 ρ [26, 159] σ (fun c => (w, 0, p, 0, c)) [] [(9, kn, 0, [])]) (hk12 : 0 ≤ kn ∧ kn < 12) (h28 : σ.1 28 = 0) (ht : 0 ≤ σ.1 43 ∧ σ.1 43 ≤ 260) (hs40 : SG σ 40) (h_p : -2147483648 ≤ p ∧ p ≤ 2147483647) : Tm (d + 42) m_X12_call 0 b σ [(0, .ref b), (1, .int (iI kn)), (2, .long (w)), (4, .int (iI p))] [] (fun ro σ2 => ∃ v : Int, ro = some (.int (iI v)) ∧ ((v = 0 ∨ v = 1)) ∧ (Fr [19, 20, 22, 23, 26, 27, 28, 32, 34, 39, 40] [3, 4, 5, 6, 7, 8, 35, 41, 42] [24, 38] σ σ2) ∧ (RG σ2) ∧ (PBF ρ σ2) ∧ (Im v 1 (∃ lg, TS 20 5 ρ [159] σ2 qq lg [] ∧ ASF σ σ2 lg ∧ PBF σ σ2)) ∧ (Im v 0 (∀ c : Int, GOF [20] ρ (qq c) σ2)) ∧ (σ2.1 28 = 0)) := by
  refine tm_aload_n dX12_call_0 rfl 0 rfl ?_
  refine tm_callV (M := m_X12_call) (pc := 1) (ix := 265) (M' := m_X12_advance) (As := []) (rest := []) dX12_call_1 ok_X12_advance im_X12_advance se_X12_advance ml12_265 np_X12_advance rfl rfl (Nat.le_of_ble_eq_true rfl) (Nat.le_of_ble_eq_true rfl) rfl (c_X12_advance (d + 36) (σ := σ)  hR (by have z := hts.2.2.1.1.1; omega)) (fun r1 σ2 hp => ?_)
  obtain ⟨rfl, f4, f5, f6, f7, f8⟩ := hp
  show Tm _ _ 4 b σ2 [(0, .ref b), (1, .int (iI kn)), (2, .long (w)), (4, .int (iI p))] [] _
  have ad0 := f4
  have ad1 := f5
  have ad2 := f6
  have ad3 := f7
  have ad4 := f8
  refine tm_iconst dX12_call_4 ?_
  refine tm_istore (L' := [(5, .int (iI 0)), (0, .ref b), (1, .int (iI kn)), (2, .long (w)), (4, .int (iI p))]) dX12_call_5 (by decide) rfl ?_
  refine tm_aload_n dX12_call_7 rfl 1 rfl ?_
  refine tm_bipush dX12_call_8 (by decide) ?_
  refine tm_callV (M := m_X12_call) (pc := 10) (ix := 258) (M' := m_X12_isSign) (As := [.int (iI 41)]) (rest := []) dX12_call_10 ok_X12_isSign im_X12_isSign se_X12_isSign ml12_258 np_X12_isSign rfl rfl (Nat.le_of_ble_eq_true rfl) (Nat.le_of_ble_eq_true rfl) rfl (c2_X12_isSign (d + 40) (σ := σ2) (c := 41) f6 (by omega)) (fun r9 σ10 hp => ?_)
  obtain ⟨v11, rfl, rfl, f12, f13, f14⟩ := hp
  show Tm _ _ 13 b σ2 [(5, .int (iI 0)), (0, .ref b), (1, .int (iI kn)), (2, .long (w)), (4, .int (iI p))] [.int (iI v11)] _
  have i41 := f13
  have n41_ := f14
  have tka := ad3.1
  have pba : PBF σ σ2 := PBF.nop hts.nn ad1 (by decide) (by decide) (by decide)
  have hnz : σ.1 22 ≠ 0 := by have z := hs40.1; omega
  have e28a : σ2.1 28 = 0 := (ad1.1 28 (by decide)).trans h28
  have e30a : σ2.1 30 = σ.1 30 := ad1.1 30 (by decide)
  have rdc := hts.2.2.1.2
  refine tm_if_ne (tgt := 20) dX12_call_13 (by decide) ⟨by omega, by omega⟩ (fun h15 => ?_) (fun h15 => ?_)
  · refine tm_iconst dX12_call_20 ?_
    refine tm_istore (L' := [(6, .int (iI 0)), (5, .int (iI 0)), (0, .ref b), (1, .int (iI kn)), (2, .long (w)), (4, .int (iI p))]) dX12_call_21 (by decide) rfl ?_
    refine tm_sub [0, 1, 5, 4, 3, 2] rfl (l_call (d + 1) (σ0 := σ2) (kn := kn) (p := p) (ρ := ρ) (w := w) f6 (by omega) (by omega) (fun m27 mo28 σ29 F19 R20 f21 f22 f23 f24 f25 f26 => ?_) (fun τ z1 z2 z3 z4 z5 => ⟨_, rfl, by omega, (show Fr [19, 20, 22, 23, 26, 27, 28, 32, 34, 39, 40] [3, 4, 5, 6, 7, 8, 35, 41, 42] [24, 38] σ σ2 from (Fr.rfl.trans (Fr.sub f5 (by decide) (by decide) (by decide)))).trans z1, z2, z3, fun q => absurd q (by decide), fun _ => z4, z5⟩) _ (0) (0) σ2 Fr.rfl f6 (by omega) ⟨fun q => absurd q (by decide), fun _ => ⟨[], CAA.nil, (hts.adv ad1 ad3 ad4 hnz (u26y ad0 (i41 (by omega)) (MSE.fr ad1 (by decide) (by decide) (by decide)))).le (by decide)⟩⟩ (PBF.nop pba.2.2.1 (Fr.rfl : Fr [] [] [] _ _) (by decide) (by decide) (by decide)) (AC.nil rfl) CAG.nil e28a rfl)
    show Tm _ _ 88 b σ29 [(6, .int (iI mo28)), (5, .int (iI m27)), (4, .int (iI p)), (2, .long (w)), (1, .int (iI kn)), (0, .ref b)] [] _
    have le0 := f21
    obtain ⟨as, lca, le1⟩ := f22
    have le2 := f23
    have le3 := f24
    have le4 := f25
    have le5 := f26
    have f88 := (show Fr [19, 20, 22, 23, 26, 27, 28, 32, 34, 39, 40] [3, 4, 5, 6, 7, 8, 35, 41, 42] [24, 38] σ σ29 from ((Fr.rfl.trans (Fr.sub f5 (by decide) (by decide) (by decide))).trans (Fr.sub F19 (by decide) (by decide) (by decide))))
    have e43 : σ29.1 43 = σ.1 43 := f88.1 43 (by decide)
    have pbc : PBF σ σ29 := pba.trans le2
    have acc : AC σ σ29 := (AC.nil (ad1.1 34 (by decide))).trans pba le3 le2 (by omega)
    have tbc : TBm σ σ29 := TBm.of f88 (by decide) (by decide) (by decide) (by decide)
    have h33c := le1.2.1
    have e33c : σ29.1 33 = σ.1 33 := f88.1 33 (by decide)
    have e25c : σ29.1 25 = σ.1 25 := f88.1 25 (by decide)
    have R88 := R20
    refine tm_aload_n dX12_call_88 rfl 5 rfl ?_
    refine tm_lload_n dX12_call_89 rfl 3 rfl ?_
    refine tm_callV (M := m_X12_call) (pc := 90) (ix := 363) (M' := m_X12_routineBy) (As := [.long (w)]) (rest := []) dX12_call_90 ok_X12_routineBy im_X12_routineBy se_X12_routineBy ml12_363 np_X12_routineBy rfl rfl (Nat.le_of_ble_eq_true rfl) (Nat.le_of_ble_eq_true rfl) rfl (c2_X12_routineBy (d + 40) (σ := σ29) (w := w) R88 (by rw [e43]; exact ht)) (fun r30 σ31 hp => ?_)
    obtain ⟨v32, rfl, rfl, f33, f34⟩ := hp
    show Tm _ _ 93 b σ29 [(6, .int (iI mo28)), (5, .int (iI m27)), (4, .int (iI p)), (2, .long (w)), (1, .int (iI kn)), (0, .ref b)] [.int (iI v32)] _
    refine tm_istore (L' := [(7, .int (iI v32)), (6, .int (iI mo28)), (5, .int (iI m27)), (4, .int (iI p)), (2, .long (w)), (1, .int (iI kn)), (0, .ref b)]) dX12_call_93 (by decide) rfl ?_
    have rq := f33
    have rb := f34
    refine tm_aload_n dX12_call_95 rfl 6 rfl ?_
    refine tm_getS (k := 25) (t := σ.1 25) dX12_call_96 (by decide) fl12_255 rfl (rs_F F19 (by decide) (rs_F f5 (by decide) (rfl))) ?_
    have g35 := RG.s hR 25
    refine tm_iconst dX12_call_99 ?_
    refine tm_icmp_ne (tgt := 119) dX12_call_100 (by decide) ⟨by omega, by omega⟩ ⟨by decide, by decide⟩ (fun h36 => ?_) (fun h36 => ?_)
    · refine tm_aload_n dX12_call_119 rfl 6 rfl ?_
      refine tm_getS (k := 25) (t := σ.1 25) dX12_call_120 (by decide) fl12_255 rfl (rs_F F19 (by decide) (rs_F f5 (by decide) (rfl))) ?_
      have g37 := RG.s hR 25
      refine tm_iconst dX12_call_123 ?_
      refine tm_icmp_ne (tgt := 145) dX12_call_124 (by decide) ⟨by omega, by omega⟩ ⟨by decide, by decide⟩ (fun h38 => ?_) (fun h38 => ?_)
      · refine tm_sub [0, 2, 5, 6] rfl (b_call145 (d + 33) (σ := σ29) (kn := kn) (m := m27) (q := v32) (ρ := ρ) (σc := σ) (w := w) (as := as) (σb := σ29) (p := p) R20 hrd0 le1 lca Fr.rfl (PBF.nop le1.nn (Fr.rfl : Fr [] [] [] _ _) (by decide) (by decide) (by decide)) (by rw [clP_off (by omega)]) le1.2.2.1 hk12 le0 rb rq (by rw [e43]; exact ht.2) (fun z => absurd z (by omega)) acc pbc tbc (by omega) ⟨by omega, by omega⟩ le4 le5 (fun v τ z1 z2 z3 z4 z5 z6 z7 => ⟨_, rfl, z3, (show Fr [19, 20, 22, 23, 26, 27, 28, 32, 34, 39, 40] [3, 4, 5, 6, 7, 8, 35, 41, 42] [24, 38] σ σ29 from ((Fr.rfl.trans (Fr.sub f5 (by decide) (by decide) (by decide))).trans (Fr.sub F19 (by decide) (by decide) (by decide)))).trans z1, z2, z4, z5, z6, z7⟩) _  rfl)
      · exact absurd h38 (by omega)
    · refine tm_iload dX12_call_103 0 rfl ?_
      refine tm_iconst dX12_call_105 ?_
      refine tm_icmp_ne (tgt := 119) dX12_call_106 (by decide) ⟨by omega, by omega⟩ ⟨by decide, by decide⟩ (fun h39 => ?_) (fun h39 => ?_)
      · refine tm_aload_n dX12_call_119 rfl 6 rfl ?_
        refine tm_getS (k := 25) (t := σ.1 25) dX12_call_120 (by decide) fl12_255 rfl (rs_F F19 (by decide) (rs_F f5 (by decide) (rfl))) ?_
        have g40 := RG.s hR 25
        refine tm_iconst dX12_call_123 ?_
        refine tm_icmp_ne (tgt := 145) dX12_call_124 (by decide) ⟨by omega, by omega⟩ ⟨by decide, by decide⟩ (fun h41 => ?_) (fun h41 => ?_)
        · exact absurd h41 (by omega)
        · refine tm_iload dX12_call_127 2 rfl ?_
          refine tm_aload_n dX12_call_129 rfl 6 rfl ?_
          refine tm_iload dX12_call_130 0 rfl ?_
          refine tm_callV (M := m_X12_call) (pc := 132) (ix := 367) (M' := m_X12_calledMany) (As := [.int (iI v32)]) (rest := [.int (iI m27)]) dX12_call_132 ok_X12_calledMany im_X12_calledMany se_X12_calledMany ml12_367 np_X12_calledMany rfl rfl (Nat.le_of_ble_eq_true rfl) (Nat.le_of_ble_eq_true rfl) rfl (c_X12_calledMany (d + 40) (σ := σ29) (q := v32) (by omega)) (fun r42 σ43 hp => ?_)
          obtain ⟨v44, rfl, rfl, f45⟩ := hp
          show Tm _ _ 135 b σ29 [(7, .int (iI v32)), (6, .int (iI mo28)), (5, .int (iI m27)), (4, .int (iI p)), (2, .long (w)), (1, .int (iI kn)), (0, .ref b)] [.int (iI v44), .int (iI m27)] _
          have cm := f45
          have g45 := RG.a R88 45 (v32)
          refine tm_icmp_eq (tgt := 145) dX12_call_135 (by decide) ⟨by omega, by omega⟩ ⟨by omega, by omega⟩ (fun h46 => ?_) (fun h46 => ?_)
          · have cme : σ29.2.1 45 (v32) = m27 := by omega
            refine tm_sub [0, 2, 5, 6] rfl (b_call145 (d + 33) (σ := σ29) (kn := kn) (m := m27) (q := v32) (ρ := ρ) (σc := σ) (w := w) (as := as) (σb := σ29) (p := p) R20 hrd0 le1 lca Fr.rfl (PBF.nop le1.nn (Fr.rfl : Fr [] [] [] _ _) (by decide) (by decide) (by decide)) (by rw [clP_ok rb (by omega) rq.2 cme.symm]) le1.2.2.1 hk12 le0 rb rq (by rw [e43]; exact ht.2) (fun _ _ => ⟨fun z => absurd (show (1 : Int) = 0 from z) (by decide), fun _ => ⟨_, ⟨by omega, rq.2⟩, rb, cme⟩⟩) acc pbc tbc (by omega) ⟨by omega, by omega⟩ le4 le5 (fun v τ z1 z2 z3 z4 z5 z6 z7 => ⟨_, rfl, z3, (show Fr [19, 20, 22, 23, 26, 27, 28, 32, 34, 39, 40] [3, 4, 5, 6, 7, 8, 35, 41, 42] [24, 38] σ σ29 from ((Fr.rfl.trans (Fr.sub f5 (by decide) (by decide) (by decide))).trans (Fr.sub F19 (by decide) (by decide) (by decide)))).trans z1, z2, z4, z5, z6, z7⟩) _  rfl)
          · refine tm_aload_n dX12_call_138 rfl 6 rfl ?_
            refine tm_iconst dX12_call_139 ?_
            refine tm_iload dX12_call_140 3 rfl ?_
            refine tm_callV (M := m_X12_call) (pc := 142) (ix := 274) (M' := m_X12_note) (As := [.int (iI 4), .int (iI p)]) (rest := []) dX12_call_142 ok_X12_note im_X12_note se_X12_note ml12_274 np_X12_note rfl rfl (Nat.le_of_ble_eq_true rfl) (Nat.le_of_ble_eq_true rfl) rfl (c2_X12_note (d + 40) (σ := σ29) (f := 4) (p := p) R88 (by omega) (by omega)) (fun r47 σ48 hp => ?_)
            obtain ⟨rfl, f50, f51, f52, f53, f54⟩ := hp
            show Tm _ _ 145 b σ48 [(7, .int (iI v32)), (6, .int (iI mo28)), (5, .int (iI m27)), (4, .int (iI p)), (2, .long (w)), (1, .int (iI kn)), (0, .ref b)] [] _
            refine tm_sub [0, 2, 5, 6] rfl (b_call145 (d + 33) (σ := σ48) (kn := kn) (m := m27) (q := v32) (ρ := ρ) (σc := σ) (w := w) (as := as) (σb := σ29) (p := p) f51 hrd0 le1 (lca.mv f50 (by decide) (by decide)) f50 (PBF.of le1.nn f50 (by decide) (by decide) (by decide) f52) (by rw [f54, clP_bad (by omega) rb (by omega) rq.2 (by omega)]) (RDY.of le1.2.2.1 ⟨f50.1 25 (by decide), f50.1 30 (by decide)⟩ (by unfold TOK; rw [f50.1 19 (by decide), f50.1 20 (by decide), f50.1 21 (by decide), f50.1 22 (by decide), f50.1 23 (by decide)]; exact le1.2.2.1.1) (PBC.nop f50 (by decide)) (by decide)) hk12 le0 (rb.tb (TBm.of f50 (by decide) (by decide) (by decide) (by decide))) (by rw [f50.1 43 (by decide)]; exact rq) (by rw [f50.1 43 (by decide), e43]; exact ht.2) (fun _ z => absurd z (f53 (by omega))) (acc.trans pbc (AC.nil (f50.1 34 (by decide))) (PBF.of le1.nn f50 (by decide) (by decide) (by decide) f52) (by omega)) (pbc.trans (PBF.of le1.nn f50 (by decide) (by decide) (by decide) f52)) (tbc.trans (TBm.of f50 (by decide) (by decide) (by decide) (by decide))) (by rw [f50.1 33 (by decide)]; omega) ⟨by omega, by omega⟩ (le4.mv f50 (by decide) (by decide) (by rw [f50.1 34 (by decide)]; omega)) ((f50.1 28 (by decide)).trans le5) (fun v τ z1 z2 z3 z4 z5 z6 z7 => ⟨_, rfl, z3, (show Fr [19, 20, 22, 23, 26, 27, 28, 32, 34, 39, 40] [3, 4, 5, 6, 7, 8, 35, 41, 42] [24, 38] σ σ48 from (((Fr.rfl.trans (Fr.sub f5 (by decide) (by decide) (by decide))).trans (Fr.sub F19 (by decide) (by decide) (by decide))).trans (Fr.sub f50 (by decide) (by decide) (by decide)))).trans z1, z2, z4, z5, z6, z7⟩) _  rfl)
      · refine tm_aload_n dX12_call_109 rfl 6 rfl ?_
        refine tm_iconst dX12_call_110 ?_
        refine tm_iload dX12_call_111 3 rfl ?_
        refine tm_callV (M := m_X12_call) (pc := 113) (ix := 274) (M' := m_X12_note) (As := [.int (iI 3), .int (iI p)]) (rest := []) dX12_call_113 ok_X12_note im_X12_note se_X12_note ml12_274 np_X12_note rfl rfl (Nat.le_of_ble_eq_true rfl) (Nat.le_of_ble_eq_true rfl) rfl (c2_X12_note (d + 40) (σ := σ29) (f := 3) (p := p) R88 (by omega) (by omega)) (fun r55 σ56 hp => ?_)
        obtain ⟨rfl, f58, f59, f60, f61, f62⟩ := hp
        show Tm _ _ 116 b σ56 [(7, .int (iI v32)), (6, .int (iI mo28)), (5, .int (iI m27)), (4, .int (iI p)), (2, .long (w)), (1, .int (iI kn)), (0, .ref b)] [] _
        refine tm_goto (tgt := 145) dX12_call_116 (by decide) ?_
        refine tm_sub [0, 2, 5, 6] rfl (b_call145 (d + 33) (σ := σ56) (kn := kn) (m := m27) (q := v32) (ρ := ρ) (σc := σ) (w := w) (as := as) (σb := σ29) (p := p) f59 hrd0 le1 (lca.mv f58 (by decide) (by decide)) f58 (PBF.of le1.nn f58 (by decide) (by decide) (by decide) f60) (by rw [f62, clP_none (by omega) rb (by omega)]) (RDY.of le1.2.2.1 ⟨f58.1 25 (by decide), f58.1 30 (by decide)⟩ (by unfold TOK; rw [f58.1 19 (by decide), f58.1 20 (by decide), f58.1 21 (by decide), f58.1 22 (by decide), f58.1 23 (by decide)]; exact le1.2.2.1.1) (PBC.nop f58 (by decide)) (by decide)) hk12 le0 (rb.tb (TBm.of f58 (by decide) (by decide) (by decide) (by decide))) (by rw [f58.1 43 (by decide)]; exact rq) (by rw [f58.1 43 (by decide), e43]; exact ht.2) (fun _ z => absurd z (f61 (by omega))) (acc.trans pbc (AC.nil (f58.1 34 (by decide))) (PBF.of le1.nn f58 (by decide) (by decide) (by decide) f60) (by omega)) (pbc.trans (PBF.of le1.nn f58 (by decide) (by decide) (by decide) f60)) (tbc.trans (TBm.of f58 (by decide) (by decide) (by decide) (by decide))) (by rw [f58.1 33 (by decide)]; omega) ⟨by omega, by omega⟩ (le4.mv f58 (by decide) (by decide) (by rw [f58.1 34 (by decide)]; omega)) ((f58.1 28 (by decide)).trans le5) (fun v τ z1 z2 z3 z4 z5 z6 z7 => ⟨_, rfl, z3, (show Fr [19, 20, 22, 23, 26, 27, 28, 32, 34, 39, 40] [3, 4, 5, 6, 7, 8, 35, 41, 42] [24, 38] σ σ56 from (((Fr.rfl.trans (Fr.sub f5 (by decide) (by decide) (by decide))).trans (Fr.sub F19 (by decide) (by decide) (by decide))).trans (Fr.sub f58 (by decide) (by decide) (by decide)))).trans z1, z2, z4, z5, z6, z7⟩) _  rfl)
  · refine tm_iconst dX12_call_16 ?_
    refine tm_goto (tgt := 21) dX12_call_17 (by decide) ?_
    refine tm_istore (L' := [(6, .int (iI 1)), (5, .int (iI 0)), (0, .ref b), (1, .int (iI kn)), (2, .long (w)), (4, .int (iI p))]) dX12_call_21 (by decide) rfl ?_
    refine tm_sub [0, 1, 5, 4, 3, 2] rfl (l_call (d + 1) (σ0 := σ2) (kn := kn) (p := p) (ρ := ρ) (w := w) f6 (by omega) (by omega) (fun m74 mo75 σ76 F66 R67 f68 f69 f70 f71 f72 f73 => ?_) (fun τ z1 z2 z3 z4 z5 => ⟨_, rfl, by omega, (show Fr [19, 20, 22, 23, 26, 27, 28, 32, 34, 39, 40] [3, 4, 5, 6, 7, 8, 35, 41, 42] [24, 38] σ σ2 from (Fr.rfl.trans (Fr.sub f5 (by decide) (by decide) (by decide)))).trans z1, z2, z3, fun q => absurd q (by decide), fun _ => z4, z5⟩) _ (0) (1) σ2 Fr.rfl f6 (by omega) ⟨fun _ => ⟨[], CAA.nil, (hts.adv ad1 ad3 ad4 hnz (u26n ad0 (n41_ (by omega)) (MSE.fr ad1 (by decide) (by decide) (by decide)))).le (by decide)⟩, fun q => absurd q (by decide)⟩ (PBF.nop pba.2.2.1 (Fr.rfl : Fr [] [] [] _ _) (by decide) (by decide) (by decide)) (AC.nil rfl) CAG.nil e28a rfl)
    show Tm _ _ 88 b σ76 [(6, .int (iI mo75)), (5, .int (iI m74)), (4, .int (iI p)), (2, .long (w)), (1, .int (iI kn)), (0, .ref b)] [] _
    have le0 := f68
    obtain ⟨as, lca, le1⟩ := f69
    have le2 := f70
    have le3 := f71
    have le4 := f72
    have le5 := f73
    have f88 := (show Fr [19, 20, 22, 23, 26, 27, 28, 32, 34, 39, 40] [3, 4, 5, 6, 7, 8, 35, 41, 42] [24, 38] σ σ76 from ((Fr.rfl.trans (Fr.sub f5 (by decide) (by decide) (by decide))).trans (Fr.sub F66 (by decide) (by decide) (by decide))))
    have e43 : σ76.1 43 = σ.1 43 := f88.1 43 (by decide)
    have pbc : PBF σ σ76 := pba.trans le2
    have acc : AC σ σ76 := (AC.nil (ad1.1 34 (by decide))).trans pba le3 le2 (by omega)
    have tbc : TBm σ σ76 := TBm.of f88 (by decide) (by decide) (by decide) (by decide)
    have h33c := le1.2.1
    have e33c : σ76.1 33 = σ.1 33 := f88.1 33 (by decide)
    have e25c : σ76.1 25 = σ.1 25 := f88.1 25 (by decide)
    have R88 := R67
    refine tm_aload_n dX12_call_88 rfl 5 rfl ?_
    refine tm_lload_n dX12_call_89 rfl 3 rfl ?_
    refine tm_callV (M := m_X12_call) (pc := 90) (ix := 363) (M' := m_X12_routineBy) (As := [.long (w)]) (rest := []) dX12_call_90 ok_X12_routineBy im_X12_routineBy se_X12_routineBy ml12_363 np_X12_routineBy rfl rfl (Nat.le_of_ble_eq_true rfl) (Nat.le_of_ble_eq_true rfl) rfl (c2_X12_routineBy (d + 40) (σ := σ76) (w := w) R88 (by rw [e43]; exact ht)) (fun r77 σ78 hp => ?_)
    obtain ⟨v79, rfl, rfl, f80, f81⟩ := hp
    show Tm _ _ 93 b σ76 [(6, .int (iI mo75)), (5, .int (iI m74)), (4, .int (iI p)), (2, .long (w)), (1, .int (iI kn)), (0, .ref b)] [.int (iI v79)] _
    refine tm_istore (L' := [(7, .int (iI v79)), (6, .int (iI mo75)), (5, .int (iI m74)), (4, .int (iI p)), (2, .long (w)), (1, .int (iI kn)), (0, .ref b)]) dX12_call_93 (by decide) rfl ?_
    have rq := f80
    have rb := f81
    refine tm_aload_n dX12_call_95 rfl 6 rfl ?_
    refine tm_getS (k := 25) (t := σ.1 25) dX12_call_96 (by decide) fl12_255 rfl (rs_F F66 (by decide) (rs_F f5 (by decide) (rfl))) ?_
    have g82 := RG.s hR 25
    refine tm_iconst dX12_call_99 ?_
    refine tm_icmp_ne (tgt := 119) dX12_call_100 (by decide) ⟨by omega, by omega⟩ ⟨by decide, by decide⟩ (fun h83 => ?_) (fun h83 => ?_)
    · refine tm_aload_n dX12_call_119 rfl 6 rfl ?_
      refine tm_getS (k := 25) (t := σ.1 25) dX12_call_120 (by decide) fl12_255 rfl (rs_F F66 (by decide) (rs_F f5 (by decide) (rfl))) ?_
      have g84 := RG.s hR 25
      refine tm_iconst dX12_call_123 ?_
      refine tm_icmp_ne (tgt := 145) dX12_call_124 (by decide) ⟨by omega, by omega⟩ ⟨by decide, by decide⟩ (fun h85 => ?_) (fun h85 => ?_)
      · refine tm_sub [0, 2, 5, 6] rfl (b_call145 (d + 33) (σ := σ76) (kn := kn) (m := m74) (q := v79) (ρ := ρ) (σc := σ) (w := w) (as := as) (σb := σ76) (p := p) R67 hrd0 le1 lca Fr.rfl (PBF.nop le1.nn (Fr.rfl : Fr [] [] [] _ _) (by decide) (by decide) (by decide)) (by rw [clP_off (by omega)]) le1.2.2.1 hk12 le0 rb rq (by rw [e43]; exact ht.2) (fun z => absurd z (by omega)) acc pbc tbc (by omega) ⟨by omega, by omega⟩ le4 le5 (fun v τ z1 z2 z3 z4 z5 z6 z7 => ⟨_, rfl, z3, (show Fr [19, 20, 22, 23, 26, 27, 28, 32, 34, 39, 40] [3, 4, 5, 6, 7, 8, 35, 41, 42] [24, 38] σ σ76 from ((Fr.rfl.trans (Fr.sub f5 (by decide) (by decide) (by decide))).trans (Fr.sub F66 (by decide) (by decide) (by decide)))).trans z1, z2, z4, z5, z6, z7⟩) _  rfl)
      · exact absurd h85 (by omega)
    · refine tm_iload dX12_call_103 0 rfl ?_
      refine tm_iconst dX12_call_105 ?_
      refine tm_icmp_ne (tgt := 119) dX12_call_106 (by decide) ⟨by omega, by omega⟩ ⟨by decide, by decide⟩ (fun h86 => ?_) (fun h86 => ?_)
      · refine tm_aload_n dX12_call_119 rfl 6 rfl ?_
        refine tm_getS (k := 25) (t := σ.1 25) dX12_call_120 (by decide) fl12_255 rfl (rs_F F66 (by decide) (rs_F f5 (by decide) (rfl))) ?_
        have g87 := RG.s hR 25
        refine tm_iconst dX12_call_123 ?_
        refine tm_icmp_ne (tgt := 145) dX12_call_124 (by decide) ⟨by omega, by omega⟩ ⟨by decide, by decide⟩ (fun h88 => ?_) (fun h88 => ?_)
        · exact absurd h88 (by omega)
        · refine tm_iload dX12_call_127 2 rfl ?_
          refine tm_aload_n dX12_call_129 rfl 6 rfl ?_
          refine tm_iload dX12_call_130 0 rfl ?_
          refine tm_callV (M := m_X12_call) (pc := 132) (ix := 367) (M' := m_X12_calledMany) (As := [.int (iI v79)]) (rest := [.int (iI m74)]) dX12_call_132 ok_X12_calledMany im_X12_calledMany se_X12_calledMany ml12_367 np_X12_calledMany rfl rfl (Nat.le_of_ble_eq_true rfl) (Nat.le_of_ble_eq_true rfl) rfl (c_X12_calledMany (d + 40) (σ := σ76) (q := v79) (by omega)) (fun r89 σ90 hp => ?_)
          obtain ⟨v91, rfl, rfl, f92⟩ := hp
          show Tm _ _ 135 b σ76 [(7, .int (iI v79)), (6, .int (iI mo75)), (5, .int (iI m74)), (4, .int (iI p)), (2, .long (w)), (1, .int (iI kn)), (0, .ref b)] [.int (iI v91), .int (iI m74)] _
          have cm := f92
          have g45 := RG.a R88 45 (v79)
          refine tm_icmp_eq (tgt := 145) dX12_call_135 (by decide) ⟨by omega, by omega⟩ ⟨by omega, by omega⟩ (fun h93 => ?_) (fun h93 => ?_)
          · have cme : σ76.2.1 45 (v79) = m74 := by omega
            refine tm_sub [0, 2, 5, 6] rfl (b_call145 (d + 33) (σ := σ76) (kn := kn) (m := m74) (q := v79) (ρ := ρ) (σc := σ) (w := w) (as := as) (σb := σ76) (p := p) R67 hrd0 le1 lca Fr.rfl (PBF.nop le1.nn (Fr.rfl : Fr [] [] [] _ _) (by decide) (by decide) (by decide)) (by rw [clP_ok rb (by omega) rq.2 cme.symm]) le1.2.2.1 hk12 le0 rb rq (by rw [e43]; exact ht.2) (fun _ _ => ⟨fun z => absurd (show (1 : Int) = 0 from z) (by decide), fun _ => ⟨_, ⟨by omega, rq.2⟩, rb, cme⟩⟩) acc pbc tbc (by omega) ⟨by omega, by omega⟩ le4 le5 (fun v τ z1 z2 z3 z4 z5 z6 z7 => ⟨_, rfl, z3, (show Fr [19, 20, 22, 23, 26, 27, 28, 32, 34, 39, 40] [3, 4, 5, 6, 7, 8, 35, 41, 42] [24, 38] σ σ76 from ((Fr.rfl.trans (Fr.sub f5 (by decide) (by decide) (by decide))).trans (Fr.sub F66 (by decide) (by decide) (by decide)))).trans z1, z2, z4, z5, z6, z7⟩) _  rfl)
          · refine tm_aload_n dX12_call_138 rfl 6 rfl ?_
            refine tm_iconst dX12_call_139 ?_
            refine tm_iload dX12_call_140 3 rfl ?_
            refine tm_callV (M := m_X12_call) (pc := 142) (ix := 274) (M' := m_X12_note) (As := [.int (iI 4), .int (iI p)]) (rest := []) dX12_call_142 ok_X12_note im_X12_note se_X12_note ml12_274 np_X12_note rfl rfl (Nat.le_of_ble_eq_true rfl) (Nat.le_of_ble_eq_true rfl) rfl (c2_X12_note (d + 40) (σ := σ76) (f := 4) (p := p) R88 (by omega) (by omega)) (fun r94 σ95 hp => ?_)
            obtain ⟨rfl, f97, f98, f99, f100, f101⟩ := hp
            show Tm _ _ 145 b σ95 [(7, .int (iI v79)), (6, .int (iI mo75)), (5, .int (iI m74)), (4, .int (iI p)), (2, .long (w)), (1, .int (iI kn)), (0, .ref b)] [] _
            refine tm_sub [0, 2, 5, 6] rfl (b_call145 (d + 33) (σ := σ95) (kn := kn) (m := m74) (q := v79) (ρ := ρ) (σc := σ) (w := w) (as := as) (σb := σ76) (p := p) f98 hrd0 le1 (lca.mv f97 (by decide) (by decide)) f97 (PBF.of le1.nn f97 (by decide) (by decide) (by decide) f99) (by rw [f101, clP_bad (by omega) rb (by omega) rq.2 (by omega)]) (RDY.of le1.2.2.1 ⟨f97.1 25 (by decide), f97.1 30 (by decide)⟩ (by unfold TOK; rw [f97.1 19 (by decide), f97.1 20 (by decide), f97.1 21 (by decide), f97.1 22 (by decide), f97.1 23 (by decide)]; exact le1.2.2.1.1) (PBC.nop f97 (by decide)) (by decide)) hk12 le0 (rb.tb (TBm.of f97 (by decide) (by decide) (by decide) (by decide))) (by rw [f97.1 43 (by decide)]; exact rq) (by rw [f97.1 43 (by decide), e43]; exact ht.2) (fun _ z => absurd z (f100 (by omega))) (acc.trans pbc (AC.nil (f97.1 34 (by decide))) (PBF.of le1.nn f97 (by decide) (by decide) (by decide) f99) (by omega)) (pbc.trans (PBF.of le1.nn f97 (by decide) (by decide) (by decide) f99)) (tbc.trans (TBm.of f97 (by decide) (by decide) (by decide) (by decide))) (by rw [f97.1 33 (by decide)]; omega) ⟨by omega, by omega⟩ (le4.mv f97 (by decide) (by decide) (by rw [f97.1 34 (by decide)]; omega)) ((f97.1 28 (by decide)).trans le5) (fun v τ z1 z2 z3 z4 z5 z6 z7 => ⟨_, rfl, z3, (show Fr [19, 20, 22, 23, 26, 27, 28, 32, 34, 39, 40] [3, 4, 5, 6, 7, 8, 35, 41, 42] [24, 38] σ σ95 from (((Fr.rfl.trans (Fr.sub f5 (by decide) (by decide) (by decide))).trans (Fr.sub F66 (by decide) (by decide) (by decide))).trans (Fr.sub f97 (by decide) (by decide) (by decide)))).trans z1, z2, z4, z5, z6, z7⟩) _  rfl)
      · refine tm_aload_n dX12_call_109 rfl 6 rfl ?_
        refine tm_iconst dX12_call_110 ?_
        refine tm_iload dX12_call_111 3 rfl ?_
        refine tm_callV (M := m_X12_call) (pc := 113) (ix := 274) (M' := m_X12_note) (As := [.int (iI 3), .int (iI p)]) (rest := []) dX12_call_113 ok_X12_note im_X12_note se_X12_note ml12_274 np_X12_note rfl rfl (Nat.le_of_ble_eq_true rfl) (Nat.le_of_ble_eq_true rfl) rfl (c2_X12_note (d + 40) (σ := σ76) (f := 3) (p := p) R88 (by omega) (by omega)) (fun r102 σ103 hp => ?_)
        obtain ⟨rfl, f105, f106, f107, f108, f109⟩ := hp
        show Tm _ _ 116 b σ103 [(7, .int (iI v79)), (6, .int (iI mo75)), (5, .int (iI m74)), (4, .int (iI p)), (2, .long (w)), (1, .int (iI kn)), (0, .ref b)] [] _
        refine tm_goto (tgt := 145) dX12_call_116 (by decide) ?_
        refine tm_sub [0, 2, 5, 6] rfl (b_call145 (d + 33) (σ := σ103) (kn := kn) (m := m74) (q := v79) (ρ := ρ) (σc := σ) (w := w) (as := as) (σb := σ76) (p := p) f106 hrd0 le1 (lca.mv f105 (by decide) (by decide)) f105 (PBF.of le1.nn f105 (by decide) (by decide) (by decide) f107) (by rw [f109, clP_none (by omega) rb (by omega)]) (RDY.of le1.2.2.1 ⟨f105.1 25 (by decide), f105.1 30 (by decide)⟩ (by unfold TOK; rw [f105.1 19 (by decide), f105.1 20 (by decide), f105.1 21 (by decide), f105.1 22 (by decide), f105.1 23 (by decide)]; exact le1.2.2.1.1) (PBC.nop f105 (by decide)) (by decide)) hk12 le0 (rb.tb (TBm.of f105 (by decide) (by decide) (by decide) (by decide))) (by rw [f105.1 43 (by decide)]; exact rq) (by rw [f105.1 43 (by decide), e43]; exact ht.2) (fun _ z => absurd z (f108 (by omega))) (acc.trans pbc (AC.nil (f105.1 34 (by decide))) (PBF.of le1.nn f105 (by decide) (by decide) (by decide) f107) (by omega)) (pbc.trans (PBF.of le1.nn f105 (by decide) (by decide) (by decide) f107)) (tbc.trans (TBm.of f105 (by decide) (by decide) (by decide) (by decide))) (by rw [f105.1 33 (by decide)]; omega) ⟨by omega, by omega⟩ (le4.mv f105 (by decide) (by decide) (by rw [f105.1 34 (by decide)]; omega)) ((f105.1 28 (by decide)).trans le5) (fun v τ z1 z2 z3 z4 z5 z6 z7 => ⟨_, rfl, z3, (show Fr [19, 20, 22, 23, 26, 27, 28, 32, 34, 39, 40] [3, 4, 5, 6, 7, 8, 35, 41, 42] [24, 38] σ σ103 from (((Fr.rfl.trans (Fr.sub f5 (by decide) (by decide) (by decide))).trans (Fr.sub F66 (by decide) (by decide) (by decide))).trans (Fr.sub f105 (by decide) (by decide) (by decide)))).trans z1, z2, z4, z5, z6, z7⟩) _  rfl)
end
section
theorem ml12_355 : Cond.methodLink RX12 355 yX12_call ∈ pWW := pw9 (List.mem_of_getElem? (i := 13) rfl) rfl
theorem dX12_assignment_0 : decode cX12_assignment 0 = .ok (.aload_n 0, 1) := by decide +kernel
theorem dX12_assignment_1 : decode cX12_assignment 1 = .ok (.aload_n 0, 1) := by decide +kernel
theorem dX12_assignment_2 : decode cX12_assignment 2 = .ok (.getfield 219, 3) := by decide +kernel
theorem dX12_assignment_5 : decode cX12_assignment 5 = .ok (.aload_n 0, 1) := by decide +kernel
theorem dX12_assignment_6 : decode cX12_assignment 6 = .ok (.getfield 216, 3) := by decide +kernel
theorem dX12_assignment_9 : decode cX12_assignment 9 = .ok (.invokevirtual 323, 3) := by decide +kernel
theorem dX12_assignment_12 : decode cX12_assignment 12 = .ok (.istore_n 1, 1) := by decide +kernel
theorem dX12_assignment_13 : decode cX12_assignment 13 = .ok (.aload_n 0, 1) := by decide +kernel
theorem dX12_assignment_14 : decode cX12_assignment 14 = .ok (.invokevirtual 265, 3) := by decide +kernel
theorem dX12_assignment_17 : decode cX12_assignment 17 = .ok (.aload_n 0, 1) := by decide +kernel
theorem dX12_assignment_18 : decode cX12_assignment 18 = .ok (.bipush 61, 2) := by decide +kernel
theorem dX12_assignment_20 : decode cX12_assignment 20 = .ok (.invokevirtual 330, 3) := by decide +kernel
theorem dX12_assignment_23 : decode cX12_assignment 23 = .ok (.ifCond .ne 5, 3) := by decide +kernel
theorem dX12_assignment_28 : decode cX12_assignment 28 = .ok (.aload_n 0, 1) := by decide +kernel
theorem dX12_assignment_29 : decode cX12_assignment 29 = .ok (.getfield 219, 3) := by decide +kernel
theorem dX12_assignment_32 : decode cX12_assignment 32 = .ok (.lstore_n 2, 1) := by decide +kernel
theorem dX12_assignment_33 : decode cX12_assignment 33 = .ok (.aload_n 0, 1) := by decide +kernel
theorem dX12_assignment_34 : decode cX12_assignment 34 = .ok (.getfield 216, 3) := by decide +kernel
theorem dX12_assignment_37 : decode cX12_assignment 37 = .ok (.istore 4, 2) := by decide +kernel
theorem dX12_assignment_39 : decode cX12_assignment 39 = .ok (.aload_n 0, 1) := by decide +kernel
theorem dX12_assignment_40 : decode cX12_assignment 40 = .ok (.invokevirtual 320, 3) := by decide +kernel
theorem dX12_assignment_43 : decode cX12_assignment 43 = .ok (.ifCond .eq 70, 3) := by decide +kernel
theorem dX12_assignment_113 : decode cX12_assignment 113 = .ok (.aload_n 0, 1) := by decide +kernel
theorem dX12_assignment_114 : decode cX12_assignment 114 = .ok (.invokevirtual 327, 3) := by decide +kernel
theorem dX12_assignment_117 : decode cX12_assignment 117 = .ok (.ifCond .ne 5, 3) := by decide +kernel
theorem dX12_assignment_122 : decode cX12_assignment 122 = .ok (.aload_n 0, 1) := by decide +kernel
theorem dX12_assignment_123 : decode cX12_assignment 123 = .ok (.iconst 0, 1) := by decide +kernel
theorem dX12_assignment_124 : decode cX12_assignment 124 = .ok (.iload_n 1, 1) := by decide +kernel
theorem dX12_assignment_125 : decode cX12_assignment 125 = .ok (.iconst 0, 1) := by decide +kernel
theorem dX12_assignment_126 : decode cX12_assignment 126 = .ok (.invokevirtual 294, 3) := by decide +kernel
theorem dX12_assignment_129 : decode cX12_assignment 129 = .ok (.istore 5, 2) := by decide +kernel
theorem dX12_assignment_131 : decode cX12_assignment 131 = .ok (.aload_n 0, 1) := by decide +kernel
theorem dX12_assignment_132 : decode cX12_assignment 132 = .ok (.iload 5, 2) := by decide +kernel
theorem dX12_assignment_134 : decode cX12_assignment 134 = .ok (.iconst 0, 1) := by decide +kernel
theorem dX12_assignment_135 : decode cX12_assignment 135 = .ok (.aload_n 0, 1) := by decide +kernel
theorem dX12_assignment_136 : decode cX12_assignment 136 = .ok (.getfield 285, 3) := by decide +kernel
theorem dX12_assignment_139 : decode cX12_assignment 139 = .ok (.aload_n 0, 1) := by decide +kernel
theorem dX12_assignment_140 : decode cX12_assignment 140 = .ok (.getfield 288, 3) := by decide +kernel
theorem dX12_assignment_143 : decode cX12_assignment 143 = .ok (.invokevirtual 298, 3) := by decide +kernel
theorem dX12_assignment_146 : decode cX12_assignment 146 = .ok (.aload_n 0, 1) := by decide +kernel
theorem dX12_assignment_147 : decode cX12_assignment 147 = .ok (.iload_n 1, 1) := by decide +kernel
theorem dX12_assignment_148 : decode cX12_assignment 148 = .ok (.invokevirtual 359, 3) := by decide +kernel
theorem dX12_assignment_151 : decode cX12_assignment 151 = .ok (.aload_n 0, 1) := by decide +kernel
theorem dX12_assignment_152 : decode cX12_assignment 152 = .ok (.bipush 59, 2) := by decide +kernel
theorem dX12_assignment_154 : decode cX12_assignment 154 = .ok (.invokevirtual 330, 3) := by decide +kernel
theorem dX12_assignment_157 : decode cX12_assignment 157 = .ok (.ireturn, 1) := by decide +kernel
theorem dX12_assignment_120 : decode cX12_assignment 120 = .ok (.iconst 0, 1) := by decide +kernel
theorem dX12_assignment_121 : decode cX12_assignment 121 = .ok (.ireturn, 1) := by decide +kernel
theorem dX12_assignment_46 : decode cX12_assignment 46 = .ok (.aload_n 0, 1) := by decide +kernel
theorem dX12_assignment_47 : decode cX12_assignment 47 = .ok (.getfield 210, 3) := by decide +kernel
theorem dX12_assignment_50 : decode cX12_assignment 50 = .ok (.istore 5, 2) := by decide +kernel
theorem dX12_assignment_52 : decode cX12_assignment 52 = .ok (.aload_n 0, 1) := by decide +kernel
theorem dX12_assignment_53 : decode cX12_assignment 53 = .ok (.invokevirtual 265, 3) := by decide +kernel
theorem dX12_assignment_56 : decode cX12_assignment 56 = .ok (.aload_n 0, 1) := by decide +kernel
theorem dX12_assignment_57 : decode cX12_assignment 57 = .ok (.bipush 40, 2) := by decide +kernel
theorem dX12_assignment_59 : decode cX12_assignment 59 = .ok (.invokevirtual 258, 3) := by decide +kernel
theorem dX12_assignment_62 : decode cX12_assignment 62 = .ok (.ifCond .eq 29, 3) := by decide +kernel
theorem dX12_assignment_91 : decode cX12_assignment 91 = .ok (.aload_n 0, 1) := by decide +kernel
theorem dX12_assignment_92 : decode cX12_assignment 92 = .ok (.iload 5, 2) := by decide +kernel
theorem dX12_assignment_94 : decode cX12_assignment 94 = .ok (.putfield 210, 3) := by decide +kernel
theorem dX12_assignment_97 : decode cX12_assignment 97 = .ok (.aload_n 0, 1) := by decide +kernel
theorem dX12_assignment_98 : decode cX12_assignment 98 = .ok (.iload 4, 2) := by decide +kernel
theorem dX12_assignment_100 : decode cX12_assignment 100 = .ok (.putfield 216, 3) := by decide +kernel
theorem dX12_assignment_103 : decode cX12_assignment 103 = .ok (.aload_n 0, 1) := by decide +kernel
theorem dX12_assignment_104 : decode cX12_assignment 104 = .ok (.iconst 2, 1) := by decide +kernel
theorem dX12_assignment_105 : decode cX12_assignment 105 = .ok (.putfield 226, 3) := by decide +kernel
theorem dX12_assignment_108 : decode cX12_assignment 108 = .ok (.aload_n 0, 1) := by decide +kernel
theorem dX12_assignment_109 : decode cX12_assignment 109 = .ok (.lload_n 2, 1) := by decide +kernel
theorem dX12_assignment_110 : decode cX12_assignment 110 = .ok (.putfield 219, 3) := by decide +kernel
theorem dX12_assignment_65 : decode cX12_assignment 65 = .ok (.aload_n 0, 1) := by decide +kernel
theorem dX12_assignment_66 : decode cX12_assignment 66 = .ok (.iload_n 1, 1) := by decide +kernel
theorem dX12_assignment_67 : decode cX12_assignment 67 = .ok (.lload_n 2, 1) := by decide +kernel
theorem dX12_assignment_68 : decode cX12_assignment 68 = .ok (.iload 4, 2) := by decide +kernel
theorem dX12_assignment_70 : decode cX12_assignment 70 = .ok (.invokevirtual 355, 3) := by decide +kernel
theorem dX12_assignment_73 : decode cX12_assignment 73 = .ok (.ifCond .eq 16, 3) := by decide +kernel
theorem dX12_assignment_89 : decode cX12_assignment 89 = .ok (.iconst 0, 1) := by decide +kernel
theorem dX12_assignment_90 : decode cX12_assignment 90 = .ok (.ireturn, 1) := by decide +kernel
theorem dX12_assignment_76 : decode cX12_assignment 76 = .ok (.aload_n 0, 1) := by decide +kernel
theorem dX12_assignment_77 : decode cX12_assignment 77 = .ok (.bipush 59, 2) := by decide +kernel
theorem dX12_assignment_79 : decode cX12_assignment 79 = .ok (.invokevirtual 330, 3) := by decide +kernel
theorem dX12_assignment_82 : decode cX12_assignment 82 = .ok (.ifCond .eq 7, 3) := by decide +kernel
theorem dX12_assignment_85 : decode cX12_assignment 85 = .ok (.iconst 1, 1) := by decide +kernel
theorem dX12_assignment_86 : decode cX12_assignment 86 = .ok (.goto 4, 3) := by decide +kernel
theorem dX12_assignment_26 : decode cX12_assignment 26 = .ok (.iconst 0, 1) := by decide +kernel
theorem dX12_assignment_27 : decode cX12_assignment 27 = .ok (.ireturn, 1) := by decide +kernel
set_option maxHeartbeats 4000000 in
set_option maxRecDepth 20000 in
theorem c_X12_assignment (d : Nat) {b : Nat} {σ : MS} {ρ : MS} (hR : RG σ) (hln : LNP 1 ρ σ) (hli : LIT ρ σ) (hg : ∀ c : Int, GOM [20] ρ (qq c) [] [23] σ (qq c) [] []) (h28 : σ.1 28 = 0) (ht : 0 ≤ σ.1 43 ∧ σ.1 43 ≤ 260) : Tm (d + 43) m_X12_assignment 0 b σ [(0, .ref b)] [] (fun ro σ2 => ∃ v : Int, ro = some (.int (iI v)) ∧ ((v = 0 ∨ v = 1)) ∧ (Fr [19, 20, 22, 23, 26, 27, 28, 29, 31, 32, 33, 34, 39, 40] [3, 4, 5, 6, 7, 8, 35, 37, 41, 42] [24, 38] σ σ2) ∧ (RG σ2) ∧ (PBF ρ σ2) ∧ (Im v 1 (BLQ 20 2 ρ σ2)) ∧ (Im v 0 (∀ c : Int, GOF [20] ρ (qq c) σ2))) := by
  have tk0 := hln.tok.1
  have rd0 := hln.1.2
  have f0 := hln.2.2.1
  have e30_ := f0.1 30 (by decide)
  have e34_ := hln.2.2.2.2.1
  have nn0 : NN σ := hln.2.2.2.1.2.2.1
  have h0c := hln.h0
  have e28r : ρ.1 28 = 0 := (f0.1 28 (by decide)).symm.trans h28
  have e29r := f0.1 29 (by decide)
  have e33r := f0.1 33 (by decide)
  refine tm_aload_n dX12_assignment_0 rfl 0 rfl ?_
  refine tm_aload_n dX12_assignment_1 rfl 0 rfl ?_
  refine tm_getW (t := σ.2.2 24 0) dX12_assignment_2 fl12_219 (rfl) ?_
  refine tm_aload_n dX12_assignment_5 rfl 0 rfl ?_
  refine tm_getS (k := 19) (t := σ.1 19) dX12_assignment_6 (by decide) fl12_216 rfl (rfl) ?_
  have g1 := RG.s hR 19
  refine tm_callV (M := m_X12_assignment) (pc := 9) (ix := 323) (M' := m_X12_nameOf) (As := [.long (σ.2.2 24 0), .int (iI (σ.1 19))]) (rest := []) dX12_assignment_9 ok_X12_nameOf im_X12_nameOf se_X12_nameOf ml12_323 np_X12_nameOf rfl rfl (Nat.le_of_ble_eq_true rfl) (Nat.le_of_ble_eq_true rfl) rfl (c_X12_nameOf (d + 40) (σ := σ) (w := σ.2.2 24 0) (p := σ.1 19) hR nn0 (by omega) (by omega)) (fun r2 σ3 hp => ?_)
  obtain ⟨v4, rfl, f5, f6, f7, f8, f9, f10⟩ := hp
  show Tm _ _ 12 b σ3 [(0, .ref b)] [.int (iI v4)] _
  have nm0 := f5
  have nm1 := f6
  have nm2 := f7
  have nm3 := f8
  have nm4 := f9
  have nm5 := f10
  refine tm_istore_n (L' := [(1, .int (iI v4)), (0, .ref b)]) dX12_assignment_12 rfl (by decide) rfl ?_
  refine tm_aload_n dX12_assignment_13 rfl 1 rfl ?_
  refine tm_callV (M := m_X12_assignment) (pc := 14) (ix := 265) (M' := m_X12_advance) (As := []) (rest := []) dX12_assignment_14 ok_X12_advance im_X12_advance se_X12_advance ml12_265 np_X12_advance rfl rfl (Nat.le_of_ble_eq_true rfl) (Nat.le_of_ble_eq_true rfl) rfl (c_X12_advance (d + 37) (σ := σ3)  f6 (by rw [nm0.1 20 (by decide), nm0.1 21 (by decide)]; omega)) (fun r11 σ12 hp => ?_)
  obtain ⟨rfl, f14, f15, f16, f17, f18⟩ := hp
  show Tm _ _ 17 b σ12 [(1, .int (iI v4)), (0, .ref b)] [] _
  have ad0 := f14
  have ad1 := f15
  have ad2 := f16
  have ad3 := f17
  have ad4 := f18
  have fA1 := (show Fr [19, 20, 22, 23, 26, 27] [35] [24, 38] σ σ12 from ((Fr.rfl.trans (Fr.sub f5 (by decide) (by decide) (by decide))).trans (Fr.sub f15 (by decide) (by decide) (by decide))))
  have pb1 : PBF σ σ12 := nm2.trans (PBF.nop nm2.2.2.1 ad1 (by decide) (by decide) (by decide))
  have g23_ : ∀ c : Int, GOM [23] σ (qq c) [] [161, 25] σ12 (qq c) [(8, v4, 0, [])] [] := fun c => u23 (by rw [ad0.1, sv_fr nm0 (by decide) (by decide), nm0.1 20 (by decide)]) (ad0.2.1.trans (by unfold xs; rw [nm0.1 28 (by decide), nm0.1 29 (by decide), nm0.1 34 (by decide)])) (ad0.2.2.1.trans (sv_fr nm0 (by decide) (by decide))) (EFF.name (by rw [ad0.2.2.2, nm4])) nm5 (fun z => MSE.of8 fA1 (by decide) (by decide) (by decide) (pb1.2.1 (by omega)).1 (pb1.2.1 (by omega)).2)
  have ts1 : TS 20 (2 - 1) ρ [161, 25] σ12 qq [] [(8, v4, 0, [])] := TS.line hln (by decide) fA1 pb1 ad3 (by have z := ad4; rw [nm0.1 20 (by decide)] at z; exact z) ((hg _).then (g23_ _))
  have tk1 := ad3.1
  refine tm_aload_n dX12_assignment_17 rfl 1 rfl ?_
  refine tm_bipush dX12_assignment_18 (by decide) ?_
  refine tm_callV (M := m_X12_assignment) (pc := 20) (ix := 330) (M' := m_X12_need) (As := [.int (iI 61)]) (rest := []) dX12_assignment_20 ok_X12_need im_X12_need se_X12_need ml12_330 np_X12_need rfl rfl (Nat.le_of_ble_eq_true rfl) (Nat.le_of_ble_eq_true rfl) rfl (c_X12_need (d + 36) (σ := σ12) (c := 61) f16 (by omega) (by omega)) (fun r19 σ20 hp => ?_)
  obtain ⟨v21, rfl, f22, f23, f24, f25, f26, f27, f28⟩ := hp
  show Tm _ _ 23 b σ20 [(1, .int (iI v4)), (0, .ref b)] [.int (iI v21)] _
  have yn0 := f22
  have yn1 := f23
  have yn2 := f24
  have yn3 := f25
  have yn4 := f26
  have yn5 := f27
  have yn6 := f28
  refine tm_if_ne (tgt := 28) dX12_assignment_23 (by decide) ⟨by omega, by omega⟩ (fun h32 => ?_) (fun h32 => ?_)
  · have ynq := yn3 (by omega)
    have ts2 := ts1.needy yn1 ynq.2.2.1 ynq.2.2.2.1 ynq.2.2.2.2 (by have z := ynq.1.1; omega) (un_61 ynq.1 ynq.2.1 (MSE.fr yn1 (by decide) (by decide) (by decide)))
    have pq2 : PBF σ σ20 := pb1.trans (PBF.of ts1.nn yn1 (by decide) (by decide) (by decide) yn5)
    have e342 : σ20.1 34 = σ.1 34 := rs_F f23 (by decide) (rs_F f15 (by decide) (rs_F f5 (by decide) (rfl)))
    have e282 : σ20.1 28 = σ.1 28 := rs_F f23 (by decide) (rs_F f15 (by decide) (rs_F f5 (by decide) (rfl)))
    have R28 := f24
    have tk2 := ts2.2.2.1.1.1
    refine tm_aload_n dX12_assignment_28 rfl 1 rfl ?_
    refine tm_getW (t := σ20.2.2 24 0) dX12_assignment_29 fl12_219 (rfl) ?_
    refine tm_lstore_n (L' := [(2, .long (σ20.2.2 24 0)), (1, .int (iI v4)), (0, .ref b)]) dX12_assignment_32 rfl (by decide) rfl ?_
    refine tm_aload_n dX12_assignment_33 rfl 2 rfl ?_
    refine tm_getS (k := 19) (t := σ20.1 19) dX12_assignment_34 (by decide) fl12_216 rfl (rfl) ?_
    have g33 := RG.s f24 19
    refine tm_istore (L' := [(4, .int (iI (σ20.1 19))), (2, .long (σ20.2.2 24 0)), (1, .int (iI v4)), (0, .ref b)]) dX12_assignment_37 (by decide) rfl ?_
    refine tm_aload_n dX12_assignment_39 rfl 3 rfl ?_
    refine tm_callV (M := m_X12_assignment) (pc := 40) (ix := 320) (M' := m_X12_isName) (As := []) (rest := []) dX12_assignment_40 ok_X12_isName im_X12_isName se_X12_isName ml12_320 np_X12_isName rfl rfl (Nat.le_of_ble_eq_true rfl) (Nat.le_of_ble_eq_true rfl) rfl (c2_X12_isName (d + 41) (σ := σ20)  f24) (fun r34 σ35 hp => ?_)
    obtain ⟨v36, rfl, rfl, f37, f38, f39⟩ := hp
    show Tm _ _ 43 b σ20 [(4, .int (iI (σ20.1 19))), (2, .long (σ20.2.2 24 0)), (1, .int (iI v4)), (0, .ref b)] [.int (iI v36)] _
    have inm := f38
    have nnm_ := f39
    refine tm_if_eq (tgt := 113) dX12_assignment_43 (by decide) ⟨by omega, by omega⟩ (fun h40 => ?_) (fun h40 => ?_)
    · have ts3 := ts2.nxt (u25n (nnm_ (by omega)))
      have pq3 := pq2
      have e343 := e342
      have e283 : σ20.1 28 = 0 := e282.trans h28
      refine tm_aload_n dX12_assignment_113 rfl 3 rfl ?_
      refine tm_callV (M := m_X12_assignment) (pc := 114) (ix := 327) (M' := m_X12_expression) (As := []) (rest := []) dX12_assignment_114 ok_X12_expression im_X12_expression se_X12_expression ml12_327 np_X12_expression rfl rfl (Nat.le_of_ble_eq_true rfl) (Nat.le_of_ble_eq_true rfl) rfl (c_exp8 (d + 2) (σ := σ20)  f24 ts3.2.2.1 ts3.nn e283) (fun r41 σ42 hp => ?_)
      obtain ⟨v43, rfl, f44, f45, f46, f47, f48, f49, f50⟩ := hp
      show Tm _ _ 117 b σ42 [(4, .int (iI (σ20.1 19))), (2, .long (σ20.2.2 24 0)), (1, .int (iI v4)), (0, .ref b)] [.int (iI v43)] _
      have xp0 := f44
      have xp1 := f45
      have xp2 := f46
      have xp3 := f47
      have xp4 := f48
      have xp5 := f49
      have xp6 := f50
      refine tm_if_ne (tgt := 122) dX12_assignment_117 (by decide) ⟨by omega, by omega⟩ (fun h51 => ?_) (fun h51 => ?_)
      · have ts4 := ts3.exp xp1 xp3 (xp4 (by omega)) (xp5.1 (by omega))
        have ex4 := xp4 (by omega)
        have gt := ex4.2.2.1
        unfold GTm at gt
        have rdx := ts4.2.2.1.2
        have tkx := ts4.2.2.1.1.1
        have pq4 := pq3.trans xp3
        have ac4 : AC σ σ42 := (AC.nil e343).trans pq3 ex4.2.2.2.1 xp3 (by omega)
        have e284 : σ42.1 28 = 0 := xp6.trans e283
        have e334 : σ42.1 33 = σ.1 33 := rs_F f45 (by decide) (rs_F f23 (by decide) (rs_F f15 (by decide) (rs_F f5 (by decide) (rfl))))
        refine tm_aload_n dX12_assignment_122 rfl 3 rfl ?_
        refine tm_iconst dX12_assignment_123 ?_
        refine tm_iload_n dX12_assignment_124 rfl 2 rfl ?_
        refine tm_iconst dX12_assignment_125 ?_
        refine tm_callV (M := m_X12_assignment) (pc := 126) (ix := 294) (M' := m_X12_put) (As := [.int (iI 0), .int (iI v4), .int (iI 0)]) (rest := []) dX12_assignment_126 ok_X12_put im_X12_put se_X12_put ml12_294 np_X12_put rfl rfl (Nat.le_of_ble_eq_true rfl) (Nat.le_of_ble_eq_true rfl) rfl (c_X12_put (d + 40) (σ := σ42) (k := 0) (e := v4) (o := 0) f46 (by omega) (by omega) (by omega) (by omega)) (fun r52 σ53 hp => ?_)
        obtain ⟨v54, rfl, f55, f56, f57, f58, f59, f60, f61, f62⟩ := hp
        show Tm _ _ 129 b σ53 [(4, .int (iI (σ20.1 19))), (2, .long (σ20.2.2 24 0)), (1, .int (iI v4)), (0, .ref b)] [.int (iI v54)] _
        have jvP := f57
        have jnP := f58
        have jiP := f59
        have joP := f60
        have jrP := f61
        have jzP := f62
        refine tm_istore (L' := [(5, .int (iI v54)), (4, .int (iI (σ20.1 19))), (2, .long (σ20.2.2 24 0)), (1, .int (iI v4)), (0, .ref b)]) dX12_assignment_129 (by decide) rfl ?_
        refine tm_aload_n dX12_assignment_131 rfl 4 rfl ?_
        refine tm_iload dX12_assignment_132 0 rfl ?_
        refine tm_iconst dX12_assignment_134 ?_
        refine tm_aload_n dX12_assignment_135 rfl 4 rfl ?_
        refine tm_getS (k := 39) (t := σ42.1 39) dX12_assignment_136 (by decide) fl12_285 rfl (rs_F f55 (by decide) (rfl)) ?_
        have g63 := RG.s f46 39
        refine tm_aload_n dX12_assignment_139 rfl 4 rfl ?_
        refine tm_getS (k := 40) (t := σ42.1 40) dX12_assignment_140 (by decide) fl12_288 rfl (rs_F f55 (by decide) (rfl)) ?_
        have g64 := RG.s f46 40
        refine tm_callV (M := m_X12_assignment) (pc := 143) (ix := 298) (M' := m_X12_setArg) (As := [.int (iI v54), .int (iI 0), .int (iI (σ42.1 39)), .int (iI (σ42.1 40))]) (rest := []) dX12_assignment_143 ok_X12_setArg im_X12_setArg se_X12_setArg ml12_298 np_X12_setArg rfl rfl (Nat.le_of_ble_eq_true rfl) (Nat.le_of_ble_eq_true rfl) rfl (c_X12_setArg (d + 41) (σ := σ53) (x := v54) (i := 0) (k := σ42.1 39) (w := σ42.1 40) (by omega)) (fun r65 σ66 hp => ?_)
        obtain ⟨rfl, f68⟩ := hp
        subst f68
        show Tm _ _ 146 b (fArg (v54) (0) (σ42.1 39) (σ42.1 40) σ53) [(5, .int (iI v54)), (4, .int (iI (σ20.1 19))), (2, .long (σ20.2.2 24 0)), (1, .int (iI v4)), (0, .ref b)] [] _
        have jvP : _ = PXx σ42 := jvP
        have fAP := (show Fr [33, 34] [3, 4, 5, 6, 7, 8] [] σ42 (fArg (v54) (0) (σ42.1 39) (σ42.1 40) σ53) from ((Fr.rfl.trans (Fr.sub f55 (by decide) (by decide) (by decide))).trans (Fr.sub fArg_fr (by decide) (by decide) (by decide))))
        have eAP : (fArg (v54) (0) (σ42.1 39) (σ42.1 40) σ53).1 34 = σ42.1 34 + 1 := jnP
        have pbP : PBF σ42 (fArg (v54) (0) (σ42.1 39) (σ42.1 40) σ53) := PBF.it ts4.nn fAP (by decide) (by decide) (by decide) eAP jvP (joP.trans (OFF.arg (by decide) (by decide)))
        have tbP : TBm σ42 (fArg (v54) (0) (σ42.1 39) (σ42.1 40) σ53) := TBm.of fAP (by decide) (by decide) (by decide) (by decide)
        have ptP : PIT σ42 (fArg (v54) (0) (σ42.1 39) (σ42.1 40) σ53) (mkI 0 v4 0 (σ42.1 39) (σ42.1 40) 0) := by exact PIT.at jvP eAP (joP.trans (OFF.arg (by decide) (by decide))) (ri_one jzP)
        refine tm_aload_n dX12_assignment_146 rfl 4 rfl ?_
        refine tm_iload_n dX12_assignment_147 rfl 3 rfl ?_
        refine tm_callV (M := m_X12_assignment) (pc := 148) (ix := 359) (M' := m_X12_bind) (As := [.int (iI v4)]) (rest := []) dX12_assignment_148 ok_X12_bind im_X12_bind se_X12_bind ml12_359 np_X12_bind rfl rfl (Nat.le_of_ble_eq_true rfl) (Nat.le_of_ble_eq_true rfl) rfl (c_X12_bind (d + 39) (σ := (fArg (v54) (0) (σ42.1 39) (σ42.1 40) σ53)) (k := v4) ((f56).arg (by omega) (by omega)) (by rw [show (fArg (v54) (0) (σ42.1 39) (σ42.1 40) σ53).1 30 = σ42.1 30 from fAP.1 30 (by decide), eAP]; omega) (by omega)) (fun r69 σ70 hp => ?_)
        obtain ⟨rfl, f72, f73, f74, f75, f76, f77, f78⟩ := hp
        show Tm _ _ 151 b σ70 [(5, .int (iI v54)), (4, .int (iI (σ20.1 19))), (2, .long (σ20.2.2 24 0)), (1, .int (iI v4)), (0, .ref b)] [] _
        have pbB : PBF (fArg (v54) (0) (σ42.1 39) (σ42.1 40) σ53) σ70 := PBF.it pbP.2.2.1 f72 (by decide) (by decide) (by decide) f74 rfl f75
        have fB := (show Fr [33, 34] [3, 4, 5, 6, 7, 8] [] σ42 σ70 from (((Fr.rfl.trans (Fr.sub f55 (by decide) (by decide) (by decide))).trans (Fr.sub fArg_fr (by decide) (by decide) (by decide))).trans (Fr.sub f72 (by decide) (by decide) (by decide))))
        have fC := (show Fr [34] [3, 4, 5, 6, 7, 8] [] σ42 σ70 from (((Fr.rfl.trans (Fr.sub f55 (by decide) (by decide) (by decide))).trans (Fr.sub fArg_fr (by decide) (by decide) (by decide))).trans (Fr.sub f72 (by decide) (by decide) (by decide))))
        have tbB : TBm (fArg (v54) (0) (σ42.1 39) (σ42.1 40) σ53) σ70 := TBm.of f72 (by decide) (by decide) (by decide) (by decide)
        have eB : σ70.1 34 = σ42.1 34 + 2 := by rw [f74, eAP]; omega
        have e33B : σ70.1 33 = σ42.1 33 := fC.1 33 (by decide)
        have tsB := ts4.puts (m := 2) fB (pbP.trans pbB) eB (by omega) (by decide) hln.1 (u52A (CHG.put fB (by decide) (by decide) (by decide) eB) ptP fAP nfr33 f78 f72 nfr34 e33B)
        have asA : ASF σ (fArg (v54) (0) (σ42.1 39) (σ42.1 40) σ53) [] := (ASF.num ac4 pq4 (by omega)).snoc pq4 pbP tbP eAP (fun z1 z2 z3 => by rw [← jvP]; exact oki_arg1 jiP (Or.inl rfl) (fun _ => by omega) (fun q => absurd q (by decide)) (by omega)) (Or.inl (by rw [← jvP]; exact jiP.1)) (by omega)
        have asB : ASF σ σ70 [] := asA.snoc (pq4.trans pbP) pbB tbB f74 (fun _ _ _ => f76) (Or.inr (Or.inr (Or.inr f77))) (by omega)
        have pqB := pq4.trans (pbP.trans pbB)
        have e28B : σ70.1 28 = 0 := (fC.1 28 (by decide)).trans e284
        have tkB := tsB.2.2.1.1.1
        have e29B : σ70.1 29 = σ.1 29 := rs_F f72 (by decide) (rs_F fArg_fr (by decide) (rs_F f55 (by decide) (rs_F f45 (by decide) (rs_F f23 (by decide) (rs_F f15 (by decide) (rs_F f5 (by decide) (rfl)))))))
        have tbS : TBm σ σ70 := TBm.of (show Fr [19, 20, 22, 23, 26, 27, 28, 32, 34, 39, 40] [3, 4, 5, 6, 7, 8, 35] [24, 38] σ σ70 from (((((((Fr.rfl.trans (Fr.sub f5 (by decide) (by decide) (by decide))).trans (Fr.sub f15 (by decide) (by decide) (by decide))).trans (Fr.sub f23 (by decide) (by decide) (by decide))).trans (Fr.sub f45 (by decide) (by decide) (by decide))).trans (Fr.sub f55 (by decide) (by decide) (by decide))).trans (Fr.sub fArg_fr (by decide) (by decide) (by decide))).trans (Fr.sub f72 (by decide) (by decide) (by decide)))) (by decide) (by decide) (by decide) (by decide)
        refine tm_aload_n dX12_assignment_151 rfl 4 rfl ?_
        refine tm_bipush dX12_assignment_152 (by decide) ?_
        refine tm_callV (M := m_X12_assignment) (pc := 154) (ix := 330) (M' := m_X12_need) (As := [.int (iI 59)]) (rest := []) dX12_assignment_154 ok_X12_need im_X12_need se_X12_need ml12_330 np_X12_need rfl rfl (Nat.le_of_ble_eq_true rfl) (Nat.le_of_ble_eq_true rfl) rfl (c_X12_need (d + 36) (σ := σ70) (c := 59) f73 (by omega) (by omega)) (fun r79 σ80 hp => ?_)
        obtain ⟨v81, rfl, f82, f83, f84, f85, f86, f87, f88⟩ := hp
        show Tm _ _ 157 b σ80 [(5, .int (iI v54)), (4, .int (iI (σ20.1 19))), (2, .long (σ20.2.2 24 0)), (1, .int (iI v4)), (0, .ref b)] [.int (iI v81)] _
        have zn0 := f82
        have zn1 := f83
        have zn2 := f84
        have zn3 := f85
        have zn4 := f86
        have zn5 := f87
        have zn6 := f88
        have pbN : PBF _ σ80 := PBF.of tsB.nn zn1 (by decide) (by decide) (by decide) zn5
        have pqN := pqB.trans pbN
        have e33N : σ80.1 33 = σ.1 33 := rs_F f83 (by decide) (rs_F f72 (by decide) (rs_F fArg_fr (by decide) (rs_F f55 (by decide) (rs_F f45 (by decide) (rs_F f23 (by decide) (rs_F f15 (by decide) (rs_F f5 (by decide) (rfl))))))))
        exact tm_zret (v := v81) rfl (by omega) dX12_assignment_157 (⟨_, rfl, zn0, ((((((((Fr.rfl.trans (Fr.sub f5 (by decide) (by decide) (by decide))).trans (Fr.sub f15 (by decide) (by decide) (by decide))).trans (Fr.sub f23 (by decide) (by decide) (by decide))).trans (Fr.sub f45 (by decide) (by decide) (by decide))).trans (Fr.sub f55 (by decide) (by decide) (by decide))).trans (Fr.sub fArg_fr (by decide) (by decide) (by decide))).trans (Fr.sub f72 (by decide) (by decide) (by decide))).trans (Fr.sub f83 (by decide) (by decide) (by decide))), f84, tsB.1.trans pbN, fun z => have znq := zn3 z; ⟨[], (tsB.needy zn1 znq.2.2.1 znq.2.2.2.1 znq.2.2.2.2 (by have z := znq.1.1; omega) (un_59 znq.1 znq.2.1 (MSE.fr zn1 (by decide) (by decide) (by decide)))).le (by decide), SGF.line e34_.1 hli hln.2.2.2.1 pqN hln.tb (tbS.trans (TBm.of zn1 (by decide) (by decide) (by decide) (by decide))) (by omega) (asB.mv pqB pbN (TBm.of zn1 (by decide) (by decide) (by decide) (by decide)) (zn1.1 34 (by decide)) (by omega)) h0c, FS.of hli e34_.1 hln.2.2.2.1 pqN h0c, ((zn1.1 28 (by decide)).trans e28B).trans e28r.symm, ((show σ80.1 29 = σ.1 29 from rs_F f83 (by decide) (rs_F f72 (by decide) (rs_F fArg_fr (by decide) (rs_F f55 (by decide) (rs_F f45 (by decide) (rs_F f23 (by decide) (rs_F f15 (by decide) (rs_F f5 (by decide) (rfl))))))))).trans e29r)⟩, fun z => (tsB.fail pbN (gf_59 (zn4 z) (zn6 z))).2⟩)
      · refine tm_iconst dX12_assignment_120 ?_
        exact tm_zret (v := 0) rfl (by decide) dX12_assignment_121 (⟨_, rfl, by omega, ((((Fr.rfl.trans (Fr.sub f5 (by decide) (by decide) (by decide))).trans (Fr.sub f15 (by decide) (by decide) (by decide))).trans (Fr.sub f23 (by decide) (by decide) (by decide))).trans (Fr.sub f45 (by decide) (by decide) (by decide))), f46, (ts3.fail xp3 (xp5.2 (by omega) _)).1, fun q => absurd q (by omega), fun _ => (ts3.fail xp3 (xp5.2 (by omega) _)).2⟩)
    · refine tm_aload_n dX12_assignment_46 rfl 3 rfl ?_
      refine tm_getS (k := 20) (t := σ20.1 20) dX12_assignment_47 (by decide) fl12_210 rfl (rfl) ?_
      have g89 := RG.s f24 20
      refine tm_istore (L' := [(5, .int (iI (σ20.1 20))), (4, .int (iI (σ20.1 19))), (2, .long (σ20.2.2 24 0)), (1, .int (iI v4)), (0, .ref b)]) dX12_assignment_50 (by decide) rfl ?_
      refine tm_aload_n dX12_assignment_52 rfl 4 rfl ?_
      refine tm_callV (M := m_X12_assignment) (pc := 53) (ix := 265) (M' := m_X12_advance) (As := []) (rest := []) dX12_assignment_53 ok_X12_advance im_X12_advance se_X12_advance ml12_265 np_X12_advance rfl rfl (Nat.le_of_ble_eq_true rfl) (Nat.le_of_ble_eq_true rfl) rfl (c_X12_advance (d + 37) (σ := σ20)  f24 (by omega)) (fun r90 σ91 hp => ?_)
      obtain ⟨rfl, f93, f94, f95, f96, f97⟩ := hp
      show Tm _ _ 56 b σ91 [(5, .int (iI (σ20.1 20))), (4, .int (iI (σ20.1 19))), (2, .long (σ20.2.2 24 0)), (1, .int (iI v4)), (0, .ref b)] [] _
      have bd0 := f93
      have bd1 := f94
      have bd2 := f95
      have bd3 := f96
      have bd4 := f97
      refine tm_aload_n dX12_assignment_56 rfl 4 rfl ?_
      refine tm_bipush dX12_assignment_57 (by decide) ?_
      refine tm_callV (M := m_X12_assignment) (pc := 59) (ix := 258) (M' := m_X12_isSign) (As := [.int (iI 40)]) (rest := []) dX12_assignment_59 ok_X12_isSign im_X12_isSign se_X12_isSign ml12_258 np_X12_isSign rfl rfl (Nat.le_of_ble_eq_true rfl) (Nat.le_of_ble_eq_true rfl) rfl (c2_X12_isSign (d + 41) (σ := σ91) (c := 40) f95 (by omega)) (fun r98 σ99 hp => ?_)
      obtain ⟨v100, rfl, rfl, f101, f102, f103⟩ := hp
      show Tm _ _ 62 b σ91 [(5, .int (iI (σ20.1 20))), (4, .int (iI (σ20.1 19))), (2, .long (σ20.2.2 24 0)), (1, .int (iI v4)), (0, .ref b)] [.int (iI v100)] _
      have i40 := f102
      have n40_ := f103
      refine tm_if_eq (tgt := 91) dX12_assignment_62 (by decide) ⟨by omega, by omega⟩ (fun h104 => ?_) (fun h104 => ?_)
      · refine tm_aload_n dX12_assignment_91 rfl 4 rfl ?_
        refine tm_iload dX12_assignment_92 0 rfl ?_
        refine tm_putS (k := 20) (v := σ20.1 20) lay_12 dX12_assignment_94 (by decide) fl12_210 rfl (tyX12_ok 20 (by decide)) rfl rfl rfl ?_
        refine tm_aload_n dX12_assignment_97 rfl 4 rfl ?_
        refine tm_iload dX12_assignment_98 1 rfl ?_
        refine tm_putS (k := 19) (v := σ20.1 19) lay_12 dX12_assignment_100 (by decide) fl12_216 rfl (tyX12_ok 19 (by decide)) rfl rfl rfl ?_
        refine tm_aload_n dX12_assignment_103 rfl 4 rfl ?_
        refine tm_iconst dX12_assignment_104 ?_
        refine tm_putS (k := 22) (v := 2) lay_12 dX12_assignment_105 (by decide) fl12_226 rfl (tyX12_ok 22 (by decide)) rfl rfl rfl ?_
        refine tm_aload_n dX12_assignment_108 rfl 4 rfl ?_
        refine tm_lload_n dX12_assignment_109 rfl 2 rfl ?_
        refine tm_putW lay_12 dX12_assignment_110 fl12_219 ?_
        have fk := (show Fr [19, 20, 22, 23] [] [24] σ20 (sJ 24 0 (σ20.2.2 24 0) (sS 22 2 (sS 19 (σ20.1 19) (sS 20 (σ20.1 20) σ91)))) from (((((Fr.rfl.trans (Fr.sub f94 (by decide) (by decide) (by decide))).S (by decide)).S (by decide)).S (by decide)).J (by decide)))
        have v19 : (sJ 24 0 (σ20.2.2 24 0) (sS 22 2 (sS 19 (σ20.1 19) (sS 20 (σ20.1 20) σ91)))).1 19 = σ20.1 19 := rs_J (rs_o (by decide) (rs_eq))
        have v20 : (sJ 24 0 (σ20.2.2 24 0) (sS 22 2 (sS 19 (σ20.1 19) (sS 20 (σ20.1 20) σ91)))).1 20 = σ20.1 20 := rs_J (rs_o (by decide) (rs_o (by decide) (rs_eq)))
        have v22 : (sJ 24 0 (σ20.2.2 24 0) (sS 22 2 (sS 19 (σ20.1 19) (sS 20 (σ20.1 20) σ91)))).1 22 = 2 := rs_J (rs_eq)
        have v23 : (sJ 24 0 (σ20.2.2 24 0) (sS 22 2 (sS 19 (σ20.1 19) (sS 20 (σ20.1 20) σ91)))).1 23 = σ91.1 23 := rs_J (rs_o (by decide) (rs_o (by decide) (rs_o (by decide) (rfl))))
        have v24 : (sJ 24 0 (σ20.2.2 24 0) (sS 22 2 (sS 19 (σ20.1 19) (sS 20 (σ20.1 20) σ91)))).2.2 24 0 = σ20.2.2 24 0 := rj_eq
        have ts3 := ts2.back fk ⟨v19, v20, v22⟩ (by have z := (inm (by omega)).1; omega) (by rw [v23]; exact bd3.2.2.2) (u25b (inm (by omega)) bd0 (n40_ (by omega)) (by unfold tks; rw [v19, v20, v22, v23, v24]) (by unfold xs; rw [fk.1 28 (by decide), fk.1 29 (by decide), fk.1 34 (by decide)]) (sv_fr fk (by decide) (by decide)) (srt_fr fk (by decide) (by decide) (by decide)) (MSE.fr fk (by decide) (by decide) (by decide)))
        have pq3 : PBF σ (sJ 24 0 (σ20.2.2 24 0) (sS 22 2 (sS 19 (σ20.1 19) (sS 20 (σ20.1 20) σ91)))) := pq2.trans (PBF.nop pq2.2.2.1 fk (by decide) (by decide) (by decide))
        have e343 : (sJ 24 0 (σ20.2.2 24 0) (sS 22 2 (sS 19 (σ20.1 19) (sS 20 (σ20.1 20) σ91)))).1 34 = σ.1 34 := (fk.1 34 (by decide)).trans e342
        have e283 : (sJ 24 0 (σ20.2.2 24 0) (sS 22 2 (sS 19 (σ20.1 19) (sS 20 (σ20.1 20) σ91)))).1 28 = 0 := (fk.1 28 (by decide)).trans (e282.trans h28)
        refine tm_aload_n dX12_assignment_113 rfl 4 rfl ?_
        refine tm_callV (M := m_X12_assignment) (pc := 114) (ix := 327) (M' := m_X12_expression) (As := []) (rest := []) dX12_assignment_114 ok_X12_expression im_X12_expression se_X12_expression ml12_327 np_X12_expression rfl rfl (Nat.le_of_ble_eq_true rfl) (Nat.le_of_ble_eq_true rfl) rfl (c_exp8 (d + 2) (σ := (sJ 24 0 (σ20.2.2 24 0) (sS 22 2 (sS 19 (σ20.1 19) (sS 20 (σ20.1 20) σ91)))))  ((((f95.S (by omega)).S (by omega)).S (by omega)).J) ts3.2.2.1 ts3.nn e283) (fun r105 σ106 hp => ?_)
        obtain ⟨v107, rfl, f108, f109, f110, f111, f112, f113, f114⟩ := hp
        show Tm _ _ 117 b σ106 [(5, .int (iI (σ20.1 20))), (4, .int (iI (σ20.1 19))), (2, .long (σ20.2.2 24 0)), (1, .int (iI v4)), (0, .ref b)] [.int (iI v107)] _
        have xp0 := f108
        have xp1 := f109
        have xp2 := f110
        have xp3 := f111
        have xp4 := f112
        have xp5 := f113
        have xp6 := f114
        refine tm_if_ne (tgt := 122) dX12_assignment_117 (by decide) ⟨by omega, by omega⟩ (fun h115 => ?_) (fun h115 => ?_)
        · have ts4 := ts3.exp xp1 xp3 (xp4 (by omega)) (xp5.1 (by omega))
          have ex4 := xp4 (by omega)
          have gt := ex4.2.2.1
          unfold GTm at gt
          have rdx := ts4.2.2.1.2
          have tkx := ts4.2.2.1.1.1
          have pq4 := pq3.trans xp3
          have ac4 : AC σ σ106 := (AC.nil e343).trans pq3 ex4.2.2.2.1 xp3 (by omega)
          have e284 : σ106.1 28 = 0 := xp6.trans e283
          have e334 : σ106.1 33 = σ.1 33 := rs_F f109 (by decide) (rs_J (rs_o (by decide) (rs_o (by decide) (rs_o (by decide) (rs_F f94 (by decide) (rs_F f23 (by decide) (rs_F f15 (by decide) (rs_F f5 (by decide) (rfl)))))))))
          refine tm_aload_n dX12_assignment_122 rfl 4 rfl ?_
          refine tm_iconst dX12_assignment_123 ?_
          refine tm_iload_n dX12_assignment_124 rfl 3 rfl ?_
          refine tm_iconst dX12_assignment_125 ?_
          refine tm_callV (M := m_X12_assignment) (pc := 126) (ix := 294) (M' := m_X12_put) (As := [.int (iI 0), .int (iI v4), .int (iI 0)]) (rest := []) dX12_assignment_126 ok_X12_put im_X12_put se_X12_put ml12_294 np_X12_put rfl rfl (Nat.le_of_ble_eq_true rfl) (Nat.le_of_ble_eq_true rfl) rfl (c_X12_put (d + 40) (σ := σ106) (k := 0) (e := v4) (o := 0) f110 (by omega) (by omega) (by omega) (by omega)) (fun r116 σ117 hp => ?_)
          obtain ⟨v118, rfl, f119, f120, f121, f122, f123, f124, f125, f126⟩ := hp
          show Tm _ _ 129 b σ117 [(5, .int (iI (σ20.1 20))), (4, .int (iI (σ20.1 19))), (2, .long (σ20.2.2 24 0)), (1, .int (iI v4)), (0, .ref b)] [.int (iI v118)] _
          have jvP := f121
          have jnP := f122
          have jiP := f123
          have joP := f124
          have jrP := f125
          have jzP := f126
          refine tm_istore (L' := [(5, .int (iI v118)), (4, .int (iI (σ20.1 19))), (2, .long (σ20.2.2 24 0)), (1, .int (iI v4)), (0, .ref b)]) dX12_assignment_129 (by decide) rfl ?_
          refine tm_aload_n dX12_assignment_131 rfl 4 rfl ?_
          refine tm_iload dX12_assignment_132 0 rfl ?_
          refine tm_iconst dX12_assignment_134 ?_
          refine tm_aload_n dX12_assignment_135 rfl 4 rfl ?_
          refine tm_getS (k := 39) (t := σ106.1 39) dX12_assignment_136 (by decide) fl12_285 rfl (rs_F f119 (by decide) (rfl)) ?_
          have g127 := RG.s f110 39
          refine tm_aload_n dX12_assignment_139 rfl 4 rfl ?_
          refine tm_getS (k := 40) (t := σ106.1 40) dX12_assignment_140 (by decide) fl12_288 rfl (rs_F f119 (by decide) (rfl)) ?_
          have g128 := RG.s f110 40
          refine tm_callV (M := m_X12_assignment) (pc := 143) (ix := 298) (M' := m_X12_setArg) (As := [.int (iI v118), .int (iI 0), .int (iI (σ106.1 39)), .int (iI (σ106.1 40))]) (rest := []) dX12_assignment_143 ok_X12_setArg im_X12_setArg se_X12_setArg ml12_298 np_X12_setArg rfl rfl (Nat.le_of_ble_eq_true rfl) (Nat.le_of_ble_eq_true rfl) rfl (c_X12_setArg (d + 41) (σ := σ117) (x := v118) (i := 0) (k := σ106.1 39) (w := σ106.1 40) (by omega)) (fun r129 σ130 hp => ?_)
          obtain ⟨rfl, f132⟩ := hp
          subst f132
          show Tm _ _ 146 b (fArg (v118) (0) (σ106.1 39) (σ106.1 40) σ117) [(5, .int (iI v118)), (4, .int (iI (σ20.1 19))), (2, .long (σ20.2.2 24 0)), (1, .int (iI v4)), (0, .ref b)] [] _
          have jvP : _ = PXx σ106 := jvP
          have fAP := (show Fr [33, 34] [3, 4, 5, 6, 7, 8] [] σ106 (fArg (v118) (0) (σ106.1 39) (σ106.1 40) σ117) from ((Fr.rfl.trans (Fr.sub f119 (by decide) (by decide) (by decide))).trans (Fr.sub fArg_fr (by decide) (by decide) (by decide))))
          have eAP : (fArg (v118) (0) (σ106.1 39) (σ106.1 40) σ117).1 34 = σ106.1 34 + 1 := jnP
          have pbP : PBF σ106 (fArg (v118) (0) (σ106.1 39) (σ106.1 40) σ117) := PBF.it ts4.nn fAP (by decide) (by decide) (by decide) eAP jvP (joP.trans (OFF.arg (by decide) (by decide)))
          have tbP : TBm σ106 (fArg (v118) (0) (σ106.1 39) (σ106.1 40) σ117) := TBm.of fAP (by decide) (by decide) (by decide) (by decide)
          have ptP : PIT σ106 (fArg (v118) (0) (σ106.1 39) (σ106.1 40) σ117) (mkI 0 v4 0 (σ106.1 39) (σ106.1 40) 0) := by exact PIT.at jvP eAP (joP.trans (OFF.arg (by decide) (by decide))) (ri_one jzP)
          refine tm_aload_n dX12_assignment_146 rfl 4 rfl ?_
          refine tm_iload_n dX12_assignment_147 rfl 3 rfl ?_
          refine tm_callV (M := m_X12_assignment) (pc := 148) (ix := 359) (M' := m_X12_bind) (As := [.int (iI v4)]) (rest := []) dX12_assignment_148 ok_X12_bind im_X12_bind se_X12_bind ml12_359 np_X12_bind rfl rfl (Nat.le_of_ble_eq_true rfl) (Nat.le_of_ble_eq_true rfl) rfl (c_X12_bind (d + 39) (σ := (fArg (v118) (0) (σ106.1 39) (σ106.1 40) σ117)) (k := v4) ((f120).arg (by omega) (by omega)) (by rw [show (fArg (v118) (0) (σ106.1 39) (σ106.1 40) σ117).1 30 = σ106.1 30 from fAP.1 30 (by decide), eAP]; omega) (by omega)) (fun r133 σ134 hp => ?_)
          obtain ⟨rfl, f136, f137, f138, f139, f140, f141, f142⟩ := hp
          show Tm _ _ 151 b σ134 [(5, .int (iI v118)), (4, .int (iI (σ20.1 19))), (2, .long (σ20.2.2 24 0)), (1, .int (iI v4)), (0, .ref b)] [] _
          have pbB : PBF (fArg (v118) (0) (σ106.1 39) (σ106.1 40) σ117) σ134 := PBF.it pbP.2.2.1 f136 (by decide) (by decide) (by decide) f138 rfl f139
          have fB := (show Fr [33, 34] [3, 4, 5, 6, 7, 8] [] σ106 σ134 from (((Fr.rfl.trans (Fr.sub f119 (by decide) (by decide) (by decide))).trans (Fr.sub fArg_fr (by decide) (by decide) (by decide))).trans (Fr.sub f136 (by decide) (by decide) (by decide))))
          have fC := (show Fr [34] [3, 4, 5, 6, 7, 8] [] σ106 σ134 from (((Fr.rfl.trans (Fr.sub f119 (by decide) (by decide) (by decide))).trans (Fr.sub fArg_fr (by decide) (by decide) (by decide))).trans (Fr.sub f136 (by decide) (by decide) (by decide))))
          have tbB : TBm (fArg (v118) (0) (σ106.1 39) (σ106.1 40) σ117) σ134 := TBm.of f136 (by decide) (by decide) (by decide) (by decide)
          have eB : σ134.1 34 = σ106.1 34 + 2 := by rw [f138, eAP]; omega
          have e33B : σ134.1 33 = σ106.1 33 := fC.1 33 (by decide)
          have tsB := ts4.puts (m := 2) fB (pbP.trans pbB) eB (by omega) (by decide) hln.1 (u52A (CHG.put fB (by decide) (by decide) (by decide) eB) ptP fAP nfr33 f142 f136 nfr34 e33B)
          have asA : ASF σ (fArg (v118) (0) (σ106.1 39) (σ106.1 40) σ117) [] := (ASF.num ac4 pq4 (by omega)).snoc pq4 pbP tbP eAP (fun z1 z2 z3 => by rw [← jvP]; exact oki_arg1 jiP (Or.inl rfl) (fun _ => by omega) (fun q => absurd q (by decide)) (by omega)) (Or.inl (by rw [← jvP]; exact jiP.1)) (by omega)
          have asB : ASF σ σ134 [] := asA.snoc (pq4.trans pbP) pbB tbB f138 (fun _ _ _ => f140) (Or.inr (Or.inr (Or.inr f141))) (by omega)
          have pqB := pq4.trans (pbP.trans pbB)
          have e28B : σ134.1 28 = 0 := (fC.1 28 (by decide)).trans e284
          have tkB := tsB.2.2.1.1.1
          have e29B : σ134.1 29 = σ.1 29 := rs_F f136 (by decide) (rs_F fArg_fr (by decide) (rs_F f119 (by decide) (rs_F f109 (by decide) (rs_J (rs_o (by decide) (rs_o (by decide) (rs_o (by decide) (rs_F f94 (by decide) (rs_F f23 (by decide) (rs_F f15 (by decide) (rs_F f5 (by decide) (rfl))))))))))))
          have tbS : TBm σ σ134 := TBm.of (show Fr [19, 20, 22, 23, 26, 27, 28, 32, 34, 39, 40] [3, 4, 5, 6, 7, 8, 35] [24, 38] σ σ134 from ((((((((((((Fr.rfl.trans (Fr.sub f5 (by decide) (by decide) (by decide))).trans (Fr.sub f15 (by decide) (by decide) (by decide))).trans (Fr.sub f23 (by decide) (by decide) (by decide))).trans (Fr.sub f94 (by decide) (by decide) (by decide))).S (by decide)).S (by decide)).S (by decide)).J (by decide)).trans (Fr.sub f109 (by decide) (by decide) (by decide))).trans (Fr.sub f119 (by decide) (by decide) (by decide))).trans (Fr.sub fArg_fr (by decide) (by decide) (by decide))).trans (Fr.sub f136 (by decide) (by decide) (by decide)))) (by decide) (by decide) (by decide) (by decide)
          refine tm_aload_n dX12_assignment_151 rfl 4 rfl ?_
          refine tm_bipush dX12_assignment_152 (by decide) ?_
          refine tm_callV (M := m_X12_assignment) (pc := 154) (ix := 330) (M' := m_X12_need) (As := [.int (iI 59)]) (rest := []) dX12_assignment_154 ok_X12_need im_X12_need se_X12_need ml12_330 np_X12_need rfl rfl (Nat.le_of_ble_eq_true rfl) (Nat.le_of_ble_eq_true rfl) rfl (c_X12_need (d + 36) (σ := σ134) (c := 59) f137 (by omega) (by omega)) (fun r143 σ144 hp => ?_)
          obtain ⟨v145, rfl, f146, f147, f148, f149, f150, f151, f152⟩ := hp
          show Tm _ _ 157 b σ144 [(5, .int (iI v118)), (4, .int (iI (σ20.1 19))), (2, .long (σ20.2.2 24 0)), (1, .int (iI v4)), (0, .ref b)] [.int (iI v145)] _
          have zn0 := f146
          have zn1 := f147
          have zn2 := f148
          have zn3 := f149
          have zn4 := f150
          have zn5 := f151
          have zn6 := f152
          have pbN : PBF _ σ144 := PBF.of tsB.nn zn1 (by decide) (by decide) (by decide) zn5
          have pqN := pqB.trans pbN
          have e33N : σ144.1 33 = σ.1 33 := rs_F f147 (by decide) (rs_F f136 (by decide) (rs_F fArg_fr (by decide) (rs_F f119 (by decide) (rs_F f109 (by decide) (rs_J (rs_o (by decide) (rs_o (by decide) (rs_o (by decide) (rs_F f94 (by decide) (rs_F f23 (by decide) (rs_F f15 (by decide) (rs_F f5 (by decide) (rfl)))))))))))))
          exact tm_zret (v := v145) rfl (by omega) dX12_assignment_157 (⟨_, rfl, zn0, (((((((((((((Fr.rfl.trans (Fr.sub f5 (by decide) (by decide) (by decide))).trans (Fr.sub f15 (by decide) (by decide) (by decide))).trans (Fr.sub f23 (by decide) (by decide) (by decide))).trans (Fr.sub f94 (by decide) (by decide) (by decide))).S (by decide)).S (by decide)).S (by decide)).J (by decide)).trans (Fr.sub f109 (by decide) (by decide) (by decide))).trans (Fr.sub f119 (by decide) (by decide) (by decide))).trans (Fr.sub fArg_fr (by decide) (by decide) (by decide))).trans (Fr.sub f136 (by decide) (by decide) (by decide))).trans (Fr.sub f147 (by decide) (by decide) (by decide))), f148, tsB.1.trans pbN, fun z => have znq := zn3 z; ⟨[], (tsB.needy zn1 znq.2.2.1 znq.2.2.2.1 znq.2.2.2.2 (by have z := znq.1.1; omega) (un_59 znq.1 znq.2.1 (MSE.fr zn1 (by decide) (by decide) (by decide)))).le (by decide), SGF.line e34_.1 hli hln.2.2.2.1 pqN hln.tb (tbS.trans (TBm.of zn1 (by decide) (by decide) (by decide) (by decide))) (by omega) (asB.mv pqB pbN (TBm.of zn1 (by decide) (by decide) (by decide) (by decide)) (zn1.1 34 (by decide)) (by omega)) h0c, FS.of hli e34_.1 hln.2.2.2.1 pqN h0c, ((zn1.1 28 (by decide)).trans e28B).trans e28r.symm, ((show σ144.1 29 = σ.1 29 from rs_F f147 (by decide) (rs_F f136 (by decide) (rs_F fArg_fr (by decide) (rs_F f119 (by decide) (rs_F f109 (by decide) (rs_J (rs_o (by decide) (rs_o (by decide) (rs_o (by decide) (rs_F f94 (by decide) (rs_F f23 (by decide) (rs_F f15 (by decide) (rs_F f5 (by decide) (rfl)))))))))))))).trans e29r)⟩, fun z => (tsB.fail pbN (gf_59 (zn4 z) (zn6 z))).2⟩)
        · refine tm_iconst dX12_assignment_120 ?_
          exact tm_zret (v := 0) rfl (by decide) dX12_assignment_121 (⟨_, rfl, by omega, (((((((((Fr.rfl.trans (Fr.sub f5 (by decide) (by decide) (by decide))).trans (Fr.sub f15 (by decide) (by decide) (by decide))).trans (Fr.sub f23 (by decide) (by decide) (by decide))).trans (Fr.sub f94 (by decide) (by decide) (by decide))).S (by decide)).S (by decide)).S (by decide)).J (by decide)).trans (Fr.sub f109 (by decide) (by decide) (by decide))), f110, (ts3.fail xp3 (xp5.2 (by omega) _)).1, fun q => absurd q (by omega), fun _ => (ts3.fail xp3 (xp5.2 (by omega) _)).2⟩)
      · have ts3 := ts2.advE bd1 bd3 bd4 (by have z := (inm (by omega)).1; omega) (u25c (inm (by omega)) bd0 (i40 (by omega)) (MSE.fr bd1 (by decide) (by decide) (by decide)))
        have pq3 : PBF σ σ91 := pq2.trans (PBF.nop pq2.2.2.1 bd1 (by decide) (by decide) (by decide))
        have e343 : σ91.1 34 = σ.1 34 := (bd1.1 34 (by decide)).trans e342
        have e283 : σ91.1 28 = 0 := (bd1.1 28 (by decide)).trans (e282.trans h28)
        have e433 : σ91.1 43 = σ.1 43 := rs_F f94 (by decide) (rs_F f23 (by decide) (rs_F f15 (by decide) (rs_F f5 (by decide) (rfl))))
        refine tm_aload_n dX12_assignment_65 rfl 4 rfl ?_
        refine tm_iload_n dX12_assignment_66 rfl 3 rfl ?_
        refine tm_lload_n dX12_assignment_67 rfl 2 rfl ?_
        refine tm_iload dX12_assignment_68 1 rfl ?_
        refine tm_callV (M := m_X12_assignment) (pc := 70) (ix := 355) (M' := m_X12_call) (As := [.int (iI v4), .long (σ20.2.2 24 0), .int (iI (σ20.1 19))]) (rest := []) dX12_assignment_70 ok_X12_call im_X12_call se_X12_call ml12_355 np_X12_call rfl rfl (Nat.le_of_ble_eq_true rfl) (Nat.le_of_ble_eq_true rfl) rfl (c_X12_call (d) (σ := σ91) (kn := v4) (w := σ20.2.2 24 0) (p := σ20.1 19) (ρ := ρ) f95 hln.1 (ts3.le (by decide)) nm3 e283 (by rw [e433]; exact ht) (i40 (by omega)) (by omega)) (fun r153 σ154 hp => ?_)
        obtain ⟨v155, rfl, f156, f157, f158, f159, f160, f161, f162⟩ := hp
        show Tm _ _ 73 b σ154 [(5, .int (iI (σ20.1 20))), (4, .int (iI (σ20.1 19))), (2, .long (σ20.2.2 24 0)), (1, .int (iI v4)), (0, .ref b)] [.int (iI v155)] _
        have cl0 := f156
        have cl1 := f157
        have cl2 := f158
        have cl3 := f159
        have cl4 := f160
        have cl5 := f161
        have cl6 := f162
        refine tm_if_eq (tgt := 89) dX12_assignment_73 (by decide) ⟨by omega, by omega⟩ (fun h163 => ?_) (fun h163 => ?_)
        · refine tm_iconst dX12_assignment_89 ?_
          exact tm_zret (v := 0) rfl (by decide) dX12_assignment_90 (⟨_, rfl, by omega, (((((Fr.rfl.trans (Fr.sub f5 (by decide) (by decide) (by decide))).trans (Fr.sub f15 (by decide) (by decide) (by decide))).trans (Fr.sub f23 (by decide) (by decide) (by decide))).trans (Fr.sub f94 (by decide) (by decide) (by decide))).trans (Fr.sub f157 (by decide) (by decide) (by decide))), f158, cl3, fun q => absurd q (by omega), fun _ => cl5 (by omega)⟩)
        · obtain ⟨lgc, tsc, asc, pbc⟩ := cl4 (by omega)
          have tkc := tsc.2.2.1.1.1
          refine tm_aload_n dX12_assignment_76 rfl 4 rfl ?_
          refine tm_bipush dX12_assignment_77 (by decide) ?_
          refine tm_callV (M := m_X12_assignment) (pc := 79) (ix := 330) (M' := m_X12_need) (As := [.int (iI 59)]) (rest := []) dX12_assignment_79 ok_X12_need im_X12_need se_X12_need ml12_330 np_X12_need rfl rfl (Nat.le_of_ble_eq_true rfl) (Nat.le_of_ble_eq_true rfl) rfl (c_X12_need (d + 36) (σ := σ154) (c := 59) f158 (by omega) (by omega)) (fun r164 σ165 hp => ?_)
          obtain ⟨v166, rfl, f167, f168, f169, f170, f171, f172, f173⟩ := hp
          show Tm _ _ 82 b σ165 [(5, .int (iI (σ20.1 20))), (4, .int (iI (σ20.1 19))), (2, .long (σ20.2.2 24 0)), (1, .int (iI v4)), (0, .ref b)] [.int (iI v166)] _
          have zn0 := f167
          have zn1 := f168
          have zn2 := f169
          have zn3 := f170
          have zn4 := f171
          have zn5 := f172
          have zn6 := f173
          refine tm_if_eq (tgt := 89) dX12_assignment_82 (by decide) ⟨by omega, by omega⟩ (fun h174 => ?_) (fun h174 => ?_)
          · refine tm_iconst dX12_assignment_89 ?_
            exact tm_zret (v := 0) rfl (by decide) dX12_assignment_90 (⟨_, rfl, by omega, ((((((Fr.rfl.trans (Fr.sub f5 (by decide) (by decide) (by decide))).trans (Fr.sub f15 (by decide) (by decide) (by decide))).trans (Fr.sub f23 (by decide) (by decide) (by decide))).trans (Fr.sub f94 (by decide) (by decide) (by decide))).trans (Fr.sub f157 (by decide) (by decide) (by decide))).trans (Fr.sub f168 (by decide) (by decide) (by decide))), f169, (tsc.fail (PBF.of tsc.nn zn1 (by decide) (by decide) (by decide) zn5) (gf_59 (zn4 (by omega)) (zn6 (by omega)))).1, fun q => absurd q (by omega), fun _ => (tsc.fail (PBF.of tsc.nn zn1 (by decide) (by decide) (by decide) zn5) (gf_59 (zn4 (by omega)) (zn6 (by omega)))).2⟩)
          · refine tm_iconst dX12_assignment_85 ?_
            refine tm_goto (tgt := 90) dX12_assignment_86 (by decide) ?_
            have znq := zn3 (by omega)
            have pbN : PBF _ σ165 := PBF.of tsc.nn zn1 (by decide) (by decide) (by decide) zn5
            have tsn := tsc.needy zn1 znq.2.2.1 znq.2.2.2.1 znq.2.2.2.2 (by have z := znq.1.1; omega) (un_59 znq.1 znq.2.1 (MSE.fr zn1 (by decide) (by decide) (by decide)))
            have pqN : PBF σ σ165 := (pq3.trans pbc).trans pbN
            have e33N := (show σ165.1 33 = σ.1 33 from rs_F f168 (by decide) (rs_F f157 (by decide) (rs_F f94 (by decide) (rs_F f23 (by decide) (rs_F f15 (by decide) (rs_F f5 (by decide) (rfl)))))))
            have asN := (asc.mv pbc pbN (TBm.of zn1 (by decide) (by decide) (by decide) (by decide)) (zn1.1 34 (by decide)) ts3.h1).pre pq3 (TBm.of (show Fr [19, 20, 22, 23, 26, 27] [35] [24, 38] σ σ91 from ((((Fr.rfl.trans (Fr.sub f5 (by decide) (by decide) (by decide))).trans (Fr.sub f15 (by decide) (by decide) (by decide))).trans (Fr.sub f23 (by decide) (by decide) (by decide))).trans (Fr.sub f94 (by decide) (by decide) (by decide)))) (by decide) (by decide) (by decide) (by decide)) e343
            have tbN := (TBm.of (show Fr [19, 20, 22, 23, 26, 27, 28, 32, 34, 39, 40] [3, 4, 5, 6, 7, 8, 35, 41, 42] [24, 38] σ σ165 from ((((((Fr.rfl.trans (Fr.sub f5 (by decide) (by decide) (by decide))).trans (Fr.sub f15 (by decide) (by decide) (by decide))).trans (Fr.sub f23 (by decide) (by decide) (by decide))).trans (Fr.sub f94 (by decide) (by decide) (by decide))).trans (Fr.sub f157 (by decide) (by decide) (by decide))).trans (Fr.sub f168 (by decide) (by decide) (by decide)))) (by decide) (by decide) (by decide) (by decide))
            exact tm_zret (v := 1) rfl (by decide) dX12_assignment_90 (⟨_, rfl, by omega, ((((((Fr.rfl.trans (Fr.sub f5 (by decide) (by decide) (by decide))).trans (Fr.sub f15 (by decide) (by decide) (by decide))).trans (Fr.sub f23 (by decide) (by decide) (by decide))).trans (Fr.sub f94 (by decide) (by decide) (by decide))).trans (Fr.sub f157 (by decide) (by decide) (by decide))).trans (Fr.sub f168 (by decide) (by decide) (by decide))), f169, tsn.1, fun _ => ⟨lgc, tsn.le (by decide), SGF.line e34_.1 hli hln.2.2.2.1 pqN hln.tb tbN (by omega) asN h0c, FS.of hli e34_.1 hln.2.2.2.1 pqN h0c, ((zn1.1 28 (by decide)).trans cl6).trans e28r.symm, ((show σ165.1 29 = σ.1 29 from rs_F f168 (by decide) (rs_F f157 (by decide) (rs_F f94 (by decide) (rs_F f23 (by decide) (rs_F f15 (by decide) (rs_F f5 (by decide) (rfl))))))).trans e29r)⟩, fun q => absurd q (by decide)⟩)
  · refine tm_iconst dX12_assignment_26 ?_
    exact tm_zret (v := 0) rfl (by decide) dX12_assignment_27 (⟨_, rfl, by omega, (((Fr.rfl.trans (Fr.sub f5 (by decide) (by decide) (by decide))).trans (Fr.sub f15 (by decide) (by decide) (by decide))).trans (Fr.sub f23 (by decide) (by decide) (by decide))), f24, (ts1.fail (PBF.of ts1.nn yn1 (by decide) (by decide) (by decide) yn5) (gf_61 (yn4 (by omega)) (yn6 (by omega)))).1, fun q => absurd q (by omega), fun _ => (ts1.fail (PBF.of ts1.nn yn1 (by decide) (by decide) (by decide) yn5) (gf_61 (yn4 (by omega)) (yn6 (by omega)))).2⟩)
end
section
theorem fl12_370 : Cond.fieldLink RX12 370 (TX12 33).1 (TX12 33).2.1 (TX12 33).2.2.1 ∈ pWW := pw7 (List.mem_of_getElem? (i := 40) rfl) rfl
theorem ml12_373 : Cond.methodLink RX12 373 yX12_block ∈ pWW := pw8 (List.mem_of_getElem? (i := 189) rfl) rfl
theorem ml12_339 : Cond.methodLink RX12 339 yX12_isWord ∈ pWW := pw8 (List.mem_of_getElem? (i := 197) rfl) rfl
theorem dX12_ifStatement_0 : decode cX12_ifStatement 0 = .ok (.aload_n 0, 1) := by decide +kernel
theorem dX12_ifStatement_1 : decode cX12_ifStatement 1 = .ok (.invokevirtual 265, 3) := by decide +kernel
theorem dX12_ifStatement_4 : decode cX12_ifStatement 4 = .ok (.aload_n 0, 1) := by decide +kernel
theorem dX12_ifStatement_5 : decode cX12_ifStatement 5 = .ok (.invokevirtual 327, 3) := by decide +kernel
theorem dX12_ifStatement_8 : decode cX12_ifStatement 8 = .ok (.ifCond .ne 5, 3) := by decide +kernel
theorem dX12_ifStatement_13 : decode cX12_ifStatement 13 = .ok (.aload_n 0, 1) := by decide +kernel
theorem dX12_ifStatement_14 : decode cX12_ifStatement 14 = .ok (.getfield 370, 3) := by decide +kernel
theorem dX12_ifStatement_17 : decode cX12_ifStatement 17 = .ok (.istore_n 1, 1) := by decide +kernel
theorem dX12_ifStatement_18 : decode cX12_ifStatement 18 = .ok (.aload_n 0, 1) := by decide +kernel
theorem dX12_ifStatement_19 : decode cX12_ifStatement 19 = .ok (.dup, 1) := by decide +kernel
theorem dX12_ifStatement_20 : decode cX12_ifStatement 20 = .ok (.getfield 370, 3) := by decide +kernel
theorem dX12_ifStatement_23 : decode cX12_ifStatement 23 = .ok (.iconst 1, 1) := by decide +kernel
theorem dX12_ifStatement_24 : decode cX12_ifStatement 24 = .ok (.iadd, 1) := by decide +kernel
theorem dX12_ifStatement_25 : decode cX12_ifStatement 25 = .ok (.putfield 370, 3) := by decide +kernel
theorem dX12_ifStatement_28 : decode cX12_ifStatement 28 = .ok (.aload_n 0, 1) := by decide +kernel
theorem dX12_ifStatement_29 : decode cX12_ifStatement 29 = .ok (.bipush 9, 2) := by decide +kernel
theorem dX12_ifStatement_31 : decode cX12_ifStatement 31 = .ok (.iload_n 1, 1) := by decide +kernel
theorem dX12_ifStatement_32 : decode cX12_ifStatement 32 = .ok (.iconst 0, 1) := by decide +kernel
theorem dX12_ifStatement_33 : decode cX12_ifStatement 33 = .ok (.invokevirtual 294, 3) := by decide +kernel
theorem dX12_ifStatement_36 : decode cX12_ifStatement 36 = .ok (.istore_n 2, 1) := by decide +kernel
theorem dX12_ifStatement_37 : decode cX12_ifStatement 37 = .ok (.aload_n 0, 1) := by decide +kernel
theorem dX12_ifStatement_38 : decode cX12_ifStatement 38 = .ok (.iload_n 2, 1) := by decide +kernel
theorem dX12_ifStatement_39 : decode cX12_ifStatement 39 = .ok (.iconst 0, 1) := by decide +kernel
theorem dX12_ifStatement_40 : decode cX12_ifStatement 40 = .ok (.aload_n 0, 1) := by decide +kernel
theorem dX12_ifStatement_41 : decode cX12_ifStatement 41 = .ok (.getfield 285, 3) := by decide +kernel
theorem dX12_ifStatement_44 : decode cX12_ifStatement 44 = .ok (.aload_n 0, 1) := by decide +kernel
theorem dX12_ifStatement_45 : decode cX12_ifStatement 45 = .ok (.getfield 288, 3) := by decide +kernel
theorem dX12_ifStatement_48 : decode cX12_ifStatement 48 = .ok (.invokevirtual 298, 3) := by decide +kernel
theorem dX12_ifStatement_51 : decode cX12_ifStatement 51 = .ok (.aload_n 0, 1) := by decide +kernel
theorem dX12_ifStatement_52 : decode cX12_ifStatement 52 = .ok (.invokevirtual 373, 3) := by decide +kernel
theorem dX12_ifStatement_55 : decode cX12_ifStatement 55 = .ok (.ifCond .ne 5, 3) := by decide +kernel
theorem dX12_ifStatement_60 : decode cX12_ifStatement 60 = .ok (.aload_n 0, 1) := by decide +kernel
theorem dX12_ifStatement_61 : decode cX12_ifStatement 61 = .ok (.ldc2_w 248, 3) := by decide +kernel
theorem dX12_ifStatement_64 : decode cX12_ifStatement 64 = .ok (.invokevirtual 339, 3) := by decide +kernel
theorem dX12_ifStatement_67 : decode cX12_ifStatement 67 = .ok (.ifCond .ne 14, 3) := by decide +kernel
theorem dX12_ifStatement_81 : decode cX12_ifStatement 81 = .ok (.aload_n 0, 1) := by decide +kernel
theorem dX12_ifStatement_82 : decode cX12_ifStatement 82 = .ok (.invokevirtual 265, 3) := by decide +kernel
theorem dX12_ifStatement_85 : decode cX12_ifStatement 85 = .ok (.aload_n 0, 1) := by decide +kernel
theorem dX12_ifStatement_86 : decode cX12_ifStatement 86 = .ok (.getfield 370, 3) := by decide +kernel
theorem dX12_ifStatement_89 : decode cX12_ifStatement 89 = .ok (.istore_n 3, 1) := by decide +kernel
theorem dX12_ifStatement_90 : decode cX12_ifStatement 90 = .ok (.aload_n 0, 1) := by decide +kernel
theorem dX12_ifStatement_91 : decode cX12_ifStatement 91 = .ok (.dup, 1) := by decide +kernel
theorem dX12_ifStatement_92 : decode cX12_ifStatement 92 = .ok (.getfield 370, 3) := by decide +kernel
theorem dX12_ifStatement_95 : decode cX12_ifStatement 95 = .ok (.iconst 1, 1) := by decide +kernel
theorem dX12_ifStatement_96 : decode cX12_ifStatement 96 = .ok (.iadd, 1) := by decide +kernel
theorem dX12_ifStatement_97 : decode cX12_ifStatement 97 = .ok (.putfield 370, 3) := by decide +kernel
theorem dX12_ifStatement_100 : decode cX12_ifStatement 100 = .ok (.aload_n 0, 1) := by decide +kernel
theorem dX12_ifStatement_101 : decode cX12_ifStatement 101 = .ok (.bipush 8, 2) := by decide +kernel
theorem dX12_ifStatement_103 : decode cX12_ifStatement 103 = .ok (.iload_n 3, 1) := by decide +kernel
theorem dX12_ifStatement_104 : decode cX12_ifStatement 104 = .ok (.iconst 0, 1) := by decide +kernel
theorem dX12_ifStatement_105 : decode cX12_ifStatement 105 = .ok (.invokevirtual 294, 3) := by decide +kernel
theorem dX12_ifStatement_108 : decode cX12_ifStatement 108 = .ok (.istore_n 2, 1) := by decide +kernel
theorem dX12_ifStatement_109 : decode cX12_ifStatement 109 = .ok (.aload_n 0, 1) := by decide +kernel
theorem dX12_ifStatement_110 : decode cX12_ifStatement 110 = .ok (.bipush 13, 2) := by decide +kernel
theorem dX12_ifStatement_112 : decode cX12_ifStatement 112 = .ok (.iload_n 1, 1) := by decide +kernel
theorem dX12_ifStatement_113 : decode cX12_ifStatement 113 = .ok (.iconst 0, 1) := by decide +kernel
theorem dX12_ifStatement_114 : decode cX12_ifStatement 114 = .ok (.invokevirtual 294, 3) := by decide +kernel
theorem dX12_ifStatement_117 : decode cX12_ifStatement 117 = .ok (.istore_n 2, 1) := by decide +kernel
theorem dX12_ifStatement_118 : decode cX12_ifStatement 118 = .ok (.aload_n 0, 1) := by decide +kernel
theorem dX12_ifStatement_119 : decode cX12_ifStatement 119 = .ok (.invokevirtual 373, 3) := by decide +kernel
theorem dX12_ifStatement_122 : decode cX12_ifStatement 122 = .ok (.ifCond .ne 5, 3) := by decide +kernel
theorem dX12_ifStatement_127 : decode cX12_ifStatement 127 = .ok (.aload_n 0, 1) := by decide +kernel
theorem dX12_ifStatement_128 : decode cX12_ifStatement 128 = .ok (.bipush 13, 2) := by decide +kernel
theorem dX12_ifStatement_130 : decode cX12_ifStatement 130 = .ok (.iload_n 3, 1) := by decide +kernel
theorem dX12_ifStatement_131 : decode cX12_ifStatement 131 = .ok (.iconst 0, 1) := by decide +kernel
theorem dX12_ifStatement_132 : decode cX12_ifStatement 132 = .ok (.invokevirtual 294, 3) := by decide +kernel
theorem dX12_ifStatement_135 : decode cX12_ifStatement 135 = .ok (.istore_n 2, 1) := by decide +kernel
theorem dX12_ifStatement_136 : decode cX12_ifStatement 136 = .ok (.iconst 1, 1) := by decide +kernel
theorem dX12_ifStatement_137 : decode cX12_ifStatement 137 = .ok (.ireturn, 1) := by decide +kernel
theorem dX12_ifStatement_125 : decode cX12_ifStatement 125 = .ok (.iconst 0, 1) := by decide +kernel
theorem dX12_ifStatement_126 : decode cX12_ifStatement 126 = .ok (.ireturn, 1) := by decide +kernel
theorem dX12_ifStatement_70 : decode cX12_ifStatement 70 = .ok (.aload_n 0, 1) := by decide +kernel
theorem dX12_ifStatement_71 : decode cX12_ifStatement 71 = .ok (.bipush 13, 2) := by decide +kernel
theorem dX12_ifStatement_73 : decode cX12_ifStatement 73 = .ok (.iload_n 1, 1) := by decide +kernel
theorem dX12_ifStatement_74 : decode cX12_ifStatement 74 = .ok (.iconst 0, 1) := by decide +kernel
theorem dX12_ifStatement_75 : decode cX12_ifStatement 75 = .ok (.invokevirtual 294, 3) := by decide +kernel
theorem dX12_ifStatement_78 : decode cX12_ifStatement 78 = .ok (.istore_n 2, 1) := by decide +kernel
theorem dX12_ifStatement_79 : decode cX12_ifStatement 79 = .ok (.iconst 1, 1) := by decide +kernel
theorem dX12_ifStatement_80 : decode cX12_ifStatement 80 = .ok (.ireturn, 1) := by decide +kernel
theorem dX12_ifStatement_58 : decode cX12_ifStatement 58 = .ok (.iconst 0, 1) := by decide +kernel
theorem dX12_ifStatement_59 : decode cX12_ifStatement 59 = .ok (.ireturn, 1) := by decide +kernel
theorem dX12_ifStatement_11 : decode cX12_ifStatement 11 = .ok (.iconst 0, 1) := by decide +kernel
theorem dX12_ifStatement_12 : decode cX12_ifStatement 12 = .ok (.ireturn, 1) := by decide +kernel
set_option maxHeartbeats 4000000 in
set_option maxRecDepth 20000 in
theorem c_X12_ifStatement (d : Nat) {b : Nat} {σ : MS} {lv : Nat} {ρ : MS} (hcb : ∀ (d : Nat) {b : Nat} {σ : MS} (hR : RG σ) (hrd : RDY σ) (hnn : NN σ) (h28 : σ.1 28 = 0) (h29 : σ.1 29 = 6 - (lv : Int)) (ht : 0 ≤ σ.1 43 ∧ σ.1 43 ≤ 260), Tm (d + 3 * lv + 44) m_X12_block 0 b σ [(0, .ref b)] [] (fun ro σ2 => ∃ v : Int, ro = some (.int (iI v)) ∧ ((v = 0 ∨ v = 1)) ∧ (Fr [19, 20, 22, 23, 26, 27, 28, 29, 31, 32, 33, 34, 39, 40] [3, 4, 5, 6, 7, 8, 35, 37, 41, 42] [24, 38] σ σ2) ∧ (RG σ2) ∧ (PBF σ σ2) ∧ (Im v 1 (BLQ 28 4 σ σ2)) ∧ (Im v 0 (∀ c : Int, GOF [28] σ (qq c) σ2)))) (hR : RG σ) (hln : LNP 1 ρ σ) (hli : LIT ρ σ) (hg : ∀ c : Int, GOM [20] ρ (qq c) [] [21] σ (qq c) [] []) (h28 : σ.1 28 = 0) (h29 : σ.1 29 = 6 - (lv : Int)) (ht : 0 ≤ σ.1 43 ∧ σ.1 43 ≤ 260) : Tm (d + 3 * lv + 45) m_X12_ifStatement 0 b σ [(0, .ref b)] [] (fun ro σ2 => ∃ v : Int, ro = some (.int (iI v)) ∧ ((v = 0 ∨ v = 1)) ∧ (Fr [19, 20, 22, 23, 26, 27, 28, 29, 31, 32, 33, 34, 39, 40] [3, 4, 5, 6, 7, 8, 35, 37, 41, 42] [24, 38] σ σ2) ∧ (RG σ2) ∧ (PBF ρ σ2) ∧ (Im v 1 (BLQ 20 2 ρ σ2)) ∧ (Im v 0 (∀ c : Int, GOF [20] ρ (qq c) σ2))) := by
  have tk0 := hln.tok.1
  have rd0 := hln.1.2
  have f0 := hln.2.2.1
  have e30_ := f0.1 30 (by decide)
  have e34_ := hln.2.2.2.2.1
  have nn0 : NN σ := hln.2.2.2.1.2.2.1
  have h0c := hln.h0
  have e28r : ρ.1 28 = 0 := (f0.1 28 (by decide)).symm.trans h28
  have e29r := f0.1 29 (by decide)
  have e33r := f0.1 33 (by decide)
  refine tm_aload_n dX12_ifStatement_0 rfl 0 rfl ?_
  refine tm_callV (M := m_X12_ifStatement) (pc := 1) (ix := 265) (M' := m_X12_advance) (As := []) (rest := []) dX12_ifStatement_1 ok_X12_advance im_X12_advance se_X12_advance ml12_265 np_X12_advance rfl rfl (Nat.le_of_ble_eq_true rfl) (Nat.le_of_ble_eq_true rfl) rfl (c_X12_advance (d + 3 * lv + 39) (σ := σ)  hR (by omega)) (fun r1 σ2 hp => ?_)
  obtain ⟨rfl, f4, f5, f6, f7, f8⟩ := hp
  show Tm _ _ 4 b σ2 [(0, .ref b)] [] _
  have ad0 := f4
  have ad1 := f5
  have ad2 := f6
  have ad3 := f7
  have ad4 := f8
  have fA1 := (show Fr [19, 20, 22, 23, 26, 27] [35] [24, 38] σ σ2 from (Fr.rfl.trans (Fr.sub f5 (by decide) (by decide) (by decide))))
  have pb1 : PBF σ σ2 := PBF.nop nn0 ad1 (by decide) (by decide) (by decide)
  have ts1 : TS 20 (2 - 1) ρ [2, 51, 28, 24] σ2 qq [] [(2, 0, 0, [])] := TS.line hln (by decide) fA1 pb1 ad3 ad4 ((hg _).then (u21 ad0 (MSE.fr ad1 (by decide) (by decide) (by decide))))
  have tk1 := ad3.1
  have e281 : σ2.1 28 = 0 := (ad1.1 28 (by decide)).trans h28
  refine tm_aload_n dX12_ifStatement_4 rfl 0 rfl ?_
  refine tm_callV (M := m_X12_ifStatement) (pc := 5) (ix := 327) (M' := m_X12_expression) (As := []) (rest := []) dX12_ifStatement_5 ok_X12_expression im_X12_expression se_X12_expression ml12_327 np_X12_expression rfl rfl (Nat.le_of_ble_eq_true rfl) (Nat.le_of_ble_eq_true rfl) rfl (c_exp8 (d + 3 * lv + 4) (σ := σ2)  f6 ts1.2.2.1 ts1.nn e281) (fun r9 σ10 hp => ?_)
  obtain ⟨v11, rfl, f12, f13, f14, f15, f16, f17, f18⟩ := hp
  show Tm _ _ 8 b σ10 [(0, .ref b)] [.int (iI v11)] _
  have xp0 := f12
  have xp1 := f13
  have xp2 := f14
  have xp3 := f15
  have xp4 := f16
  have xp5 := f17
  have xp6 := f18
  refine tm_if_ne (tgt := 13) dX12_ifStatement_8 (by decide) ⟨by omega, by omega⟩ (fun h19 => ?_) (fun h19 => ?_)
  · have ts2 := ts1.exp xp1 xp3 (xp4 (by omega)) (xp5.1 (by omega))
    have ex4 := xp4 (by omega)
    have gt := ex4.2.2.1
    unfold GTm at gt
    have rdx := ts2.2.2.1.2
    have tkx := ts2.2.2.1.1.1
    have acx := ex4.2.2.2.1
    have tbx := TBm.of xp1 (by decide) (by decide) (by decide) (by decide)
    have e33x := xp1.1 33 (by decide)
    have e33s : σ10.1 33 = σ.1 33 := rs_F f13 (by decide) (rs_F f5 (by decide) (rfl))
    refine tm_aload_n dX12_ifStatement_13 rfl 0 rfl ?_
    refine tm_getS (k := 33) (t := σ.1 33) dX12_ifStatement_14 (by decide) fl12_370 rfl (rs_F f13 (by decide) (rs_F f5 (by decide) (rfl))) ?_
    have g20 := RG.s hR 33
    refine tm_istore_n (L' := [(1, .int (iI (σ.1 33))), (0, .ref b)]) dX12_ifStatement_17 rfl (by decide) rfl ?_
    refine tm_aload_n dX12_ifStatement_18 rfl 1 rfl ?_
    refine tm_dup dX12_ifStatement_19 rfl ?_
    refine tm_getS (k := 33) (t := σ.1 33) dX12_ifStatement_20 (by decide) fl12_370 rfl (rs_F f13 (by decide) (rs_F f5 (by decide) (rfl))) ?_
    have g21 := RG.s hR 33
    refine tm_iconst dX12_ifStatement_23 ?_
    refine tm_iadd dX12_ifStatement_24 ?_
    refine tm_putS (k := 33) (v := (σ.1 33) + 1) lay_12 dX12_ifStatement_25 (by decide) fl12_370 rfl (tyX12_ok 33 (by decide)) rfl rfl rfl ?_
    refine tm_aload_n dX12_ifStatement_28 rfl 1 rfl ?_
    refine tm_bipush dX12_ifStatement_29 (by decide) ?_
    refine tm_iload_n dX12_ifStatement_31 rfl 0 rfl ?_
    refine tm_iconst dX12_ifStatement_32 ?_
    refine tm_callV (M := m_X12_ifStatement) (pc := 33) (ix := 294) (M' := m_X12_put) (As := [.int (iI 9), .int (iI (σ.1 33)), .int (iI 0)]) (rest := []) dX12_ifStatement_33 ok_X12_put im_X12_put se_X12_put ml12_294 np_X12_put rfl rfl (Nat.le_of_ble_eq_true rfl) (Nat.le_of_ble_eq_true rfl) rfl (c_X12_put (d + 3 * lv + 42) (σ := (sS 33 ((σ.1 33) + 1) σ10)) (k := 9) (e := σ.1 33) (o := 0) (f14.S (by omega)) (by rw [show (sS 33 ((σ.1 33) + 1) σ10).1 30 = σ.1 30 from rs_o (by decide) (rs_F f13 (by decide) (rs_F f5 (by decide) (rfl))), show (sS 33 ((σ.1 33) + 1) σ10).1 34 = σ10.1 34 from rs_o (by decide) (rfl)]; omega) (by omega) (by omega) (by omega)) (fun r22 σ23 hp => ?_)
    obtain ⟨v24, rfl, f25, f26, f27, f28, f29, f30, f31, f32⟩ := hp
    show Tm _ _ 36 b σ23 [(1, .int (iI (σ.1 33))), (0, .ref b)] [.int (iI v24)] _
    have jvZ := f27
    have jnZ := f28
    have jiZ := f29
    have joZ := f30
    have jrZ := f31
    have jzZ := f32
    refine tm_istore_n (L' := [(2, .int (iI v24)), (1, .int (iI (σ.1 33))), (0, .ref b)]) dX12_ifStatement_36 rfl (by decide) rfl ?_
    refine tm_aload_n dX12_ifStatement_37 rfl 2 rfl ?_
    refine tm_iload_n dX12_ifStatement_38 rfl 0 rfl ?_
    refine tm_iconst dX12_ifStatement_39 ?_
    refine tm_aload_n dX12_ifStatement_40 rfl 2 rfl ?_
    refine tm_getS (k := 39) (t := σ10.1 39) dX12_ifStatement_41 (by decide) fl12_285 rfl (rs_F f25 (by decide) (rs_o (by decide) (rfl))) ?_
    have g33 := RG.s f14 39
    refine tm_aload_n dX12_ifStatement_44 rfl 2 rfl ?_
    refine tm_getS (k := 40) (t := σ10.1 40) dX12_ifStatement_45 (by decide) fl12_288 rfl (rs_F f25 (by decide) (rs_o (by decide) (rfl))) ?_
    have g34 := RG.s f14 40
    refine tm_callV (M := m_X12_ifStatement) (pc := 48) (ix := 298) (M' := m_X12_setArg) (As := [.int (iI v24), .int (iI 0), .int (iI (σ10.1 39)), .int (iI (σ10.1 40))]) (rest := []) dX12_ifStatement_48 ok_X12_setArg im_X12_setArg se_X12_setArg ml12_298 np_X12_setArg rfl rfl (Nat.le_of_ble_eq_true rfl) (Nat.le_of_ble_eq_true rfl) rfl (c_X12_setArg (d + 3 * lv + 43) (σ := σ23) (x := v24) (i := 0) (k := σ10.1 39) (w := σ10.1 40) (by omega)) (fun r35 σ36 hp => ?_)
    obtain ⟨rfl, f38⟩ := hp
    subst f38
    show Tm _ _ 51 b (fArg (v24) (0) (σ10.1 39) (σ10.1 40) σ23) [(2, .int (iI v24)), (1, .int (iI (σ.1 33))), (0, .ref b)] [] _
    have jvZ : _ = PXx σ10 := jvZ
    have fAZ := (show Fr [33, 34] [3, 4, 5, 6, 7, 8] [] σ10 (fArg (v24) (0) (σ10.1 39) (σ10.1 40) σ23) from (((Fr.rfl.S (by decide)).trans (Fr.sub f25 (by decide) (by decide) (by decide))).trans (Fr.sub fArg_fr (by decide) (by decide) (by decide))))
    have eAZ : (fArg (v24) (0) (σ10.1 39) (σ10.1 40) σ23).1 34 = σ10.1 34 + 1 := jnZ
    have pbZ : PBF σ10 (fArg (v24) (0) (σ10.1 39) (σ10.1 40) σ23) := PBF.it ts2.nn fAZ (by decide) (by decide) (by decide) eAZ jvZ (joZ.trans (OFF.arg (by decide) (by decide)))
    have tbZ : TBm σ10 (fArg (v24) (0) (σ10.1 39) (σ10.1 40) σ23) := TBm.of fAZ (by decide) (by decide) (by decide) (by decide)
    have ptZ : PIT σ10 (fArg (v24) (0) (σ10.1 39) (σ10.1 40) σ23) (mkI 9 (σ10.1 33) 0 (σ10.1 39) (σ10.1 40) 0) := by rw [e33s]; exact PIT.at jvZ eAZ (joZ.trans (OFF.arg (by decide) (by decide))) (ri_one jzZ)
    have e33Z : (fArg (v24) (0) (σ10.1 39) (σ10.1 40) σ23).1 33 = σ10.1 33 + 1 := by rw [show (fArg (v24) (0) (σ10.1 39) (σ10.1 40) σ23).1 33 = (σ.1 33) + 1 from rs_F fArg_fr (by decide) (rs_F f25 (by decide) (rs_eq)), e33s]
    have ts3 := ts2.puts (m := 1) fAZ pbZ eAZ (by omega) (by decide) hln.1 (u51Z (CHG.put fAZ (by decide) (by decide) (by decide) eAZ) ptZ fAZ nfr33 e33Z)
    have izZ : (fArg (v24) (0) (σ10.1 39) (σ10.1 40) σ23).2.1 3 (PXx σ10) = 9 ∧ (fArg (v24) (0) (σ10.1 39) (σ10.1 40) σ23).2.1 4 (PXx σ10) = σ10.1 33 := by rw [← jvZ]; exact ⟨jiZ.1, jiZ.2.1.trans e33s.symm⟩
    have okZ : σ10.1 25 = 3 → σ10.1 30 < 6 → σ10.1 34 < 180 → OKI (fArg (v24) (0) (σ10.1 39) (σ10.1 40) σ23) 1 (PXx σ10) := (fun z1 z2 z3 => by rw [← jvZ]; exact oki_arg1 jiZ (Or.inr (Or.inr (Or.inr rfl))) (fun q => absurd q (by decide)) (fun _ => by omega) (by omega))
    have rdz := ts3.2.2.1.2
    have tkz := ts3.2.2.1.1.1
    have e28Z : (fArg (v24) (0) (σ10.1 39) (σ10.1 40) σ23).1 28 = 0 := (f25.1 28 (by decide)).trans (xp6.trans e281)
    have e29Z : (fArg (v24) (0) (σ10.1 39) (σ10.1 40) σ23).1 29 = σ.1 29 := rs_F fArg_fr (by decide) (rs_F f25 (by decide) (rs_o (by decide) (rs_F f13 (by decide) (rs_F f5 (by decide) (rfl)))))
    have e43Z : (fArg (v24) (0) (σ10.1 39) (σ10.1 40) σ23).1 43 = σ.1 43 := rs_F fArg_fr (by decide) (rs_F f25 (by decide) (rs_o (by decide) (rs_F f13 (by decide) (rs_F f5 (by decide) (rfl)))))
    refine tm_aload_n dX12_ifStatement_51 rfl 2 rfl ?_
    refine tm_callV (M := m_X12_ifStatement) (pc := 52) (ix := 373) (M' := m_X12_block) (As := []) (rest := []) dX12_ifStatement_52 ok_X12_block im_X12_block se_X12_block ml12_373 np_X12_block rfl rfl (Nat.le_of_ble_eq_true rfl) (Nat.le_of_ble_eq_true rfl) rfl (hcb (d) (σ := (fArg (v24) (0) (σ10.1 39) (σ10.1 40) σ23))  ((f26).arg (by omega) (by omega)) ts3.2.2.1 ts3.nn e28Z (e29Z.trans h29) (by rw [e43Z]; exact ht)) (fun r39 σ40 hp => ?_)
    obtain ⟨v41, rfl, f42, f43, f44, f45, f46, f47⟩ := hp
    show Tm _ _ 55 b σ40 [(2, .int (iI v24)), (1, .int (iI (σ.1 33))), (0, .ref b)] [.int (iI v41)] _
    have bp0 := f42
    have bp1 := f43
    have bp2 := f44
    have bp3 := f45
    have bp4 := f46
    have bp5 := f47
    refine tm_if_ne (tgt := 60) dX12_ifStatement_55 (by decide) ⟨by omega, by omega⟩ (fun h48 => ?_) (fun h48 => ?_)
    · obtain ⟨lg1, bt, bs, bf, b28, b29⟩ := bp4 (by omega)
      have ts4 := ts3.sub bt
      have tk4 := ts4.2.2.1.1.1
      have rd4 := ts4.2.2.1.2
      have e284 : σ40.1 28 = 0 := b28.trans e28Z
      have e294 : σ40.1 29 = σ.1 29 := b29.trans e29Z
      have R60 := f44
      have e434 : σ40.1 43 = σ.1 43 := rs_F f43 (by decide) (rs_F fArg_fr (by decide) (rs_F f25 (by decide) (rs_o (by decide) (rs_F f13 (by decide) (rs_F f5 (by decide) (rfl))))))
      refine tm_aload_n dX12_ifStatement_60 rfl 2 rfl ?_
      refine tm_ldc2 dX12_ifStatement_61 cst12_248 ?_
      refine tm_callV (M := m_X12_ifStatement) (pc := 64) (ix := 339) (M' := m_X12_isWord) (As := [.long (1701606245)]) (rest := []) dX12_ifStatement_64 ok_X12_isWord im_X12_isWord se_X12_isWord ml12_339 np_X12_isWord rfl rfl (Nat.le_of_ble_eq_true rfl) (Nat.le_of_ble_eq_true rfl) rfl (c2_X12_isWord (d + 3 * lv + 43) (σ := σ40) (w := 1701606245) f44) (fun r49 σ50 hp => ?_)
      obtain ⟨v51, rfl, rfl, f52, f53, f54⟩ := hp
      show Tm _ _ 67 b σ40 [(2, .int (iI v24)), (1, .int (iI (σ.1 33))), (0, .ref b)] [.int (iI v51)] _
      have iel := f53
      have nel_ := f54
      refine tm_if_ne (tgt := 81) dX12_ifStatement_67 (by decide) ⟨by omega, by omega⟩ (fun h55 => ?_) (fun h55 => ?_)
      · refine tm_aload_n dX12_ifStatement_81 rfl 2 rfl ?_
        refine tm_callV (M := m_X12_ifStatement) (pc := 82) (ix := 265) (M' := m_X12_advance) (As := []) (rest := []) dX12_ifStatement_82 ok_X12_advance im_X12_advance se_X12_advance ml12_265 np_X12_advance rfl rfl (Nat.le_of_ble_eq_true rfl) (Nat.le_of_ble_eq_true rfl) rfl (c_X12_advance (d + 3 * lv + 39) (σ := σ40)  f44 (by omega)) (fun r56 σ57 hp => ?_)
        obtain ⟨rfl, f59, f60, f61, f62, f63⟩ := hp
        show Tm _ _ 85 b σ57 [(2, .int (iI v24)), (1, .int (iI (σ.1 33))), (0, .ref b)] [] _
        have be0 := f59
        have be1 := f60
        have be2 := f61
        have be3 := f62
        have be4 := f63
        have ts5 := ts4.advE be1 be3 be4 (by have z := (iel (by omega)).1; omega) (u24y (iel (by omega)) be0 (MSE.fr be1 (by decide) (by decide) (by decide)))
        have pb5 : PBF σ40 σ57 := PBF.nop ts4.nn be1 (by decide) (by decide) (by decide)
        have tk5 := ts5.2.2.1.1.1
        have rd5 := ts5.2.2.1.2
        have e335 := be1.1 33 (by decide)
        have e345 := be1.1 34 (by decide)
        refine tm_aload_n dX12_ifStatement_85 rfl 2 rfl ?_
        refine tm_getS (k := 33) (t := σ40.1 33) dX12_ifStatement_86 (by decide) fl12_370 rfl (rs_F f60 (by decide) (rfl)) ?_
        have g64 := RG.s f44 33
        refine tm_istore_n (L' := [(3, .int (iI (σ40.1 33))), (2, .int (iI v24)), (1, .int (iI (σ.1 33))), (0, .ref b)]) dX12_ifStatement_89 rfl (by decide) rfl ?_
        refine tm_aload_n dX12_ifStatement_90 rfl 3 rfl ?_
        refine tm_dup dX12_ifStatement_91 rfl ?_
        refine tm_getS (k := 33) (t := σ40.1 33) dX12_ifStatement_92 (by decide) fl12_370 rfl (rs_F f60 (by decide) (rfl)) ?_
        have g65 := RG.s f44 33
        refine tm_iconst dX12_ifStatement_95 ?_
        refine tm_iadd dX12_ifStatement_96 ?_
        refine tm_putS (k := 33) (v := (σ40.1 33) + 1) lay_12 dX12_ifStatement_97 (by decide) fl12_370 rfl (tyX12_ok 33 (by decide)) rfl rfl rfl ?_
        refine tm_aload_n dX12_ifStatement_100 rfl 3 rfl ?_
        refine tm_bipush dX12_ifStatement_101 (by decide) ?_
        refine tm_iload_n dX12_ifStatement_103 rfl 0 rfl ?_
        refine tm_iconst dX12_ifStatement_104 ?_
        refine tm_callV (M := m_X12_ifStatement) (pc := 105) (ix := 294) (M' := m_X12_put) (As := [.int (iI 8), .int (iI (σ40.1 33)), .int (iI 0)]) (rest := []) dX12_ifStatement_105 ok_X12_put im_X12_put se_X12_put ml12_294 np_X12_put rfl rfl (Nat.le_of_ble_eq_true rfl) (Nat.le_of_ble_eq_true rfl) rfl (c_X12_put (d + 3 * lv + 42) (σ := (sS 33 ((σ40.1 33) + 1) σ57)) (k := 8) (e := σ40.1 33) (o := 0) (f61.S (by omega)) (by rw [show (sS 33 ((σ40.1 33) + 1) σ57).1 30 = σ.1 30 from rs_o (by decide) (rs_F f60 (by decide) (rs_F f43 (by decide) (rs_F fArg_fr (by decide) (rs_F f25 (by decide) (rs_o (by decide) (rs_F f13 (by decide) (rs_F f5 (by decide) (rfl)))))))), show (sS 33 ((σ40.1 33) + 1) σ57).1 34 = σ40.1 34 from rs_o (by decide) (rs_F f60 (by decide) (rfl))]; omega) (by omega) (by omega) (by omega)) (fun r66 σ67 hp => ?_)
        obtain ⟨v68, rfl, f69, f70, f71, f72, f73, f74, f75, f76⟩ := hp
        show Tm _ _ 108 b σ67 [(3, .int (iI (σ40.1 33))), (2, .int (iI v24)), (1, .int (iI (σ.1 33))), (0, .ref b)] [.int (iI v68)] _
        have jvJ := f71
        have jnJ := f72
        have jiJ := f73
        have joJ := f74
        have jrJ := f75
        have jzJ := f76
        refine tm_istore_n (L' := [(2, .int (iI v68)), (3, .int (iI (σ40.1 33))), (1, .int (iI (σ.1 33))), (0, .ref b)]) dX12_ifStatement_108 rfl (by decide) rfl ?_
        have jvJ : _ = PXx σ57 := jvJ
        have fAJ := (show Fr [33, 34] [3, 4, 5, 6, 7, 8] [] σ57 σ67 from ((Fr.rfl.S (by decide)).trans (Fr.sub f69 (by decide) (by decide) (by decide))))
        have eAJ : σ67.1 34 = σ57.1 34 + 1 := jnJ
        have pbJ : PBF σ57 σ67 := PBF.it ts5.nn fAJ (by decide) (by decide) (by decide) eAJ jvJ joJ
        have tbJ : TBm σ57 σ67 := TBm.of fAJ (by decide) (by decide) (by decide) (by decide)
        have ptJ : PIT σ57 σ67 (mkI 8 (σ57.1 33) 0 0 0 0) := by rw [show σ57.1 33 = σ40.1 33 from rs_F f60 (by decide) (rfl)]; exact PIT.at jvJ eAJ joJ jzJ
        have e33J : σ67.1 33 = (σ40.1 33) + 1 := rs_F f69 (by decide) (rs_eq)
        refine tm_aload_n dX12_ifStatement_109 rfl 3 rfl ?_
        refine tm_bipush dX12_ifStatement_110 (by decide) ?_
        refine tm_iload_n dX12_ifStatement_112 rfl 2 rfl ?_
        refine tm_iconst dX12_ifStatement_113 ?_
        refine tm_callV (M := m_X12_ifStatement) (pc := 114) (ix := 294) (M' := m_X12_put) (As := [.int (iI 13), .int (iI (σ.1 33)), .int (iI 0)]) (rest := []) dX12_ifStatement_114 ok_X12_put im_X12_put se_X12_put ml12_294 np_X12_put rfl rfl (Nat.le_of_ble_eq_true rfl) (Nat.le_of_ble_eq_true rfl) rfl (c_X12_put (d + 3 * lv + 42) (σ := σ67) (k := 13) (e := σ.1 33) (o := 0) f70 (by rw [show σ67.1 30 = σ.1 30 from rs_F f69 (by decide) (rs_o (by decide) (rs_F f60 (by decide) (rs_F f43 (by decide) (rs_F fArg_fr (by decide) (rs_F f25 (by decide) (rs_o (by decide) (rs_F f13 (by decide) (rs_F f5 (by decide) (rfl))))))))), show σ67.1 34 = σ67.1 34 from rfl]; omega) (by omega) (by omega) (by omega)) (fun r77 σ78 hp => ?_)
        obtain ⟨v79, rfl, f80, f81, f82, f83, f84, f85, f86, f87⟩ := hp
        show Tm _ _ 117 b σ78 [(2, .int (iI v68)), (3, .int (iI (σ40.1 33))), (1, .int (iI (σ.1 33))), (0, .ref b)] [.int (iI v79)] _
        have jvK := f82
        have jnK := f83
        have jiK := f84
        have joK := f85
        have jrK := f86
        have jzK := f87
        refine tm_istore_n (L' := [(2, .int (iI v79)), (3, .int (iI (σ40.1 33))), (1, .int (iI (σ.1 33))), (0, .ref b)]) dX12_ifStatement_117 rfl (by decide) rfl ?_
        have pbK : PBF σ67 σ78 := PBF.it pbJ.2.2.1 f80 (by decide) (by decide) (by decide) jnK jvK joK
        have tbK : TBm σ67 σ78 := TBm.of f80 (by decide) (by decide) (by decide) (by decide)
        have fDK := (show Fr [33, 34] [3, 4, 5, 6, 7, 8] [] σ57 σ78 from (((Fr.rfl.S (by decide)).trans (Fr.sub f69 (by decide) (by decide) (by decide))).trans (Fr.sub f80 (by decide) (by decide) (by decide))))
        have eDK : σ78.1 34 = σ57.1 34 + 2 := by rw [jnK, eAJ]; omega
        have e33K : σ78.1 33 = σ67.1 33 := f80.1 33 (by decide)
        have ts6 := ts5.puts (m := 2) fDK (pbJ.trans pbK) eDK (by omega) (by decide) hln.1 (u52E (CHG.put fDK (by decide) (by decide) (by decide) eDK) ptJ fAJ nfr33 (show PIT σ67 σ78 (mkI 13 (σ10.1 33) 0 0 0 0) by rw [e33s]; exact PIT.at jvK jnK joK jzK) f80 nfr34 (by rw [e33K, e33J, show σ57.1 33 = σ40.1 33 from rs_F f60 (by decide) (rfl)]))
        have itK : σ57.1 25 = 3 → σ57.1 30 < 6 → σ57.1 34 + 1 < 180 → ((σ78.2.1 3 (220 * σ57.1 30 + σ57.1 34) = 8 ∧ σ78.2.1 4 (220 * σ57.1 30 + σ57.1 34) = σ40.1 33) ∧ σ78.2.1 3 (220 * σ57.1 30 + (σ57.1 34 + 1)) = 13 ∧ σ78.2.1 4 (220 * σ57.1 30 + (σ57.1 34 + 1)) = σ.1 33) ∧ OKI σ78 1 (220 * σ57.1 30 + σ57.1 34) ∧ OKI σ78 1 (220 * σ57.1 30 + (σ57.1 34 + 1)) := fun z1 z2 z3 => by
          have x1 : PXx σ57 = 220 * σ57.1 30 + σ57.1 34 := by unfold PXx; rw [if_pos (by omega)]
          have m30 : σ67.1 30 = σ57.1 30 := pbJ.2.2.2.2.2.2.2
          have m25 : σ67.1 25 = σ57.1 25 := pbJ.2.2.2.2.2.2.1
          have x2 : PXx σ67 = 220 * σ57.1 30 + (σ57.1 34 + 1) := by unfold PXx; rw [if_pos (by omega), m30, eAJ]
          have ie := pbK.1 (220 * σ57.1 30 + σ57.1 34) (by omega) (by omega)
          have o1 := oki_bare jiJ (by decide) (fun _ => by omega)
          have o2 := oki_bare jiK (by decide) (fun _ => by omega)
          have a1 := jiJ
          have a2 := jiK
          rw [jvJ, x1] at o1 a1
          rw [jvK, x2] at o2 a2
          exact ⟨⟨⟨ie.1.trans a1.1, ie.2.1.trans a1.2.1⟩, a2.1, a2.2.1⟩, ie.oki tbK.2.1 o1, o2⟩
        have rd6 := ts6.2.2.1.2
        have tk6 := ts6.2.2.1.1.1
        have e286 : σ78.1 28 = 0 := by rw [show σ78.1 28 = σ40.1 28 from rs_F f80 (by decide) (rs_F f69 (by decide) (rs_o (by decide) (rs_F f60 (by decide) (rfl))))]; exact e284
        have e296 : σ78.1 29 = σ.1 29 := by rw [show σ78.1 29 = σ40.1 29 from rs_F f80 (by decide) (rs_F f69 (by decide) (rs_o (by decide) (rs_F f60 (by decide) (rfl))))]; exact e294
        have e436 : σ78.1 43 = σ.1 43 := rs_F f80 (by decide) (rs_F f69 (by decide) (rs_o (by decide) (rs_F f60 (by decide) (rs_F f43 (by decide) (rs_F fArg_fr (by decide) (rs_F f25 (by decide) (rs_o (by decide) (rs_F f13 (by decide) (rs_F f5 (by decide) (rfl))))))))))
        refine tm_aload_n dX12_ifStatement_118 rfl 3 rfl ?_
        refine tm_callV (M := m_X12_ifStatement) (pc := 119) (ix := 373) (M' := m_X12_block) (As := []) (rest := []) dX12_ifStatement_119 ok_X12_block im_X12_block se_X12_block ml12_373 np_X12_block rfl rfl (Nat.le_of_ble_eq_true rfl) (Nat.le_of_ble_eq_true rfl) rfl (hcb (d) (σ := σ78)  f81 ts6.2.2.1 ts6.nn e286 (e296.trans h29) (by rw [e436]; exact ht)) (fun r88 σ89 hp => ?_)
        obtain ⟨v90, rfl, f91, f92, f93, f94, f95, f96⟩ := hp
        show Tm _ _ 122 b σ89 [(2, .int (iI v79)), (3, .int (iI (σ40.1 33))), (1, .int (iI (σ.1 33))), (0, .ref b)] [.int (iI v90)] _
        have cp0 := f91
        have cp1 := f92
        have cp2 := f93
        have cp3 := f94
        have cp4 := f95
        have cp5 := f96
        refine tm_if_ne (tgt := 127) dX12_ifStatement_122 (by decide) ⟨by omega, by omega⟩ (fun h97 => ?_) (fun h97 => ?_)
        · obtain ⟨lg2, ct, cs, cf, c28, c29⟩ := cp4 (by omega)
          have ts7 := ts6.sub ct
          have tk7 := ts7.2.2.1.1.1
          have rd7 := ts7.2.2.1.2
          have R127 := f93
          have e287 : σ89.1 28 = 0 := c28.trans e286
          have e297 : σ89.1 29 = σ.1 29 := c29.trans e296
          refine tm_aload_n dX12_ifStatement_127 rfl 3 rfl ?_
          refine tm_bipush dX12_ifStatement_128 (by decide) ?_
          refine tm_iload_n dX12_ifStatement_130 rfl 1 rfl ?_
          refine tm_iconst dX12_ifStatement_131 ?_
          refine tm_callV (M := m_X12_ifStatement) (pc := 132) (ix := 294) (M' := m_X12_put) (As := [.int (iI 13), .int (iI (σ40.1 33)), .int (iI 0)]) (rest := []) dX12_ifStatement_132 ok_X12_put im_X12_put se_X12_put ml12_294 np_X12_put rfl rfl (Nat.le_of_ble_eq_true rfl) (Nat.le_of_ble_eq_true rfl) rfl (c_X12_put (d + 3 * lv + 42) (σ := σ89) (k := 13) (e := σ40.1 33) (o := 0) f93 (by rw [show σ89.1 30 = σ.1 30 from rs_F f92 (by decide) (rs_F f80 (by decide) (rs_F f69 (by decide) (rs_o (by decide) (rs_F f60 (by decide) (rs_F f43 (by decide) (rs_F fArg_fr (by decide) (rs_F f25 (by decide) (rs_o (by decide) (rs_F f13 (by decide) (rs_F f5 (by decide) (rfl))))))))))), show σ89.1 34 = σ89.1 34 from rfl]; omega) (by omega) (by omega) (by omega)) (fun r98 σ99 hp => ?_)
          obtain ⟨v100, rfl, f101, f102, f103, f104, f105, f106, f107, f108⟩ := hp
          show Tm _ _ 135 b σ99 [(2, .int (iI v79)), (3, .int (iI (σ40.1 33))), (1, .int (iI (σ.1 33))), (0, .ref b)] [.int (iI v100)] _
          have jvL := f103
          have jnL := f104
          have jiL := f105
          have joL := f106
          have jrL := f107
          have jzL := f108
          refine tm_istore_n (L' := [(2, .int (iI v100)), (3, .int (iI (σ40.1 33))), (1, .int (iI (σ.1 33))), (0, .ref b)]) dX12_ifStatement_135 rfl (by decide) rfl ?_
          have jvL : _ = PXx σ89 := jvL
          have fAL := (show Fr [33, 34] [3, 4, 5, 6, 7, 8] [] σ89 σ99 from (Fr.rfl.trans (Fr.sub f101 (by decide) (by decide) (by decide))))
          have eAL : σ99.1 34 = σ89.1 34 + 1 := jnL
          have pbL : PBF σ89 σ99 := PBF.it ts7.nn fAL (by decide) (by decide) (by decide) eAL jvL joL
          have tbL : TBm σ89 σ99 := TBm.of fAL (by decide) (by decide) (by decide) (by decide)
          have ptL : PIT σ89 σ99 (mkI 13 (σ57.1 33) 0 0 0 0) := by rw [show σ57.1 33 = σ40.1 33 from rs_F f60 (by decide) (rfl)]; exact PIT.at jvL eAL joL jzL
          have sg0 : SGF ρ σ10 [] := ((SGF.one e34_.1 (by omega) (fun _ _ _ => hli.2) (by have z := hli.1.1; omega) : SGF ρ σ []).cat (SGF.nil (ad1.1 34 (by decide)) (by rw [ad1.1 33 (by decide)]; omega) : SGF σ σ2 []) hln.2.2.2.1 pb1 hln.tb (TBm.of ad1 (by decide) (by decide) (by decide) (by decide)) h0c).cat (SGF.ac acx xp3 (by omega) : SGF σ2 σ10 []) ts1.1 xp3 ts1.2.2.2.1 tbx h0c
          have e33L : σ99.1 33 = σ89.1 33 := f101.1 33 (by decide)
          have ts8 := ts7.puts (m := 1) fAL pbL eAL (by omega) (by decide) hln.1 (u51B (CHG.put fAL (by decide) (by decide) (by decide) eAL) ptL fAL nfr33 e33L)
          have sg5 : SGF σ10 σ99 (lg1 ++ lg2) := SGF.ife ⟨eAZ, e33Z⟩ (fun z1 z2 z3 => by have x1 : PXx σ10 = 220 * σ10.1 30 + σ10.1 34 := (by unfold PXx; rw [if_pos (by omega)]); rw [← x1]; exact ⟨izZ, okZ z1 z2 z3⟩) pbZ bs bp3 ⟨by rw [eDK, e345], by rw [e33K]; omega⟩ (fun z1 z2 z3 => have q := itK (by have e := be1.1 25 (by decide); omega) (by have e := be1.1 30 (by decide); omega) (by omega); by have e30 := be1.1 30 (by decide); rw [e30, e345, ← e33s] at q; exact q) (pb5.trans (pbJ.trans pbK)) cs cp3 ⟨eAL, e33L⟩ (fun z1 z2 z3 => by have x1 : PXx σ89 = 220 * σ89.1 30 + σ89.1 34 := (by unfold PXx; rw [if_pos (by omega)]); rw [← x1, ← jvL]; exact ⟨⟨jiL.1, jiL.2.1⟩, oki_bare jiL (by decide) (fun _ => by omega)⟩) pbL tbZ bt.2.2.2.1 ((TBm.of be1 (by decide) (by decide) (by decide) (by decide)).trans (tbJ.trans tbK)) ct.2.2.2.1 tbL ts2.h1
          have sg6 := sg0.cat sg5 ts2.1 (pbZ.trans (bp3.trans ((pb5.trans (pbJ.trans pbK)).trans (cp3.trans pbL)))) ts2.2.2.2.1 (tbZ.trans (bt.2.2.2.1.trans (((TBm.of be1 (by decide) (by decide) (by decide) (by decide)).trans (tbJ.trans tbK)).trans (ct.2.2.2.1.trans tbL)))) h0c
          have pqN : PBF σ σ99 := pb1.trans (xp3.trans (pbZ.trans (bp3.trans ((pb5.trans (pbJ.trans pbK)).trans (cp3.trans pbL)))))
          refine tm_iconst dX12_ifStatement_136 ?_
          exact tm_zret (v := 1) rfl (by decide) dX12_ifStatement_137 (⟨_, rfl, by omega, ((((((((((((Fr.rfl.trans (Fr.sub f5 (by decide) (by decide) (by decide))).trans (Fr.sub f13 (by decide) (by decide) (by decide))).S (by decide)).trans (Fr.sub f25 (by decide) (by decide) (by decide))).trans (Fr.sub fArg_fr (by decide) (by decide) (by decide))).trans (Fr.sub f43 (by decide) (by decide) (by decide))).trans (Fr.sub f60 (by decide) (by decide) (by decide))).S (by decide)).trans (Fr.sub f69 (by decide) (by decide) (by decide))).trans (Fr.sub f80 (by decide) (by decide) (by decide))).trans (Fr.sub f92 (by decide) (by decide) (by decide))).trans (Fr.sub f101 (by decide) (by decide) (by decide))), f102, ts8.1, fun _ => ⟨_, ts8.le (by decide), sg6, FS.of hli e34_.1 hln.2.2.2.1 pqN h0c, ((show σ99.1 28 = 0 from (fAL.1 28 (by decide)).trans e287).trans e28r.symm), (((fAL.1 29 (by decide)).trans e297).trans e29r)⟩, fun q => absurd q (by decide)⟩)
        · refine tm_iconst dX12_ifStatement_125 ?_
          exact tm_zret (v := 0) rfl (by decide) dX12_ifStatement_126 (⟨_, rfl, by omega, (((((((((((Fr.rfl.trans (Fr.sub f5 (by decide) (by decide) (by decide))).trans (Fr.sub f13 (by decide) (by decide) (by decide))).S (by decide)).trans (Fr.sub f25 (by decide) (by decide) (by decide))).trans (Fr.sub fArg_fr (by decide) (by decide) (by decide))).trans (Fr.sub f43 (by decide) (by decide) (by decide))).trans (Fr.sub f60 (by decide) (by decide) (by decide))).S (by decide)).trans (Fr.sub f69 (by decide) (by decide) (by decide))).trans (Fr.sub f80 (by decide) (by decide) (by decide))).trans (Fr.sub f92 (by decide) (by decide) (by decide))), f93, (ts6.fail cp3 (cp5 (by omega) _)).1, fun q => absurd q (by omega), fun _ => (ts6.fail cp3 (cp5 (by omega) _)).2⟩)
      · refine tm_aload_n dX12_ifStatement_70 rfl 2 rfl ?_
        refine tm_bipush dX12_ifStatement_71 (by decide) ?_
        refine tm_iload_n dX12_ifStatement_73 rfl 1 rfl ?_
        refine tm_iconst dX12_ifStatement_74 ?_
        refine tm_callV (M := m_X12_ifStatement) (pc := 75) (ix := 294) (M' := m_X12_put) (As := [.int (iI 13), .int (iI (σ.1 33)), .int (iI 0)]) (rest := []) dX12_ifStatement_75 ok_X12_put im_X12_put se_X12_put ml12_294 np_X12_put rfl rfl (Nat.le_of_ble_eq_true rfl) (Nat.le_of_ble_eq_true rfl) rfl (c_X12_put (d + 3 * lv + 42) (σ := σ40) (k := 13) (e := σ.1 33) (o := 0) f44 (by rw [show σ40.1 30 = σ.1 30 from rs_F f43 (by decide) (rs_F fArg_fr (by decide) (rs_F f25 (by decide) (rs_o (by decide) (rs_F f13 (by decide) (rs_F f5 (by decide) (rfl)))))), show σ40.1 34 = σ40.1 34 from rfl]; omega) (by omega) (by omega) (by omega)) (fun r109 σ110 hp => ?_)
        obtain ⟨v111, rfl, f112, f113, f114, f115, f116, f117, f118, f119⟩ := hp
        show Tm _ _ 78 b σ110 [(2, .int (iI v24)), (1, .int (iI (σ.1 33))), (0, .ref b)] [.int (iI v111)] _
        have jvL := f114
        have jnL := f115
        have jiL := f116
        have joL := f117
        have jrL := f118
        have jzL := f119
        refine tm_istore_n (L' := [(2, .int (iI v111)), (1, .int (iI (σ.1 33))), (0, .ref b)]) dX12_ifStatement_78 rfl (by decide) rfl ?_
        have jvL : _ = PXx σ40 := jvL
        have fAL := (show Fr [33, 34] [3, 4, 5, 6, 7, 8] [] σ40 σ110 from (Fr.rfl.trans (Fr.sub f112 (by decide) (by decide) (by decide))))
        have eAL : σ110.1 34 = σ40.1 34 + 1 := jnL
        have pbL : PBF σ40 σ110 := PBF.it ts4.nn fAL (by decide) (by decide) (by decide) eAL jvL joL
        have tbL : TBm σ40 σ110 := TBm.of fAL (by decide) (by decide) (by decide) (by decide)
        have ptL : PIT σ40 σ110 (mkI 13 (σ10.1 33) 0 0 0 0) := by rw [e33s]; exact PIT.at jvL eAL joL jzL
        have sg0 : SGF ρ σ10 [] := ((SGF.one e34_.1 (by omega) (fun _ _ _ => hli.2) (by have z := hli.1.1; omega) : SGF ρ σ []).cat (SGF.nil (ad1.1 34 (by decide)) (by rw [ad1.1 33 (by decide)]; omega) : SGF σ σ2 []) hln.2.2.2.1 pb1 hln.tb (TBm.of ad1 (by decide) (by decide) (by decide) (by decide)) h0c).cat (SGF.ac acx xp3 (by omega) : SGF σ2 σ10 []) ts1.1 xp3 ts1.2.2.2.1 tbx h0c
        have e33L : σ110.1 33 = σ40.1 33 := f112.1 33 (by decide)
        have ts5 := (ts4.nxt (u24n (nel_ (by omega)))).puts (m := 1) fAL pbL eAL (by omega) (by decide) hln.1 (u51B (CHG.put fAL (by decide) (by decide) (by decide) eAL) ptL fAL nfr33 e33L)
        have sg5 : SGF σ10 σ110 lg1 := SGF.ifs ⟨eAZ, e33Z⟩ izZ okZ pbZ bs bp3 ⟨eAL, e33L⟩ (by rw [← jvL]; exact ⟨jiL.1, jiL.2.1.trans e33s.symm⟩) (fun z1 z2 z3 => by rw [← jvL]; exact oki_bare jiL (by decide) (fun _ => by omega)) pbL tbZ bt.2.2.2.1 tbL ts2.h1
        have sg6 := sg0.cat sg5 ts2.1 (pbZ.trans (bp3.trans pbL)) ts2.2.2.2.1 (tbZ.trans (bt.2.2.2.1.trans tbL)) h0c
        have pqN : PBF σ σ110 := pb1.trans (xp3.trans (pbZ.trans (bp3.trans pbL)))
        refine tm_iconst dX12_ifStatement_79 ?_
        exact tm_zret (v := 1) rfl (by decide) dX12_ifStatement_80 (⟨_, rfl, by omega, (((((((Fr.rfl.trans (Fr.sub f5 (by decide) (by decide) (by decide))).trans (Fr.sub f13 (by decide) (by decide) (by decide))).S (by decide)).trans (Fr.sub f25 (by decide) (by decide) (by decide))).trans (Fr.sub fArg_fr (by decide) (by decide) (by decide))).trans (Fr.sub f43 (by decide) (by decide) (by decide))).trans (Fr.sub f112 (by decide) (by decide) (by decide))), f113, ts5.1, fun _ => ⟨_, ts5.le (by decide), sg6, FS.of hli e34_.1 hln.2.2.2.1 pqN h0c, ((show σ110.1 28 = 0 from (fAL.1 28 (by decide)).trans e284).trans e28r.symm), (((fAL.1 29 (by decide)).trans e294).trans e29r)⟩, fun q => absurd q (by decide)⟩)
    · refine tm_iconst dX12_ifStatement_58 ?_
      exact tm_zret (v := 0) rfl (by decide) dX12_ifStatement_59 (⟨_, rfl, by omega, ((((((Fr.rfl.trans (Fr.sub f5 (by decide) (by decide) (by decide))).trans (Fr.sub f13 (by decide) (by decide) (by decide))).S (by decide)).trans (Fr.sub f25 (by decide) (by decide) (by decide))).trans (Fr.sub fArg_fr (by decide) (by decide) (by decide))).trans (Fr.sub f43 (by decide) (by decide) (by decide))), f44, (ts3.fail bp3 (bp5 (by omega) _)).1, fun q => absurd q (by omega), fun _ => (ts3.fail bp3 (bp5 (by omega) _)).2⟩)
  · refine tm_iconst dX12_ifStatement_11 ?_
    exact tm_zret (v := 0) rfl (by decide) dX12_ifStatement_12 (⟨_, rfl, by omega, ((Fr.rfl.trans (Fr.sub f5 (by decide) (by decide) (by decide))).trans (Fr.sub f13 (by decide) (by decide) (by decide))), f14, (ts1.fail xp3 (xp5.2 (by omega) _)).1, fun q => absurd q (by omega), fun _ => (ts1.fail xp3 (xp5.2 (by omega) _)).2⟩)
end
