theorem fl12_76 : Cond.fieldLink RX12 76 (TX12 41).1 (TX12 41).2.1 (TX12 41).2.2.1 ∈ pWW := pw7 (List.mem_of_getElem? (i := 48) rfl) rfl
theorem fl12_79 : Cond.fieldLink RX12 79 (TX12 42).1 (TX12 42).2.1 (TX12 42).2.2.1 ∈ pWW := pw7 (List.mem_of_getElem? (i := 49) rfl) rfl
theorem dX12_call_23 : decode cX12_call 23 = .ok (.iload 6, 2) := by decide +kernel
theorem dX12_call_25 : decode cX12_call 25 = .ok (.ifCond .eq 63, 3) := by decide +kernel
theorem dX12_call_28 : decode cX12_call 28 = .ok (.aload_n 0, 1) := by decide +kernel
theorem dX12_call_29 : decode cX12_call 29 = .ok (.invokevirtual 327, 3) := by decide +kernel
theorem dX12_call_32 : decode cX12_call 32 = .ok (.ifCond .ne 5, 3) := by decide +kernel
theorem dX12_call_37 : decode cX12_call 37 = .ok (.iload 5, 2) := by decide +kernel
theorem dX12_call_39 : decode cX12_call 39 = .ok (.iconst 4, 1) := by decide +kernel
theorem dX12_call_40 : decode cX12_call 40 = .ok (.if_icmp .ge 25, 3) := by decide +kernel
theorem dX12_call_65 : decode cX12_call 65 = .ok (.iinc 5 1, 3) := by decide +kernel
theorem dX12_call_68 : decode cX12_call 68 = .ok (.aload_n 0, 1) := by decide +kernel
theorem dX12_call_69 : decode cX12_call 69 = .ok (.bipush 44, 2) := by decide +kernel
theorem dX12_call_71 : decode cX12_call 71 = .ok (.invokevirtual 258, 3) := by decide +kernel
theorem dX12_call_74 : decode cX12_call 74 = .ok (.istore 6, 2) := by decide +kernel
theorem dX12_call_76 : decode cX12_call 76 = .ok (.iload 6, 2) := by decide +kernel
theorem dX12_call_78 : decode cX12_call 78 = .ok (.ifCond .eq (-55), 3) := by decide +kernel
theorem dX12_call_81 : decode cX12_call 81 = .ok (.aload_n 0, 1) := by decide +kernel
theorem dX12_call_82 : decode cX12_call 82 = .ok (.invokevirtual 265, 3) := by decide +kernel
theorem dX12_call_85 : decode cX12_call 85 = .ok (.goto (-62), 3) := by decide +kernel
theorem dX12_call_43 : decode cX12_call 43 = .ok (.aload_n 0, 1) := by decide +kernel
theorem dX12_call_44 : decode cX12_call 44 = .ok (.getfield 76, 3) := by decide +kernel
theorem dX12_call_47 : decode cX12_call 47 = .ok (.iload 5, 2) := by decide +kernel
theorem dX12_call_49 : decode cX12_call 49 = .ok (.aload_n 0, 1) := by decide +kernel
theorem dX12_call_50 : decode cX12_call 50 = .ok (.getfield 285, 3) := by decide +kernel
theorem dX12_call_53 : decode cX12_call 53 = .ok (.iastore, 1) := by decide +kernel
theorem dX12_call_54 : decode cX12_call 54 = .ok (.aload_n 0, 1) := by decide +kernel
theorem dX12_call_55 : decode cX12_call 55 = .ok (.getfield 79, 3) := by decide +kernel
theorem dX12_call_58 : decode cX12_call 58 = .ok (.iload 5, 2) := by decide +kernel
theorem dX12_call_60 : decode cX12_call 60 = .ok (.aload_n 0, 1) := by decide +kernel
theorem dX12_call_61 : decode cX12_call 61 = .ok (.getfield 288, 3) := by decide +kernel
theorem dX12_call_64 : decode cX12_call 64 = .ok (.iastore, 1) := by decide +kernel
theorem dX12_call_35 : decode cX12_call 35 = .ok (.iconst 0, 1) := by decide +kernel
theorem dX12_call_36 : decode cX12_call 36 = .ok (.ireturn, 1) := by decide +kernel
set_option maxHeartbeats 4000000 in
set_option maxRecDepth 20000 in
theorem l_call (d : Nat) {b : Nat} {σ0 : MS} {kn : Int} {w : Int64} {p : Int} {ρ : MS} {post : Option Value → MS → Prop} (hR0 : RG σ0) (h30 : 0 ≤ σ0.1 30) (htk0 : 0 ≤ σ0.1 19) (hx_88 : ∀ (m : Int) (mo : Int) (σ : MS) , (Fr [19, 20, 22, 23, 26, 27, 28, 32, 34, 39, 40] [3, 4, 5, 6, 7, 8, 35, 41, 42] [24, 38] σ0 σ) → (RG σ) → (0 ≤ m ∧ m ≤ 1200) → (TS 20 7 ρ [38, 141, 159] σ (fun c => (w, m, p, 0, c)) []) → (PBF σ0 σ) → (AC σ0 σ) → (CAG m σ) → (σ.1 28 = 0) → Tm (d + 41) m_X12_call 88 b σ [(6, .int (iI mo)), (5, .int (iI m)), (4, .int (iI p)), (2, .long (w)), (1, .int (iI kn)), (0, .ref b)] [] post) (hr0 : ∀ (τ : MS), Fr [19, 20, 22, 23, 26, 27, 28, 32, 34, 39, 40] [3, 4, 5, 6, 7, 8, 35, 41, 42] [24, 38] σ0 τ → RG τ → PBF ρ τ → (∀ c : Int, GOF [20] ρ (qq c) τ) → τ.1 28 = 0 → post (some (.int (iI 0))) τ) : ∀ (n : Nat) (m : Int) (mo : Int) (σ : MS) , (Fr [19, 20, 22, 23, 26, 27, 28, 32, 34, 39, 40] [3, 4, 5, 6, 7, 8, 35, 41, 42] [24, 38] σ0 σ) → (RG σ) → ((0 ≤ m ∧ m ≤ σ.1 19 ∧ σ.1 19 ≤ 1200) ∧ (mo = 0 ∨ mo = 1)) → ((mo = 1 → TS 20 7 ρ [2, 27, 159] σ (fun c => (w, m, p, 0, c)) []) ∧ (mo = 0 → TS 20 7 ρ [38, 141, 159] σ (fun c => (w, m, p, 0, c)) [])) → (PBF σ0 σ) → (AC σ0 σ) → (CAG m σ) → (σ.1 28 = 0) → (1300 - σ.1 19).toNat = n → Tm (d + 41) m_X12_call 23 b σ [(6, .int (iI mo)), (5, .int (iI m)), (4, .int (iI p)), (2, .long (w)), (1, .int (iI kn)), (0, .ref b)] [] post := by
  intro n
  induction n using Nat.strongRecOn with
  | _ n ih =>
    intro m mo σ hF hR h0 htq hpb hac hcg h28 hm
    refine tm_iload dX12_call_23 0 rfl ?_
    refine tm_if_eq (tgt := 88) dX12_call_25 (by decide) ⟨by omega, by omega⟩ (fun h1 => ?_) (fun h1 => ?_)
    · exact tm_sub [0, 1, 2, 3, 4, 5] rfl (hx_88 (m) (mo) σ (Fr.rfl.trans (Fr.sub hF (by decide) (by decide) (by decide))) hR (by omega) (htq.2 (by omega)) hpb hac hcg h28)
    · have tq := htq.1 (by omega)
      have tkq := tq.2.2.1.1.1
      refine tm_aload_n dX12_call_28 rfl 5 rfl ?_
      refine tm_callV (M := m_X12_call) (pc := 29) (ix := 327) (M' := m_X12_expression) (As := []) (rest := []) dX12_call_29 ok_X12_expression im_X12_expression se_X12_expression ml12_327 np_X12_expression rfl rfl (Nat.le_of_ble_eq_true rfl) (Nat.le_of_ble_eq_true rfl) rfl (c_exp8 (d) (σ := σ)  hR tq.2.2.1 tq.nn h28) (fun r2 σ3 hp => ?_)
      obtain ⟨v4, rfl, f5, f6, f7, f8, f9, f10, f11⟩ := hp
      show Tm _ _ 32 b σ3 [(6, .int (iI mo)), (5, .int (iI m)), (4, .int (iI p)), (2, .long (w)), (1, .int (iI kn)), (0, .ref b)] [.int (iI v4)] _
      have xp0 := f5
      have xp1 := f6
      have xp2 := f7
      have xp3 := f8
      have xp4 := f9
      have xp5 := f10
      have xp6 := f11
      refine tm_if_ne (tgt := 37) dX12_call_32 (by decide) ⟨by omega, by omega⟩ (fun h12 => ?_) (fun h12 => ?_)
      · have ts1 := tq.exp xp1 xp3 (xp4 (by omega)) (xp5.1 (by omega))
        have ex4 := xp4 (by omega)
        have gt1 := ex4.2.2.1
        have pl1 : σ.1 19 < σ3.1 19 := by have z := ex4.2.1; unfold PBC at z; have z2 := xp3.2.2.2.2.2.1; omega
        have tk1 := ts1.2.2.1.1.1
        have pq1 := hpb.trans xp3
        have ac1 := hac.trans hpb ex4.2.2.2.1 xp3 h30
        have cg1 := hcg.mv xp1 (by decide) (by decide) xp3.2.2.2.2.2.1
        have e281 : σ3.1 28 = 0 := xp6.trans h28
        refine tm_iload dX12_call_37 1 rfl ?_
        refine tm_iconst dX12_call_39 ?_
        refine tm_icmp_ge (tgt := 65) dX12_call_40 (by decide) ⟨by omega, by omega⟩ ⟨by decide, by decide⟩ (fun h13 => ?_) (fun h13 => ?_)
        · have ts2 := ts1
          have pq2 := pq1
          have ac2 := ac1
          have cg2 := cg1.more (by omega)
          have e282 := e281
          have e192 : σ3.1 19 = σ3.1 19 := rfl
          refine tm_iinc (q0 := 1) (L' := [(5, .int (iI (m + 1))), (6, .int (iI mo)), (4, .int (iI p)), (2, .long (w)), (1, .int (iI kn)), (0, .ref b)]) dX12_call_65 rfl (by decide) rfl ?_
          refine tm_aload_n dX12_call_68 rfl 5 rfl ?_
          refine tm_bipush dX12_call_69 (by decide) ?_
          refine tm_callV (M := m_X12_call) (pc := 71) (ix := 258) (M' := m_X12_isSign) (As := [.int (iI 44)]) (rest := []) dX12_call_71 ok_X12_isSign im_X12_isSign se_X12_isSign ml12_258 np_X12_isSign rfl rfl (Nat.le_of_ble_eq_true rfl) (Nat.le_of_ble_eq_true rfl) rfl (c2_X12_isSign (d + 39) (σ := σ3) (c := 44) f7 (by omega)) (fun r14 σ15 hp => ?_)
          obtain ⟨v16, rfl, rfl, f17, f18, f19⟩ := hp
          show Tm _ _ 74 b σ3 [(5, .int (iI (m + 1))), (6, .int (iI mo)), (4, .int (iI p)), (2, .long (w)), (1, .int (iI kn)), (0, .ref b)] [.int (iI v16)] _
          have i44 := f18
          have n44_ := f19
          refine tm_istore (L' := [(6, .int (iI v16)), (5, .int (iI (m + 1))), (4, .int (iI p)), (2, .long (w)), (1, .int (iI kn)), (0, .ref b)]) dX12_call_74 (by decide) rfl ?_
          refine tm_iload dX12_call_76 0 rfl ?_
          refine tm_if_eq (tgt := 23) dX12_call_78 (by decide) ⟨by omega, by omega⟩ (fun h20 => ?_) (fun h20 => ?_)
          · exact tm_sub [0, 1, 2, 3, 4, 5] rfl (ih _ (by omega) (m + 1) (v16) σ3 ((Fr.rfl.trans (Fr.sub hF (by decide) (by decide) (by decide))).trans (Fr.sub f6 (by decide) (by decide) (by decide))) f7 (by omega) (⟨fun q => absurd q (by omega), fun _ => (ts2.nxt (g27n (n44_ (by omega)))).le (by decide)⟩) pq2 ac2 cg2 e282 rfl)
          · refine tm_aload_n dX12_call_81 rfl 5 rfl ?_
            refine tm_callV (M := m_X12_call) (pc := 82) (ix := 265) (M' := m_X12_advance) (As := []) (rest := []) dX12_call_82 ok_X12_advance im_X12_advance se_X12_advance ml12_265 np_X12_advance rfl rfl (Nat.le_of_ble_eq_true rfl) (Nat.le_of_ble_eq_true rfl) rfl (c_X12_advance (d + 35) (σ := σ3)  f7 (by have z := ts2.2.2.1.1.1; omega)) (fun r21 σ22 hp => ?_)
            obtain ⟨rfl, f24, f25, f26, f27, f28⟩ := hp
            show Tm _ _ 85 b σ22 [(6, .int (iI v16)), (5, .int (iI (m + 1))), (4, .int (iI p)), (2, .long (w)), (1, .int (iI kn)), (0, .ref b)] [] _
            refine tm_goto (tgt := 23) dX12_call_85 (by decide) ?_
            exact tm_sub [0, 1, 2, 3, 4, 5] rfl (ih _ (by have z := f28; have z2 := ts2.2.2.1.1.1; omega) (m + 1) (v16) σ22 (((Fr.rfl.trans (Fr.sub hF (by decide) (by decide) (by decide))).trans (Fr.sub f6 (by decide) (by decide) (by decide))).trans (Fr.sub f25 (by decide) (by decide) (by decide))) f26 (by have z := f28; have z2 := ts2.2.2.1.1.1; have z3 := f27.1; omega) (⟨fun _ => (ts2.adv f25 f27 f28 (by have z := (i44 (by omega)).1; omega) (g27y (i44 (by omega)) f24)).le (by decide), fun q => absurd q (by omega)⟩) (pq2.trans (PBF.nop ts2.nn f25 (by decide) (by decide) (by decide))) (ac2.trans pq2 (AC.nil (f25.1 34 (by decide))) (PBF.nop ts2.nn f25 (by decide) (by decide) (by decide)) h30) (cg2.mv f25 (by decide) (by decide) (by rw [f25.1 34 (by decide)]; omega)) ((f25.1 28 (by decide)).trans e282) rfl)
        · refine tm_aload_n dX12_call_43 rfl 5 rfl ?_
          refine tm_get (k := 41) (v := .ref (b + 1 + 20)) lay_12 dX12_call_44 (by decide) fl12_76 rfl ?_
          refine tm_iload dX12_call_47 1 rfl ?_
          refine tm_aload_n dX12_call_49 rfl 5 rfl ?_
          refine tm_getS (k := 39) (t := σ3.1 39) dX12_call_50 (by decide) fl12_285 rfl (rfl) ?_
          have g29 := RG.s f7 39
          refine tm_iast (z := m) (v := σ3.1 39) dX12_call_53 (show mT[20]? = some (41, 0, 4) from rfl) (by omega) (by omega) (by decide) ?_
          refine tm_aload_n dX12_call_54 rfl 5 rfl ?_
          refine tm_get (k := 42) (v := .ref (b + 1 + 21)) lay_12 dX12_call_55 (by decide) fl12_79 rfl ?_
          refine tm_iload dX12_call_58 1 rfl ?_
          refine tm_aload_n dX12_call_60 rfl 5 rfl ?_
          refine tm_getS (k := 40) (t := σ3.1 40) dX12_call_61 (by decide) fl12_288 rfl (rs_A (rfl)) ?_
          have g30 := RG.s f7 40
          refine tm_iast (z := m) (v := σ3.1 40) dX12_call_64 (show mT[21]? = some (42, 0, 4) from rfl) (by omega) (by omega) (by decide) ?_
          have fk := (show Fr [] [41, 42] [] σ3 (sA 42 (m) (σ3.1 40) (sA 41 (m) (σ3.1 39) σ3)) from ((Fr.rfl.A (by decide)).A (by decide)))
          have pbk : PBF σ3 (sA 42 (m) (σ3.1 40) (sA 41 (m) (σ3.1 39) σ3)) := PBF.nop ts1.nn fk (by decide) (by decide) (by decide)
          have ts2 := ts1.keep fk (by decide) (by decide) (by decide) (by decide) pbk
          have pq2 := pq1.trans pbk
          have ac2 := ac1.trans pq1 (AC.nil (fk.1 34 (by decide))) pbk h30
          have cg2 := cg1.put gt1
          have e282 : (sA 42 (m) (σ3.1 40) (sA 41 (m) (σ3.1 39) σ3)).1 28 = 0 := e281
          have e192 : (sA 42 (m) (σ3.1 40) (sA 41 (m) (σ3.1 39) σ3)).1 19 = σ3.1 19 := rfl
          refine tm_iinc (q0 := 1) (L' := [(5, .int (iI (m + 1))), (6, .int (iI mo)), (4, .int (iI p)), (2, .long (w)), (1, .int (iI kn)), (0, .ref b)]) dX12_call_65 rfl (by decide) rfl ?_
          refine tm_aload_n dX12_call_68 rfl 5 rfl ?_
          refine tm_bipush dX12_call_69 (by decide) ?_
          refine tm_callV (M := m_X12_call) (pc := 71) (ix := 258) (M' := m_X12_isSign) (As := [.int (iI 44)]) (rest := []) dX12_call_71 ok_X12_isSign im_X12_isSign se_X12_isSign ml12_258 np_X12_isSign rfl rfl (Nat.le_of_ble_eq_true rfl) (Nat.le_of_ble_eq_true rfl) rfl (c2_X12_isSign (d + 39) (σ := (sA 42 (m) (σ3.1 40) (sA 41 (m) (σ3.1 39) σ3))) (c := 44) ((f7.A (by omega)).A (by omega)) (by omega)) (fun r31 σ32 hp => ?_)
          obtain ⟨v33, rfl, rfl, f34, f35, f36⟩ := hp
          show Tm _ _ 74 b (sA 42 (m) (σ3.1 40) (sA 41 (m) (σ3.1 39) σ3)) [(5, .int (iI (m + 1))), (6, .int (iI mo)), (4, .int (iI p)), (2, .long (w)), (1, .int (iI kn)), (0, .ref b)] [.int (iI v33)] _
          have i44 := f35
          have n44_ := f36
          refine tm_istore (L' := [(6, .int (iI v33)), (5, .int (iI (m + 1))), (4, .int (iI p)), (2, .long (w)), (1, .int (iI kn)), (0, .ref b)]) dX12_call_74 (by decide) rfl ?_
          refine tm_iload dX12_call_76 0 rfl ?_
          refine tm_if_eq (tgt := 23) dX12_call_78 (by decide) ⟨by omega, by omega⟩ (fun h37 => ?_) (fun h37 => ?_)
          · exact tm_sub [0, 1, 2, 3, 4, 5] rfl (ih _ (by omega) (m + 1) (v33) (sA 42 (m) (σ3.1 40) (sA 41 (m) (σ3.1 39) σ3)) ((((Fr.rfl.trans (Fr.sub hF (by decide) (by decide) (by decide))).trans (Fr.sub f6 (by decide) (by decide) (by decide))).A (by decide)).A (by decide)) ((f7.A (by omega)).A (by omega)) (by omega) (⟨fun q => absurd q (by omega), fun _ => (ts2.nxt (g27n (n44_ (by omega)))).le (by decide)⟩) pq2 ac2 cg2 e282 rfl)
          · refine tm_aload_n dX12_call_81 rfl 5 rfl ?_
            refine tm_callV (M := m_X12_call) (pc := 82) (ix := 265) (M' := m_X12_advance) (As := []) (rest := []) dX12_call_82 ok_X12_advance im_X12_advance se_X12_advance ml12_265 np_X12_advance rfl rfl (Nat.le_of_ble_eq_true rfl) (Nat.le_of_ble_eq_true rfl) rfl (c_X12_advance (d + 35) (σ := (sA 42 (m) (σ3.1 40) (sA 41 (m) (σ3.1 39) σ3)))  ((f7.A (by omega)).A (by omega)) (by have z := ts2.2.2.1.1.1; omega)) (fun r38 σ39 hp => ?_)
            obtain ⟨rfl, f41, f42, f43, f44, f45⟩ := hp
            show Tm _ _ 85 b σ39 [(6, .int (iI v33)), (5, .int (iI (m + 1))), (4, .int (iI p)), (2, .long (w)), (1, .int (iI kn)), (0, .ref b)] [] _
            refine tm_goto (tgt := 23) dX12_call_85 (by decide) ?_
            exact tm_sub [0, 1, 2, 3, 4, 5] rfl (ih _ (by have z := f45; have z2 := ts2.2.2.1.1.1; omega) (m + 1) (v33) σ39 (((((Fr.rfl.trans (Fr.sub hF (by decide) (by decide) (by decide))).trans (Fr.sub f6 (by decide) (by decide) (by decide))).A (by decide)).A (by decide)).trans (Fr.sub f42 (by decide) (by decide) (by decide))) f43 (by have z := f45; have z2 := ts2.2.2.1.1.1; have z3 := f44.1; omega) (⟨fun _ => (ts2.adv f42 f44 f45 (by have z := (i44 (by omega)).1; omega) (g27y (i44 (by omega)) f41)).le (by decide), fun q => absurd q (by omega)⟩) (pq2.trans (PBF.nop ts2.nn f42 (by decide) (by decide) (by decide))) (ac2.trans pq2 (AC.nil (f42.1 34 (by decide))) (PBF.nop ts2.nn f42 (by decide) (by decide) (by decide)) h30) (cg2.mv f42 (by decide) (by decide) (by rw [f42.1 34 (by decide)]; omega)) ((f42.1 28 (by decide)).trans e282) rfl)
      · refine tm_iconst dX12_call_35 ?_
        exact tm_zret (v := 0) rfl (by decide) dX12_call_36 ((fun z => hr0 _ ((Fr.rfl.trans (Fr.sub hF (by decide) (by decide) (by decide))).trans (Fr.sub f6 (by decide) (by decide) (by decide))) f7 z.1 z.2 (xp6.trans h28)) (tq.fail xp3 (xp5.2 (by omega) _)))
theorem dX12_call_180 : decode cX12_call 180 = .ok (.iload 9, 2) := by decide +kernel
theorem dX12_call_182 : decode cX12_call 182 = .ok (.iconst 4, 1) := by decide +kernel
theorem dX12_call_183 : decode cX12_call 183 = .ok (.if_icmp .ge 38, 3) := by decide +kernel
theorem dX12_call_186 : decode cX12_call 186 = .ok (.iload 9, 2) := by decide +kernel
theorem dX12_call_188 : decode cX12_call 188 = .ok (.iload 5, 2) := by decide +kernel
theorem dX12_call_190 : decode cX12_call 190 = .ok (.if_icmp .ge 31, 3) := by decide +kernel
theorem dX12_call_193 : decode cX12_call 193 = .ok (.aload_n 0, 1) := by decide +kernel
theorem dX12_call_194 : decode cX12_call 194 = .ok (.iload 8, 2) := by decide +kernel
theorem dX12_call_196 : decode cX12_call 196 = .ok (.iload 9, 2) := by decide +kernel
theorem dX12_call_198 : decode cX12_call 198 = .ok (.aload_n 0, 1) := by decide +kernel
theorem dX12_call_199 : decode cX12_call 199 = .ok (.getfield 76, 3) := by decide +kernel
theorem dX12_call_202 : decode cX12_call 202 = .ok (.iload 9, 2) := by decide +kernel
theorem dX12_call_204 : decode cX12_call 204 = .ok (.iaload, 1) := by decide +kernel
theorem dX12_call_205 : decode cX12_call 205 = .ok (.aload_n 0, 1) := by decide +kernel
theorem dX12_call_206 : decode cX12_call 206 = .ok (.getfield 79, 3) := by decide +kernel
theorem dX12_call_209 : decode cX12_call 209 = .ok (.iload 9, 2) := by decide +kernel
theorem dX12_call_211 : decode cX12_call 211 = .ok (.iaload, 1) := by decide +kernel
theorem dX12_call_212 : decode cX12_call 212 = .ok (.invokevirtual 298, 3) := by decide +kernel
theorem dX12_call_215 : decode cX12_call 215 = .ok (.iinc 9 1, 3) := by decide +kernel
theorem dX12_call_218 : decode cX12_call 218 = .ok (.goto (-38), 3) := by decide +kernel
set_option maxHeartbeats 4000000 in
set_option maxRecDepth 20000 in
theorem l_callA (d : Nat) {b : Nat} {σ0 : MS} {kn : Int} {m : Int} {x : Int} {post : Option Value → MS → Prop} (hR0 : RG σ0) (hx : 0 ≤ x ∧ x ≤ 2640) (hm : 0 ≤ m ∧ m ≤ 1200) (hx_221 : ∀ (i : Int) (σ : MS) , (Fr [] [7, 8] [] σ0 σ) → (RG σ) → (0 ≤ i ∧ i ≤ 4 ∧ i ≤ m) → (CRG σ0 σ x i) → (OFF x σ0 σ) → Tm (d + 2) m_X12_call 221 b σ [(9, .int (iI i)), (8, .int (iI x)), (5, .int (iI m)), (1, .int (iI kn)), (0, .ref b)] [] post) : ∀ (n : Nat) (i : Int) (σ : MS) , (Fr [] [7, 8] [] σ0 σ) → (RG σ) → (0 ≤ i ∧ i ≤ 4 ∧ i ≤ m) → (CRG σ0 σ x i) → (OFF x σ0 σ) → (4 - i).toNat = n → Tm (d + 2) m_X12_call 180 b σ [(9, .int (iI i)), (8, .int (iI x)), (5, .int (iI m)), (1, .int (iI kn)), (0, .ref b)] [] post := by
  intro n
  induction n using Nat.strongRecOn with
  | _ n ih =>
    intro i σ hF hR h0 hcr hof hm
    refine tm_iload dX12_call_180 0 rfl ?_
    refine tm_iconst dX12_call_182 ?_
    refine tm_icmp_ge (tgt := 221) dX12_call_183 (by decide) ⟨by omega, by omega⟩ ⟨by decide, by decide⟩ (fun h1 => ?_) (fun h1 => ?_)
    · exact tm_sub [0, 1, 2, 3, 4] rfl (hx_221 (i) σ (Fr.rfl.trans (Fr.sub hF (by decide) (by decide) (by decide))) hR (by omega) hcr hof)
    · refine tm_iload dX12_call_186 0 rfl ?_
      refine tm_iload dX12_call_188 2 rfl ?_
      refine tm_icmp_ge (tgt := 221) dX12_call_190 (by decide) ⟨by omega, by omega⟩ ⟨by omega, by omega⟩ (fun h2 => ?_) (fun h2 => ?_)
      · exact tm_sub [0, 1, 2, 3, 4] rfl (hx_221 (i) σ (Fr.rfl.trans (Fr.sub hF (by decide) (by decide) (by decide))) hR (by omega) hcr hof)
      · refine tm_aload_n dX12_call_193 rfl 4 rfl ?_
        refine tm_iload dX12_call_194 1 rfl ?_
        refine tm_iload dX12_call_196 0 rfl ?_
        refine tm_aload_n dX12_call_198 rfl 4 rfl ?_
        refine tm_get (k := 41) (v := .ref (b + 1 + 20)) lay_12 dX12_call_199 (by decide) fl12_76 rfl ?_
        refine tm_iload dX12_call_202 0 rfl ?_
        refine tm_iald (z := i) (v := σ0.2.1 41 i) dX12_call_204 (show mT[20]? = some (41, 0, 4) from rfl) (by omega) (by omega) (by decide) (ra_F hF (by decide) (rfl)) ?_
        have g3 := RG.a hR0 41 (i)
        refine tm_aload_n dX12_call_205 rfl 4 rfl ?_
        refine tm_get (k := 42) (v := .ref (b + 1 + 21)) lay_12 dX12_call_206 (by decide) fl12_79 rfl ?_
        refine tm_iload dX12_call_209 0 rfl ?_
        refine tm_iald (z := i) (v := σ0.2.1 42 i) dX12_call_211 (show mT[21]? = some (42, 0, 4) from rfl) (by omega) (by omega) (by decide) (ra_F hF (by decide) (rfl)) ?_
        have g4 := RG.a hR0 42 (i)
        refine tm_callV (M := m_X12_call) (pc := 212) (ix := 298) (M' := m_X12_setArg) (As := [.int (iI x), .int (iI i), .int (iI (σ0.2.1 41 i)), .int (iI (σ0.2.1 42 i))]) (rest := []) dX12_call_212 ok_X12_setArg im_X12_setArg se_X12_setArg ml12_298 np_X12_setArg rfl rfl (Nat.le_of_ble_eq_true rfl) (Nat.le_of_ble_eq_true rfl) rfl (c_X12_setArg (d) (σ := σ) (x := x) (i := i) (k := σ0.2.1 41 i) (w := σ0.2.1 42 i) (by omega)) (fun r5 σ6 hp => ?_)
        obtain ⟨rfl, f8⟩ := hp
        subst f8
        show Tm _ _ 215 b (fArg (x) (i) (σ0.2.1 41 i) (σ0.2.1 42 i) σ) [(9, .int (iI i)), (8, .int (iI x)), (5, .int (iI m)), (1, .int (iI kn)), (0, .ref b)] [] _
        refine tm_iinc (q0 := 0) (L' := [(9, .int (iI (i + 1))), (8, .int (iI x)), (5, .int (iI m)), (1, .int (iI kn)), (0, .ref b)]) dX12_call_215 rfl (by decide) rfl ?_
        refine tm_goto (tgt := 180) dX12_call_218 (by decide) ?_
        exact tm_sub [0, 1, 2, 3, 4] rfl (ih _ (by omega) (i + 1) (fArg (x) (i) (σ0.2.1 41 i) (σ0.2.1 42 i) σ) ((Fr.rfl.trans (Fr.sub hF (by decide) (by decide) (by decide))).trans (Fr.sub fArg_fr (by decide) (by decide) (by decide))) ((hR).arg (by omega) (by omega)) (by omega) (hcr.step h0.1 rfl rfl) (hof.trans (OFF.arg (by omega) (by omega))) rfl)
theorem ml12_359 : Cond.methodLink RX12 359 yX12_bind ∈ pWW := pw9 (List.mem_of_getElem? (i := 21) rfl) rfl
theorem dX12_call_145 : decode cX12_call 145 = .ok (.aload_n 0, 1) := by decide +kernel
theorem dX12_call_146 : decode cX12_call 146 = .ok (.bipush 10, 2) := by decide +kernel
theorem dX12_call_148 : decode cX12_call 148 = .ok (.iload_n 1, 1) := by decide +kernel
theorem dX12_call_149 : decode cX12_call 149 = .ok (.iload 7, 2) := by decide +kernel
theorem dX12_call_151 : decode cX12_call 151 = .ok (.iconst (-1), 1) := by decide +kernel
theorem dX12_call_152 : decode cX12_call 152 = .ok (.if_icmp .ne 7, 3) := by decide +kernel
theorem dX12_call_159 : decode cX12_call 159 = .ok (.iload 7, 2) := by decide +kernel
theorem dX12_call_161 : decode cX12_call 161 = .ok (.bipush 6, 2) := by decide +kernel
theorem dX12_call_163 : decode cX12_call 163 = .ok (.if_icmp .ge 8, 3) := by decide +kernel
theorem dX12_call_171 : decode cX12_call 171 = .ok (.iconst 0, 1) := by decide +kernel
theorem dX12_call_172 : decode cX12_call 172 = .ok (.invokevirtual 294, 3) := by decide +kernel
theorem dX12_call_175 : decode cX12_call 175 = .ok (.istore 8, 2) := by decide +kernel
theorem dX12_call_177 : decode cX12_call 177 = .ok (.iconst 0, 1) := by decide +kernel
theorem dX12_call_178 : decode cX12_call 178 = .ok (.istore 9, 2) := by decide +kernel
theorem dX12_call_221 : decode cX12_call 221 = .ok (.aload_n 0, 1) := by decide +kernel
theorem dX12_call_222 : decode cX12_call 222 = .ok (.iload_n 1, 1) := by decide +kernel
theorem dX12_call_223 : decode cX12_call 223 = .ok (.invokevirtual 359, 3) := by decide +kernel
theorem dX12_call_226 : decode cX12_call 226 = .ok (.aload_n 0, 1) := by decide +kernel
theorem dX12_call_227 : decode cX12_call 227 = .ok (.bipush 41, 2) := by decide +kernel
theorem dX12_call_229 : decode cX12_call 229 = .ok (.invokevirtual 330, 3) := by decide +kernel
theorem dX12_call_232 : decode cX12_call 232 = .ok (.ireturn, 1) := by decide +kernel
theorem dX12_call_166 : decode cX12_call 166 = .ok (.iload 7, 2) := by decide +kernel
theorem dX12_call_168 : decode cX12_call 168 = .ok (.goto 4, 3) := by decide +kernel
theorem dX12_call_155 : decode cX12_call 155 = .ok (.iconst 0, 1) := by decide +kernel
theorem dX12_call_156 : decode cX12_call 156 = .ok (.goto 16, 3) := by decide +kernel
set_option maxHeartbeats 4000000 in
set_option maxRecDepth 20000 in
theorem b_call145 (d : Nat) {b : Nat} {σ : MS} {kn : Int} {w : Int64} {m : Int} {q : Int} {p : Int} {ρ : MS} {σc : MS} {σb : MS} {post : Option Value → MS → Prop} (hR : RG σ) (hrd0 : RDY ρ) (hts : TS 20 7 ρ [38, 141, 159] σb (fun c => (w, m, p, 0, c)) []) (hfn : Fr [26, 27] [] [] σb σ) (hpn : PBF σb σ) (hsn : srt σ = srt (clP w p m σb)) (hrds : RDY σ) (hk12 : 0 ≤ kn ∧ kn < 12) (hm : 0 ≤ m ∧ m ≤ 1200) (hrb : RBY σ w q) (hq : -1 ≤ q ∧ q < σ.1 43) (ht43 : σ.1 43 ≤ 260) (hE : σ.1 25 = 2 → σ.1 26 = 0 → E2 σ (1, m, w)) (hac : AC σc σ) (hpc : PBF σc σ) (htb : TBm σc σ) (hts33 : σc.1 33 ≤ σ.1 33) (h0c : 0 ≤ σc.1 30 ∧ 0 ≤ σc.1 34) (hcg : CAG m σ) (h28 : σ.1 28 = 0) (hret : ∀ (v : Int) (τ : MS), Fr [19, 20, 22, 23, 26, 27, 28, 32, 34, 39, 40] [3, 4, 5, 6, 7, 8, 35, 41, 42] [24, 38] σ τ → RG τ → (v = 0 ∨ v = 1) → PBF ρ τ → (v = 1 → ∃ lg, TS 20 5 ρ [159] τ qq lg ∧ ASF σc τ lg ∧ PBF σc τ) → (v = 0 → ∀ c : Int, GOF [20] ρ (qq c) τ) → τ.1 28 = 0 → post (some (.int (iI v))) τ) : ∀ (n : Nat) , ((0 : Int)).toNat = n → Tm (d + 9) m_X12_call 145 b σ [(7, .int (iI q)), (5, .int (iI m)), (1, .int (iI kn)), (0, .ref b)] [] post := by
  intro n
  induction n using Nat.strongRecOn with
  | _ n ih =>
    intro   hm
    have rdc := hrds.2
    have tkc := hrds.1.1
    refine tm_aload_n dX12_call_145 rfl 3 rfl ?_
    refine tm_bipush dX12_call_146 (by decide) ?_
    refine tm_iload_n dX12_call_148 rfl 2 rfl ?_
    refine tm_iload dX12_call_149 0 rfl ?_
    refine tm_iconst dX12_call_151 ?_
    refine tm_icmp_ne (tgt := 159) dX12_call_152 (by decide) ⟨by omega, by omega⟩ ⟨by decide, by decide⟩ (fun h1 => ?_) (fun h1 => ?_)
    · refine tm_iload dX12_call_159 0 rfl ?_
      refine tm_bipush dX12_call_161 (by decide) ?_
      refine tm_icmp_ge (tgt := 171) dX12_call_163 (by decide) ⟨by omega, by omega⟩ ⟨by decide, by decide⟩ (fun h2 => ?_) (fun h2 => ?_)
      · refine tm_iconst dX12_call_171 ?_
        refine tm_callV (M := m_X12_call) (pc := 172) (ix := 294) (M' := m_X12_put) (As := [.int (iI 10), .int (iI kn), .int (iI 0)]) (rest := []) dX12_call_172 ok_X12_put im_X12_put se_X12_put ml12_294 np_X12_put rfl rfl (Nat.le_of_ble_eq_true rfl) (Nat.le_of_ble_eq_true rfl) rfl (c_X12_put (d + 6) (σ := σ) (k := 10) (e := kn) (o := 0) hR (by omega) (by omega) (by omega) (by omega)) (fun r3 σ4 hp => ?_)
        obtain ⟨v5, rfl, f6, f7, f8, f9, f10, f11, f12⟩ := hp
        show Tm _ _ 175 b σ4 [(7, .int (iI q)), (5, .int (iI m)), (1, .int (iI kn)), (0, .ref b)] [.int (iI v5)] _
        refine tm_istore (L' := [(8, .int (iI v5)), (7, .int (iI q)), (5, .int (iI m)), (1, .int (iI kn)), (0, .ref b)]) dX12_call_175 (by decide) rfl ?_
        have jv := f8
        have jn := f9
        have ji := f10
        have jo := f11
        have jr := f12
        refine tm_iconst dX12_call_177 ?_
        refine tm_istore (L' := [(9, .int (iI 0)), (8, .int (iI v5)), (7, .int (iI q)), (5, .int (iI m)), (1, .int (iI kn)), (0, .ref b)]) dX12_call_178 (by decide) rfl ?_
        refine tm_sub [0, 1, 3, 4, 5] rfl (l_callA (d + 7) (σ0 := σ4) (kn := kn) (m := m) (x := v5) f7 (by omega) (by omega) (fun i20 σ21 F15 R16 f17 f18 f19 => ?_) _ (0) σ4 Fr.rfl f7 (by omega) CRG.start ⟨fun _ _ => ⟨rfl, rfl, rfl, rfl⟩, fun _ _ => ⟨rfl, rfl⟩, rfl, rfl⟩ rfl)
        show Tm _ _ 221 b σ21 [(9, .int (iI i20)), (8, .int (iI v5)), (5, .int (iI m)), (1, .int (iI kn)), (0, .ref b)] [] _
        have la0 := f17
        have la1 := f18
        have la2 := f19
        have fA := (show Fr [34] [3, 4, 5, 6, 7, 8] [] σ σ21 from ((Fr.rfl.trans (Fr.sub f6 (by decide) (by decide) (by decide))).trans (Fr.sub F15 (by decide) (by decide) (by decide))))
        have eA : σ21.1 34 = σ.1 34 + 1 := (F15.1 34 (by decide)).trans jn
        have pbA : PBF σ σ21 := PBF.it hpn.2.2.1 fA (by decide) (by decide) (by decide) eA jv (jo.trans la2)
        have tbA : TBm σ σ21 := TBm.of fA (by decide) (by decide) (by decide) (by decide)
        have e30A : σ21.1 30 = σ.1 30 := fA.1 30 (by decide)
        refine tm_aload_n dX12_call_221 rfl 4 rfl ?_
        refine tm_iload_n dX12_call_222 rfl 3 rfl ?_
        refine tm_callV (M := m_X12_call) (pc := 223) (ix := 359) (M' := m_X12_bind) (As := [.int (iI kn)]) (rest := []) dX12_call_223 ok_X12_bind im_X12_bind se_X12_bind ml12_359 np_X12_bind rfl rfl (Nat.le_of_ble_eq_true rfl) (Nat.le_of_ble_eq_true rfl) rfl (c_X12_bind (d + 5) (σ := σ21) (k := kn) R16 (by rw [e30A, eA]; omega) hk12) (fun r22 σ23 hp => ?_)
        obtain ⟨rfl, f25, f26, f27, f28, f29, f30⟩ := hp
        show Tm _ _ 226 b σ23 [(9, .int (iI i20)), (8, .int (iI v5)), (5, .int (iI m)), (1, .int (iI kn)), (0, .ref b)] [] _
        have pbB : PBF σ21 σ23 := PBF.it pbA.2.2.1 f25 (by decide) (by decide) (by decide) f27 rfl f28
        have fB := (show Fr [34] [3, 4, 5, 6, 7, 8] [] σ σ23 from (((Fr.rfl.trans (Fr.sub f6 (by decide) (by decide) (by decide))).trans (Fr.sub F15 (by decide) (by decide) (by decide))).trans (Fr.sub f25 (by decide) (by decide) (by decide))))
        have tbB : TBm σ21 σ23 := TBm.of f25 (by decide) (by decide) (by decide) (by decide)
        have e26B : σ23.1 26 = σ.1 26 := fB.1 26 (by decide)
        have tsB := hts.putc ((Fr.sub hfn (by decide) (by decide) (by decide)).trans (Fr.sub fB (by decide) (by decide) (by decide))) (hpn.trans (pbA.trans pbB)) (by rw [f27, eA, hfn.1 34 (by decide)]; omega) (by decide) hrd0 (fun z1 z2 => (hE (by rw [hfn.1 25 (by decide)]; exact z1) (by rw [← e26B]; exact z2)).bt (TBm.of hfn (by decide) (by decide) (by decide) (by decide))) (by rw [srt_fr fB (by decide) (by decide) (by decide)]; exact hsn)
        have asA : ASF σc σ21 [(1, m, w)] := ASF.call hac hpc pbA tbA hts33 eA (by rw [← jv]; exact (congrFun (F15.2.1 3 (by decide)) _).trans ji.1) (fun z1 z2 z3 z4 => by have ev := ((z4 (1, m, w) (List.mem_singleton.mpr rfl)).tb htb).rby hrb hq; rw [← jv]; have e5 := (congrFun (F15.2.1 5 (by decide)) _).trans ji.2.2.1; refine ⟨oki_call ji hk12 (by omega) F15 la1 ⟨la0.2.2, la0.2.1⟩ (hcg.mv f6 (by decide) (by decide) (by rw [jn]; omega)) (by rw [jn]; omega) (by rw [f6.2.1 11 (by decide)]; first | exact ev.2 | (exfalso; omega)), ?_, ?_⟩ <;> (rw [e5]; have z9 := htb.1; omega)) h0c
        have asB : ASF σc σ23 [(1, m, w)] := asA.snoc (hpc.trans pbA) pbB tbB f27 (fun _ _ _ => f29) (Or.inr (Or.inr (Or.inr f30))) h0c
        have e28B : σ23.1 28 = 0 := (fB.1 28 (by decide)).trans h28
        have tkB := tsB.2.2.1.1.1
        refine tm_aload_n dX12_call_226 rfl 4 rfl ?_
        refine tm_bipush dX12_call_227 (by decide) ?_
        refine tm_callV (M := m_X12_call) (pc := 229) (ix := 330) (M' := m_X12_need) (As := [.int (iI 41)]) (rest := []) dX12_call_229 ok_X12_need im_X12_need se_X12_need ml12_330 np_X12_need rfl rfl (Nat.le_of_ble_eq_true rfl) (Nat.le_of_ble_eq_true rfl) rfl (c_X12_need (d + 2) (σ := σ23) (c := 41) f26 (by omega) (by omega)) (fun r31 σ32 hp => ?_)
        obtain ⟨v33, rfl, f34, f35, f36, f37, f38, f39, f40⟩ := hp
        show Tm _ _ 232 b σ32 [(9, .int (iI i20)), (8, .int (iI v5)), (5, .int (iI m)), (1, .int (iI kn)), (0, .ref b)] [.int (iI v33)] _
        exact tm_zret (v := v33) rfl (by omega) dX12_call_232 ((fun (pbN : PBF _ _) => hret _ _ ((((Fr.rfl.trans (Fr.sub f6 (by decide) (by decide) (by decide))).trans (Fr.sub F15 (by decide) (by decide) (by decide))).trans (Fr.sub f25 (by decide) (by decide) (by decide))).trans (Fr.sub f35 (by decide) (by decide) (by decide))) f36 f34 (tsB.1.trans pbN) (fun z => have yq := f37 z; ⟨_, (tsB.needy f35 yq.2.2.1 yq.2.2.2.1 yq.2.2.2.2 (by have z2 := yq.1.1; omega) (gn_41 yq.1 yq.2.1)).le (by decide), asB.mv (hpc.trans (pbA.trans pbB)) pbN (TBm.of f35 (by decide) (by decide) (by decide) (by decide)) (f35.1 34 (by decide)) h0c, hpc.trans ((pbA.trans pbB).trans pbN)⟩) (fun z => (tsB.fail pbN (gf_41 (f38 z) (f40 z))).2) ((f35.1 28 (by decide)).trans e28B)) (PBF.of tsB.nn f35 (by decide) (by decide) (by decide) f39))
      · refine tm_iload dX12_call_166 0 rfl ?_
        refine tm_goto (tgt := 172) dX12_call_168 (by decide) ?_
        refine tm_callV (M := m_X12_call) (pc := 172) (ix := 294) (M' := m_X12_put) (As := [.int (iI 10), .int (iI kn), .int (iI q)]) (rest := []) dX12_call_172 ok_X12_put im_X12_put se_X12_put ml12_294 np_X12_put rfl rfl (Nat.le_of_ble_eq_true rfl) (Nat.le_of_ble_eq_true rfl) rfl (c_X12_put (d + 6) (σ := σ) (k := 10) (e := kn) (o := q) hR (by omega) (by omega) (by omega) (by omega)) (fun r41 σ42 hp => ?_)
        obtain ⟨v43, rfl, f44, f45, f46, f47, f48, f49, f50⟩ := hp
        show Tm _ _ 175 b σ42 [(7, .int (iI q)), (5, .int (iI m)), (1, .int (iI kn)), (0, .ref b)] [.int (iI v43)] _
        refine tm_istore (L' := [(8, .int (iI v43)), (7, .int (iI q)), (5, .int (iI m)), (1, .int (iI kn)), (0, .ref b)]) dX12_call_175 (by decide) rfl ?_
        have jv := f46
        have jn := f47
        have ji := f48
        have jo := f49
        have jr := f50
        refine tm_iconst dX12_call_177 ?_
        refine tm_istore (L' := [(9, .int (iI 0)), (8, .int (iI v43)), (7, .int (iI q)), (5, .int (iI m)), (1, .int (iI kn)), (0, .ref b)]) dX12_call_178 (by decide) rfl ?_
        refine tm_sub [0, 1, 3, 4, 5] rfl (l_callA (d + 7) (σ0 := σ42) (kn := kn) (m := m) (x := v43) f45 (by omega) (by omega) (fun i58 σ59 F53 R54 f55 f56 f57 => ?_) _ (0) σ42 Fr.rfl f45 (by omega) CRG.start ⟨fun _ _ => ⟨rfl, rfl, rfl, rfl⟩, fun _ _ => ⟨rfl, rfl⟩, rfl, rfl⟩ rfl)
        show Tm _ _ 221 b σ59 [(9, .int (iI i58)), (8, .int (iI v43)), (5, .int (iI m)), (1, .int (iI kn)), (0, .ref b)] [] _
        have la0 := f55
        have la1 := f56
        have la2 := f57
        have fA := (show Fr [34] [3, 4, 5, 6, 7, 8] [] σ σ59 from ((Fr.rfl.trans (Fr.sub f44 (by decide) (by decide) (by decide))).trans (Fr.sub F53 (by decide) (by decide) (by decide))))
        have eA : σ59.1 34 = σ.1 34 + 1 := (F53.1 34 (by decide)).trans jn
        have pbA : PBF σ σ59 := PBF.it hpn.2.2.1 fA (by decide) (by decide) (by decide) eA jv (jo.trans la2)
        have tbA : TBm σ σ59 := TBm.of fA (by decide) (by decide) (by decide) (by decide)
        have e30A : σ59.1 30 = σ.1 30 := fA.1 30 (by decide)
        refine tm_aload_n dX12_call_221 rfl 4 rfl ?_
        refine tm_iload_n dX12_call_222 rfl 3 rfl ?_
        refine tm_callV (M := m_X12_call) (pc := 223) (ix := 359) (M' := m_X12_bind) (As := [.int (iI kn)]) (rest := []) dX12_call_223 ok_X12_bind im_X12_bind se_X12_bind ml12_359 np_X12_bind rfl rfl (Nat.le_of_ble_eq_true rfl) (Nat.le_of_ble_eq_true rfl) rfl (c_X12_bind (d + 5) (σ := σ59) (k := kn) R54 (by rw [e30A, eA]; omega) hk12) (fun r60 σ61 hp => ?_)
        obtain ⟨rfl, f63, f64, f65, f66, f67, f68⟩ := hp
        show Tm _ _ 226 b σ61 [(9, .int (iI i58)), (8, .int (iI v43)), (5, .int (iI m)), (1, .int (iI kn)), (0, .ref b)] [] _
        have pbB : PBF σ59 σ61 := PBF.it pbA.2.2.1 f63 (by decide) (by decide) (by decide) f65 rfl f66
        have fB := (show Fr [34] [3, 4, 5, 6, 7, 8] [] σ σ61 from (((Fr.rfl.trans (Fr.sub f44 (by decide) (by decide) (by decide))).trans (Fr.sub F53 (by decide) (by decide) (by decide))).trans (Fr.sub f63 (by decide) (by decide) (by decide))))
        have tbB : TBm σ59 σ61 := TBm.of f63 (by decide) (by decide) (by decide) (by decide)
        have e26B : σ61.1 26 = σ.1 26 := fB.1 26 (by decide)
        have tsB := hts.putc ((Fr.sub hfn (by decide) (by decide) (by decide)).trans (Fr.sub fB (by decide) (by decide) (by decide))) (hpn.trans (pbA.trans pbB)) (by rw [f65, eA, hfn.1 34 (by decide)]; omega) (by decide) hrd0 (fun z1 z2 => (hE (by rw [hfn.1 25 (by decide)]; exact z1) (by rw [← e26B]; exact z2)).bt (TBm.of hfn (by decide) (by decide) (by decide) (by decide))) (by rw [srt_fr fB (by decide) (by decide) (by decide)]; exact hsn)
        have asA : ASF σc σ59 [(1, m, w)] := ASF.call hac hpc pbA tbA hts33 eA (by rw [← jv]; exact (congrFun (F53.2.1 3 (by decide)) _).trans ji.1) (fun z1 z2 z3 z4 => by have ev := ((z4 (1, m, w) (List.mem_singleton.mpr rfl)).tb htb).rby hrb hq; rw [← jv]; have e5 := (congrFun (F53.2.1 5 (by decide)) _).trans ji.2.2.1; refine ⟨oki_call ji hk12 (by omega) F53 la1 ⟨la0.2.2, la0.2.1⟩ (hcg.mv f44 (by decide) (by decide) (by rw [jn]; omega)) (by rw [jn]; omega) (by rw [f44.2.1 11 (by decide)]; first | exact ev.2 | (exfalso; omega)), ?_, ?_⟩ <;> (rw [e5]; have z9 := htb.1; omega)) h0c
        have asB : ASF σc σ61 [(1, m, w)] := asA.snoc (hpc.trans pbA) pbB tbB f65 (fun _ _ _ => f67) (Or.inr (Or.inr (Or.inr f68))) h0c
        have e28B : σ61.1 28 = 0 := (fB.1 28 (by decide)).trans h28
        have tkB := tsB.2.2.1.1.1
        refine tm_aload_n dX12_call_226 rfl 4 rfl ?_
        refine tm_bipush dX12_call_227 (by decide) ?_
        refine tm_callV (M := m_X12_call) (pc := 229) (ix := 330) (M' := m_X12_need) (As := [.int (iI 41)]) (rest := []) dX12_call_229 ok_X12_need im_X12_need se_X12_need ml12_330 np_X12_need rfl rfl (Nat.le_of_ble_eq_true rfl) (Nat.le_of_ble_eq_true rfl) rfl (c_X12_need (d + 2) (σ := σ61) (c := 41) f64 (by omega) (by omega)) (fun r69 σ70 hp => ?_)
        obtain ⟨v71, rfl, f72, f73, f74, f75, f76, f77, f78⟩ := hp
        show Tm _ _ 232 b σ70 [(9, .int (iI i58)), (8, .int (iI v43)), (5, .int (iI m)), (1, .int (iI kn)), (0, .ref b)] [.int (iI v71)] _
        exact tm_zret (v := v71) rfl (by omega) dX12_call_232 ((fun (pbN : PBF _ _) => hret _ _ ((((Fr.rfl.trans (Fr.sub f44 (by decide) (by decide) (by decide))).trans (Fr.sub F53 (by decide) (by decide) (by decide))).trans (Fr.sub f63 (by decide) (by decide) (by decide))).trans (Fr.sub f73 (by decide) (by decide) (by decide))) f74 f72 (tsB.1.trans pbN) (fun z => have yq := f75 z; ⟨_, (tsB.needy f73 yq.2.2.1 yq.2.2.2.1 yq.2.2.2.2 (by have z2 := yq.1.1; omega) (gn_41 yq.1 yq.2.1)).le (by decide), asB.mv (hpc.trans (pbA.trans pbB)) pbN (TBm.of f73 (by decide) (by decide) (by decide) (by decide)) (f73.1 34 (by decide)) h0c, hpc.trans ((pbA.trans pbB).trans pbN)⟩) (fun z => (tsB.fail pbN (gf_41 (f76 z) (f78 z))).2) ((f73.1 28 (by decide)).trans e28B)) (PBF.of tsB.nn f73 (by decide) (by decide) (by decide) f77))
    · refine tm_iconst dX12_call_155 ?_
      refine tm_goto (tgt := 172) dX12_call_156 (by decide) ?_
      refine tm_callV (M := m_X12_call) (pc := 172) (ix := 294) (M' := m_X12_put) (As := [.int (iI 10), .int (iI kn), .int (iI 0)]) (rest := []) dX12_call_172 ok_X12_put im_X12_put se_X12_put ml12_294 np_X12_put rfl rfl (Nat.le_of_ble_eq_true rfl) (Nat.le_of_ble_eq_true rfl) rfl (c_X12_put (d + 6) (σ := σ) (k := 10) (e := kn) (o := 0) hR (by omega) (by omega) (by omega) (by omega)) (fun r79 σ80 hp => ?_)
      obtain ⟨v81, rfl, f82, f83, f84, f85, f86, f87, f88⟩ := hp
      show Tm _ _ 175 b σ80 [(7, .int (iI q)), (5, .int (iI m)), (1, .int (iI kn)), (0, .ref b)] [.int (iI v81)] _
      refine tm_istore (L' := [(8, .int (iI v81)), (7, .int (iI q)), (5, .int (iI m)), (1, .int (iI kn)), (0, .ref b)]) dX12_call_175 (by decide) rfl ?_
      have jv := f84
      have jn := f85
      have ji := f86
      have jo := f87
      have jr := f88
      refine tm_iconst dX12_call_177 ?_
      refine tm_istore (L' := [(9, .int (iI 0)), (8, .int (iI v81)), (7, .int (iI q)), (5, .int (iI m)), (1, .int (iI kn)), (0, .ref b)]) dX12_call_178 (by decide) rfl ?_
      refine tm_sub [0, 1, 3, 4, 5] rfl (l_callA (d + 7) (σ0 := σ80) (kn := kn) (m := m) (x := v81) f83 (by omega) (by omega) (fun i96 σ97 F91 R92 f93 f94 f95 => ?_) _ (0) σ80 Fr.rfl f83 (by omega) CRG.start ⟨fun _ _ => ⟨rfl, rfl, rfl, rfl⟩, fun _ _ => ⟨rfl, rfl⟩, rfl, rfl⟩ rfl)
      show Tm _ _ 221 b σ97 [(9, .int (iI i96)), (8, .int (iI v81)), (5, .int (iI m)), (1, .int (iI kn)), (0, .ref b)] [] _
      have la0 := f93
      have la1 := f94
      have la2 := f95
      have fA := (show Fr [34] [3, 4, 5, 6, 7, 8] [] σ σ97 from ((Fr.rfl.trans (Fr.sub f82 (by decide) (by decide) (by decide))).trans (Fr.sub F91 (by decide) (by decide) (by decide))))
      have eA : σ97.1 34 = σ.1 34 + 1 := (F91.1 34 (by decide)).trans jn
      have pbA : PBF σ σ97 := PBF.it hpn.2.2.1 fA (by decide) (by decide) (by decide) eA jv (jo.trans la2)
      have tbA : TBm σ σ97 := TBm.of fA (by decide) (by decide) (by decide) (by decide)
      have e30A : σ97.1 30 = σ.1 30 := fA.1 30 (by decide)
      refine tm_aload_n dX12_call_221 rfl 4 rfl ?_
      refine tm_iload_n dX12_call_222 rfl 3 rfl ?_
      refine tm_callV (M := m_X12_call) (pc := 223) (ix := 359) (M' := m_X12_bind) (As := [.int (iI kn)]) (rest := []) dX12_call_223 ok_X12_bind im_X12_bind se_X12_bind ml12_359 np_X12_bind rfl rfl (Nat.le_of_ble_eq_true rfl) (Nat.le_of_ble_eq_true rfl) rfl (c_X12_bind (d + 5) (σ := σ97) (k := kn) R92 (by rw [e30A, eA]; omega) hk12) (fun r98 σ99 hp => ?_)
      obtain ⟨rfl, f101, f102, f103, f104, f105, f106⟩ := hp
      show Tm _ _ 226 b σ99 [(9, .int (iI i96)), (8, .int (iI v81)), (5, .int (iI m)), (1, .int (iI kn)), (0, .ref b)] [] _
      have pbB : PBF σ97 σ99 := PBF.it pbA.2.2.1 f101 (by decide) (by decide) (by decide) f103 rfl f104
      have fB := (show Fr [34] [3, 4, 5, 6, 7, 8] [] σ σ99 from (((Fr.rfl.trans (Fr.sub f82 (by decide) (by decide) (by decide))).trans (Fr.sub F91 (by decide) (by decide) (by decide))).trans (Fr.sub f101 (by decide) (by decide) (by decide))))
      have tbB : TBm σ97 σ99 := TBm.of f101 (by decide) (by decide) (by decide) (by decide)
      have e26B : σ99.1 26 = σ.1 26 := fB.1 26 (by decide)
      have tsB := hts.putc ((Fr.sub hfn (by decide) (by decide) (by decide)).trans (Fr.sub fB (by decide) (by decide) (by decide))) (hpn.trans (pbA.trans pbB)) (by rw [f103, eA, hfn.1 34 (by decide)]; omega) (by decide) hrd0 (fun z1 z2 => (hE (by rw [hfn.1 25 (by decide)]; exact z1) (by rw [← e26B]; exact z2)).bt (TBm.of hfn (by decide) (by decide) (by decide) (by decide))) (by rw [srt_fr fB (by decide) (by decide) (by decide)]; exact hsn)
      have asA : ASF σc σ97 [(1, m, w)] := ASF.call hac hpc pbA tbA hts33 eA (by rw [← jv]; exact (congrFun (F91.2.1 3 (by decide)) _).trans ji.1) (fun z1 z2 z3 z4 => by have ev := ((z4 (1, m, w) (List.mem_singleton.mpr rfl)).tb htb).rby hrb hq; rw [← jv]; have e5 := (congrFun (F91.2.1 5 (by decide)) _).trans ji.2.2.1; refine ⟨oki_call ji hk12 (by omega) F91 la1 ⟨la0.2.2, la0.2.1⟩ (hcg.mv f82 (by decide) (by decide) (by rw [jn]; omega)) (by rw [jn]; omega) (by rw [f82.2.1 11 (by decide)]; first | exact ev.2 | (exfalso; omega)), ?_, ?_⟩ <;> (rw [e5]; have z9 := htb.1; omega)) h0c
      have asB : ASF σc σ99 [(1, m, w)] := asA.snoc (hpc.trans pbA) pbB tbB f103 (fun _ _ _ => f105) (Or.inr (Or.inr (Or.inr f106))) h0c
      have e28B : σ99.1 28 = 0 := (fB.1 28 (by decide)).trans h28
      have tkB := tsB.2.2.1.1.1
      refine tm_aload_n dX12_call_226 rfl 4 rfl ?_
      refine tm_bipush dX12_call_227 (by decide) ?_
      refine tm_callV (M := m_X12_call) (pc := 229) (ix := 330) (M' := m_X12_need) (As := [.int (iI 41)]) (rest := []) dX12_call_229 ok_X12_need im_X12_need se_X12_need ml12_330 np_X12_need rfl rfl (Nat.le_of_ble_eq_true rfl) (Nat.le_of_ble_eq_true rfl) rfl (c_X12_need (d + 2) (σ := σ99) (c := 41) f102 (by omega) (by omega)) (fun r107 σ108 hp => ?_)
      obtain ⟨v109, rfl, f110, f111, f112, f113, f114, f115, f116⟩ := hp
      show Tm _ _ 232 b σ108 [(9, .int (iI i96)), (8, .int (iI v81)), (5, .int (iI m)), (1, .int (iI kn)), (0, .ref b)] [.int (iI v109)] _
      exact tm_zret (v := v109) rfl (by omega) dX12_call_232 ((fun (pbN : PBF _ _) => hret _ _ ((((Fr.rfl.trans (Fr.sub f82 (by decide) (by decide) (by decide))).trans (Fr.sub F91 (by decide) (by decide) (by decide))).trans (Fr.sub f101 (by decide) (by decide) (by decide))).trans (Fr.sub f111 (by decide) (by decide) (by decide))) f112 f110 (tsB.1.trans pbN) (fun z => have yq := f113 z; ⟨_, (tsB.needy f111 yq.2.2.1 yq.2.2.2.1 yq.2.2.2.2 (by have z2 := yq.1.1; omega) (gn_41 yq.1 yq.2.1)).le (by decide), asB.mv (hpc.trans (pbA.trans pbB)) pbN (TBm.of f111 (by decide) (by decide) (by decide) (by decide)) (f111.1 34 (by decide)) h0c, hpc.trans ((pbA.trans pbB).trans pbN)⟩) (fun z => (tsB.fail pbN (gf_41 (f114 z) (f116 z))).2) ((f111.1 28 (by decide)).trans e28B)) (PBF.of tsB.nn f111 (by decide) (by decide) (by decide) f115))
