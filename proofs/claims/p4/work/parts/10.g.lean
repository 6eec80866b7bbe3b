def RUD (σ : MS) (m : Int) : Prop := (0 ≤ σ.2.1 73 m ∧ σ.2.1 73 m ≤ 9) ∧ ∀ c, 9 * m ≤ c → c < 9 * m + σ.2.1 73 m → DEC σ m c (fn σ m c)

theorem fl12_560 : Cond.fieldLink RX12 560 (TX12 68).1 (TX12 68).2.1 (TX12 68).2.2.1 ∈ pWW := pw7 (List.mem_of_getElem? (i := 75) rfl) rfl
theorem ml12_578 : Cond.methodLink RX12 578 yX12_isFrame ∈ pWW := pw10 (List.mem_of_getElem? (i := 45) rfl) rfl
theorem dX12_isStack_0 : decode cX12_isStack 0 = .ok (.aload_n 0, 1) := by decide +kernel
theorem dX12_isStack_1 : decode cX12_isStack 1 = .ok (.getfield 397, 3) := by decide +kernel
theorem dX12_isStack_4 : decode cX12_isStack 4 = .ok (.ifCond .eq 27, 3) := by decide +kernel
theorem dX12_isStack_31 : decode cX12_isStack 31 = .ok (.iconst 0, 1) := by decide +kernel
theorem dX12_isStack_32 : decode cX12_isStack 32 = .ok (.ireturn, 1) := by decide +kernel
theorem dX12_isStack_7 : decode cX12_isStack 7 = .ok (.aload_n 0, 1) := by decide +kernel
theorem dX12_isStack_8 : decode cX12_isStack 8 = .ok (.getfield 560, 3) := by decide +kernel
theorem dX12_isStack_11 : decode cX12_isStack 11 = .ok (.ifCond .ne 20, 3) := by decide +kernel
theorem dX12_isStack_14 : decode cX12_isStack 14 = .ok (.iload_n 1, 1) := by decide +kernel
theorem dX12_isStack_15 : decode cX12_isStack 15 = .ok (.ifCond .lt 16, 3) := by decide +kernel
theorem dX12_isStack_18 : decode cX12_isStack 18 = .ok (.aload_n 0, 1) := by decide +kernel
theorem dX12_isStack_19 : decode cX12_isStack 19 = .ok (.iconst 0, 1) := by decide +kernel
theorem dX12_isStack_20 : decode cX12_isStack 20 = .ok (.iload_n 1, 1) := by decide +kernel
theorem dX12_isStack_21 : decode cX12_isStack 21 = .ok (.invokevirtual 578, 3) := by decide +kernel
theorem dX12_isStack_24 : decode cX12_isStack 24 = .ok (.ifCond .eq 7, 3) := by decide +kernel
theorem dX12_isStack_27 : decode cX12_isStack 27 = .ok (.iconst 1, 1) := by decide +kernel
theorem dX12_isStack_28 : decode cX12_isStack 28 = .ok (.goto 4, 3) := by decide +kernel
set_option maxHeartbeats 4000000 in
set_option maxRecDepth 20000 in
theorem c_X12_isStack (d : Nat) {b : Nat} {σ : MS} {k : Int} (hR : RG σ) (hru : σ.1 67 ≠ 0 → σ.1 68 = 0 → RUD σ 0) (h_k : -2147483648 ≤ k ∧ k ≤ 2147483647) : Tm (d + 2) m_X12_isStack 0 b σ [(0, .ref b), (1, .int (iI k))] [] (fun ro σ2 => ∃ v : Int, ro = some (.int (iI v)) ∧ ((v = 0 ∨ v = 1)) ∧ (Fr [83, 84] [] [] σ σ2) ∧ (RG σ2) ∧ (v = 1 → σ.1 67 ≠ 0 ∧ σ.1 68 = 0 ∧ 9 * 0 ≤ σ2.1 83 ∧ σ2.1 83 < 9 * 0 + σ.2.1 73 0 ∧ 0 ≤ σ2.1 84 ∧ σ2.1 84 < fn σ 0 (σ2.1 83))) := by
  refine tm_aload_n dX12_isStack_0 rfl 0 rfl ?_
  refine tm_getS (k := 67) (t := σ.1 67) dX12_isStack_1 (by decide) fl12_397 rfl (rfl) ?_
  have g1 := RG.s hR 67
  refine tm_if_eq (tgt := 31) dX12_isStack_4 (by decide) ⟨by omega, by omega⟩ (fun h2 => ?_) (fun h2 => ?_)
  · refine tm_iconst dX12_isStack_31 ?_
    exact tm_zret (v := 0) rfl (by decide) dX12_isStack_32 (⟨_, rfl, by omega, Fr.rfl, hR, fun q => absurd q (by decide)⟩)
  · refine tm_aload_n dX12_isStack_7 rfl 0 rfl ?_
    refine tm_getS (k := 68) (t := σ.1 68) dX12_isStack_8 (by decide) fl12_560 rfl (rfl) ?_
    have g3 := RG.s hR 68
    refine tm_if_ne (tgt := 31) dX12_isStack_11 (by decide) ⟨by omega, by omega⟩ (fun h4 => ?_) (fun h4 => ?_)
    · refine tm_iconst dX12_isStack_31 ?_
      exact tm_zret (v := 0) rfl (by decide) dX12_isStack_32 (⟨_, rfl, by omega, Fr.rfl, hR, fun q => absurd q (by decide)⟩)
    · refine tm_iload_n dX12_isStack_14 rfl 1 rfl ?_
      refine tm_if_lt (tgt := 31) dX12_isStack_15 (by decide) ⟨by omega, by omega⟩ (fun h5 => ?_) (fun h5 => ?_)
      · refine tm_iconst dX12_isStack_31 ?_
        exact tm_zret (v := 0) rfl (by decide) dX12_isStack_32 (⟨_, rfl, by omega, Fr.rfl, hR, fun q => absurd q (by decide)⟩)
      · have hr0 := hru (by omega) (by omega)
        refine tm_aload_n dX12_isStack_18 rfl 0 rfl ?_
        refine tm_iconst dX12_isStack_19 ?_
        refine tm_iload_n dX12_isStack_20 rfl 1 rfl ?_
        refine tm_callV (M := m_X12_isStack) (pc := 21) (ix := 578) (M' := m_X12_isFrame) (As := [.int (iI 0), .int (iI k)]) (rest := []) dX12_isStack_21 ok_X12_isFrame im_X12_isFrame se_X12_isFrame ml12_578 np_X12_isFrame rfl rfl (Nat.le_of_ble_eq_true rfl) (Nat.le_of_ble_eq_true rfl) rfl (c_X12_isFrame (d) (σ := σ) (m := 0) (k := k) hR (by decide) hr0.1 hr0.2 (by omega)) (fun r6 σ7 hp => ?_)
        obtain ⟨v8, rfl, f9, f10, f11, f12⟩ := hp
        show Tm _ _ 24 b σ7 [(0, .ref b), (1, .int (iI k))] [.int (iI v8)] _
        refine tm_if_eq (tgt := 31) dX12_isStack_24 (by decide) ⟨by omega, by omega⟩ (fun h13 => ?_) (fun h13 => ?_)
        · refine tm_iconst dX12_isStack_31 ?_
          exact tm_zret (v := 0) rfl (by decide) dX12_isStack_32 (⟨_, rfl, by omega, (Fr.rfl.trans (Fr.sub f10 (by decide) (by decide) (by decide))), f11, fun q => absurd q (by decide)⟩)
        · refine tm_iconst dX12_isStack_27 ?_
          refine tm_goto (tgt := 32) dX12_isStack_28 (by decide) ?_
          exact tm_zret (v := 1) rfl (by decide) dX12_isStack_32 (⟨_, rfl, by omega, (Fr.rfl.trans (Fr.sub f10 (by decide) (by decide) (by decide))), f11, fun _ => ⟨by omega, by omega, f12 (by omega)⟩⟩)
theorem dX12_routineIn_0 : decode cX12_routineIn 0 = .ok (.iload_n 1, 1) := by decide +kernel
theorem dX12_routineIn_1 : decode cX12_routineIn 1 = .ok (.iconst 2, 1) := by decide +kernel
theorem dX12_routineIn_2 : decode cX12_routineIn 2 = .ok (.if_icmp .ne 15, 3) := by decide +kernel
theorem dX12_routineIn_17 : decode cX12_routineIn 17 = .ok (.aload_n 0, 1) := by decide +kernel
theorem dX12_routineIn_18 : decode cX12_routineIn 18 = .ok (.getfield 47, 3) := by decide +kernel
theorem dX12_routineIn_21 : decode cX12_routineIn 21 = .ok (.bipush 12, 2) := by decide +kernel
theorem dX12_routineIn_23 : decode cX12_routineIn 23 = .ok (.aload_n 0, 1) := by decide +kernel
theorem dX12_routineIn_24 : decode cX12_routineIn 24 = .ok (.getfield 167, 3) := by decide +kernel
theorem dX12_routineIn_27 : decode cX12_routineIn 27 = .ok (.aload_n 0, 1) := by decide +kernel
theorem dX12_routineIn_28 : decode cX12_routineIn 28 = .ok (.getfield 572, 3) := by decide +kernel
theorem dX12_routineIn_31 : decode cX12_routineIn 31 = .ok (.iaload, 1) := by decide +kernel
theorem dX12_routineIn_32 : decode cX12_routineIn 32 = .ok (.imul, 1) := by decide +kernel
theorem dX12_routineIn_33 : decode cX12_routineIn 33 = .ok (.aload_n 0, 1) := by decide +kernel
theorem dX12_routineIn_34 : decode cX12_routineIn 34 = .ok (.getfield 575, 3) := by decide +kernel
theorem dX12_routineIn_37 : decode cX12_routineIn 37 = .ok (.iadd, 1) := by decide +kernel
theorem dX12_routineIn_38 : decode cX12_routineIn 38 = .ok (.iaload, 1) := by decide +kernel
theorem dX12_routineIn_39 : decode cX12_routineIn 39 = .ok (.ireturn, 1) := by decide +kernel
theorem dX12_routineIn_5 : decode cX12_routineIn 5 = .ok (.aload_n 0, 1) := by decide +kernel
theorem dX12_routineIn_6 : decode cX12_routineIn 6 = .ok (.getfield 167, 3) := by decide +kernel
theorem dX12_routineIn_9 : decode cX12_routineIn 9 = .ok (.aload_n 0, 1) := by decide +kernel
theorem dX12_routineIn_10 : decode cX12_routineIn 10 = .ok (.getfield 572, 3) := by decide +kernel
theorem dX12_routineIn_13 : decode cX12_routineIn 13 = .ok (.iaload, 1) := by decide +kernel
theorem dX12_routineIn_14 : decode cX12_routineIn 14 = .ok (.goto 25, 3) := by decide +kernel
set_option maxHeartbeats 4000000 in
set_option maxRecDepth 20000 in
theorem c_X12_routineIn (d : Nat) {b : Nat} {σ : MS} {m : Int} (hR : RG σ) (hgc : 0 ≤ σ.1 83 ∧ σ.1 83 < 27) (hgf : m ≠ 2 → 0 ≤ 12 * σ.2.1 78 (σ.1 83) + σ.1 84 ∧ 12 * σ.2.1 78 (σ.1 83) + σ.1 84 < 72) (h_m : -2147483648 ≤ m ∧ m ≤ 2147483647) : Tm (d + 1) m_X12_routineIn 0 b σ [(0, .ref b), (1, .int (iI m))] [] (fun ro σ2 => ∃ v : Int, ro = some (.int (iI v)) ∧ σ = σ2 ∧ ((m = 2 → v = σ.2.1 78 (σ.1 83))) ∧ ((m ≠ 2 → v = σ.2.1 15 (12 * σ.2.1 78 (σ.1 83) + σ.1 84)))) := by
  refine tm_iload_n dX12_routineIn_0 rfl 1 rfl ?_
  refine tm_iconst dX12_routineIn_1 ?_
  refine tm_icmp_ne (tgt := 17) dX12_routineIn_2 (by decide) ⟨by omega, by omega⟩ ⟨by decide, by decide⟩ (fun h1 => ?_) (fun h1 => ?_)
  · refine tm_aload_n dX12_routineIn_17 rfl 0 rfl ?_
    refine tm_get (k := 15) (v := .ref (b + 1 + 12)) lay_12 dX12_routineIn_18 (by decide) fl12_47 rfl ?_
    refine tm_bipush dX12_routineIn_21 (by decide) ?_
    refine tm_aload_n dX12_routineIn_23 rfl 0 rfl ?_
    refine tm_get (k := 78) (v := .ref (b + 1 + 49)) lay_12 dX12_routineIn_24 (by decide) fl12_167 rfl ?_
    refine tm_aload_n dX12_routineIn_27 rfl 0 rfl ?_
    refine tm_getS (k := 83) (t := σ.1 83) dX12_routineIn_28 (by decide) fl12_572 rfl (rfl) ?_
    have g2 := RG.s hR 83
    refine tm_iald (z := σ.1 83) (v := σ.2.1 78 (σ.1 83)) dX12_routineIn_31 (show mT[49]? = some (78, 0, 27) from rfl) (by omega) (by omega) (by decide) (rfl) ?_
    have g3 := RG.a hR 78 (σ.1 83)
    refine tm_imul dX12_routineIn_32 ?_
    refine tm_aload_n dX12_routineIn_33 rfl 0 rfl ?_
    refine tm_getS (k := 84) (t := σ.1 84) dX12_routineIn_34 (by decide) fl12_575 rfl (rfl) ?_
    have g4 := RG.s hR 84
    refine tm_iadd dX12_routineIn_37 ?_
    refine tm_iald (z := (12 * (σ.2.1 78 (σ.1 83))) + (σ.1 84)) (v := σ.2.1 15 ((12 * (σ.2.1 78 (σ.1 83))) + (σ.1 84))) dX12_routineIn_38 (show mT[12]? = some (15, 0, 72) from rfl) (by omega) (by omega) (by decide) (rfl) ?_
    have g5 := RG.a hR 15 ((12 * (σ.2.1 78 (σ.1 83))) + (σ.1 84))
    exact tm_iret rfl dX12_routineIn_39 (⟨_, rfl, rfl, by omega, by omega⟩)
  · refine tm_aload_n dX12_routineIn_5 rfl 0 rfl ?_
    refine tm_get (k := 78) (v := .ref (b + 1 + 49)) lay_12 dX12_routineIn_6 (by decide) fl12_167 rfl ?_
    refine tm_aload_n dX12_routineIn_9 rfl 0 rfl ?_
    refine tm_getS (k := 83) (t := σ.1 83) dX12_routineIn_10 (by decide) fl12_572 rfl (rfl) ?_
    have g6 := RG.s hR 83
    refine tm_iald (z := σ.1 83) (v := σ.2.1 78 (σ.1 83)) dX12_routineIn_13 (show mT[49]? = some (78, 0, 27) from rfl) (by omega) (by omega) (by decide) (rfl) ?_
    have g7 := RG.a hR 78 (σ.1 83)
    refine tm_goto (tgt := 39) dX12_routineIn_14 (by decide) ?_
    exact tm_iret rfl dX12_routineIn_39 (⟨_, rfl, rfl, by omega, by omega⟩)
theorem ml12_545 : Cond.methodLink RX12 545 yX12_worth ∈ pWW := pw10 (List.mem_of_getElem? (i := 25) rfl) rfl
theorem ml12_466 : Cond.methodLink RX12 466 yX12_worked ∈ pWW := pw9 (List.mem_of_getElem? (i := 114) rfl) rfl
theorem dX12_stateWorth_0 : decode cX12_stateWorth 0 = .ok (.aload_n 0, 1) := by decide +kernel
theorem dX12_stateWorth_1 : decode cX12_stateWorth 1 = .ok (.aload_n 0, 1) := by decide +kernel
theorem dX12_stateWorth_2 : decode cX12_stateWorth 2 = .ok (.getfield 572, 3) := by decide +kernel
theorem dX12_stateWorth_5 : decode cX12_stateWorth 5 = .ok (.aload_n 0, 1) := by decide +kernel
theorem dX12_stateWorth_6 : decode cX12_stateWorth 6 = .ok (.getfield 102, 3) := by decide +kernel
theorem dX12_stateWorth_9 : decode cX12_stateWorth 9 = .ok (.iload_n 1, 1) := by decide +kernel
theorem dX12_stateWorth_10 : decode cX12_stateWorth 10 = .ok (.iaload, 1) := by decide +kernel
theorem dX12_stateWorth_11 : decode cX12_stateWorth 11 = .ok (.aload_n 0, 1) := by decide +kernel
theorem dX12_stateWorth_12 : decode cX12_stateWorth 12 = .ok (.getfield 105, 3) := by decide +kernel
theorem dX12_stateWorth_15 : decode cX12_stateWorth 15 = .ok (.iload_n 1, 1) := by decide +kernel
theorem dX12_stateWorth_16 : decode cX12_stateWorth 16 = .ok (.iaload, 1) := by decide +kernel
theorem dX12_stateWorth_17 : decode cX12_stateWorth 17 = .ok (.invokevirtual 545, 3) := by decide +kernel
theorem dX12_stateWorth_20 : decode cX12_stateWorth 20 = .ok (.istore_n 2, 1) := by decide +kernel
theorem dX12_stateWorth_21 : decode cX12_stateWorth 21 = .ok (.aload_n 0, 1) := by decide +kernel
theorem dX12_stateWorth_22 : decode cX12_stateWorth 22 = .ok (.getfield 99, 3) := by decide +kernel
theorem dX12_stateWorth_25 : decode cX12_stateWorth 25 = .ok (.iload_n 1, 1) := by decide +kernel
theorem dX12_stateWorth_26 : decode cX12_stateWorth 26 = .ok (.iaload, 1) := by decide +kernel
theorem dX12_stateWorth_27 : decode cX12_stateWorth 27 = .ok (.iconst 2, 1) := by decide +kernel
theorem dX12_stateWorth_28 : decode cX12_stateWorth 28 = .ok (.if_icmp .le 38, 3) := by decide +kernel
theorem dX12_stateWorth_66 : decode cX12_stateWorth 66 = .ok (.iload_n 2, 1) := by decide +kernel
theorem dX12_stateWorth_67 : decode cX12_stateWorth 67 = .ok (.ireturn, 1) := by decide +kernel
theorem dX12_stateWorth_31 : decode cX12_stateWorth 31 = .ok (.aload_n 0, 1) := by decide +kernel
theorem dX12_stateWorth_32 : decode cX12_stateWorth 32 = .ok (.getfield 99, 3) := by decide +kernel
theorem dX12_stateWorth_35 : decode cX12_stateWorth 35 = .ok (.iload_n 1, 1) := by decide +kernel
theorem dX12_stateWorth_36 : decode cX12_stateWorth 36 = .ok (.iaload, 1) := by decide +kernel
theorem dX12_stateWorth_37 : decode cX12_stateWorth 37 = .ok (.iconst 2, 1) := by decide +kernel
theorem dX12_stateWorth_38 : decode cX12_stateWorth 38 = .ok (.isub, 1) := by decide +kernel
theorem dX12_stateWorth_39 : decode cX12_stateWorth 39 = .ok (.iload_n 2, 1) := by decide +kernel
theorem dX12_stateWorth_40 : decode cX12_stateWorth 40 = .ok (.aload_n 0, 1) := by decide +kernel
theorem dX12_stateWorth_41 : decode cX12_stateWorth 41 = .ok (.aload_n 0, 1) := by decide +kernel
theorem dX12_stateWorth_42 : decode cX12_stateWorth 42 = .ok (.getfield 572, 3) := by decide +kernel
theorem dX12_stateWorth_45 : decode cX12_stateWorth 45 = .ok (.aload_n 0, 1) := by decide +kernel
theorem dX12_stateWorth_46 : decode cX12_stateWorth 46 = .ok (.getfield 108, 3) := by decide +kernel
theorem dX12_stateWorth_49 : decode cX12_stateWorth 49 = .ok (.iload_n 1, 1) := by decide +kernel
theorem dX12_stateWorth_50 : decode cX12_stateWorth 50 = .ok (.iaload, 1) := by decide +kernel
theorem dX12_stateWorth_51 : decode cX12_stateWorth 51 = .ok (.aload_n 0, 1) := by decide +kernel
theorem dX12_stateWorth_52 : decode cX12_stateWorth 52 = .ok (.getfield 111, 3) := by decide +kernel
theorem dX12_stateWorth_55 : decode cX12_stateWorth 55 = .ok (.iload_n 1, 1) := by decide +kernel
theorem dX12_stateWorth_56 : decode cX12_stateWorth 56 = .ok (.iaload, 1) := by decide +kernel
theorem dX12_stateWorth_57 : decode cX12_stateWorth 57 = .ok (.invokevirtual 545, 3) := by decide +kernel
theorem dX12_stateWorth_60 : decode cX12_stateWorth 60 = .ok (.invokestatic 466, 3) := by decide +kernel
theorem dX12_stateWorth_63 : decode cX12_stateWorth 63 = .ok (.goto 4, 3) := by decide +kernel
set_option maxHeartbeats 4000000 in
set_option maxRecDepth 20000 in
theorem c_X12_stateWorth (d : Nat) {b : Nat} {σ : MS} {y : Int} (hR : RG σ) (hgc : 0 ≤ σ.1 83 ∧ σ.1 83 < 27) (hy : 0 ≤ y ∧ y < 190944) (hss : SSA σ) : Tm (d + 2) m_X12_stateWorth 0 b σ [(0, .ref b), (1, .int (iI y))] [] (fun ro σ2 => ∃ v : Int, ro = some (.int (iI v)) ∧ σ = σ2 ∧ (-2147483648 ≤ v ∧ v ≤ 2147483647)) := by
  have q1 := hss y
  refine tm_aload_n dX12_stateWorth_0 rfl 0 rfl ?_
  refine tm_aload_n dX12_stateWorth_1 rfl 0 rfl ?_
  refine tm_getS (k := 83) (t := σ.1 83) dX12_stateWorth_2 (by decide) fl12_572 rfl (rfl) ?_
  have g1 := RG.s hR 83
  refine tm_aload_n dX12_stateWorth_5 rfl 0 rfl ?_
  refine tm_get (k := 50) (v := .ref (b + 1 + 28)) lay_12 dX12_stateWorth_6 (by decide) fl12_102 rfl ?_
  refine tm_iload_n dX12_stateWorth_9 rfl 1 rfl ?_
  refine tm_iald (z := y) (v := σ.2.1 50 y) dX12_stateWorth_10 (show mT[28]? = some (50, 0, 190944) from rfl) (by omega) (by omega) (by decide) (rfl) ?_
  have g2 := RG.a hR 50 (y)
  refine tm_aload_n dX12_stateWorth_11 rfl 0 rfl ?_
  refine tm_get (k := 51) (v := .ref (b + 1 + 29)) lay_12 dX12_stateWorth_12 (by decide) fl12_105 rfl ?_
  refine tm_iload_n dX12_stateWorth_15 rfl 1 rfl ?_
  refine tm_iald (z := y) (v := σ.2.1 51 y) dX12_stateWorth_16 (show mT[29]? = some (51, 0, 190944) from rfl) (by omega) (by omega) (by decide) (rfl) ?_
  have g3 := RG.a hR 51 (y)
  refine tm_callV (M := m_X12_stateWorth) (pc := 17) (ix := 545) (M' := m_X12_worth) (As := [.int (iI (σ.1 83)), .int (iI (σ.2.1 50 y)), .int (iI (σ.2.1 51 y))]) (rest := []) dX12_stateWorth_17 ok_X12_worth im_X12_worth se_X12_worth ml12_545 np_X12_worth rfl rfl (Nat.le_of_ble_eq_true rfl) (Nat.le_of_ble_eq_true rfl) rfl (c_X12_worth (d) (σ := σ) (c := σ.1 83) (k := σ.2.1 50 y) (w := σ.2.1 51 y) (fun q => by omega) hR (by omega) (by omega)) (fun r4 σ5 hp => ?_)
  obtain ⟨v6, rfl, rfl, f7⟩ := hp
  show Tm _ _ 20 b σ [(0, .ref b), (1, .int (iI y))] [.int (iI v6)] _
  refine tm_istore_n (L' := [(2, .int (iI v6)), (0, .ref b), (1, .int (iI y))]) dX12_stateWorth_20 rfl (by decide) rfl ?_
  refine tm_aload_n dX12_stateWorth_21 rfl 1 rfl ?_
  refine tm_get (k := 49) (v := .ref (b + 1 + 27)) lay_12 dX12_stateWorth_22 (by decide) fl12_99 rfl ?_
  refine tm_iload_n dX12_stateWorth_25 rfl 2 rfl ?_
  refine tm_iald (z := y) (v := σ.2.1 49 y) dX12_stateWorth_26 (show mT[27]? = some (49, 0, 190944) from rfl) (by omega) (by omega) (by decide) (rfl) ?_
  have g8 := RG.a hR 49 (y)
  refine tm_iconst dX12_stateWorth_27 ?_
  refine tm_icmp_le (tgt := 66) dX12_stateWorth_28 (by decide) ⟨by omega, by omega⟩ ⟨by decide, by decide⟩ (fun h9 => ?_) (fun h9 => ?_)
  · refine tm_iload_n dX12_stateWorth_66 rfl 0 rfl ?_
    exact tm_iret rfl dX12_stateWorth_67 (⟨_, rfl, rfl, by omega⟩)
  · refine tm_aload_n dX12_stateWorth_31 rfl 1 rfl ?_
    refine tm_get (k := 49) (v := .ref (b + 1 + 27)) lay_12 dX12_stateWorth_32 (by decide) fl12_99 rfl ?_
    refine tm_iload_n dX12_stateWorth_35 rfl 2 rfl ?_
    refine tm_iald (z := y) (v := σ.2.1 49 y) dX12_stateWorth_36 (show mT[27]? = some (49, 0, 190944) from rfl) (by omega) (by omega) (by decide) (rfl) ?_
    have g10 := RG.a hR 49 (y)
    refine tm_iconst dX12_stateWorth_37 ?_
    refine tm_isub dX12_stateWorth_38 ?_
    refine tm_iload_n dX12_stateWorth_39 rfl 0 rfl ?_
    refine tm_aload_n dX12_stateWorth_40 rfl 1 rfl ?_
    refine tm_aload_n dX12_stateWorth_41 rfl 1 rfl ?_
    refine tm_getS (k := 83) (t := σ.1 83) dX12_stateWorth_42 (by decide) fl12_572 rfl (rfl) ?_
    have g11 := RG.s hR 83
    refine tm_aload_n dX12_stateWorth_45 rfl 1 rfl ?_
    refine tm_get (k := 52) (v := .ref (b + 1 + 30)) lay_12 dX12_stateWorth_46 (by decide) fl12_108 rfl ?_
    refine tm_iload_n dX12_stateWorth_49 rfl 2 rfl ?_
    refine tm_iald (z := y) (v := σ.2.1 52 y) dX12_stateWorth_50 (show mT[30]? = some (52, 0, 190944) from rfl) (by omega) (by omega) (by decide) (rfl) ?_
    have g12 := RG.a hR 52 (y)
    refine tm_aload_n dX12_stateWorth_51 rfl 1 rfl ?_
    refine tm_get (k := 53) (v := .ref (b + 1 + 31)) lay_12 dX12_stateWorth_52 (by decide) fl12_111 rfl ?_
    refine tm_iload_n dX12_stateWorth_55 rfl 2 rfl ?_
    refine tm_iald (z := y) (v := σ.2.1 53 y) dX12_stateWorth_56 (show mT[31]? = some (53, 0, 190944) from rfl) (by omega) (by omega) (by decide) (rfl) ?_
    have g13 := RG.a hR 53 (y)
    refine tm_callV (M := m_X12_stateWorth) (pc := 57) (ix := 545) (M' := m_X12_worth) (As := [.int (iI (σ.1 83)), .int (iI (σ.2.1 52 y)), .int (iI (σ.2.1 53 y))]) (rest := [.int (iI v6), .int (iI ((σ.2.1 49 y) - 2))]) dX12_stateWorth_57 ok_X12_worth im_X12_worth se_X12_worth ml12_545 np_X12_worth rfl rfl (Nat.le_of_ble_eq_true rfl) (Nat.le_of_ble_eq_true rfl) rfl (c_X12_worth (d) (σ := σ) (c := σ.1 83) (k := σ.2.1 52 y) (w := σ.2.1 53 y) (fun q => by omega) hR (by omega) (by omega)) (fun r14 σ15 hp => ?_)
    obtain ⟨v16, rfl, rfl, f17⟩ := hp
    show Tm _ _ 60 b σ [(2, .int (iI v6)), (0, .ref b), (1, .int (iI y))] [.int (iI v16), .int (iI v6), .int (iI ((σ.2.1 49 y) - 2))] _
    refine tm_callS (M := m_X12_stateWorth) (pc := 60) (ix := 466) (M' := m_X12_worked) (As := [.int (iI ((σ.2.1 49 y) - 2)), .int (iI v6), .int (iI v16)]) (rest := []) dX12_stateWorth_60 ok_X12_worked stt_X12_worked ml12_466 np_X12_worked rfl (Nat.le_of_ble_eq_true rfl) (Nat.le_of_ble_eq_true rfl) rfl (c_X12_worked (d) (σ := σ) (k := (σ.2.1 49 y) - 2) (x := v6) (y := v16) (by omega) (by omega) (by omega)) (fun r18 σ19 hp => ?_)
    obtain ⟨v20, rfl, rfl, f21⟩ := hp
    show Tm _ _ 63 b σ [(2, .int (iI v6)), (0, .ref b), (1, .int (iI y))] [.int (iI v20)] _
    refine tm_goto (tgt := 67) dX12_stateWorth_63 (by decide) ?_
    exact tm_iret rfl dX12_stateWorth_67 (⟨_, rfl, rfl, by omega⟩)
