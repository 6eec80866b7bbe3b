theorem dX12_stateAt_0 : decode cX12_stateAt 0 = .ok (.aload_n 0, 1) := by decide +kernel
theorem dX12_stateAt_1 : decode cX12_stateAt 1 = .ok (.aload_n 0, 1) := by decide +kernel
theorem dX12_stateAt_2 : decode cX12_stateAt 2 = .ok (.getfield 167, 3) := by decide +kernel
theorem dX12_stateAt_5 : decode cX12_stateAt 5 = .ok (.aload_n 0, 1) := by decide +kernel
theorem dX12_stateAt_6 : decode cX12_stateAt 6 = .ok (.getfield 572, 3) := by decide +kernel
theorem dX12_stateAt_9 : decode cX12_stateAt 9 = .ok (.iaload, 1) := by decide +kernel
theorem dX12_stateAt_10 : decode cX12_stateAt 10 = .ok (.invokevirtual 430, 3) := by decide +kernel
theorem dX12_stateAt_13 : decode cX12_stateAt 13 = .ok (.sipush 31824, 3) := by decide +kernel
theorem dX12_stateAt_16 : decode cX12_stateAt 16 = .ok (.aload_n 0, 1) := by decide +kernel
theorem dX12_stateAt_17 : decode cX12_stateAt 17 = .ok (.getfield 167, 3) := by decide +kernel
theorem dX12_stateAt_20 : decode cX12_stateAt 20 = .ok (.aload_n 0, 1) := by decide +kernel
theorem dX12_stateAt_21 : decode cX12_stateAt 21 = .ok (.getfield 572, 3) := by decide +kernel
theorem dX12_stateAt_24 : decode cX12_stateAt 24 = .ok (.iaload, 1) := by decide +kernel
theorem dX12_stateAt_25 : decode cX12_stateAt 25 = .ok (.imul, 1) := by decide +kernel
theorem dX12_stateAt_26 : decode cX12_stateAt 26 = .ok (.sipush 144, 3) := by decide +kernel
theorem dX12_stateAt_29 : decode cX12_stateAt 29 = .ok (.aload_n 0, 1) := by decide +kernel
theorem dX12_stateAt_30 : decode cX12_stateAt 30 = .ok (.getfield 170, 3) := by decide +kernel
theorem dX12_stateAt_33 : decode cX12_stateAt 33 = .ok (.aload_n 0, 1) := by decide +kernel
theorem dX12_stateAt_34 : decode cX12_stateAt 34 = .ok (.getfield 572, 3) := by decide +kernel
theorem dX12_stateAt_37 : decode cX12_stateAt 37 = .ok (.iaload, 1) := by decide +kernel
theorem dX12_stateAt_38 : decode cX12_stateAt 38 = .ok (.imul, 1) := by decide +kernel
theorem dX12_stateAt_39 : decode cX12_stateAt 39 = .ok (.iadd, 1) := by decide +kernel
theorem dX12_stateAt_40 : decode cX12_stateAt 40 = .ok (.bipush 12, 2) := by decide +kernel
theorem dX12_stateAt_42 : decode cX12_stateAt 42 = .ok (.aload_n 0, 1) := by decide +kernel
theorem dX12_stateAt_43 : decode cX12_stateAt 43 = .ok (.getfield 575, 3) := by decide +kernel
theorem dX12_stateAt_46 : decode cX12_stateAt 46 = .ok (.imul, 1) := by decide +kernel
theorem dX12_stateAt_47 : decode cX12_stateAt 47 = .ok (.iadd, 1) := by decide +kernel
theorem dX12_stateAt_48 : decode cX12_stateAt 48 = .ok (.iload_n 1, 1) := by decide +kernel
theorem dX12_stateAt_49 : decode cX12_stateAt 49 = .ok (.iadd, 1) := by decide +kernel
theorem dX12_stateAt_50 : decode cX12_stateAt 50 = .ok (.ireturn, 1) := by decide +kernel
set_option maxHeartbeats 4000000 in
set_option maxRecDepth 20000 in
theorem c_X12_stateAt (d : Nat) {b : Nat} {σ : MS} {n : Int} (hR : RG σ) (hit : ITM σ) (hpar : PAR σ) (hnam : NAM σ) (hrt : RTN σ) (hl : LAB σ) (hbo : BO 47 σ) (hbh : BO 48 σ) (hss : SSA σ) (hsc : SCA σ) (hgg : (0 ≤ σ.1 83 ∧ σ.1 83 < 27) ∧ (0 ≤ σ.2.1 78 (σ.1 83) ∧ σ.2.1 78 (σ.1 83) < σ.1 10) ∧ (0 ≤ σ.2.1 79 (σ.1 83) ∧ σ.2.1 79 (σ.1 83) ≤ 219) ∧ (0 ≤ σ.1 84 ∧ σ.1 84 < 12)) (hn : 0 ≤ n ∧ n < 12) : Tm (d + 6) m_X12_stateAt 0 b σ [(0, .ref b), (1, .int (iI n))] [] (fun ro σ2 => ∃ v : Int, ro = some (.int (iI v)) ∧ (Fr [] [46, 47, 48, 49, 50, 51, 52, 53, 54, 55, 56, 57, 58] [] σ σ2) ∧ (RG σ2) ∧ (LAB σ2) ∧ (BO 47 σ2) ∧ (BO 48 σ2) ∧ (SSA σ2) ∧ (SCA σ2) ∧ (0 ≤ v ∧ v < 190944)) := by
  have hrt1 := hrt.1
  have hri := hrt.2 (σ.2.1 78 (σ.1 83)) (by omega) (by omega)
  have hof := hri.2.1
  have q1 := hof.1
  refine tm_aload_n dX12_stateAt_0 rfl 0 rfl ?_
  refine tm_aload_n dX12_stateAt_1 rfl 0 rfl ?_
  refine tm_get (k := 78) (v := .ref (b + 1 + 49)) lay_12 dX12_stateAt_2 (by decide) fl12_167 rfl ?_
  refine tm_aload_n dX12_stateAt_5 rfl 0 rfl ?_
  refine tm_getS (k := 83) (t := σ.1 83) dX12_stateAt_6 (by decide) fl12_572 rfl (rfl) ?_
  have g1 := RG.s hR 83
  refine tm_iald (z := σ.1 83) (v := σ.2.1 78 (σ.1 83)) dX12_stateAt_9 (show mT[49]? = some (78, 0, 27) from rfl) (by omega) (by omega) (by decide) (rfl) ?_
  have g2 := RG.a hR 78 (σ.1 83)
  refine tm_callV (M := m_X12_stateAt) (pc := 10) (ix := 430) (M' := m_X12_findStates) (As := [.int (iI (σ.2.1 78 (σ.1 83)))]) (rest := []) dX12_stateAt_10 ok_X12_findStates im_X12_findStates se_X12_findStates ml12_430 np_X12_findStates rfl rfl (Nat.le_of_ble_eq_true rfl) (Nat.le_of_ble_eq_true rfl) rfl (c_X12_findStates (d) (σ := σ) (r := σ.2.1 78 (σ.1 83)) (F := σ.2.1 14 (σ.2.1 78 (σ.1 83))) (by omega) hR hit hpar hnam hri.2.2.1 (by omega) hof hri.2.2.2.1 hl hbo hbh hss hsc hri.2.2.2.2) (fun r3 σ4 hp => ?_)
  obtain ⟨rfl, f6, f7, f8, f9, f10, f11, f12⟩ := hp
  show Tm _ _ 13 b σ4 [(0, .ref b), (1, .int (iI n))] [] _
  have k2 := f8
  have k3 := f9
  have k4 := f10
  have k5 := f11
  have k6 := f12
  refine tm_sipush dX12_stateAt_13 (by decide) ?_
  refine tm_aload_n dX12_stateAt_16 rfl 0 rfl ?_
  refine tm_get (k := 78) (v := .ref (b + 1 + 49)) lay_12 dX12_stateAt_17 (by decide) fl12_167 rfl ?_
  refine tm_aload_n dX12_stateAt_20 rfl 0 rfl ?_
  refine tm_getS (k := 83) (t := σ.1 83) dX12_stateAt_21 (by decide) fl12_572 rfl (rs_F f6 (by decide) (rfl)) ?_
  have g13 := RG.s hR 83
  refine tm_iald (z := σ.1 83) (v := σ.2.1 78 (σ.1 83)) dX12_stateAt_24 (show mT[49]? = some (78, 0, 27) from rfl) (by omega) (by omega) (by decide) (ra_F f6 (by decide) (rfl)) ?_
  have g14 := RG.a hR 78 (σ.1 83)
  refine tm_imul dX12_stateAt_25 ?_
  refine tm_sipush dX12_stateAt_26 (by decide) ?_
  refine tm_aload_n dX12_stateAt_29 rfl 0 rfl ?_
  refine tm_get (k := 79) (v := .ref (b + 1 + 50)) lay_12 dX12_stateAt_30 (by decide) fl12_170 rfl ?_
  refine tm_aload_n dX12_stateAt_33 rfl 0 rfl ?_
  refine tm_getS (k := 83) (t := σ.1 83) dX12_stateAt_34 (by decide) fl12_572 rfl (rs_F f6 (by decide) (rfl)) ?_
  have g15 := RG.s hR 83
  refine tm_iald (z := σ.1 83) (v := σ.2.1 79 (σ.1 83)) dX12_stateAt_37 (show mT[50]? = some (79, 0, 27) from rfl) (by omega) (by omega) (by decide) (ra_F f6 (by decide) (rfl)) ?_
  have g16 := RG.a hR 79 (σ.1 83)
  refine tm_imul dX12_stateAt_38 ?_
  refine tm_iadd dX12_stateAt_39 ?_
  refine tm_bipush dX12_stateAt_40 (by decide) ?_
  refine tm_aload_n dX12_stateAt_42 rfl 0 rfl ?_
  refine tm_getS (k := 84) (t := σ.1 84) dX12_stateAt_43 (by decide) fl12_575 rfl (rs_F f6 (by decide) (rfl)) ?_
  have g17 := RG.s hR 84
  refine tm_imul dX12_stateAt_46 ?_
  refine tm_iadd dX12_stateAt_47 ?_
  refine tm_iload_n dX12_stateAt_48 rfl 1 rfl ?_
  refine tm_iadd dX12_stateAt_49 ?_
  exact tm_iret rfl dX12_stateAt_50 (⟨_, rfl, (Fr.rfl.trans (Fr.sub f6 (by decide) (by decide) (by decide))), f7, k2, k3, k4, k5, k6, by omega⟩)
