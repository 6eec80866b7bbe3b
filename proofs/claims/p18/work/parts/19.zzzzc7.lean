section
set_option maxHeartbeats 2000000 in
set_option maxRecDepth 20000 in
theorem f_X12_stateAt (d : Nat) {b : Nat} {σ : MS} {n : Int} (hR : RG σ) (hit : ITM σ) (hpar : PAR σ) (hnam : NAM σ) (hrt : RTN σ) (hl : LAB σ) (hbo : BO 47 σ) (hbh : BO 48 σ) (hss : SSA σ) (hsc : SCH σ) (hgg : (0 ≤ σ.1 83 ∧ σ.1 83 < 27) ∧ (0 ≤ σ.2.1 78 (σ.1 83) ∧ σ.2.1 78 (σ.1 83) < σ.1 10) ∧ (0 ≤ σ.2.1 79 (σ.1 83) ∧ σ.2.1 79 (σ.1 83) ≤ 219) ∧ (0 ≤ σ.1 84 ∧ σ.1 84 < 12)) (hn : 0 ≤ n ∧ n < 12) : Tm (d + 6) m_X12_stateAt 0 b σ [(0, .ref b), (1, .int (iI n))] [] (fun ro σ2 => ∃ v : Int, ro = some (.int (iI v)) ∧ (Fr [] [46, 47, 48, 49, 50, 51, 52, 53, 54, 55, 56, 57, 58] [] σ σ2) ∧ (RG σ2) ∧ (LAB σ2) ∧ (BO 47 σ2) ∧ (BO 48 σ2) ∧ (SSA σ2) ∧ (SCH σ2) ∧ (0 ≤ v ∧ v < 190944) ∧ (v = 31824 * σ.2.1 78 (σ.1 83) + 144 * σ.2.1 79 (σ.1 83) + 12 * σ.1 84 + n) ∧ (FSO σ σ2 (σ.2.1 78 (σ.1 83)))) := by
  have hrt1 := hrt.1
  have hri := hrt.2 (σ.2.1 78 (σ.1 83)) (by omega) (by omega)
  have hof := hri.2.1
  have q1 := hof.1
  refine tm_aload_n dX12_stateAt_0 rfl 0 rfl ?_
  refine tm_aload_n dX12_stateAt_1 rfl 0 rfl ?_
  refine tm_get (k := 78) (v := .ref (b + 1 + 49)) lay_12 dX12_stateAt_2 (by decide) fl12_167 rfl ?_
  refine tm_aload_n dX12_stateAt_5 rfl 0 rfl ?_
  refine tm_getS (k := 83) (t := σ.1 83) dX12_stateAt_6 (by decide) fl12_572 rfl (rfl) ?_
  have g1 := RG.s hR 83
  refine tm_iald (z := σ.1 83) (v := σ.2.1 78 (σ.1 83)) dX12_stateAt_9 (show mT[49]? = some (78, 0, 27) from rfl) (by omega) (by omega) (by decide) (rfl) ?_
  have g2 := RG.a hR 78 (σ.1 83)
  refine tm_callV (M := m_X12_stateAt) (pc := 10) (ix := 430) (M' := m_X12_findStates) (As := [.int (iI (σ.2.1 78 (σ.1 83)))]) (rest := []) dX12_stateAt_10 ok_X12_findStates im_X12_findStates se_X12_findStates ml12_430 np_X12_findStates rfl rfl (Nat.le_of_ble_eq_true rfl) (Nat.le_of_ble_eq_true rfl) rfl (f_X12_findStates (d) (σ := σ) (r := σ.2.1 78 (σ.1 83)) (F := σ.2.1 14 (σ.2.1 78 (σ.1 83))) (by omega) hR hit hpar hnam hri.2.2.1 (by omega) hof hri.2.2.2.1 hl hbo hbh hss hsc.1 hri.2.2.2.2 (hsc.2.2 _ (by omega) (by omega)) hsc.2.1.1 (fun z9 => (hsc.2.1.2 _ (by omega) (by omega) z9).2)) (fun r3 σ4 hp => ?_)
  obtain ⟨rfl, f6, f7, f8, f9, f10, f11, f12, f13⟩ := hp
  show Tm _ _ 13 b σ4 [(0, .ref b), (1, .int (iI n))] [] _
  have k2 := f8
  have k3 := f9
  have k4 := f10
  have k5 := f11
  have k6 := f12
  have k7 := f13
  have hrt6 := hrt.1
  refine tm_sipush dX12_stateAt_13 (by decide) ?_
  refine tm_aload_n dX12_stateAt_16 rfl 0 rfl ?_
  refine tm_get (k := 78) (v := .ref (b + 1 + 49)) lay_12 dX12_stateAt_17 (by decide) fl12_167 rfl ?_
  refine tm_aload_n dX12_stateAt_20 rfl 0 rfl ?_
  refine tm_getS (k := 83) (t := σ.1 83) dX12_stateAt_21 (by decide) fl12_572 rfl (rs_F f6 (by decide) (rfl)) ?_
  have g14 := RG.s hR 83
  refine tm_iald (z := σ.1 83) (v := σ.2.1 78 (σ.1 83)) dX12_stateAt_24 (show mT[49]? = some (78, 0, 27) from rfl) (by omega) (by omega) (by decide) (ra_F f6 (by decide) (rfl)) ?_
  have g15 := RG.a hR 78 (σ.1 83)
  refine tm_imul dX12_stateAt_25 ?_
  refine tm_sipush dX12_stateAt_26 (by decide) ?_
  refine tm_aload_n dX12_stateAt_29 rfl 0 rfl ?_
  refine tm_get (k := 79) (v := .ref (b + 1 + 50)) lay_12 dX12_stateAt_30 (by decide) fl12_170 rfl ?_
  refine tm_aload_n dX12_stateAt_33 rfl 0 rfl ?_
  refine tm_getS (k := 83) (t := σ.1 83) dX12_stateAt_34 (by decide) fl12_572 rfl (rs_F f6 (by decide) (rfl)) ?_
  have g16 := RG.s hR 83
  refine tm_iald (z := σ.1 83) (v := σ.2.1 79 (σ.1 83)) dX12_stateAt_37 (show mT[50]? = some (79, 0, 27) from rfl) (by omega) (by omega) (by decide) (ra_F f6 (by decide) (rfl)) ?_
  have g17 := RG.a hR 79 (σ.1 83)
  refine tm_imul dX12_stateAt_38 ?_
  refine tm_iadd dX12_stateAt_39 ?_
  refine tm_bipush dX12_stateAt_40 (by decide) ?_
  refine tm_aload_n dX12_stateAt_42 rfl 0 rfl ?_
  refine tm_getS (k := 84) (t := σ.1 84) dX12_stateAt_43 (by decide) fl12_575 rfl (rs_F f6 (by decide) (rfl)) ?_
  have g18 := RG.s hR 84
  refine tm_imul dX12_stateAt_46 ?_
  refine tm_iadd dX12_stateAt_47 ?_
  refine tm_iload_n dX12_stateAt_48 rfl 1 rfl ?_
  refine tm_iadd dX12_stateAt_49 ?_
  exact tm_iret rfl dX12_stateAt_50 (⟨_, rfl, (Fr.rfl.trans (Fr.sub f6 (by decide) (by decide) (by decide))), f7, k2, k3, k4, k5, ⟨k6, HSI.fso hsc.2.1 k7 hit (fun q => rv_fr f6 (by decide)) (f6.2.1 9 (by decide)) (fun q => bgT.fr f6 (by decide)) (f6.1 10 (by decide)) (by omega), hsc.2.2.fr f6 (by decide) (by decide)⟩, by omega, by omega, k7⟩)
def woD (R : Int → Int) (k a : Int) : Int := if k = 2 then R a else a
def wrD (R : Int → Int) (d : DT) : Int := if 2 < d.1 then wkd (d.1 - 2) (woD R d.2.1 d.2.2.1) (woD R d.2.2.2.1 d.2.2.2.2) else woD R d.2.1 d.2.2.1
set_option maxHeartbeats 2000000 in
set_option maxRecDepth 20000 in
theorem f_X12_stateWorth (d : Nat) {b : Nat} {σ : MS} {y : Int} (hR : RG σ) (hgc : 0 ≤ σ.1 83 ∧ σ.1 83 < 27) (hy : 0 ≤ y ∧ y < 190944) (hss : SSA σ) (hwr : σ.2.1 49 y ≤ 7) : Tm (d + 2) m_X12_stateWorth 0 b σ [(0, .ref b), (1, .int (iI y))] [] (fun ro σ2 => ∃ v : Int, ro = some (.int (iI v)) ∧ σ = σ2 ∧ (-2147483648 ≤ v ∧ v ≤ 2147483647) ∧ (v = wrD (fun g => σ.2.1 82 (192 * σ.1 83 + g)) (sDT σ y))) := by
  have q1 := hss y
  refine tm_aload_n dX12_stateWorth_0 rfl 0 rfl ?_
  refine tm_aload_n dX12_stateWorth_1 rfl 0 rfl ?_
  refine tm_getS (k := 83) (t := σ.1 83) dX12_stateWorth_2 (by decide) fl12_572 rfl (rfl) ?_
  have g1 := RG.s hR 83
  refine tm_aload_n dX12_stateWorth_5 rfl 0 rfl ?_
  refine tm_get (k := 50) (v := .ref (b + 1 + 28)) lay_12 dX12_stateWorth_6 (by decide) fl12_102 rfl ?_
  refine tm_iload_n dX12_stateWorth_9 rfl 1 rfl ?_
  refine tm_iald (z := y) (v := σ.2.1 50 y) dX12_stateWorth_10 (show mT[28]? = some (50, 0, 190944) from rfl) (by omega) (by omega) (by decide) (rfl) ?_
  have g2 := RG.a hR 50 (y)
  refine tm_aload_n dX12_stateWorth_11 rfl 0 rfl ?_
  refine tm_get (k := 51) (v := .ref (b + 1 + 29)) lay_12 dX12_stateWorth_12 (by decide) fl12_105 rfl ?_
  refine tm_iload_n dX12_stateWorth_15 rfl 1 rfl ?_
  refine tm_iald (z := y) (v := σ.2.1 51 y) dX12_stateWorth_16 (show mT[29]? = some (51, 0, 190944) from rfl) (by omega) (by omega) (by decide) (rfl) ?_
  have g3 := RG.a hR 51 (y)
  refine tm_callV (M := m_X12_stateWorth) (pc := 17) (ix := 545) (M' := m_X12_worth) (As := [.int (iI (σ.1 83)), .int (iI (σ.2.1 50 y)), .int (iI (σ.2.1 51 y))]) (rest := []) dX12_stateWorth_17 ok_X12_worth im_X12_worth se_X12_worth ml12_545 np_X12_worth rfl rfl (Nat.le_of_ble_eq_true rfl) (Nat.le_of_ble_eq_true rfl) rfl (f_X12_worth (d) (σ := σ) (c := σ.1 83) (k := σ.2.1 50 y) (w := σ.2.1 51 y) (fun q => by omega) hR (by omega) (by omega)) (fun r4 σ5 hp => ?_)
  obtain ⟨v6, rfl, rfl, f7, f8⟩ := hp
  show Tm _ _ 20 b σ [(0, .ref b), (1, .int (iI y))] [.int (iI v6)] _
  refine tm_istore_n (L' := [(2, .int (iI v6)), (0, .ref b), (1, .int (iI y))]) dX12_stateWorth_20 rfl (by decide) rfl ?_
  refine tm_aload_n dX12_stateWorth_21 rfl 1 rfl ?_
  refine tm_get (k := 49) (v := .ref (b + 1 + 27)) lay_12 dX12_stateWorth_22 (by decide) fl12_99 rfl ?_
  refine tm_iload_n dX12_stateWorth_25 rfl 2 rfl ?_
  refine tm_iald (z := y) (v := σ.2.1 49 y) dX12_stateWorth_26 (show mT[27]? = some (49, 0, 190944) from rfl) (by omega) (by omega) (by decide) (rfl) ?_
  have g9 := RG.a hR 49 (y)
  refine tm_iconst dX12_stateWorth_27 ?_
  refine tm_icmp_le (tgt := 66) dX12_stateWorth_28 (by decide) ⟨by omega, by omega⟩ ⟨by decide, by decide⟩ (fun h10 => ?_) (fun h10 => ?_)
  · refine tm_iload_n dX12_stateWorth_66 rfl 0 rfl ?_
    exact tm_iret rfl dX12_stateWorth_67 (⟨_, rfl, rfl, by omega, by
      unfold wrD sDT
      first | (rw [if_pos (by omega)]; subst_vars; rfl) | (rw [if_neg (by omega)]; subst_vars; rfl)⟩)
  · refine tm_aload_n dX12_stateWorth_31 rfl 1 rfl ?_
    refine tm_get (k := 49) (v := .ref (b + 1 + 27)) lay_12 dX12_stateWorth_32 (by decide) fl12_99 rfl ?_
    refine tm_iload_n dX12_stateWorth_35 rfl 2 rfl ?_
    refine tm_iald (z := y) (v := σ.2.1 49 y) dX12_stateWorth_36 (show mT[27]? = some (49, 0, 190944) from rfl) (by omega) (by omega) (by decide) (rfl) ?_
    have g11 := RG.a hR 49 (y)
    refine tm_iconst dX12_stateWorth_37 ?_
    refine tm_isub dX12_stateWorth_38 ?_
    refine tm_iload_n dX12_stateWorth_39 rfl 0 rfl ?_
    refine tm_aload_n dX12_stateWorth_40 rfl 1 rfl ?_
    refine tm_aload_n dX12_stateWorth_41 rfl 1 rfl ?_
    refine tm_getS (k := 83) (t := σ.1 83) dX12_stateWorth_42 (by decide) fl12_572 rfl (rfl) ?_
    have g12 := RG.s hR 83
    refine tm_aload_n dX12_stateWorth_45 rfl 1 rfl ?_
    refine tm_get (k := 52) (v := .ref (b + 1 + 30)) lay_12 dX12_stateWorth_46 (by decide) fl12_108 rfl ?_
    refine tm_iload_n dX12_stateWorth_49 rfl 2 rfl ?_
    refine tm_iald (z := y) (v := σ.2.1 52 y) dX12_stateWorth_50 (show mT[30]? = some (52, 0, 190944) from rfl) (by omega) (by omega) (by decide) (rfl) ?_
    have g13 := RG.a hR 52 (y)
    refine tm_aload_n dX12_stateWorth_51 rfl 1 rfl ?_
    refine tm_get (k := 53) (v := .ref (b + 1 + 31)) lay_12 dX12_stateWorth_52 (by decide) fl12_111 rfl ?_
    refine tm_iload_n dX12_stateWorth_55 rfl 2 rfl ?_
    refine tm_iald (z := y) (v := σ.2.1 53 y) dX12_stateWorth_56 (show mT[31]? = some (53, 0, 190944) from rfl) (by omega) (by omega) (by decide) (rfl) ?_
    have g14 := RG.a hR 53 (y)
    refine tm_callV (M := m_X12_stateWorth) (pc := 57) (ix := 545) (M' := m_X12_worth) (As := [.int (iI (σ.1 83)), .int (iI (σ.2.1 52 y)), .int (iI (σ.2.1 53 y))]) (rest := [.int (iI v6), .int (iI ((σ.2.1 49 y) - 2))]) dX12_stateWorth_57 ok_X12_worth im_X12_worth se_X12_worth ml12_545 np_X12_worth rfl rfl (Nat.le_of_ble_eq_true rfl) (Nat.le_of_ble_eq_true rfl) rfl (f_X12_worth (d) (σ := σ) (c := σ.1 83) (k := σ.2.1 52 y) (w := σ.2.1 53 y) (fun q => by omega) hR (by omega) (by omega)) (fun r15 σ16 hp => ?_)
    obtain ⟨v17, rfl, rfl, f18, f19⟩ := hp
    show Tm _ _ 60 b σ [(2, .int (iI v6)), (0, .ref b), (1, .int (iI y))] [.int (iI v17), .int (iI v6), .int (iI ((σ.2.1 49 y) - 2))] _
    refine tm_callS (M := m_X12_stateWorth) (pc := 60) (ix := 466) (M' := m_X12_worked) (As := [.int (iI ((σ.2.1 49 y) - 2)), .int (iI v6), .int (iI v17)]) (rest := []) dX12_stateWorth_60 ok_X12_worked stt_X12_worked ml12_466 np_X12_worked rfl (Nat.le_of_ble_eq_true rfl) (Nat.le_of_ble_eq_true rfl) rfl (f_X12_worked (d) (σ := σ) (k := (σ.2.1 49 y) - 2) (x := v6) (y := v17) (by omega) (by omega) (by omega) (by omega)) (fun r20 σ21 hp => ?_)
    obtain ⟨v22, rfl, rfl, f23, f24⟩ := hp
    show Tm _ _ 63 b σ [(2, .int (iI v6)), (0, .ref b), (1, .int (iI y))] [.int (iI v22)] _
    refine tm_goto (tgt := 67) dX12_stateWorth_63 (by decide) ?_
    exact tm_iret rfl dX12_stateWorth_67 (⟨_, rfl, rfl, by omega, by
      unfold wrD sDT
      first | (rw [if_pos (by omega)]; subst_vars; rfl) | (rw [if_neg (by omega)]; subst_vars; rfl)⟩)
end
