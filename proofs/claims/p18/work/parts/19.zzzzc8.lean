section
set_option maxHeartbeats 2000000 in
set_option maxRecDepth 20000 in
theorem f_X12_known (d : Nat) {b : Nat} {σ : MS} {k : Int} {n : Int} (hR : RG σ) (hit : ITM σ) (hpar : PAR σ) (hnam : NAM σ) (hrt : RTN σ) (hrn : σ.1 67 ≠ 0 → σ.1 68 = 0 → RUD σ 0 ∧ ∀ c, 0 ≤ c → c < σ.2.1 73 0 → (0 ≤ σ.2.1 78 c ∧ σ.2.1 78 c < σ.1 10) ∧ (0 ≤ σ.2.1 79 c ∧ σ.2.1 79 c ≤ 219)) (hrp : σ.1 67 ≠ 0 → σ.1 68 = 0 → ∀ c, 0 ≤ c → c < σ.2.1 73 0 → σ.2.1 79 c ≤ σ.2.1 9 (σ.2.1 78 c)) (hl : LAB σ) (hbo : BO 47 σ) (hbh : BO 48 σ) (hss : SSA σ) (hsc : SCH σ) (h_k : -2147483648 ≤ k ∧ k ≤ 2147483647) (h_n : -2147483648 ≤ n ∧ n ≤ 2147483647) : Tm (d + 7) m_X12_known 0 b σ [(0, .ref b), (1, .int (iI k)), (2, .int (iI n))] [] (fun ro σ2 => ∃ v : Int, ro = some (.int (iI v)) ∧ (Fr [0, 83, 84] [46, 47, 48, 49, 50, 51, 52, 53, 54, 55, 56, 57, 58] [] σ σ2) ∧ (RG σ2) ∧ (LAB σ2) ∧ (BO 47 σ2) ∧ (BO 48 σ2) ∧ (SSA σ2) ∧ (SCH σ2) ∧ (KNR σ k n v)) := by
  refine tm_aload_n dX12_known_0 rfl 0 rfl ?_
  refine tm_iconst dX12_known_1 ?_
  refine tm_putS (k := 0) (v := 0) lay_12 dX12_known_2 (by decide) fl12_185 rfl (tyX12_ok 0 (by decide)) rfl rfl rfl ?_
  refine tm_aload_n dX12_known_5 rfl 0 rfl ?_
  refine tm_iload_n dX12_known_6 rfl 1 rfl ?_
  refine tm_callV (M := m_X12_known) (pc := 7) (ix := 581) (M' := m_X12_isStack) (As := [.int (iI k)]) (rest := []) dX12_known_7 ok_X12_isStack im_X12_isStack se_X12_isStack ml12_581 np_X12_isStack rfl rfl (Nat.le_of_ble_eq_true rfl) (Nat.le_of_ble_eq_true rfl) rfl (f_X12_isStack (d + 4) (σ := (sS 0 0 σ)) (k := k) (hR.S (by omega)) (fun a c => (hrn a c).1) (by omega)) (fun r1 σ2 hp => ?_)
  obtain ⟨v3, rfl, f4, f5, f6, f7, f8⟩ := hp
  show Tm _ _ 10 b σ2 [(0, .ref b), (1, .int (iI k)), (2, .int (iI n))] [.int (iI v3)] _
  refine tm_if_eq (tgt := 33) dX12_known_10 (by decide) ⟨by omega, by omega⟩ (fun h10 => ?_) (fun h10 => ?_)
  · refine tm_iconst dX12_known_33 ?_
    exact tm_iret rfl dX12_known_34 (⟨_, rfl, ((Fr.rfl.S (by decide)).trans (Fr.sub f5 (by decide) (by decide) (by decide))), f6, hl.fr (show Fr [0, 83, 84] [] [] σ σ2 from ((Fr.rfl.S (by decide)).trans (Fr.sub f5 (by decide) (by decide) (by decide)))) (by decide), hbo.fr (show Fr [0, 83, 84] [] [] σ σ2 from ((Fr.rfl.S (by decide)).trans (Fr.sub f5 (by decide) (by decide) (by decide)))) (by decide), hbh.fr (show Fr [0, 83, 84] [] [] σ σ2 from ((Fr.rfl.S (by decide)).trans (Fr.sub f5 (by decide) (by decide) (by decide)))) (by decide), hss.fr (show Fr [0, 83, 84] [] [] σ σ2 from ((Fr.rfl.S (by decide)).trans (Fr.sub f5 (by decide) (by decide) (by decide)))) (by decide), hsc.fr (show Fr [0, 83, 84] [] [] σ σ2 from ((Fr.rfl.S (by decide)).trans (Fr.sub f5 (by decide) (by decide) (by decide)))) (by decide), Or.inl ⟨rfl, ISK.no f8.s0 (by omega)⟩⟩)
  · have hq := f7 (by omega)
    have hrr := hrn hq.1 hq.2.1
    have e73 : (sS 0 0 σ).2.1 73 0 = σ.2.1 73 0 := rfl
    have hmc := hrr.1.1
    have hfn : fn (sS 0 0 σ) 0 (σ2.1 83) = σ.2.1 14 (σ.2.1 78 (σ2.1 83)) := if_neg (by decide)
    have hc := hrr.2 (σ2.1 83) (by omega) (by omega)
    have hrt1 := hrt.1
    have hri := hrt.2 (σ.2.1 78 (σ2.1 83)) (by omega) (by omega)
    have hof := hri.2.1
    have q1 := hof.1
    have q2 := (hof.2 (σ2.1 84) (by omega) (by omega)).1
    have q3 := hnam _ q2.1 q2.2
    have j78 : σ2.2.1 78 = σ.2.1 78 := f5.2.1 78 (by decide)
    have j15 : σ2.2.1 15 = σ.2.1 15 := f5.2.1 15 (by decide)
    have j79 : σ2.2.1 79 = σ.2.1 79 := f5.2.1 79 (by decide)
    have j10 : σ2.1 10 = σ.1 10 := f5.1 10 (by decide)
    have hsk : _ ∧ FNDS σ 0 k (σ2.1 83) (σ2.1 84) := ISK.one f8.s0 (by omega)
    have j81 : σ2.2.1 81 = σ.2.1 81 := f5.2.1 81 (by decide)
    have j12 : σ2.2.1 12 = σ.2.1 12 := f5.2.1 12 (by decide)
    have hrp1 := hrp hq.1 hq.2.1 (σ2.1 83) (by omega) (by omega)
    refine tm_iload_n dX12_known_13 rfl 2 rfl ?_
    refine tm_iconst dX12_known_14 ?_
    refine tm_aload_n dX12_known_15 rfl 0 rfl ?_
    refine tm_get (k := 12) (v := .ref (b + 1 + 9)) lay_12 dX12_known_16 (by decide) fl12_38 rfl ?_
    refine tm_aload_n dX12_known_19 rfl 0 rfl ?_
    refine tm_iconst dX12_known_20 ?_
    refine tm_callV (M := m_X12_known) (pc := 21) (ix := 584) (M' := m_X12_routineIn) (As := [.int (iI 0)]) (rest := [.ref (b + 1 + 9), .int (iI 0), .int (iI n)]) dX12_known_21 ok_X12_routineIn im_X12_routineIn se_X12_routineIn ml12_584 np_X12_routineIn rfl rfl (Nat.le_of_ble_eq_true rfl) (Nat.le_of_ble_eq_true rfl) rfl (c_X12_routineIn (d + 5) (σ := σ2) (m := 0) f6 (by omega) (fun _ => by rw [j78]; omega) (by omega)) (fun r11 σ12 hp => ?_)
    obtain ⟨v13, rfl, rfl, f14, f15⟩ := hp
    show Tm _ _ 24 b σ2 [(0, .ref b), (1, .int (iI k)), (2, .int (iI n))] [.int (iI v13), .ref (b + 1 + 9), .int (iI 0), .int (iI n)] _
    have hv := f15 (by decide)
    rw [j78, j15] at hv
    have q5 := hnam v13 (by omega) (by omega)
    refine tm_iald (z := v13) (v := σ.2.1 12 v13) dX12_known_24 (show mT[9]? = some (12, 0, 6) from rfl) (by omega) (by omega) (by decide) (ra_F f5 (by decide) (ra_S (rfl))) ?_
    have g16 := RG.a hR 12 (v13)
    refine tm_iconst dX12_known_25 ?_
    refine tm_isub dX12_known_26 ?_
    refine tm_callS (M := m_X12_known) (pc := 27) (ix := 188) (M' := m_X12_in) (As := [.int (iI n), .int (iI 0), .int (iI ((σ.2.1 12 v13) - 1))]) (rest := []) dX12_known_27 ok_X12_in stt_X12_in ml12_188 np_X12_in rfl (Nat.le_of_ble_eq_true rfl) (Nat.le_of_ble_eq_true rfl) rfl (c_X12_in (d + 5) (σ := σ2) (x := n) (lo := 0) (hi := (σ.2.1 12 v13) - 1) (by omega) (by omega) (by omega)) (fun r17 σ18 hp => ?_)
    obtain ⟨v19, rfl, rfl, f20, f21⟩ := hp
    show Tm _ _ 30 b σ2 [(0, .ref b), (1, .int (iI k)), (2, .int (iI n))] [.int (iI v19)] _
    refine tm_if_ne (tgt := 35) dX12_known_30 (by decide) ⟨by omega, by omega⟩ (fun h22 => ?_) (fun h22 => ?_)
    · refine tm_aload_n dX12_known_35 rfl 0 rfl ?_
      refine tm_iload_n dX12_known_36 rfl 2 rfl ?_
      refine tm_callV (M := m_X12_known) (pc := 37) (ix := 587) (M' := m_X12_stateAt) (As := [.int (iI n)]) (rest := []) dX12_known_37 ok_X12_stateAt im_X12_stateAt se_X12_stateAt ml12_587 np_X12_stateAt rfl rfl (Nat.le_of_ble_eq_true rfl) (Nat.le_of_ble_eq_true rfl) rfl (f_X12_stateAt (d) (σ := σ2) (n := n) f6 (hit.fr (show Fr [0, 83, 84] [] [] σ σ2 from ((Fr.rfl.S (by decide)).trans (Fr.sub f5 (by decide) (by decide) (by decide)))) (by decide)) (hpar.fr (show Fr [0, 83, 84] [] [] σ σ2 from ((Fr.rfl.S (by decide)).trans (Fr.sub f5 (by decide) (by decide) (by decide)))) (by decide)) (hnam.fr (show Fr [0, 83, 84] [] [] σ σ2 from ((Fr.rfl.S (by decide)).trans (Fr.sub f5 (by decide) (by decide) (by decide)))) (by decide)) (RTN.fr hrt (show Fr [0, 83, 84] [] [] σ σ2 from ((Fr.rfl.S (by decide)).trans (Fr.sub f5 (by decide) (by decide) (by decide)))) (by decide) (by decide)) (hl.fr (show Fr [0, 83, 84] [] [] σ σ2 from ((Fr.rfl.S (by decide)).trans (Fr.sub f5 (by decide) (by decide) (by decide)))) (by decide)) (hbo.fr (show Fr [0, 83, 84] [] [] σ σ2 from ((Fr.rfl.S (by decide)).trans (Fr.sub f5 (by decide) (by decide) (by decide)))) (by decide)) (hbh.fr (show Fr [0, 83, 84] [] [] σ σ2 from ((Fr.rfl.S (by decide)).trans (Fr.sub f5 (by decide) (by decide) (by decide)))) (by decide)) (hss.fr (show Fr [0, 83, 84] [] [] σ σ2 from ((Fr.rfl.S (by decide)).trans (Fr.sub f5 (by decide) (by decide) (by decide)))) (by decide)) (hsc.fr (show Fr [0, 83, 84] [] [] σ σ2 from ((Fr.rfl.S (by decide)).trans (Fr.sub f5 (by decide) (by decide) (by decide)))) (by decide)) (by rw [j78, j79, j10]; omega) (by omega)) (fun r23 σ24 hp => ?_)
      obtain ⟨v25, rfl, f26, f27, f28, f29, f30, f31, f32, f33, f34, f35⟩ := hp
      show Tm _ _ 40 b σ24 [(0, .ref b), (1, .int (iI k)), (2, .int (iI n))] [.int (iI v25)] _
      have k2 := f28
      have k3 := f29
      have k4 := f30
      have k5 := f31
      have k6 := f32
      have k7 := f33
      have k8 := f34
      have k9 := f35
      rw [j78, j79] at k8
      rw [j78] at k9
      have g83 : σ24.1 83 = σ2.1 83 := f26.1 83 (by decide)
      refine tm_istore_n (L' := [(3, .int (iI v25)), (0, .ref b), (1, .int (iI k)), (2, .int (iI n))]) dX12_known_40 rfl (by decide) rfl ?_
      refine tm_aload_n dX12_known_41 rfl 1 rfl ?_
      refine tm_get (k := 49) (v := .ref (b + 1 + 27)) lay_12 dX12_known_42 (by decide) fl12_99 rfl ?_
      refine tm_iload_n dX12_known_45 rfl 0 rfl ?_
      refine tm_iald (z := v25) (v := σ24.2.1 49 v25) dX12_known_46 (show mT[27]? = some (49, 0, 190944) from rfl) (by omega) (by omega) (by decide) (rfl) ?_
      have g36 := RG.a f27 49 (v25)
      refine tm_bipush dX12_known_47 (by decide) ?_
      refine tm_icmp_ge (tgt := 56) dX12_known_49 (by decide) ⟨by omega, by omega⟩ ⟨by decide, by decide⟩ (fun h37 => ?_) (fun h37 => ?_)
      · refine tm_aload_n dX12_known_56 rfl 1 rfl ?_
        refine tm_get (k := 49) (v := .ref (b + 1 + 27)) lay_12 dX12_known_57 (by decide) fl12_99 rfl ?_
        refine tm_iload_n dX12_known_60 rfl 0 rfl ?_
        refine tm_iald (z := v25) (v := σ24.2.1 49 v25) dX12_known_61 (show mT[27]? = some (49, 0, 190944) from rfl) (by omega) (by omega) (by decide) (rfl) ?_
        have g38 := RG.a f27 49 (v25)
        exact tm_iret rfl dX12_known_62 (⟨_, rfl, (((Fr.rfl.S (by decide)).trans (Fr.sub f5 (by decide) (by decide) (by decide))).trans (Fr.sub f26 (by decide) (by decide) (by decide))), f27, k2, k3, k4, k5, k6, Or.inr ⟨hsk.1, _, _, hsk.2, Or.inr ⟨by rw [← hv]; omega, _, TLD.mk (y := v25) k9 (show Fr [0, 83, 84] [] [] σ σ2 from ((Fr.rfl.S (by decide)).trans (Fr.sub f5 (by decide) (by decide) (by decide)))) (by decide) (by omega) (by omega) (by omega) hrp1 (by omega), (if_neg (show ¬ σ24.2.1 49 (v25) < 10 by omega)).symm⟩⟩⟩)
      · refine tm_iconst dX12_known_52 ?_
        refine tm_goto (tgt := 62) dX12_known_53 (by decide) ?_
        exact tm_iret rfl dX12_known_62 (⟨_, rfl, (((Fr.rfl.S (by decide)).trans (Fr.sub f5 (by decide) (by decide) (by decide))).trans (Fr.sub f26 (by decide) (by decide) (by decide))), f27, k2, k3, k4, k5, k6, Or.inr ⟨hsk.1, _, _, hsk.2, Or.inr ⟨by rw [← hv]; omega, _, TLD.mk (y := v25) k9 (show Fr [0, 83, 84] [] [] σ σ2 from ((Fr.rfl.S (by decide)).trans (Fr.sub f5 (by decide) (by decide) (by decide)))) (by decide) (by omega) (by omega) (by omega) hrp1 (by omega), (if_pos (show σ24.2.1 49 (v25) < 10 by omega)).symm⟩⟩⟩)
    · refine tm_iconst dX12_known_33 ?_
      exact tm_iret rfl dX12_known_34 (⟨_, rfl, ((Fr.rfl.S (by decide)).trans (Fr.sub f5 (by decide) (by decide) (by decide))), f6, hl.fr (show Fr [0, 83, 84] [] [] σ σ2 from ((Fr.rfl.S (by decide)).trans (Fr.sub f5 (by decide) (by decide) (by decide)))) (by decide), hbo.fr (show Fr [0, 83, 84] [] [] σ σ2 from ((Fr.rfl.S (by decide)).trans (Fr.sub f5 (by decide) (by decide) (by decide)))) (by decide), hbh.fr (show Fr [0, 83, 84] [] [] σ σ2 from ((Fr.rfl.S (by decide)).trans (Fr.sub f5 (by decide) (by decide) (by decide)))) (by decide), hss.fr (show Fr [0, 83, 84] [] [] σ σ2 from ((Fr.rfl.S (by decide)).trans (Fr.sub f5 (by decide) (by decide) (by decide)))) (by decide), hsc.fr (show Fr [0, 83, 84] [] [] σ σ2 from ((Fr.rfl.S (by decide)).trans (Fr.sub f5 (by decide) (by decide) (by decide)))) (by decide), Or.inr ⟨hsk.1, _, _, hsk.2, Or.inl ⟨rfl, by rw [← hv]; omega⟩⟩⟩)
end
