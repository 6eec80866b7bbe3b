section
set_option maxHeartbeats 2000000 in
set_option maxRecDepth 20000 in
theorem f_X12_findStates (d : Nat) {b : Nat} {σ : MS} {r : Int} {F : Int} (hr : 0 ≤ r ∧ r < 6) (hR : RG σ) (hit : ITM σ) (hpar : PAR σ) (hnam : NAM σ) (hok : OKS σ F r) (hF12 : 1 ≤ F ∧ F ≤ 12) (hof : OKF σ r) (hf0 : FR0 σ r) (hl : LAB σ) (hbo : BO 47 σ) (hbh : BO 48 σ) (hss : SSA σ) (hsc : SCA σ) (hlex : LEX σ r) (hu : UNQ (rV σ r) (σ.2.1 9 r)) (hg4 : G14s σ) (hhs : σ.2.1 48 r = 1 → HSD σ r (rV σ r) (σ.2.1 9 r) (bgT σ r)) : Tm (d + 5) m_X12_findStates 0 b σ [(0, .ref b), (1, .int (iI r))] [] (fun ro σ2 => ro = none ∧ (Fr [] [46, 47, 48, 49, 50, 51, 52, 53, 54, 55, 56, 57, 58] [] σ σ2) ∧ (RG σ2) ∧ (LAB σ2) ∧ (BO 47 σ2) ∧ (BO 48 σ2) ∧ (SSA σ2) ∧ (SCA σ2) ∧ (FSO σ σ2 r)) := by
  have q1 := hit r (by omega) (by omega)
  have q2 := hpar r (by omega) (by omega)
  have q3 := hnam r (by omega) (by omega)
  have q4 := hof.1
  have q5 := (hof.2 0 (by omega) (by omega)).2
  unfold FR0 at hf0
  rw [hf0] at q5
  simp only [Int.mul_zero, Int.add_zero] at q5
  refine tm_aload_n dX12_findStates_0 rfl 0 rfl ?_
  refine tm_get (k := 48) (v := .ref (b + 1 + 26)) lay_12 dX12_findStates_1 (by decide) fl12_95 rfl ?_
  refine tm_iload_n dX12_findStates_4 rfl 1 rfl ?_
  refine tm_zald (z := r) (v := σ.2.1 48 r) dX12_findStates_5 (show mT[26]? = some (48, 2, 6) from rfl) (by omega) (by omega) (by decide) (rfl) ?_
  have g1 := RG.a hR 48 (r)
  have := hbh (r)
  refine tm_if_eq (tgt := 10) dX12_findStates_6 (by decide) ⟨by omega, by omega⟩ (fun h2 => ?_) (fun h2 => ?_)
  · refine tm_aload_n dX12_findStates_10 rfl 0 rfl ?_
    refine tm_get (k := 48) (v := .ref (b + 1 + 26)) lay_12 dX12_findStates_11 (by decide) fl12_95 rfl ?_
    refine tm_iload_n dX12_findStates_14 rfl 1 rfl ?_
    refine tm_iconst dX12_findStates_15 ?_
    refine tm_zast (z := r) (v := 1) dX12_findStates_16 (show mT[26]? = some (48, 2, 6) from rfl) (by omega) (by omega) (by decide) (by omega) ?_
    refine tm_aload_n dX12_findStates_17 rfl 0 rfl ?_
    refine tm_iload_n dX12_findStates_18 rfl 1 rfl ?_
    refine tm_callV (M := m_X12_findStates) (pc := 19) (ix := 420) (M' := m_X12_findLabels) (As := [.int (iI r)]) (rest := []) dX12_findStates_19 ok_X12_findLabels im_X12_findLabels se_X12_findLabels ml12_420 np_X12_findLabels rfl rfl (Nat.le_of_ble_eq_true rfl) (Nat.le_of_ble_eq_true rfl) rfl (c_X12_findLabels (d + 2) (σ := (sA 48 (r) (1) σ)) (r := r) (by omega) (hR.A (by omega)) (hit.fr (show Fr [] [48] [] σ (sA 48 (r) (1) σ) from (Fr.rfl.A (by decide))) (by decide)) (LBR.fr hok.jmp.lbr (show Fr [] [48] [] σ (sA 48 (r) (1) σ) from (Fr.rfl.A (by decide))) (by decide)) (hl.fr (show Fr [] [48] [] σ (sA 48 (r) (1) σ) from (Fr.rfl.A (by decide))) (by decide))) (fun r3 σ4 hp => ?_)
    obtain ⟨rfl, f6, f7, f8, f9⟩ := hp
    show Tm _ _ 22 b σ4 [(0, .ref b), (1, .int (iI r))] [] _
    have htg1 := LEX.tgt (hlex.fr (show Fr [] [48] [] σ (sA 48 (r) (1) σ) from (Fr.rfl.A (by decide))) (by decide)) f9 f6
    have hlab1 := f8
    have htd1 := LEX.tgd (hlex.fr (show Fr [] [48] [] σ (sA 48 (r) (1) σ) from (Fr.rfl.A (by decide))) (by decide)) f9 f6
    refine tm_iconst dX12_findStates_22 ?_
    refine tm_istore_n (L' := [(2, .int (iI 0)), (0, .ref b), (1, .int (iI r))]) dX12_findStates_23 rfl (by decide) rfl ?_
    refine tm_sub [0, 1, 2] rfl (f_states1 (d + 4) (σ0 := σ4) (r := r) (by omega) f7 (by rw [((show Fr [] [46, 48] [] σ σ4 from ((Fr.rfl.A (by decide)).trans (Fr.sub f6 (by decide) (by decide) (by decide))))).2.1 9 (by decide)]; exact q1) (fun k18 σ19 F12 R13 f14 f15 f16 f17 => ?_) _ (0) σ4 Fr.rfl f7 (by rw [((show Fr [] [46, 48] [] σ σ4 from ((Fr.rfl.A (by decide)).trans (Fr.sub f6 (by decide) (by decide) (by decide))))).2.1 9 (by decide)]; omega) (hbo.fr (show Fr [] [46, 48] [] σ σ4 from ((Fr.rfl.A (by decide)).trans (Fr.sub f6 (by decide) (by decide) (by decide)))) (by decide)) (hss.fr (show Fr [] [46, 48] [] σ σ4 from ((Fr.rfl.A (by decide)).trans (Fr.sub f6 (by decide) (by decide) (by decide)))) (by decide)) (fun j a c => by omega) (UN2.z (hg4.fr (show Fr [] [46, 48] [] σ σ4 from ((Fr.rfl.A (by decide)).trans (Fr.sub f6 (by decide) (by decide) (by decide)))) (by decide))) rfl)
    show Tm _ _ 118 b σ19 [(2, .int (iI k18)), (0, .ref b), (1, .int (iI r))] [] _
    have hun1 : UNR σ19 r (σ.2.1 9 r) := by have h := f16; rw [((show Fr [] [46, 48] [] σ σ4 from ((Fr.rfl.A (by decide)).trans (Fr.sub f6 (by decide) (by decide) (by decide))))).2.1 9 (by decide)] at h; exact h
    have hbo1 := f14
    have hss1 := f15
    have hu21 : UN2 σ4 σ19 r (σ.2.1 9 r + 1) := by have h := f17; rw [((show Fr [] [46, 48] [] σ σ4 from ((Fr.rfl.A (by decide)).trans (Fr.sub f6 (by decide) (by decide) (by decide))))).2.1 9 (by decide)] at h; exact h
    refine tm_iconst dX12_findStates_118 ?_
    refine tm_istore_n (L' := [(2, .int (iI 0)), (0, .ref b), (1, .int (iI r))]) dX12_findStates_119 rfl (by decide) rfl ?_
    refine tm_sub [0, 1, 2] rfl (f_states3 (d + 3) (σ0 := σ19) (r := r) (by omega) R13 (by rw [((show Fr [] [46, 47, 48, 49, 50, 51, 52, 53] [] σ σ19 from (((Fr.rfl.A (by decide)).trans (Fr.sub f6 (by decide) (by decide) (by decide))).trans (Fr.sub F12 (by decide) (by decide) (by decide))))).2.1 12 (by decide), ((show Fr [] [46, 47, 48, 49, 50, 51, 52, 53] [] σ σ19 from (((Fr.rfl.A (by decide)).trans (Fr.sub f6 (by decide) (by decide) (by decide))).trans (Fr.sub F12 (by decide) (by decide) (by decide))))).2.1 11 (by decide)]; omega) (by rw [((show Fr [] [46, 47, 48, 49, 50, 51, 52, 53] [] σ σ19 from (((Fr.rfl.A (by decide)).trans (Fr.sub f6 (by decide) (by decide) (by decide))).trans (Fr.sub F12 (by decide) (by decide) (by decide))))).2.1 12 (by decide), ((show Fr [] [46, 47, 48, 49, 50, 51, 52, 53] [] σ σ19 from (((Fr.rfl.A (by decide)).trans (Fr.sub f6 (by decide) (by decide) (by decide))).trans (Fr.sub F12 (by decide) (by decide) (by decide))))).2.1 18 (by decide)]; exact q5) (fun n126 σ27 F22 R23 f24 f25 => ?_) _ (0) σ19 Fr.rfl R13 (by omega) (hsc.fr (show Fr [] [46, 47, 48, 49, 50, 51, 52, 53] [] σ σ19 from (((Fr.rfl.A (by decide)).trans (Fr.sub f6 (by decide) (by decide) (by decide))).trans (Fr.sub F12 (by decide) (by decide) (by decide)))) (by decide)) (fun n a c => by omega) rfl)
    show Tm _ _ 217 b σ27 [(2, .int (iI n126)), (0, .ref b), (1, .int (iI r))] [] _
    have hun2 : UNR σ27 r (σ.2.1 9 r) := by unfold UNR; rw [F22.2.1 47 (by decide), F22.2.1 49 (by decide)]; exact hun1
    have hbo2 := hbo1.fr F22 (by decide)
    have hss2 := hss1.fr F22 (by decide)
    have hsc2 := f24
    have hu22 := hu21.fr F22 (by decide)
    have hbg2 : BG1 σ27 (bgT σ r) 144 := by have h := f25; rw [bgT.fr (show Fr [] [46, 47, 48, 49, 50, 51, 52, 53] [] σ σ19 from (((Fr.rfl.A (by decide)).trans (Fr.sub f6 (by decide) (by decide) (by decide))).trans (Fr.sub F12 (by decide) (by decide) (by decide)))) (by decide)] at h; exact h
    refine tm_aload_n dX12_findStates_217 rfl 1 rfl ?_
    refine tm_iload_n dX12_findStates_218 rfl 2 rfl ?_
    refine tm_iconst dX12_findStates_219 ?_
    refine tm_callV (M := m_X12_findStates) (pc := 220) (ix := 423) (M' := m_X12_comes) (As := [.int (iI r), .int (iI 0)]) (rest := []) dX12_findStates_220 ok_X12_comes im_X12_comes se_X12_comes ml12_423 np_X12_comes rfl rfl (Nat.le_of_ble_eq_true rfl) (Nat.le_of_ble_eq_true rfl) rfl (f_X12_comes (d + 3) (σ := σ27) (r := r) (to := 0) (m := σ.2.1 9 r) (by omega) R23 hbo2 hsc2 hss2 (by omega) hun2 hu22.2.2 hbg2.g14) (fun r28 σ29 hp => ?_)
    obtain ⟨v30, rfl, f31, f32, f33, f34, f35, f36, f37, f38, f39, f40⟩ := hp
    show Tm _ _ 223 b σ29 [(2, .int (iI n126)), (0, .ref b), (1, .int (iI r))] [.int (iI v30)] _
    have htg4 := ((htg1.fr F12 (by decide)).fr F22 (by decide)).fr f32 (by decide)
    have hsc4 := hsc2.fr f32 (by decide)
    have hk3_4 := f34
    have hk4_4 := f35
    have hk5_4 := f36
    have htd4 := ((htd1.fr F12 (by decide)).fr F22 (by decide)).fr f32 (by decide)
    have hfs := UN2.start (V := rV σ r) hu22 (by omega) hbg2 f40
    refine tm_istore_n (L' := [(2, .int (iI v30)), (0, .ref b), (1, .int (iI r))]) dX12_findStates_223 rfl (by decide) rfl ?_
    refine tm_sub [0, 1, 2] rfl (f_states4 (d) (σ0 := σ29) (r := r) (F := F) (m := σ.2.1 9 r) (V := (rV σ r)) (B := (bgT σ r)) (ρ := σ4) hr f33 (hit.fr (show Fr [] [46, 47, 48, 49, 50, 51, 52, 53, 54, 55, 56, 57, 58] [] σ σ29 from (((((Fr.rfl.A (by decide)).trans (Fr.sub f6 (by decide) (by decide) (by decide))).trans (Fr.sub F12 (by decide) (by decide) (by decide))).trans (Fr.sub F22 (by decide) (by decide) (by decide))).trans (Fr.sub f32 (by decide) (by decide) (by decide)))) (by decide)) (hpar.fr (show Fr [] [46, 47, 48, 49, 50, 51, 52, 53, 54, 55, 56, 57, 58] [] σ σ29 from (((((Fr.rfl.A (by decide)).trans (Fr.sub f6 (by decide) (by decide) (by decide))).trans (Fr.sub F12 (by decide) (by decide) (by decide))).trans (Fr.sub F22 (by decide) (by decide) (by decide))).trans (Fr.sub f32 (by decide) (by decide) (by decide)))) (by decide)) (hok.fr (show Fr [] [46, 47, 48, 49, 50, 51, 52, 53, 54, 55, 56, 57, 58] [] σ σ29 from (((((Fr.rfl.A (by decide)).trans (Fr.sub f6 (by decide) (by decide) (by decide))).trans (Fr.sub F12 (by decide) (by decide) (by decide))).trans (Fr.sub F22 (by decide) (by decide) (by decide))).trans (Fr.sub f32 (by decide) (by decide) (by decide)))) (by decide)) hF12 htg4 (by rw [((show Fr [] [46, 47, 48, 49, 50, 51, 52, 53, 54, 55, 56, 57, 58] [] σ σ29 from (((((Fr.rfl.A (by decide)).trans (Fr.sub f6 (by decide) (by decide) (by decide))).trans (Fr.sub F12 (by decide) (by decide) (by decide))).trans (Fr.sub F22 (by decide) (by decide) (by decide))).trans (Fr.sub f32 (by decide) (by decide) (by decide))))).2.1 9 (by decide)]) htd4 (rv_fr (show Fr [] [46, 47, 48, 49, 50, 51, 52, 53, 54, 55, 56, 57, 58] [] σ σ29 from (((((Fr.rfl.A (by decide)).trans (Fr.sub f6 (by decide) (by decide) (by decide))).trans (Fr.sub F12 (by decide) (by decide) (by decide))).trans (Fr.sub F22 (by decide) (by decide) (by decide))).trans (Fr.sub f32 (by decide) (by decide) (by decide)))) (by decide)).symm hu (fun w50 σ51 F43 R44 f45 f46 f47 f48 f49 => ?_) _ (v30) σ29 Fr.rfl f33 (by omega) hk3_4 hk4_4 hsc4 hk5_4 hfs.1 (fun e => absurd e hfs.2) rfl)
    show Tm _ _ 318 b σ51 [(2, .int (iI w50)), (0, .ref b), (1, .int (iI r))] [] _
    exact tm_vret rfl dX12_findStates_318 (⟨rfl, ((((((Fr.rfl.A (by decide)).trans (Fr.sub f6 (by decide) (by decide) (by decide))).trans (Fr.sub F12 (by decide) (by decide) (by decide))).trans (Fr.sub F22 (by decide) (by decide) (by decide))).trans (Fr.sub f32 (by decide) (by decide) (by decide))).trans (Fr.sub F43 (by decide) (by decide) (by decide))), R44, ((((LAB.fr hlab1 F12 (by decide)).fr F22 (by decide)).fr f32 (by decide)).fr F43 (by decide)), f45, (((((BO.A hbh (by omega)).fr f6 (by decide)).fr F12 (by decide)).fr F22 (by decide)).fr f32 (by decide)).fr F43 (by decide), f46, f47, FSI.fin f48 f49, fun y q => (f48.2.2.1 y q).trans (sDT.fr (show Fr [] [46, 48] [] σ σ4 from ((Fr.rfl.A (by decide)).trans (Fr.sub f6 (by decide) (by decide) (by decide)))) (by decide)), f48.2.2.2, by
      have h48 : σ51.2.1 48 = (sA 48 (r) (1) σ).2.1 48 := by rw [F43.2.1 48 (by decide), f32.2.1 48 (by decide), F22.2.1 48 (by decide), F12.2.1 48 (by decide), f6.2.1 48 (by decide)]
      rw [h48]; exact ra_eq, fun q z => by
      have h48 : σ51.2.1 48 = (sA 48 (r) (1) σ).2.1 48 := by rw [F43.2.1 48 (by decide), f32.2.1 48 (by decide), F22.2.1 48 (by decide), F12.2.1 48 (by decide), f6.2.1 48 (by decide)]
      rw [h48]; exact ra_ne z rfl⟩)
  · exact tm_vret rfl dX12_findStates_9 (⟨rfl, Fr.rfl, hR, hl, hbo, hbh, hss, hsc, hhs (by omega), fun _ _ => rfl, hg4, by omega, fun _ _ => rfl⟩)
end
