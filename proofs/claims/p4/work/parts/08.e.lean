theorem LEX.fr {ss ks js : List Nat} {σ τ : MS} {r : Int} (h : LEX σ r) (f : Fr ss ks js σ τ) (hk : ∀ k ∈ [3, 4, 9], k ∉ ks) : LEX τ r := by
  unfold LEX
  rw [f.q hk (k := 3) (by decide), f.q hk (k := 4) (by decide), f.q hk (k := 9) (by decide)]
  exact h

theorem fl12_95 : Cond.fieldLink RX12 95 (TX12 48).1 (TX12 48).2.1 (TX12 48).2.2.1 ∈ pWW := pw7 (List.mem_of_getElem? (i := 55) rfl) rfl
theorem dX12_findStates_0 : decode cX12_findStates 0 = .ok (.aload_n 0, 1) := by decide +kernel
theorem dX12_findStates_1 : decode cX12_findStates 1 = .ok (.getfield 95, 3) := by decide +kernel
theorem dX12_findStates_4 : decode cX12_findStates 4 = .ok (.iload_n 1, 1) := by decide +kernel
theorem dX12_findStates_5 : decode cX12_findStates 5 = .ok (.baload, 1) := by decide +kernel
theorem dX12_findStates_6 : decode cX12_findStates 6 = .ok (.ifCond .eq 4, 3) := by decide +kernel
theorem dX12_findStates_10 : decode cX12_findStates 10 = .ok (.aload_n 0, 1) := by decide +kernel
theorem dX12_findStates_11 : decode cX12_findStates 11 = .ok (.getfield 95, 3) := by decide +kernel
theorem dX12_findStates_14 : decode cX12_findStates 14 = .ok (.iload_n 1, 1) := by decide +kernel
theorem dX12_findStates_15 : decode cX12_findStates 15 = .ok (.iconst 1, 1) := by decide +kernel
theorem dX12_findStates_16 : decode cX12_findStates 16 = .ok (.bastore, 1) := by decide +kernel
theorem dX12_findStates_17 : decode cX12_findStates 17 = .ok (.aload_n 0, 1) := by decide +kernel
theorem dX12_findStates_18 : decode cX12_findStates 18 = .ok (.iload_n 1, 1) := by decide +kernel
theorem dX12_findStates_19 : decode cX12_findStates 19 = .ok (.invokevirtual 420, 3) := by decide +kernel
theorem dX12_findStates_22 : decode cX12_findStates 22 = .ok (.iconst 0, 1) := by decide +kernel
theorem dX12_findStates_23 : decode cX12_findStates 23 = .ok (.istore_n 2, 1) := by decide +kernel
theorem dX12_findStates_118 : decode cX12_findStates 118 = .ok (.iconst 0, 1) := by decide +kernel
theorem dX12_findStates_119 : decode cX12_findStates 119 = .ok (.istore_n 2, 1) := by decide +kernel
theorem dX12_findStates_217 : decode cX12_findStates 217 = .ok (.aload_n 0, 1) := by decide +kernel
theorem dX12_findStates_218 : decode cX12_findStates 218 = .ok (.iload_n 1, 1) := by decide +kernel
theorem dX12_findStates_219 : decode cX12_findStates 219 = .ok (.iconst 0, 1) := by decide +kernel
theorem dX12_findStates_220 : decode cX12_findStates 220 = .ok (.invokevirtual 423, 3) := by decide +kernel
theorem dX12_findStates_223 : decode cX12_findStates 223 = .ok (.istore_n 2, 1) := by decide +kernel
theorem dX12_findStates_318 : decode cX12_findStates 318 = .ok (.return_, 1) := by decide +kernel
theorem dX12_findStates_9 : decode cX12_findStates 9 = .ok (.return_, 1) := by decide +kernel
set_option maxHeartbeats 2000000 in
set_option maxRecDepth 20000 in
theorem c_X12_findStates (d : Nat) {b : Nat} {σ : MS} {r : Int} {F : Int} (hr : 0 ≤ r ∧ r < 6) (hR : RG σ) (hit : ITM σ) (hpar : PAR σ) (hnam : NAM σ) (hok : OKS σ F r) (hF12 : 1 ≤ F ∧ F ≤ 12) (hof : OKF σ r) (hf0 : FR0 σ r) (hl : LAB σ) (hbo : BO 47 σ) (hbh : BO 48 σ) (hss : SSA σ) (hsc : SCA σ) (hlex : LEX σ r) : Tm (d + 5) m_X12_findStates 0 b σ [(0, .ref b), (1, .int (iI r))] [] (fun ro σ2 => ro = none ∧ (Fr [] [46, 47, 48, 49, 50, 51, 52, 53, 54, 55, 56, 57, 58] [] σ σ2) ∧ (RG σ2) ∧ (LAB σ2) ∧ (BO 47 σ2) ∧ (BO 48 σ2) ∧ (SSA σ2) ∧ (SCA σ2)) := by
  have q1 := hit r (by omega) (by omega)
  have q2 := hpar r (by omega) (by omega)
  have q3 := hnam r (by omega) (by omega)
  have q4 := hof.1
  have q5 := (hof.2 0 (by omega) (by omega)).2
  unfold FR0 at hf0
  rw [hf0] at q5
  simp only [Int.mul_zero, Int.add_zero] at q5
  refine tm_aload_n dX12_findStates_0 rfl 0 rfl ?_
  refine tm_get (k := 48) (v := .ref (b + 1 + 26)) lay_12 dX12_findStates_1 (by decide) fl12_95 rfl ?_
  refine tm_iload_n dX12_findStates_4 rfl 1 rfl ?_
  refine tm_zald (z := r) (v := σ.2.1 48 r) dX12_findStates_5 (show mT[26]? = some (48, 2, 6) from rfl) (by omega) (by omega) (by decide) (rfl) ?_
  have g1 := RG.a hR 48 (r)
  have := hbh (r)
  refine tm_if_eq (tgt := 10) dX12_findStates_6 (by decide) ⟨by omega, by omega⟩ (fun h2 => ?_) (fun h2 => ?_)
  · refine tm_aload_n dX12_findStates_10 rfl 0 rfl ?_
    refine tm_get (k := 48) (v := .ref (b + 1 + 26)) lay_12 dX12_findStates_11 (by decide) fl12_95 rfl ?_
    refine tm_iload_n dX12_findStates_14 rfl 1 rfl ?_
    refine tm_iconst dX12_findStates_15 ?_
    refine tm_zast (z := r) (v := 1) dX12_findStates_16 (show mT[26]? = some (48, 2, 6) from rfl) (by omega) (by omega) (by decide) (by omega) ?_
    refine tm_aload_n dX12_findStates_17 rfl 0 rfl ?_
    refine tm_iload_n dX12_findStates_18 rfl 1 rfl ?_
    refine tm_callV (M := m_X12_findStates) (pc := 19) (ix := 420) (M' := m_X12_findLabels) (As := [.int (iI r)]) (rest := []) dX12_findStates_19 ok_X12_findLabels im_X12_findLabels se_X12_findLabels ml12_420 np_X12_findLabels rfl rfl (Nat.le_of_ble_eq_true rfl) (Nat.le_of_ble_eq_true rfl) rfl (c_X12_findLabels (d + 2) (σ := (sA 48 (r) (1) σ)) (r := r) (by omega) (hR.A (by omega)) (hit.fr (show Fr [] [48] [] σ (sA 48 (r) (1) σ) from (Fr.rfl.A (by decide))) (by decide)) (LBR.fr hok.jmp.lbr (show Fr [] [48] [] σ (sA 48 (r) (1) σ) from (Fr.rfl.A (by decide))) (by decide)) (hl.fr (show Fr [] [48] [] σ (sA 48 (r) (1) σ) from (Fr.rfl.A (by decide))) (by decide))) (fun r3 σ4 hp => ?_)
    obtain ⟨rfl, f6, f7, f8, f9⟩ := hp
    show Tm _ _ 22 b σ4 [(0, .ref b), (1, .int (iI r))] [] _
    have htg1 := LEX.tgt (hlex.fr (show Fr [] [48] [] σ (sA 48 (r) (1) σ) from (Fr.rfl.A (by decide))) (by decide)) f9 f6
    have hlab1 := f8
    refine tm_iconst dX12_findStates_22 ?_
    refine tm_istore_n (L' := [(2, .int (iI 0)), (0, .ref b), (1, .int (iI r))]) dX12_findStates_23 rfl (by decide) rfl ?_
    refine tm_sub [0, 1, 2] rfl (l_states1 (d + 4) (σ0 := σ4) (r := r) (by omega) f7 (by rw [((show Fr [] [46, 48] [] σ σ4 from ((Fr.rfl.A (by decide)).trans (Fr.sub f6 (by decide) (by decide) (by decide))))).2.1 9 (by decide)]; exact q1) (fun k17 σ18 F12 R13 f14 f15 f16 => ?_) _ (0) σ4 Fr.rfl f7 (by omega) (hbo.fr (show Fr [] [46, 48] [] σ σ4 from ((Fr.rfl.A (by decide)).trans (Fr.sub f6 (by decide) (by decide) (by decide)))) (by decide)) (hss.fr (show Fr [] [46, 48] [] σ σ4 from ((Fr.rfl.A (by decide)).trans (Fr.sub f6 (by decide) (by decide) (by decide)))) (by decide)) (fun j a c => by omega) rfl)
    show Tm _ _ 118 b σ18 [(2, .int (iI k17)), (0, .ref b), (1, .int (iI r))] [] _
    have hun1 : UNR σ18 r (σ.2.1 9 r) := by have h := f16; rw [((show Fr [] [46, 48] [] σ σ4 from ((Fr.rfl.A (by decide)).trans (Fr.sub f6 (by decide) (by decide) (by decide))))).2.1 9 (by decide)] at h; exact h
    have hbo1 := f14
    have hss1 := f15
    refine tm_iconst dX12_findStates_118 ?_
    refine tm_istore_n (L' := [(2, .int (iI 0)), (0, .ref b), (1, .int (iI r))]) dX12_findStates_119 rfl (by decide) rfl ?_
    refine tm_sub [0, 1, 2] rfl (l_states3 (d + 3) (σ0 := σ18) (r := r) (by omega) R13 (by rw [((show Fr [] [46, 47, 48, 49, 50, 51, 52, 53] [] σ σ18 from (((Fr.rfl.A (by decide)).trans (Fr.sub f6 (by decide) (by decide) (by decide))).trans (Fr.sub F12 (by decide) (by decide) (by decide))))).2.1 12 (by decide), ((show Fr [] [46, 47, 48, 49, 50, 51, 52, 53] [] σ σ18 from (((Fr.rfl.A (by decide)).trans (Fr.sub f6 (by decide) (by decide) (by decide))).trans (Fr.sub F12 (by decide) (by decide) (by decide))))).2.1 11 (by decide)]; omega) (by rw [((show Fr [] [46, 47, 48, 49, 50, 51, 52, 53] [] σ σ18 from (((Fr.rfl.A (by decide)).trans (Fr.sub f6 (by decide) (by decide) (by decide))).trans (Fr.sub F12 (by decide) (by decide) (by decide))))).2.1 12 (by decide), ((show Fr [] [46, 47, 48, 49, 50, 51, 52, 53] [] σ σ18 from (((Fr.rfl.A (by decide)).trans (Fr.sub f6 (by decide) (by decide) (by decide))).trans (Fr.sub F12 (by decide) (by decide) (by decide))))).2.1 18 (by decide)]; exact q5) (fun n124 σ25 F21 R22 f23 => ?_) _ (0) σ18 Fr.rfl R13 (by omega) (hsc.fr (show Fr [] [46, 47, 48, 49, 50, 51, 52, 53] [] σ σ18 from (((Fr.rfl.A (by decide)).trans (Fr.sub f6 (by decide) (by decide) (by decide))).trans (Fr.sub F12 (by decide) (by decide) (by decide)))) (by decide)) rfl)
    show Tm _ _ 217 b σ25 [(2, .int (iI n124)), (0, .ref b), (1, .int (iI r))] [] _
    have hun2 : UNR σ25 r (σ.2.1 9 r) := by unfold UNR; rw [F21.2.1 47 (by decide), F21.2.1 49 (by decide)]; exact hun1
    have hbo2 := hbo1.fr F21 (by decide)
    have hss2 := hss1.fr F21 (by decide)
    have hsc2 := f23
    refine tm_aload_n dX12_findStates_217 rfl 1 rfl ?_
    refine tm_iload_n dX12_findStates_218 rfl 2 rfl ?_
    refine tm_iconst dX12_findStates_219 ?_
    refine tm_callV (M := m_X12_findStates) (pc := 220) (ix := 423) (M' := m_X12_comes) (As := [.int (iI r), .int (iI 0)]) (rest := []) dX12_findStates_220 ok_X12_comes im_X12_comes se_X12_comes ml12_423 np_X12_comes rfl rfl (Nat.le_of_ble_eq_true rfl) (Nat.le_of_ble_eq_true rfl) rfl (c_X12_comes (d + 3) (σ := σ25) (r := r) (to := 0) (m := σ.2.1 9 r) (by omega) R22 hbo2 hsc2 hss2 (by omega) hun2) (fun r26 σ27 hp => ?_)
    obtain ⟨v28, rfl, f29, f30, f31, f32, f33, f34, f35, f36, f37⟩ := hp
    show Tm _ _ 223 b σ27 [(2, .int (iI n124)), (0, .ref b), (1, .int (iI r))] [.int (iI v28)] _
    have htg4 := ((htg1.fr F12 (by decide)).fr F21 (by decide)).fr f30 (by decide)
    have hsc4 := hsc2.fr f30 (by decide)
    have hk3_4 := f32
    have hk4_4 := f33
    have hk5_4 := f34
    refine tm_istore_n (L' := [(2, .int (iI v28)), (0, .ref b), (1, .int (iI r))]) dX12_findStates_223 rfl (by decide) rfl ?_
    refine tm_sub [0, 1, 2] rfl (l_states4 (d) (σ0 := σ27) (r := r) (F := F) (m := σ.2.1 9 r) hr f31 (hit.fr (show Fr [] [46, 47, 48, 49, 50, 51, 52, 53, 54, 55, 56, 57, 58] [] σ σ27 from (((((Fr.rfl.A (by decide)).trans (Fr.sub f6 (by decide) (by decide) (by decide))).trans (Fr.sub F12 (by decide) (by decide) (by decide))).trans (Fr.sub F21 (by decide) (by decide) (by decide))).trans (Fr.sub f30 (by decide) (by decide) (by decide)))) (by decide)) (hpar.fr (show Fr [] [46, 47, 48, 49, 50, 51, 52, 53, 54, 55, 56, 57, 58] [] σ σ27 from (((((Fr.rfl.A (by decide)).trans (Fr.sub f6 (by decide) (by decide) (by decide))).trans (Fr.sub F12 (by decide) (by decide) (by decide))).trans (Fr.sub F21 (by decide) (by decide) (by decide))).trans (Fr.sub f30 (by decide) (by decide) (by decide)))) (by decide)) (hok.fr (show Fr [] [46, 47, 48, 49, 50, 51, 52, 53, 54, 55, 56, 57, 58] [] σ σ27 from (((((Fr.rfl.A (by decide)).trans (Fr.sub f6 (by decide) (by decide) (by decide))).trans (Fr.sub F12 (by decide) (by decide) (by decide))).trans (Fr.sub F21 (by decide) (by decide) (by decide))).trans (Fr.sub f30 (by decide) (by decide) (by decide)))) (by decide)) hF12 htg4 (by rw [((show Fr [] [46, 47, 48, 49, 50, 51, 52, 53, 54, 55, 56, 57, 58] [] σ σ27 from (((((Fr.rfl.A (by decide)).trans (Fr.sub f6 (by decide) (by decide) (by decide))).trans (Fr.sub F12 (by decide) (by decide) (by decide))).trans (Fr.sub F21 (by decide) (by decide) (by decide))).trans (Fr.sub f30 (by decide) (by decide) (by decide))))).2.1 9 (by decide)]) (fun w45 σ46 F40 R41 f42 f43 f44 => ?_) _ (v28) σ27 Fr.rfl f31 (by omega) hk3_4 hk4_4 hsc4 hk5_4 rfl)
    show Tm _ _ 318 b σ46 [(2, .int (iI w45)), (0, .ref b), (1, .int (iI r))] [] _
    exact tm_vret rfl dX12_findStates_318 (⟨rfl, ((((((Fr.rfl.A (by decide)).trans (Fr.sub f6 (by decide) (by decide) (by decide))).trans (Fr.sub F12 (by decide) (by decide) (by decide))).trans (Fr.sub F21 (by decide) (by decide) (by decide))).trans (Fr.sub f30 (by decide) (by decide) (by decide))).trans (Fr.sub F40 (by decide) (by decide) (by decide))), R41, ((((LAB.fr hlab1 F12 (by decide)).fr F21 (by decide)).fr f30 (by decide)).fr F40 (by decide)), f42, (((((BO.A hbh (by omega)).fr f6 (by decide)).fr F12 (by decide)).fr F21 (by decide)).fr f30 (by decide)).fr F40 (by decide), f43, f44⟩)
  · exact tm_vret rfl dX12_findStates_9 (⟨rfl, Fr.rfl, hR, hl, hbo, hbh, hss, hsc⟩)
