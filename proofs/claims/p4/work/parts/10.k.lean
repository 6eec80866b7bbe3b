theorem RTN.fr {ss ks js : List Nat} {σ τ : MS} (h : RTN σ) (f : Fr ss ks js σ τ) (hs : 10 ∉ ss) (hk : ∀ k ∈ [3, 4, 5, 6, 7, 8, 9, 11, 12, 14, 15, 18], k ∉ ks) : RTN τ := by
  have sub : ∀ l : List Nat, (∀ k ∈ l, k ∈ [3, 4, 5, 6, 7, 8, 9, 11, 12, 14, 15, 18]) → ∀ k ∈ l, k ∉ ks := fun l hl k q => hk k (hl k q)
  refine ⟨by rw [f.1 10 hs]; exact h.1, fun r a b => ?_⟩
  rw [f.1 10 hs] at b
  obtain ⟨h1, h2, h3, h4, h5⟩ := h.2 r a b
  refine ⟨by rw [f.2.1 9 (hk 9 (by decide))]; exact h1, h2.fr f (sub _ (by decide)), ?_, ?_, h5.fr f (sub _ (by decide))⟩
  · rw [f.2.1 14 (hk 14 (by decide))]; exact h3.fr f (sub _ (by decide))
  · unfold FR0; rw [f.2.1 15 (hk 15 (by decide))]; exact h4

theorem ml12_587 : Cond.methodLink RX12 587 yX12_stateAt ∈ pWW := pw10 (List.mem_of_getElem? (i := 57) rfl) rfl
theorem dX12_known_0 : decode cX12_known 0 = .ok (.aload_n 0, 1) := by decide +kernel
theorem dX12_known_1 : decode cX12_known 1 = .ok (.iconst 0, 1) := by decide +kernel
theorem dX12_known_2 : decode cX12_known 2 = .ok (.putfield 185, 3) := by decide +kernel
theorem dX12_known_5 : decode cX12_known 5 = .ok (.aload_n 0, 1) := by decide +kernel
theorem dX12_known_6 : decode cX12_known 6 = .ok (.iload_n 1, 1) := by decide +kernel
theorem dX12_known_7 : decode cX12_known 7 = .ok (.invokevirtual 581, 3) := by decide +kernel
theorem dX12_known_10 : decode cX12_known 10 = .ok (.ifCond .eq 23, 3) := by decide +kernel
theorem dX12_known_33 : decode cX12_known 33 = .ok (.iconst (-1), 1) := by decide +kernel
theorem dX12_known_34 : decode cX12_known 34 = .ok (.ireturn, 1) := by decide +kernel
theorem dX12_known_13 : decode cX12_known 13 = .ok (.iload_n 2, 1) := by decide +kernel
theorem dX12_known_14 : decode cX12_known 14 = .ok (.iconst 0, 1) := by decide +kernel
theorem dX12_known_15 : decode cX12_known 15 = .ok (.aload_n 0, 1) := by decide +kernel
theorem dX12_known_16 : decode cX12_known 16 = .ok (.getfield 38, 3) := by decide +kernel
theorem dX12_known_19 : decode cX12_known 19 = .ok (.aload_n 0, 1) := by decide +kernel
theorem dX12_known_20 : decode cX12_known 20 = .ok (.iconst 0, 1) := by decide +kernel
theorem dX12_known_21 : decode cX12_known 21 = .ok (.invokevirtual 584, 3) := by decide +kernel
theorem dX12_known_24 : decode cX12_known 24 = .ok (.iaload, 1) := by decide +kernel
theorem dX12_known_25 : decode cX12_known 25 = .ok (.iconst 1, 1) := by decide +kernel
theorem dX12_known_26 : decode cX12_known 26 = .ok (.isub, 1) := by decide +kernel
theorem dX12_known_27 : decode cX12_known 27 = .ok (.invokestatic 188, 3) := by decide +kernel
theorem dX12_known_30 : decode cX12_known 30 = .ok (.ifCond .ne 5, 3) := by decide +kernel
theorem dX12_known_35 : decode cX12_known 35 = .ok (.aload_n 0, 1) := by decide +kernel
theorem dX12_known_36 : decode cX12_known 36 = .ok (.iload_n 2, 1) := by decide +kernel
theorem dX12_known_37 : decode cX12_known 37 = .ok (.invokevirtual 587, 3) := by decide +kernel
theorem dX12_known_40 : decode cX12_known 40 = .ok (.istore_n 3, 1) := by decide +kernel
theorem dX12_known_41 : decode cX12_known 41 = .ok (.aload_n 0, 1) := by decide +kernel
theorem dX12_known_42 : decode cX12_known 42 = .ok (.getfield 99, 3) := by decide +kernel
theorem dX12_known_45 : decode cX12_known 45 = .ok (.iload_n 3, 1) := by decide +kernel
theorem dX12_known_46 : decode cX12_known 46 = .ok (.iaload, 1) := by decide +kernel
theorem dX12_known_47 : decode cX12_known 47 = .ok (.bipush 10, 2) := by decide +kernel
theorem dX12_known_49 : decode cX12_known 49 = .ok (.if_icmp .ge 7, 3) := by decide +kernel
theorem dX12_known_56 : decode cX12_known 56 = .ok (.aload_n 0, 1) := by decide +kernel
theorem dX12_known_57 : decode cX12_known 57 = .ok (.getfield 99, 3) := by decide +kernel
theorem dX12_known_60 : decode cX12_known 60 = .ok (.iload_n 3, 1) := by decide +kernel
theorem dX12_known_61 : decode cX12_known 61 = .ok (.iaload, 1) := by decide +kernel
theorem dX12_known_62 : decode cX12_known 62 = .ok (.ireturn, 1) := by decide +kernel
theorem dX12_known_52 : decode cX12_known 52 = .ok (.iconst 1, 1) := by decide +kernel
theorem dX12_known_53 : decode cX12_known 53 = .ok (.goto 9, 3) := by decide +kernel
set_option maxHeartbeats 4000000 in
set_option maxRecDepth 20000 in
theorem c_X12_known (d : Nat) {b : Nat} {σ : MS} {k : Int} {n : Int} (hR : RG σ) (hit : ITM σ) (hpar : PAR σ) (hnam : NAM σ) (hrt : RTN σ) (hrn : σ.1 67 ≠ 0 → σ.1 68 = 0 → RUD σ 0 ∧ ∀ c, 0 ≤ c → c < σ.2.1 73 0 → (0 ≤ σ.2.1 78 c ∧ σ.2.1 78 c < σ.1 10) ∧ (0 ≤ σ.2.1 79 c ∧ σ.2.1 79 c ≤ 219)) (hl : LAB σ) (hbo : BO 47 σ) (hbh : BO 48 σ) (hss : SSA σ) (hsc : SCA σ) (h_k : -2147483648 ≤ k ∧ k ≤ 2147483647) (h_n : -2147483648 ≤ n ∧ n ≤ 2147483647) : Tm (d + 7) m_X12_known 0 b σ [(0, .ref b), (1, .int (iI k)), (2, .int (iI n))] [] (fun ro σ2 => ∃ v : Int, ro = some (.int (iI v)) ∧ (Fr [0, 83, 84] [46, 47, 48, 49, 50, 51, 52, 53, 54, 55, 56, 57, 58] [] σ σ2) ∧ (RG σ2) ∧ (LAB σ2) ∧ (BO 47 σ2) ∧ (BO 48 σ2) ∧ (SSA σ2) ∧ (SCA σ2)) := by
  refine tm_aload_n dX12_known_0 rfl 0 rfl ?_
  refine tm_iconst dX12_known_1 ?_
  refine tm_putS (k := 0) (v := 0) lay_12 dX12_known_2 (by decide) fl12_185 rfl (tyX12_ok 0 (by decide)) rfl rfl rfl ?_
  refine tm_aload_n dX12_known_5 rfl 0 rfl ?_
  refine tm_iload_n dX12_known_6 rfl 1 rfl ?_
  refine tm_callV (M := m_X12_known) (pc := 7) (ix := 581) (M' := m_X12_isStack) (As := [.int (iI k)]) (rest := []) dX12_known_7 ok_X12_isStack im_X12_isStack se_X12_isStack ml12_581 np_X12_isStack rfl rfl (Nat.le_of_ble_eq_true rfl) (Nat.le_of_ble_eq_true rfl) rfl (c_X12_isStack (d + 4) (σ := (sS 0 0 σ)) (k := k) (hR.S (by omega)) (fun a c => (hrn a c).1) (by omega)) (fun r1 σ2 hp => ?_)
  obtain ⟨v3, rfl, f4, f5, f6, f7⟩ := hp
  show Tm _ _ 10 b σ2 [(0, .ref b), (1, .int (iI k)), (2, .int (iI n))] [.int (iI v3)] _
  refine tm_if_eq (tgt := 33) dX12_known_10 (by decide) ⟨by omega, by omega⟩ (fun h8 => ?_) (fun h8 => ?_)
  · refine tm_iconst dX12_known_33 ?_
    exact tm_iret rfl dX12_known_34 (⟨_, rfl, ((Fr.rfl.S (by decide)).trans (Fr.sub f5 (by decide) (by decide) (by decide))), f6, hl.fr (show Fr [0, 83, 84] [] [] σ σ2 from ((Fr.rfl.S (by decide)).trans (Fr.sub f5 (by decide) (by decide) (by decide)))) (by decide), hbo.fr (show Fr [0, 83, 84] [] [] σ σ2 from ((Fr.rfl.S (by decide)).trans (Fr.sub f5 (by decide) (by decide) (by decide)))) (by decide), hbh.fr (show Fr [0, 83, 84] [] [] σ σ2 from ((Fr.rfl.S (by decide)).trans (Fr.sub f5 (by decide) (by decide) (by decide)))) (by decide), hss.fr (show Fr [0, 83, 84] [] [] σ σ2 from ((Fr.rfl.S (by decide)).trans (Fr.sub f5 (by decide) (by decide) (by decide)))) (by decide), hsc.fr (show Fr [0, 83, 84] [] [] σ σ2 from ((Fr.rfl.S (by decide)).trans (Fr.sub f5 (by decide) (by decide) (by decide)))) (by decide)⟩)
  · have hq := f7 (by omega)
    have hrr := hrn hq.1 hq.2.1
    have e73 : (sS 0 0 σ).2.1 73 0 = σ.2.1 73 0 := rfl
    have hmc := hrr.1.1
    have hfn : fn (sS 0 0 σ) 0 (σ2.1 83) = σ.2.1 14 (σ.2.1 78 (σ2.1 83)) := if_neg (by decide)
    have hc := hrr.2 (σ2.1 83) (by omega) (by omega)
    have hrt1 := hrt.1
    have hri := hrt.2 (σ.2.1 78 (σ2.1 83)) (by omega) (by omega)
    have hof := hri.2.1
    have q1 := hof.1
    have q2 := (hof.2 (σ2.1 84) (by omega) (by omega)).1
    have q3 := hnam _ q2.1 q2.2
    have f78 : σ2.2.1 78 = σ.2.1 78 := f5.2.1 78 (by decide)
    have f15 : σ2.2.1 15 = σ.2.1 15 := f5.2.1 15 (by decide)
    have f79 : σ2.2.1 79 = σ.2.1 79 := f5.2.1 79 (by decide)
    have f10 : σ2.1 10 = σ.1 10 := f5.1 10 (by decide)
    refine tm_iload_n dX12_known_13 rfl 2 rfl ?_
    refine tm_iconst dX12_known_14 ?_
    refine tm_aload_n dX12_known_15 rfl 0 rfl ?_
    refine tm_get (k := 12) (v := .ref (b + 1 + 9)) lay_12 dX12_known_16 (by decide) fl12_38 rfl ?_
    refine tm_aload_n dX12_known_19 rfl 0 rfl ?_
    refine tm_iconst dX12_known_20 ?_
    refine tm_callV (M := m_X12_known) (pc := 21) (ix := 584) (M' := m_X12_routineIn) (As := [.int (iI 0)]) (rest := [.ref (b + 1 + 9), .int (iI 0), .int (iI n)]) dX12_known_21 ok_X12_routineIn im_X12_routineIn se_X12_routineIn ml12_584 np_X12_routineIn rfl rfl (Nat.le_of_ble_eq_true rfl) (Nat.le_of_ble_eq_true rfl) rfl (c_X12_routineIn (d + 5) (σ := σ2) (m := 0) f6 (by omega) (fun _ => by rw [f78]; omega) (by omega)) (fun r9 σ10 hp => ?_)
    obtain ⟨v11, rfl, rfl, f12, f13⟩ := hp
    show Tm _ _ 24 b σ2 [(0, .ref b), (1, .int (iI k)), (2, .int (iI n))] [.int (iI v11), .ref (b + 1 + 9), .int (iI 0), .int (iI n)] _
    have hv := f13 (by decide)
    rw [f78, f15] at hv
    have q5 := hnam v11 (by omega) (by omega)
    refine tm_iald (z := v11) (v := σ.2.1 12 v11) dX12_known_24 (show mT[9]? = some (12, 0, 6) from rfl) (by omega) (by omega) (by decide) (ra_F f5 (by decide) (ra_S (rfl))) ?_
    have g14 := RG.a hR 12 (v11)
    refine tm_iconst dX12_known_25 ?_
    refine tm_isub dX12_known_26 ?_
    refine tm_callS (M := m_X12_known) (pc := 27) (ix := 188) (M' := m_X12_in) (As := [.int (iI n), .int (iI 0), .int (iI ((σ.2.1 12 v11) - 1))]) (rest := []) dX12_known_27 ok_X12_in stt_X12_in ml12_188 np_X12_in rfl (Nat.le_of_ble_eq_true rfl) (Nat.le_of_ble_eq_true rfl) rfl (c_X12_in (d + 5) (σ := σ2) (x := n) (lo := 0) (hi := (σ.2.1 12 v11) - 1) (by omega) (by omega) (by omega)) (fun r15 σ16 hp => ?_)
    obtain ⟨v17, rfl, rfl, f18, f19⟩ := hp
    show Tm _ _ 30 b σ2 [(0, .ref b), (1, .int (iI k)), (2, .int (iI n))] [.int (iI v17)] _
    refine tm_if_ne (tgt := 35) dX12_known_30 (by decide) ⟨by omega, by omega⟩ (fun h20 => ?_) (fun h20 => ?_)
    · refine tm_aload_n dX12_known_35 rfl 0 rfl ?_
      refine tm_iload_n dX12_known_36 rfl 2 rfl ?_
      refine tm_callV (M := m_X12_known) (pc := 37) (ix := 587) (M' := m_X12_stateAt) (As := [.int (iI n)]) (rest := []) dX12_known_37 ok_X12_stateAt im_X12_stateAt se_X12_stateAt ml12_587 np_X12_stateAt rfl rfl (Nat.le_of_ble_eq_true rfl) (Nat.le_of_ble_eq_true rfl) rfl (c_X12_stateAt (d) (σ := σ2) (n := n) f6 (hit.fr (show Fr [0, 83, 84] [] [] σ σ2 from ((Fr.rfl.S (by decide)).trans (Fr.sub f5 (by decide) (by decide) (by decide)))) (by decide)) (hpar.fr (show Fr [0, 83, 84] [] [] σ σ2 from ((Fr.rfl.S (by decide)).trans (Fr.sub f5 (by decide) (by decide) (by decide)))) (by decide)) (hnam.fr (show Fr [0, 83, 84] [] [] σ σ2 from ((Fr.rfl.S (by decide)).trans (Fr.sub f5 (by decide) (by decide) (by decide)))) (by decide)) (RTN.fr hrt (show Fr [0, 83, 84] [] [] σ σ2 from ((Fr.rfl.S (by decide)).trans (Fr.sub f5 (by decide) (by decide) (by decide)))) (by decide) (by decide)) (hl.fr (show Fr [0, 83, 84] [] [] σ σ2 from ((Fr.rfl.S (by decide)).trans (Fr.sub f5 (by decide) (by decide) (by decide)))) (by decide)) (hbo.fr (show Fr [0, 83, 84] [] [] σ σ2 from ((Fr.rfl.S (by decide)).trans (Fr.sub f5 (by decide) (by decide) (by decide)))) (by decide)) (hbh.fr (show Fr [0, 83, 84] [] [] σ σ2 from ((Fr.rfl.S (by decide)).trans (Fr.sub f5 (by decide) (by decide) (by decide)))) (by decide)) (hss.fr (show Fr [0, 83, 84] [] [] σ σ2 from ((Fr.rfl.S (by decide)).trans (Fr.sub f5 (by decide) (by decide) (by decide)))) (by decide)) (hsc.fr (show Fr [0, 83, 84] [] [] σ σ2 from ((Fr.rfl.S (by decide)).trans (Fr.sub f5 (by decide) (by decide) (by decide)))) (by decide)) (by rw [f78, f79, f10]; omega) (by omega)) (fun r21 σ22 hp => ?_)
      obtain ⟨v23, rfl, f24, f25, f26, f27, f28, f29, f30, f31⟩ := hp
      show Tm _ _ 40 b σ22 [(0, .ref b), (1, .int (iI k)), (2, .int (iI n))] [.int (iI v23)] _
      have k2 := f26
      have k3 := f27
      have k4 := f28
      have k5 := f29
      have k6 := f30
      have k7 := f31
      have g83 : σ22.1 83 = σ2.1 83 := f24.1 83 (by decide)
      refine tm_istore_n (L' := [(3, .int (iI v23)), (0, .ref b), (1, .int (iI k)), (2, .int (iI n))]) dX12_known_40 rfl (by decide) rfl ?_
      refine tm_aload_n dX12_known_41 rfl 1 rfl ?_
      refine tm_get (k := 49) (v := .ref (b + 1 + 27)) lay_12 dX12_known_42 (by decide) fl12_99 rfl ?_
      refine tm_iload_n dX12_known_45 rfl 0 rfl ?_
      refine tm_iald (z := v23) (v := σ22.2.1 49 v23) dX12_known_46 (show mT[27]? = some (49, 0, 190944) from rfl) (by omega) (by omega) (by decide) (rfl) ?_
      have g32 := RG.a f25 49 (v23)
      refine tm_bipush dX12_known_47 (by decide) ?_
      refine tm_icmp_ge (tgt := 56) dX12_known_49 (by decide) ⟨by omega, by omega⟩ ⟨by decide, by decide⟩ (fun h33 => ?_) (fun h33 => ?_)
      · refine tm_aload_n dX12_known_56 rfl 1 rfl ?_
        refine tm_get (k := 49) (v := .ref (b + 1 + 27)) lay_12 dX12_known_57 (by decide) fl12_99 rfl ?_
        refine tm_iload_n dX12_known_60 rfl 0 rfl ?_
        refine tm_iald (z := v23) (v := σ22.2.1 49 v23) dX12_known_61 (show mT[27]? = some (49, 0, 190944) from rfl) (by omega) (by omega) (by decide) (rfl) ?_
        have g34 := RG.a f25 49 (v23)
        exact tm_iret rfl dX12_known_62 (⟨_, rfl, (((Fr.rfl.S (by decide)).trans (Fr.sub f5 (by decide) (by decide) (by decide))).trans (Fr.sub f24 (by decide) (by decide) (by decide))), f25, k2, k3, k4, k5, k6⟩)
      · refine tm_iconst dX12_known_52 ?_
        refine tm_goto (tgt := 62) dX12_known_53 (by decide) ?_
        exact tm_iret rfl dX12_known_62 (⟨_, rfl, (((Fr.rfl.S (by decide)).trans (Fr.sub f5 (by decide) (by decide) (by decide))).trans (Fr.sub f24 (by decide) (by decide) (by decide))), f25, k2, k3, k4, k5, k6⟩)
    · refine tm_iconst dX12_known_33 ?_
      exact tm_iret rfl dX12_known_34 (⟨_, rfl, ((Fr.rfl.S (by decide)).trans (Fr.sub f5 (by decide) (by decide) (by decide))), f6, hl.fr (show Fr [0, 83, 84] [] [] σ σ2 from ((Fr.rfl.S (by decide)).trans (Fr.sub f5 (by decide) (by decide) (by decide)))) (by decide), hbo.fr (show Fr [0, 83, 84] [] [] σ σ2 from ((Fr.rfl.S (by decide)).trans (Fr.sub f5 (by decide) (by decide) (by decide)))) (by decide), hbh.fr (show Fr [0, 83, 84] [] [] σ σ2 from ((Fr.rfl.S (by decide)).trans (Fr.sub f5 (by decide) (by decide) (by decide)))) (by decide), hss.fr (show Fr [0, 83, 84] [] [] σ σ2 from ((Fr.rfl.S (by decide)).trans (Fr.sub f5 (by decide) (by decide) (by decide)))) (by decide), hsc.fr (show Fr [0, 83, 84] [] [] σ σ2 from ((Fr.rfl.S (by decide)).trans (Fr.sub f5 (by decide) (by decide) (by decide)))) (by decide)⟩)
theorem ml12_590 : Cond.methodLink RX12 590 yX12_stateWorth ∈ pWW := pw10 (List.mem_of_getElem? (i := 65) rfl) rfl
theorem dX12_value_0 : decode cX12_value 0 = .ok (.aload_n 0, 1) := by decide +kernel
theorem dX12_value_1 : decode cX12_value 1 = .ok (.iconst 0, 1) := by decide +kernel
theorem dX12_value_2 : decode cX12_value 2 = .ok (.putfield 185, 3) := by decide +kernel
theorem dX12_value_5 : decode cX12_value 5 = .ok (.aload_n 0, 1) := by decide +kernel
theorem dX12_value_6 : decode cX12_value 6 = .ok (.iload_n 1, 1) := by decide +kernel
theorem dX12_value_7 : decode cX12_value 7 = .ok (.invokevirtual 581, 3) := by decide +kernel
theorem dX12_value_10 : decode cX12_value 10 = .ok (.ifCond .eq 23, 3) := by decide +kernel
theorem dX12_value_33 : decode cX12_value 33 = .ok (.iconst 0, 1) := by decide +kernel
theorem dX12_value_34 : decode cX12_value 34 = .ok (.ireturn, 1) := by decide +kernel
theorem dX12_value_13 : decode cX12_value 13 = .ok (.iload_n 2, 1) := by decide +kernel
theorem dX12_value_14 : decode cX12_value 14 = .ok (.iconst 0, 1) := by decide +kernel
theorem dX12_value_15 : decode cX12_value 15 = .ok (.aload_n 0, 1) := by decide +kernel
theorem dX12_value_16 : decode cX12_value 16 = .ok (.getfield 38, 3) := by decide +kernel
theorem dX12_value_19 : decode cX12_value 19 = .ok (.aload_n 0, 1) := by decide +kernel
theorem dX12_value_20 : decode cX12_value 20 = .ok (.iconst 0, 1) := by decide +kernel
theorem dX12_value_21 : decode cX12_value 21 = .ok (.invokevirtual 584, 3) := by decide +kernel
theorem dX12_value_24 : decode cX12_value 24 = .ok (.iaload, 1) := by decide +kernel
theorem dX12_value_25 : decode cX12_value 25 = .ok (.iconst 1, 1) := by decide +kernel
theorem dX12_value_26 : decode cX12_value 26 = .ok (.isub, 1) := by decide +kernel
theorem dX12_value_27 : decode cX12_value 27 = .ok (.invokestatic 188, 3) := by decide +kernel
theorem dX12_value_30 : decode cX12_value 30 = .ok (.ifCond .ne 5, 3) := by decide +kernel
theorem dX12_value_35 : decode cX12_value 35 = .ok (.aload_n 0, 1) := by decide +kernel
theorem dX12_value_36 : decode cX12_value 36 = .ok (.iload_n 2, 1) := by decide +kernel
theorem dX12_value_37 : decode cX12_value 37 = .ok (.invokevirtual 587, 3) := by decide +kernel
theorem dX12_value_40 : decode cX12_value 40 = .ok (.istore_n 3, 1) := by decide +kernel
theorem dX12_value_41 : decode cX12_value 41 = .ok (.aload_n 0, 1) := by decide +kernel
theorem dX12_value_42 : decode cX12_value 42 = .ok (.getfield 99, 3) := by decide +kernel
theorem dX12_value_45 : decode cX12_value 45 = .ok (.iload_n 3, 1) := by decide +kernel
theorem dX12_value_46 : decode cX12_value 46 = .ok (.iaload, 1) := by decide +kernel
theorem dX12_value_47 : decode cX12_value 47 = .ok (.bipush 10, 2) := by decide +kernel
theorem dX12_value_49 : decode cX12_value 49 = .ok (.if_icmp .ge 11, 3) := by decide +kernel
theorem dX12_value_60 : decode cX12_value 60 = .ok (.iconst 0, 1) := by decide +kernel
theorem dX12_value_61 : decode cX12_value 61 = .ok (.ireturn, 1) := by decide +kernel
theorem dX12_value_52 : decode cX12_value 52 = .ok (.aload_n 0, 1) := by decide +kernel
theorem dX12_value_53 : decode cX12_value 53 = .ok (.iload_n 3, 1) := by decide +kernel
theorem dX12_value_54 : decode cX12_value 54 = .ok (.invokevirtual 590, 3) := by decide +kernel
theorem dX12_value_57 : decode cX12_value 57 = .ok (.goto 4, 3) := by decide +kernel
set_option maxHeartbeats 4000000 in
set_option maxRecDepth 20000 in
theorem c_X12_value (d : Nat) {b : Nat} {σ : MS} {k : Int} {n : Int} (hR : RG σ) (hit : ITM σ) (hpar : PAR σ) (hnam : NAM σ) (hrt : RTN σ) (hrn : σ.1 67 ≠ 0 → σ.1 68 = 0 → RUD σ 0 ∧ ∀ c, 0 ≤ c → c < σ.2.1 73 0 → (0 ≤ σ.2.1 78 c ∧ σ.2.1 78 c < σ.1 10) ∧ (0 ≤ σ.2.1 79 c ∧ σ.2.1 79 c ≤ 219)) (hl : LAB σ) (hbo : BO 47 σ) (hbh : BO 48 σ) (hss : SSA σ) (hsc : SCA σ) (h_k : -2147483648 ≤ k ∧ k ≤ 2147483647) (h_n : -2147483648 ≤ n ∧ n ≤ 2147483647) : Tm (d + 7) m_X12_value 0 b σ [(0, .ref b), (1, .int (iI k)), (2, .int (iI n))] [] (fun ro σ2 => ∃ v : Int, ro = some (.int (iI v)) ∧ (Fr [0, 83, 84] [46, 47, 48, 49, 50, 51, 52, 53, 54, 55, 56, 57, 58] [] σ σ2) ∧ (RG σ2) ∧ (LAB σ2) ∧ (BO 47 σ2) ∧ (BO 48 σ2) ∧ (SSA σ2) ∧ (SCA σ2)) := by
  refine tm_aload_n dX12_value_0 rfl 0 rfl ?_
  refine tm_iconst dX12_value_1 ?_
  refine tm_putS (k := 0) (v := 0) lay_12 dX12_value_2 (by decide) fl12_185 rfl (tyX12_ok 0 (by decide)) rfl rfl rfl ?_
  refine tm_aload_n dX12_value_5 rfl 0 rfl ?_
  refine tm_iload_n dX12_value_6 rfl 1 rfl ?_
  refine tm_callV (M := m_X12_value) (pc := 7) (ix := 581) (M' := m_X12_isStack) (As := [.int (iI k)]) (rest := []) dX12_value_7 ok_X12_isStack im_X12_isStack se_X12_isStack ml12_581 np_X12_isStack rfl rfl (Nat.le_of_ble_eq_true rfl) (Nat.le_of_ble_eq_true rfl) rfl (c_X12_isStack (d + 4) (σ := (sS 0 0 σ)) (k := k) (hR.S (by omega)) (fun a c => (hrn a c).1) (by omega)) (fun r1 σ2 hp => ?_)
  obtain ⟨v3, rfl, f4, f5, f6, f7⟩ := hp
  show Tm _ _ 10 b σ2 [(0, .ref b), (1, .int (iI k)), (2, .int (iI n))] [.int (iI v3)] _
  refine tm_if_eq (tgt := 33) dX12_value_10 (by decide) ⟨by omega, by omega⟩ (fun h8 => ?_) (fun h8 => ?_)
  · refine tm_iconst dX12_value_33 ?_
    exact tm_iret rfl dX12_value_34 (⟨_, rfl, ((Fr.rfl.S (by decide)).trans (Fr.sub f5 (by decide) (by decide) (by decide))), f6, hl.fr (show Fr [0, 83, 84] [] [] σ σ2 from ((Fr.rfl.S (by decide)).trans (Fr.sub f5 (by decide) (by decide) (by decide)))) (by decide), hbo.fr (show Fr [0, 83, 84] [] [] σ σ2 from ((Fr.rfl.S (by decide)).trans (Fr.sub f5 (by decide) (by decide) (by decide)))) (by decide), hbh.fr (show Fr [0, 83, 84] [] [] σ σ2 from ((Fr.rfl.S (by decide)).trans (Fr.sub f5 (by decide) (by decide) (by decide)))) (by decide), hss.fr (show Fr [0, 83, 84] [] [] σ σ2 from ((Fr.rfl.S (by decide)).trans (Fr.sub f5 (by decide) (by decide) (by decide)))) (by decide), hsc.fr (show Fr [0, 83, 84] [] [] σ σ2 from ((Fr.rfl.S (by decide)).trans (Fr.sub f5 (by decide) (by decide) (by decide)))) (by decide)⟩)
  · have hq := f7 (by omega)
    have hrr := hrn hq.1 hq.2.1
    have e73 : (sS 0 0 σ).2.1 73 0 = σ.2.1 73 0 := rfl
    have hmc := hrr.1.1
    have hfn : fn (sS 0 0 σ) 0 (σ2.1 83) = σ.2.1 14 (σ.2.1 78 (σ2.1 83)) := if_neg (by decide)
    have hc := hrr.2 (σ2.1 83) (by omega) (by omega)
    have hrt1 := hrt.1
    have hri := hrt.2 (σ.2.1 78 (σ2.1 83)) (by omega) (by omega)
    have hof := hri.2.1
    have q1 := hof.1
    have q2 := (hof.2 (σ2.1 84) (by omega) (by omega)).1
    have q3 := hnam _ q2.1 q2.2
    have f78 : σ2.2.1 78 = σ.2.1 78 := f5.2.1 78 (by decide)
    have f15 : σ2.2.1 15 = σ.2.1 15 := f5.2.1 15 (by decide)
    have f79 : σ2.2.1 79 = σ.2.1 79 := f5.2.1 79 (by decide)
    have f10 : σ2.1 10 = σ.1 10 := f5.1 10 (by decide)
    refine tm_iload_n dX12_value_13 rfl 2 rfl ?_
    refine tm_iconst dX12_value_14 ?_
    refine tm_aload_n dX12_value_15 rfl 0 rfl ?_
    refine tm_get (k := 12) (v := .ref (b + 1 + 9)) lay_12 dX12_value_16 (by decide) fl12_38 rfl ?_
    refine tm_aload_n dX12_value_19 rfl 0 rfl ?_
    refine tm_iconst dX12_value_20 ?_
    refine tm_callV (M := m_X12_value) (pc := 21) (ix := 584) (M' := m_X12_routineIn) (As := [.int (iI 0)]) (rest := [.ref (b + 1 + 9), .int (iI 0), .int (iI n)]) dX12_value_21 ok_X12_routineIn im_X12_routineIn se_X12_routineIn ml12_584 np_X12_routineIn rfl rfl (Nat.le_of_ble_eq_true rfl) (Nat.le_of_ble_eq_true rfl) rfl (c_X12_routineIn (d + 5) (σ := σ2) (m := 0) f6 (by omega) (fun _ => by rw [f78]; omega) (by omega)) (fun r9 σ10 hp => ?_)
    obtain ⟨v11, rfl, rfl, f12, f13⟩ := hp
    show Tm _ _ 24 b σ2 [(0, .ref b), (1, .int (iI k)), (2, .int (iI n))] [.int (iI v11), .ref (b + 1 + 9), .int (iI 0), .int (iI n)] _
    have hv := f13 (by decide)
    rw [f78, f15] at hv
    have q5 := hnam v11 (by omega) (by omega)
    refine tm_iald (z := v11) (v := σ.2.1 12 v11) dX12_value_24 (show mT[9]? = some (12, 0, 6) from rfl) (by omega) (by omega) (by decide) (ra_F f5 (by decide) (ra_S (rfl))) ?_
    have g14 := RG.a hR 12 (v11)
    refine tm_iconst dX12_value_25 ?_
    refine tm_isub dX12_value_26 ?_
    refine tm_callS (M := m_X12_value) (pc := 27) (ix := 188) (M' := m_X12_in) (As := [.int (iI n), .int (iI 0), .int (iI ((σ.2.1 12 v11) - 1))]) (rest := []) dX12_value_27 ok_X12_in stt_X12_in ml12_188 np_X12_in rfl (Nat.le_of_ble_eq_true rfl) (Nat.le_of_ble_eq_true rfl) rfl (c_X12_in (d + 5) (σ := σ2) (x := n) (lo := 0) (hi := (σ.2.1 12 v11) - 1) (by omega) (by omega) (by omega)) (fun r15 σ16 hp => ?_)
    obtain ⟨v17, rfl, rfl, f18, f19⟩ := hp
    show Tm _ _ 30 b σ2 [(0, .ref b), (1, .int (iI k)), (2, .int (iI n))] [.int (iI v17)] _
    refine tm_if_ne (tgt := 35) dX12_value_30 (by decide) ⟨by omega, by omega⟩ (fun h20 => ?_) (fun h20 => ?_)
    · refine tm_aload_n dX12_value_35 rfl 0 rfl ?_
      refine tm_iload_n dX12_value_36 rfl 2 rfl ?_
      refine tm_callV (M := m_X12_value) (pc := 37) (ix := 587) (M' := m_X12_stateAt) (As := [.int (iI n)]) (rest := []) dX12_value_37 ok_X12_stateAt im_X12_stateAt se_X12_stateAt ml12_587 np_X12_stateAt rfl rfl (Nat.le_of_ble_eq_true rfl) (Nat.le_of_ble_eq_true rfl) rfl (c_X12_stateAt (d) (σ := σ2) (n := n) f6 (hit.fr (show Fr [0, 83, 84] [] [] σ σ2 from ((Fr.rfl.S (by decide)).trans (Fr.sub f5 (by decide) (by decide) (by decide)))) (by decide)) (hpar.fr (show Fr [0, 83, 84] [] [] σ σ2 from ((Fr.rfl.S (by decide)).trans (Fr.sub f5 (by decide) (by decide) (by decide)))) (by decide)) (hnam.fr (show Fr [0, 83, 84] [] [] σ σ2 from ((Fr.rfl.S (by decide)).trans (Fr.sub f5 (by decide) (by decide) (by decide)))) (by decide)) (RTN.fr hrt (show Fr [0, 83, 84] [] [] σ σ2 from ((Fr.rfl.S (by decide)).trans (Fr.sub f5 (by decide) (by decide) (by decide)))) (by decide) (by decide)) (hl.fr (show Fr [0, 83, 84] [] [] σ σ2 from ((Fr.rfl.S (by decide)).trans (Fr.sub f5 (by decide) (by decide) (by decide)))) (by decide)) (hbo.fr (show Fr [0, 83, 84] [] [] σ σ2 from ((Fr.rfl.S (by decide)).trans (Fr.sub f5 (by decide) (by decide) (by decide)))) (by decide)) (hbh.fr (show Fr [0, 83, 84] [] [] σ σ2 from ((Fr.rfl.S (by decide)).trans (Fr.sub f5 (by decide) (by decide) (by decide)))) (by decide)) (hss.fr (show Fr [0, 83, 84] [] [] σ σ2 from ((Fr.rfl.S (by decide)).trans (Fr.sub f5 (by decide) (by decide) (by decide)))) (by decide)) (hsc.fr (show Fr [0, 83, 84] [] [] σ σ2 from ((Fr.rfl.S (by decide)).trans (Fr.sub f5 (by decide) (by decide) (by decide)))) (by decide)) (by rw [f78, f79, f10]; omega) (by omega)) (fun r21 σ22 hp => ?_)
      obtain ⟨v23, rfl, f24, f25, f26, f27, f28, f29, f30, f31⟩ := hp
      show Tm _ _ 40 b σ22 [(0, .ref b), (1, .int (iI k)), (2, .int (iI n))] [.int (iI v23)] _
      have k2 := f26
      have k3 := f27
      have k4 := f28
      have k5 := f29
      have k6 := f30
      have k7 := f31
      have g83 : σ22.1 83 = σ2.1 83 := f24.1 83 (by decide)
      refine tm_istore_n (L' := [(3, .int (iI v23)), (0, .ref b), (1, .int (iI k)), (2, .int (iI n))]) dX12_value_40 rfl (by decide) rfl ?_
      refine tm_aload_n dX12_value_41 rfl 1 rfl ?_
      refine tm_get (k := 49) (v := .ref (b + 1 + 27)) lay_12 dX12_value_42 (by decide) fl12_99 rfl ?_
      refine tm_iload_n dX12_value_45 rfl 0 rfl ?_
      refine tm_iald (z := v23) (v := σ22.2.1 49 v23) dX12_value_46 (show mT[27]? = some (49, 0, 190944) from rfl) (by omega) (by omega) (by decide) (rfl) ?_
      have g32 := RG.a f25 49 (v23)
      refine tm_bipush dX12_value_47 (by decide) ?_
      refine tm_icmp_ge (tgt := 60) dX12_value_49 (by decide) ⟨by omega, by omega⟩ ⟨by decide, by decide⟩ (fun h33 => ?_) (fun h33 => ?_)
      · refine tm_iconst dX12_value_60 ?_
        exact tm_iret rfl dX12_value_61 (⟨_, rfl, (((Fr.rfl.S (by decide)).trans (Fr.sub f5 (by decide) (by decide) (by decide))).trans (Fr.sub f24 (by decide) (by decide) (by decide))), f25, k2, k3, k4, k5, k6⟩)
      · refine tm_aload_n dX12_value_52 rfl 1 rfl ?_
        refine tm_iload_n dX12_value_53 rfl 0 rfl ?_
        refine tm_callV (M := m_X12_value) (pc := 54) (ix := 590) (M' := m_X12_stateWorth) (As := [.int (iI v23)]) (rest := []) dX12_value_54 ok_X12_stateWorth im_X12_stateWorth se_X12_stateWorth ml12_590 np_X12_stateWorth rfl rfl (Nat.le_of_ble_eq_true rfl) (Nat.le_of_ble_eq_true rfl) rfl (c_X12_stateWorth (d + 4) (σ := σ22) (y := v23) f25 (by rw [g83]; omega) (by omega) k5) (fun r34 σ35 hp => ?_)
        obtain ⟨v36, rfl, rfl, f37⟩ := hp
        show Tm _ _ 57 b σ22 [(3, .int (iI v23)), (0, .ref b), (1, .int (iI k)), (2, .int (iI n))] [.int (iI v36)] _
        refine tm_goto (tgt := 61) dX12_value_57 (by decide) ?_
        exact tm_iret rfl dX12_value_61 (⟨_, rfl, (((Fr.rfl.S (by decide)).trans (Fr.sub f5 (by decide) (by decide) (by decide))).trans (Fr.sub f24 (by decide) (by decide) (by decide))), f25, k2, k3, k4, k5, k6⟩)
    · refine tm_iconst dX12_value_33 ?_
      exact tm_iret rfl dX12_value_34 (⟨_, rfl, ((Fr.rfl.S (by decide)).trans (Fr.sub f5 (by decide) (by decide) (by decide))), f6, hl.fr (show Fr [0, 83, 84] [] [] σ σ2 from ((Fr.rfl.S (by decide)).trans (Fr.sub f5 (by decide) (by decide) (by decide)))) (by decide), hbo.fr (show Fr [0, 83, 84] [] [] σ σ2 from ((Fr.rfl.S (by decide)).trans (Fr.sub f5 (by decide) (by decide) (by decide)))) (by decide), hbh.fr (show Fr [0, 83, 84] [] [] σ σ2 from ((Fr.rfl.S (by decide)).trans (Fr.sub f5 (by decide) (by decide) (by decide)))) (by decide), hss.fr (show Fr [0, 83, 84] [] [] σ σ2 from ((Fr.rfl.S (by decide)).trans (Fr.sub f5 (by decide) (by decide) (by decide)))) (by decide), hsc.fr (show Fr [0, 83, 84] [] [] σ σ2 from ((Fr.rfl.S (by decide)).trans (Fr.sub f5 (by decide) (by decide) (by decide)))) (by decide)⟩)
