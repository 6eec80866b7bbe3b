set_option maxHeartbeats 4000000 in
set_option maxRecDepth 20000 in
theorem c5_X12_start (d : Nat) {b : Nat} {σ : MS} {x : Int} {a1 : Int} {a2 : Int} {a3 : Int} {a4 : Int} (hR : RG σ) (hit : ITM σ) (hpar : PAR σ) (hnam : NAM σ) (hrt : RTN σ) (hpn : ∀ r, 0 ≤ r → r < σ.1 10 → σ.2.1 11 r ≤ σ.2.1 12 r) (h_x : -2147483648 ≤ x ∧ x ≤ 2147483647) (h_a1 : -2147483648 ≤ a1 ∧ a1 ≤ 2147483647) (h_a2 : -2147483648 ≤ a2 ∧ a2 ≤ 2147483647) (h_a3 : -2147483648 ≤ a3 ∧ a3 ≤ 2147483647) (h_a4 : -2147483648 ≤ a4 ∧ a4 ≤ 2147483647) : Tm (d + 3) m_X12_start 0 b σ [(0, .ref b), (1, .int (iI x)), (2, .int (iI a1)), (3, .int (iI a2)), (4, .int (iI a3)), (5, .int (iI a4))] [] (fun ro σ2 => ∃ v : Int, ro = some (.int (iI v)) ∧ ((v = 0 ∨ v = 1)) ∧ (Fr [0, 67, 68, 69, 70] [73, 74, 75, 76, 78, 79, 80, 81, 82] [] σ σ2) ∧ (RG σ2) ∧ (v = 0 → σ2.1 67 = σ.1 67 ∧ σ2.1 68 = σ.1 68 ∧ σ2.2.1 = σ.2.1) ∧ (v = 1 → (0 ≤ x ∧ x < σ.1 10) ∧ σ2.2.1 73 0 = 1 ∧ (σ2.2.1 78 (9 * 0) = x ∧ σ2.2.1 79 (9 * 0) = 0 ∧ σ2.2.1 80 (9 * 0) = 0)) ∧ (v = 0 → σ2.1 70 = σ.1 70) ∧ (v = 1 → σ2.1 70 = 0 ∧ σ2.2.1 76 0 = 0) ∧ ((v = 1 ∧ 0 ≤ x ∧ x < σ.1 10) ∨ (v = 0 ∧ (x < 0 ∨ σ.1 10 ≤ x)))) := by
  refine tm_aload_n dX12_start_0 rfl 0 rfl ?_
  refine tm_iconst dX12_start_1 ?_
  refine tm_putS (k := 0) (v := 0) lay_12 dX12_start_2 (by decide) fl12_185 rfl (tyX12_ok 0 (by decide)) rfl rfl rfl ?_
  refine tm_aload_n dX12_start_5 rfl 0 rfl ?_
  refine tm_iload_n dX12_start_6 rfl 1 rfl ?_
  refine tm_callV (M := m_X12_start) (pc := 7) (ix := 404) (M' := m_X12_isRoutine) (As := [.int (iI x)]) (rest := []) dX12_start_7 ok_X12_isRoutine im_X12_isRoutine se_X12_isRoutine ml12_404 np_X12_isRoutine rfl rfl (Nat.le_of_ble_eq_true rfl) (Nat.le_of_ble_eq_true rfl) rfl (c_X12_isRoutine (d) (σ := (sS 0 0 σ)) (x := x) (hR.S (by omega)) hrt.1 (by omega)) (fun r1 σ2 hp => ?_)
  obtain ⟨v3, rfl, rfl, f4, f5⟩ := hp
  show Tm _ _ 10 b (sS 0 0 σ) [(0, .ref b), (1, .int (iI x)), (2, .int (iI a1)), (3, .int (iI a2)), (4, .int (iI a3)), (5, .int (iI a4))] [.int (iI v3)] _
  have e10 : (sS 0 0 σ).1 10 = σ.1 10 := rfl
  have hrt1 := hrt.1
  refine tm_if_ne (tgt := 15) dX12_start_10 (by decide) ⟨by omega, by omega⟩ (fun h6 => ?_) (fun h6 => ?_)
  · have hri := hrt.2 x (by omega) (by omega)
    have hof := hri.2.1
    have hok := hri.2.2.1
    have q1 := hof.1
    have q2 := hnam x (by omega) (by omega)
    have q3 := hpar x (by omega) (by omega)
    have hf0 := hri.2.2.2.1
    unfold FR0 at hf0
    have hnn : ∀ n, 0 ≤ n → n < σ.2.1 11 x → 0 ≤ σ.2.1 18 (144 * x + n) ∧ σ.2.1 18 (144 * x + n) < 192 := fun n a c => by
      have h := (hof.2 0 (by omega) (by omega)).2 n a (by rw [hf0]; have := hpn x (by omega) (by omega); omega)
      rw [Int.mul_zero, Int.add_zero] at h; exact h
    refine tm_aload_n dX12_start_15 rfl 0 rfl ?_
    refine tm_iconst dX12_start_16 ?_
    refine tm_iload_n dX12_start_17 rfl 1 rfl ?_
    refine tm_iload_n dX12_start_18 rfl 2 rfl ?_
    refine tm_iload_n dX12_start_19 rfl 3 rfl ?_
    refine tm_iload dX12_start_20 4 rfl ?_
    refine tm_iload dX12_start_22 5 rfl ?_
    refine tm_callV (M := m_X12_start) (pc := 24) (ix := 557) (M' := m_X12_startMachine) (As := [.int (iI 0), .int (iI x), .int (iI a1), .int (iI a2), .int (iI a3), .int (iI a4)]) (rest := []) dX12_start_24 ok_X12_startMachine im_X12_startMachine se_X12_startMachine ml12_557 np_X12_startMachine rfl rfl (Nat.le_of_ble_eq_true rfl) (Nat.le_of_ble_eq_true rfl) rfl (c2_X12_startMachine (d) (σ := (sS 0 0 σ)) (m := 0) (x := x) (a1 := a1) (a2 := a2) (a3 := a3) (a4 := a4) (by decide) (by omega) (hR.S (by omega)) q3 (fun n a c => hnn n a c) (by omega) (by omega) (by omega) (by omega)) (fun r7 σ8 hp => ?_)
    obtain ⟨rfl, f10, f11, f12, f13, f14, f15⟩ := hp
    show Tm _ _ 27 b σ8 [(0, .ref b), (1, .int (iI x)), (2, .int (iI a1)), (3, .int (iI a2)), (4, .int (iI a3)), (5, .int (iI a4))] [] _
    have kk2 := f12
    have kk3 := f13
    have kk5 := f15
    refine tm_aload_n dX12_start_27 rfl 0 rfl ?_
    refine tm_iconst dX12_start_28 ?_
    refine tm_putS (k := 67) (v := 1) lay_12 dX12_start_29 (by decide) fl12_397 rfl (tyX12_ok 67 (by decide)) rfl rfl rfl ?_
    refine tm_aload_n dX12_start_32 rfl 0 rfl ?_
    refine tm_iconst dX12_start_33 ?_
    refine tm_putS (k := 68) (v := 0) lay_12 dX12_start_34 (by decide) fl12_560 rfl (tyX12_ok 68 (by decide)) rfl rfl rfl ?_
    refine tm_aload_n dX12_start_37 rfl 0 rfl ?_
    refine tm_iconst dX12_start_38 ?_
    refine tm_putS (k := 69) (v := 0) lay_12 dX12_start_39 (by decide) fl12_563 rfl (tyX12_ok 69 (by decide)) rfl rfl rfl ?_
    refine tm_aload_n dX12_start_42 rfl 0 rfl ?_
    refine tm_iconst dX12_start_43 ?_
    refine tm_putS (k := 70) (v := 0) lay_12 dX12_start_44 (by decide) fl12_566 rfl (tyX12_ok 70 (by decide)) rfl rfl rfl ?_
    refine tm_iconst dX12_start_47 ?_
    exact tm_zret (v := 1) rfl (by decide) dX12_start_48 (⟨_, rfl, by omega, ((((((Fr.rfl.S (by decide)).trans (Fr.sub f10 (by decide) (by decide) (by decide))).S (by decide)).S (by decide)).S (by decide)).S (by decide)), ((((f11.S (by omega)).S (by omega)).S (by omega)).S (by omega)), fun q => absurd q (by decide), fun _ => ⟨by omega, kk2, kk3⟩, fun q => absurd q (by decide), fun _ => ⟨rs_eq, kk5⟩, by omega⟩)
  · refine tm_iconst dX12_start_13 ?_
    exact tm_zret (v := 0) rfl (by decide) dX12_start_14 (⟨_, rfl, by omega, (Fr.rfl.S (by decide)), (hR.S (by omega)), fun _ => ⟨rfl, rfl, rfl⟩, fun q => absurd q (by decide), fun _ => rfl, fun q => absurd q (by decide), by omega⟩)
