theorem ml12_581 : Cond.methodLink RX12 581 yX12_isStack ∈ pWW := pw10 (List.mem_of_getElem? (i := 41) rfl) rfl
theorem ml12_584 : Cond.methodLink RX12 584 yX12_routineIn ∈ pWW := pw10 (List.mem_of_getElem? (i := 49) rfl) rfl
theorem dX12_stack_0 : decode cX12_stack 0 = .ok (.aload_n 0, 1) := by decide +kernel
theorem dX12_stack_1 : decode cX12_stack 1 = .ok (.iconst 0, 1) := by decide +kernel
theorem dX12_stack_2 : decode cX12_stack 2 = .ok (.putfield 185, 3) := by decide +kernel
theorem dX12_stack_5 : decode cX12_stack 5 = .ok (.aload_n 0, 1) := by decide +kernel
theorem dX12_stack_6 : decode cX12_stack 6 = .ok (.iload_n 1, 1) := by decide +kernel
theorem dX12_stack_7 : decode cX12_stack 7 = .ok (.invokevirtual 581, 3) := by decide +kernel
theorem dX12_stack_10 : decode cX12_stack 10 = .ok (.ifCond .ne 5, 3) := by decide +kernel
theorem dX12_stack_15 : decode cX12_stack 15 = .ok (.aload_n 0, 1) := by decide +kernel
theorem dX12_stack_16 : decode cX12_stack 16 = .ok (.iconst 0, 1) := by decide +kernel
theorem dX12_stack_17 : decode cX12_stack 17 = .ok (.invokevirtual 584, 3) := by decide +kernel
theorem dX12_stack_20 : decode cX12_stack 20 = .ok (.istore_n 3, 1) := by decide +kernel
theorem dX12_stack_21 : decode cX12_stack 21 = .ok (.iload_n 2, 1) := by decide +kernel
theorem dX12_stack_22 : decode cX12_stack 22 = .ok (.ifCond .ne 7, 3) := by decide +kernel
theorem dX12_stack_29 : decode cX12_stack 29 = .ok (.iload_n 2, 1) := by decide +kernel
theorem dX12_stack_30 : decode cX12_stack 30 = .ok (.iconst 1, 1) := by decide +kernel
theorem dX12_stack_31 : decode cX12_stack 31 = .ok (.if_icmp .ne 23, 3) := by decide +kernel
theorem dX12_stack_54 : decode cX12_stack 54 = .ok (.iload_n 2, 1) := by decide +kernel
theorem dX12_stack_55 : decode cX12_stack 55 = .ok (.iconst 2, 1) := by decide +kernel
theorem dX12_stack_56 : decode cX12_stack 56 = .ok (.if_icmp .ne 12, 3) := by decide +kernel
theorem dX12_stack_68 : decode cX12_stack 68 = .ok (.iconst (-1), 1) := by decide +kernel
theorem dX12_stack_69 : decode cX12_stack 69 = .ok (.ireturn, 1) := by decide +kernel
theorem dX12_stack_59 : decode cX12_stack 59 = .ok (.aload_n 0, 1) := by decide +kernel
theorem dX12_stack_60 : decode cX12_stack 60 = .ok (.getfield 38, 3) := by decide +kernel
theorem dX12_stack_63 : decode cX12_stack 63 = .ok (.iload_n 3, 1) := by decide +kernel
theorem dX12_stack_64 : decode cX12_stack 64 = .ok (.iaload, 1) := by decide +kernel
theorem dX12_stack_65 : decode cX12_stack 65 = .ok (.goto 4, 3) := by decide +kernel
theorem dX12_stack_34 : decode cX12_stack 34 = .ok (.aload_n 0, 1) := by decide +kernel
theorem dX12_stack_35 : decode cX12_stack 35 = .ok (.getfield 176, 3) := by decide +kernel
theorem dX12_stack_38 : decode cX12_stack 38 = .ok (.bipush 12, 2) := by decide +kernel
theorem dX12_stack_40 : decode cX12_stack 40 = .ok (.aload_n 0, 1) := by decide +kernel
theorem dX12_stack_41 : decode cX12_stack 41 = .ok (.getfield 572, 3) := by decide +kernel
theorem dX12_stack_44 : decode cX12_stack 44 = .ok (.imul, 1) := by decide +kernel
theorem dX12_stack_45 : decode cX12_stack 45 = .ok (.aload_n 0, 1) := by decide +kernel
theorem dX12_stack_46 : decode cX12_stack 46 = .ok (.getfield 575, 3) := by decide +kernel
theorem dX12_stack_49 : decode cX12_stack 49 = .ok (.iadd, 1) := by decide +kernel
theorem dX12_stack_50 : decode cX12_stack 50 = .ok (.iaload, 1) := by decide +kernel
theorem dX12_stack_51 : decode cX12_stack 51 = .ok (.goto 18, 3) := by decide +kernel
theorem dX12_stack_25 : decode cX12_stack 25 = .ok (.iload_n 3, 1) := by decide +kernel
theorem dX12_stack_26 : decode cX12_stack 26 = .ok (.goto 43, 3) := by decide +kernel
theorem dX12_stack_13 : decode cX12_stack 13 = .ok (.iconst (-1), 1) := by decide +kernel
theorem dX12_stack_14 : decode cX12_stack 14 = .ok (.ireturn, 1) := by decide +kernel
set_option maxHeartbeats 4000000 in
set_option maxRecDepth 20000 in
theorem c_X12_stack (d : Nat) {b : Nat} {σ : MS} {k : Int} {w : Int} (hR : RG σ) (hit : ITM σ) (hpar : PAR σ) (hnam : NAM σ) (hrt : RTN σ) (hrn : σ.1 67 ≠ 0 → σ.1 68 = 0 → RUD σ 0 ∧ ∀ c, 0 ≤ c → c < σ.2.1 73 0 → (0 ≤ σ.2.1 78 c ∧ σ.2.1 78 c < σ.1 10) ∧ (0 ≤ σ.2.1 79 c ∧ σ.2.1 79 c ≤ 219)) (h_k : -2147483648 ≤ k ∧ k ≤ 2147483647) (h_w : -2147483648 ≤ w ∧ w ≤ 2147483647) : Tm (d + 3) m_X12_stack 0 b σ [(0, .ref b), (1, .int (iI k)), (2, .int (iI w))] [] (fun ro σ2 => ∃ v : Int, ro = some (.int (iI v)) ∧ (Fr [0, 83, 84] [] [] σ σ2) ∧ (RG σ2)) := by
  refine tm_aload_n dX12_stack_0 rfl 0 rfl ?_
  refine tm_iconst dX12_stack_1 ?_
  refine tm_putS (k := 0) (v := 0) lay_12 dX12_stack_2 (by decide) fl12_185 rfl (tyX12_ok 0 (by decide)) rfl rfl rfl ?_
  refine tm_aload_n dX12_stack_5 rfl 0 rfl ?_
  refine tm_iload_n dX12_stack_6 rfl 1 rfl ?_
  refine tm_callV (M := m_X12_stack) (pc := 7) (ix := 581) (M' := m_X12_isStack) (As := [.int (iI k)]) (rest := []) dX12_stack_7 ok_X12_isStack im_X12_isStack se_X12_isStack ml12_581 np_X12_isStack rfl rfl (Nat.le_of_ble_eq_true rfl) (Nat.le_of_ble_eq_true rfl) rfl (c_X12_isStack (d) (σ := (sS 0 0 σ)) (k := k) (hR.S (by omega)) (fun a c => (hrn a c).1) (by omega)) (fun r1 σ2 hp => ?_)
  obtain ⟨v3, rfl, f4, f5, f6, f7⟩ := hp
  show Tm _ _ 10 b σ2 [(0, .ref b), (1, .int (iI k)), (2, .int (iI w))] [.int (iI v3)] _
  refine tm_if_ne (tgt := 15) dX12_stack_10 (by decide) ⟨by omega, by omega⟩ (fun h8 => ?_) (fun h8 => ?_)
  · have hq := f7 (by omega)
    have hrr := hrn hq.1 hq.2.1
    have e73 : (sS 0 0 σ).2.1 73 0 = σ.2.1 73 0 := rfl
    have hmc := hrr.1.1
    have hfn : fn (sS 0 0 σ) 0 (σ2.1 83) = σ.2.1 14 (σ.2.1 78 (σ2.1 83)) := if_neg (by decide)
    have hc := hrr.2 (σ2.1 83) (by omega) (by omega)
    have hrt1 := hrt.1
    have hri := hrt.2 (σ.2.1 78 (σ2.1 83)) (by omega) (by omega)
    have hof := hri.2.1
    have q1 := hof.1
    have q2 := (hof.2 (σ2.1 84) (by omega) (by omega)).1
    have q3 := hnam _ q2.1 q2.2
    have f78 : σ2.2.1 78 = σ.2.1 78 := f5.2.1 78 (by decide)
    have f15 : σ2.2.1 15 = σ.2.1 15 := f5.2.1 15 (by decide)
    have f79 : σ2.2.1 79 = σ.2.1 79 := f5.2.1 79 (by decide)
    have f10 : σ2.1 10 = σ.1 10 := f5.1 10 (by decide)
    refine tm_aload_n dX12_stack_15 rfl 0 rfl ?_
    refine tm_iconst dX12_stack_16 ?_
    refine tm_callV (M := m_X12_stack) (pc := 17) (ix := 584) (M' := m_X12_routineIn) (As := [.int (iI 0)]) (rest := []) dX12_stack_17 ok_X12_routineIn im_X12_routineIn se_X12_routineIn ml12_584 np_X12_routineIn rfl rfl (Nat.le_of_ble_eq_true rfl) (Nat.le_of_ble_eq_true rfl) rfl (c_X12_routineIn (d + 1) (σ := σ2) (m := 0) f6 (by omega) (fun _ => by rw [f78]; omega) (by omega)) (fun r9 σ10 hp => ?_)
    obtain ⟨v11, rfl, rfl, f12, f13⟩ := hp
    show Tm _ _ 20 b σ2 [(0, .ref b), (1, .int (iI k)), (2, .int (iI w))] [.int (iI v11)] _
    have hv := f13 (by decide)
    rw [f78, f15] at hv
    refine tm_istore_n (L' := [(3, .int (iI v11)), (0, .ref b), (1, .int (iI k)), (2, .int (iI w))]) dX12_stack_20 rfl (by decide) rfl ?_
    refine tm_iload_n dX12_stack_21 rfl 3 rfl ?_
    refine tm_if_ne (tgt := 29) dX12_stack_22 (by decide) ⟨by omega, by omega⟩ (fun h14 => ?_) (fun h14 => ?_)
    · refine tm_iload_n dX12_stack_29 rfl 3 rfl ?_
      refine tm_iconst dX12_stack_30 ?_
      refine tm_icmp_ne (tgt := 54) dX12_stack_31 (by decide) ⟨by omega, by omega⟩ ⟨by decide, by decide⟩ (fun h15 => ?_) (fun h15 => ?_)
      · refine tm_iload_n dX12_stack_54 rfl 3 rfl ?_
        refine tm_iconst dX12_stack_55 ?_
        refine tm_icmp_ne (tgt := 68) dX12_stack_56 (by decide) ⟨by omega, by omega⟩ ⟨by decide, by decide⟩ (fun h16 => ?_) (fun h16 => ?_)
        · refine tm_iconst dX12_stack_68 ?_
          exact tm_iret rfl dX12_stack_69 (⟨_, rfl, ((Fr.rfl.S (by decide)).trans (Fr.sub f5 (by decide) (by decide) (by decide))), f6⟩)
        · refine tm_aload_n dX12_stack_59 rfl 1 rfl ?_
          refine tm_get (k := 12) (v := .ref (b + 1 + 9)) lay_12 dX12_stack_60 (by decide) fl12_38 rfl ?_
          refine tm_iload_n dX12_stack_63 rfl 0 rfl ?_
          refine tm_iald (z := v11) (v := σ.2.1 12 v11) dX12_stack_64 (show mT[9]? = some (12, 0, 6) from rfl) (by omega) (by omega) (by decide) (ra_F f5 (by decide) (ra_S (rfl))) ?_
          have g17 := RG.a hR 12 (v11)
          refine tm_goto (tgt := 69) dX12_stack_65 (by decide) ?_
          exact tm_iret rfl dX12_stack_69 (⟨_, rfl, ((Fr.rfl.S (by decide)).trans (Fr.sub f5 (by decide) (by decide) (by decide))), f6⟩)
      · refine tm_aload_n dX12_stack_34 rfl 1 rfl ?_
        refine tm_get (k := 81) (v := .ref (b + 1 + 52)) lay_12 dX12_stack_35 (by decide) fl12_176 rfl ?_
        refine tm_bipush dX12_stack_38 (by decide) ?_
        refine tm_aload_n dX12_stack_40 rfl 1 rfl ?_
        refine tm_getS (k := 83) (t := σ2.1 83) dX12_stack_41 (by decide) fl12_572 rfl (rfl) ?_
        have g18 := RG.s f6 83
        refine tm_imul dX12_stack_44 ?_
        refine tm_aload_n dX12_stack_45 rfl 1 rfl ?_
        refine tm_getS (k := 84) (t := σ2.1 84) dX12_stack_46 (by decide) fl12_575 rfl (rfl) ?_
        have g19 := RG.s f6 84
        refine tm_iadd dX12_stack_49 ?_
        refine tm_iald (z := (12 * (σ2.1 83)) + (σ2.1 84)) (v := σ.2.1 81 ((12 * (σ2.1 83)) + (σ2.1 84))) dX12_stack_50 (show mT[52]? = some (81, 0, 324) from rfl) (by omega) (by omega) (by decide) (ra_F f5 (by decide) (ra_S (rfl))) ?_
        have g20 := RG.a hR 81 ((12 * (σ2.1 83)) + (σ2.1 84))
        refine tm_goto (tgt := 69) dX12_stack_51 (by decide) ?_
        exact tm_iret rfl dX12_stack_69 (⟨_, rfl, ((Fr.rfl.S (by decide)).trans (Fr.sub f5 (by decide) (by decide) (by decide))), f6⟩)
    · refine tm_iload_n dX12_stack_25 rfl 0 rfl ?_
      refine tm_goto (tgt := 69) dX12_stack_26 (by decide) ?_
      exact tm_iret rfl dX12_stack_69 (⟨_, rfl, ((Fr.rfl.S (by decide)).trans (Fr.sub f5 (by decide) (by decide) (by decide))), f6⟩)
  · refine tm_iconst dX12_stack_13 ?_
    exact tm_iret rfl dX12_stack_14 (⟨_, rfl, ((Fr.rfl.S (by decide)).trans (Fr.sub f5 (by decide) (by decide) (by decide))), f6⟩)
