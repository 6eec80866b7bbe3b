section
set_option maxRecDepth 20000 in
theorem k_X7_step_57 (d : Nat) {T : CT} {σ : MS} {a : Nat} (ha : OB T a 7) (hta : (T a).1 = 57) (hw : WT T σ) (hp : σ.2.1 58 a = σ.2.1 57 a + 1) : Tn (d + 5) m_X7_step 0 T σ [(0, .ref a)] [] (fun ro T2 σ2 => ∃ v : Int, ro = some (.int (iI v)) ∧ T = T2 ∧ WT T2 σ2 ∧ FrC T [56, 57, 58, 65, 66, 67, 68, 69, 515] σ σ2 ∧ (v = 0 ∨ v = 1) ∧ (PIv σ2 a) ∧ (FA a σ σ2)) := by
  have ht1 := (wf_57 hw ha).1
  have ht2 := (wf_57 hw ha).2 hta
  refine tn_aload_n dX7_step_0 rfl 0 rfl ?_
  refine tn_callV (M := m_X7_step) (pc := 1) (ix := 103) (ci := 7) (M' := m_X7_place) (As := []) (rest := []) dX7_step_1 ok_X7_place im_X7_place se_X7_place ml7_103 np_X7_place rfl rfl ha rfl (Nat.le_of_ble_eq_true rfl) (Nat.le_of_ble_eq_true rfl) rfl (k_X7_place (d + 2) (T := T) (σ := σ) (a := a) ha hw ) (fun r1 T3 σ2 gt4 hp => ?_)
  obtain ⟨v6, rfl, rfl, rfl, f5⟩ := hp
  clear gt4
  show Tn _ _ 4 T σ [(0, .ref a)] [.int (iI v6)] _
  refine tn_istore_n (L' := [(1, .int (iI v6)), (0, .ref a)]) dX7_step_4 rfl (by decide) rfl ?_
  refine tn_aload_n dX7_step_5 rfl 1 rfl ?_
  rcases wf_69 hw ha with hx7 | ⟨x8, hx7, hk9a, hk9b⟩
  · refine tn_getN (ci := 7) (i := 14) (n := 69) dX7_step_6 rfl lay_7 (by decide) fl7_72 ha rfl rfl (Int.lt_of_le_of_lt (Int.le_of_eq (Eq.refl _)) hx7) ?_
    refine tn_ifnonnullN dX7_step_9 ?_
    refine tn_iconst dX7_step_12 ?_
    refine tn_goto (tgt := 24) dX7_step_13 (by decide) ?_
    refine tn_istore_n (L' := [(2, .int (iI (-1))), (1, .int (iI v6)), (0, .ref a)]) dX7_step_24 rfl (by decide) rfl ?_
    refine tn_iload_n dX7_step_25 rfl 0 rfl ?_
    refine tn_bipush dX7_step_26 (by decide) ?_
    refine tn_icmp_eq (tgt := 37) dX7_step_28 (by decide) ⟨by decide, by decide⟩ ⟨by decide, by decide⟩ (fun h => absurd h (by decide)) (fun _ => ?_)
    refine tn_iload_n dX7_step_31 rfl 0 rfl ?_
    refine tn_bipush dX7_step_32 (by decide) ?_
    refine tn_icmp_ne (tgt := 53) dX7_step_34 (by decide) ⟨by decide, by decide⟩ ⟨by decide, by decide⟩ (fun _ => ?_) (fun h => absurd h (by decide))
    refine tn_aload_n dX7_step_53 rfl 2 rfl ?_
    refine tn_dup dX7_step_54 rfl ?_
    refine tn_getI (ci := 7) (i := 12) (n := 67) (t := σ.2.1 67 a) dX7_step_55 rfl lay_7 (by decide) fl7_47 ha rfl rfl (rfl) ?_
    have g13 : ((-2147483648 : Int) ≤ σ.2.1 67 a ∧ σ.2.1 67 a ≤ 2147483647) := wf_67 hw ha
    refine tn_iconst dX7_step_58 ?_
    refine tn_iadd dX7_step_59 ?_
    refine tn_any (fun z14 g15 => ?_)
    have g15r : -2147483648 ≤ z14 ∧ z14 ≤ 2147483647 := g15
    refine tn_putV (ci := 7) (i := 12) (n := 67) (r := false) (v := z14) tyX7 tyX7_ok nmX7 dX7_step_60 rfl lay_7 (by decide) fl7_47 rfl (tyX7_ok 12 (by decide)) rfl rfl rfl ha rfl rfl ?_
    refine tn_iload_n dX7_step_63 rfl 1 rfl ?_
    refine tn_iconst dX7_step_64 ?_
    refine tn_iadd dX7_step_65 ?_
    refine tn_any (fun z16 g17 => ?_)
    have g17r : -2147483648 ≤ z16 ∧ z16 ≤ 2147483647 := g17
    refine tn_istore_n (L' := [(3, .int (iI z16)), (2, .int (iI (-1))), (1, .int (iI v6)), (0, .ref a)]) dX7_step_66 rfl (by decide) rfl ?_
    refine tn_iload_n dX7_step_67 rfl 1 rfl ?_
    refine tn_tableIn (tgt := 362) dX7_step_68 (x := -1) ⟨by decide, by decide⟩ (by decide) (by decide) rfl (by decide) ?_
    refine tn_aload_n dX7_step_362 rfl 3 rfl ?_
    refine tn_iconst dX7_step_363 ?_
    refine tn_callV (M := m_X7_step) (pc := 364) (ix := 123) (ci := 7) (M' := m_X7_giveBack) (As := [.int (iI 0)]) (rest := []) dX7_step_364 ok_X7_giveBack im_X7_giveBack se_X7_giveBack ml7_123 np_X7_giveBack rfl rfl ha rfl (Nat.le_of_ble_eq_true rfl) (Nat.le_of_ble_eq_true rfl) rfl (k_X7_giveBack_57 (d + 1) (T := T) (σ := (sA 67 a (z14) σ)) (a := a) (n := 0) ha hta (by decide) (hw.put (by decide) (by decide) (fo_67 (by omega))) (by rw [show (sA 67 a (z14) σ).2.1 58 a = σ.2.1 58 a from rc_o (by decide) (rfl), show (sA 67 a (z14) σ).2.1 57 a = σ.2.1 57 a from rc_o (by decide) (rfl)]; omega)) (fun r18 T20 σ19 gt21 hp => ?_)
    obtain ⟨rfl, rfl, w25, F26, f22, f23⟩ := hp
    clear gt21
    show Tn _ _ 367 T σ19 [(3, .int (iI z16)), (2, .int (iI (-1))), (1, .int (iI v6)), (0, .ref a)] [] _
    refine tn_iconst dX7_step_367 ?_
    have q27 : σ19.2.1 56 a = σ19.2.1 56 a := rfl
    have q28 : σ19.2.1 57 a = σ19.2.1 57 a := rfl
    have q29 : σ19.2.1 58 a = σ19.2.1 58 a := rfl
    exact tn_zret (v := 0) rfl (by decide) dX7_step_368 ⟨_, rfl, rfl, w25, ((FrC.rfl.put (by decide) (by decide)).trans (FrC.sub F26 (by decide))), by omega, by unfold PIv at *; rw [q27, q28, q29]; omega, ((FA.rfl.put).trans f23)⟩
  · have hk9 : (T x8).1 = 31 := hk9a (by omega)
    have hk9o : OB T x8 1 := ⟨by omega, by rw [hk9]; rfl, by omega⟩
    refine tn_getR (ci := 7) (i := 14) (n := 69) (x := x8) dX7_step_6 rfl lay_7 (by decide) fl7_72 ha rfl rfl (hx7) ?_
    refine tn_ifnonnull (tgt := 16) dX7_step_9 (by decide) ?_
    refine tn_aload_n dX7_step_16 rfl 1 rfl ?_
    refine tn_getR (ci := 7) (i := 14) (n := 69) (x := x8) dX7_step_17 rfl lay_7 (by decide) fl7_72 ha rfl rfl (hx7) ?_
    refine tn_iload_n dX7_step_20 rfl 0 rfl ?_
    refine tn_callV (M := m_X7_step) (pc := 21) (ix := 107) (ci := 1) (M' := m_X1_kindAt) (As := [.int (iI v6)]) (rest := []) dX7_step_21 ok_X1_kindAt im_X1_kindAt se_X1_kindAt ml7_107 np_X1_kindAt rfl rfl hk9o rfl (Nat.le_of_ble_eq_true rfl) (Nat.le_of_ble_eq_true rfl) rfl (k_X1_kindAt (d + 3) (T := T) (σ := σ) (a := x8) (k := v6) hk9o (by omega) hw ) (fun r30 T32 σ31 gt33 hp => ?_)
    obtain ⟨v36, rfl, rfl, rfl, f34, f35⟩ := hp
    clear gt33
    have f35n := f35 (by omega)
    clear f35
    show Tn _ _ 24 T σ [(1, .int (iI v6)), (0, .ref a)] [.int (iI v36)] _
    refine tn_istore_n (L' := [(2, .int (iI v36)), (1, .int (iI v6)), (0, .ref a)]) dX7_step_24 rfl (by decide) rfl ?_
    refine tn_iload_n dX7_step_25 rfl 0 rfl ?_
    refine tn_bipush dX7_step_26 (by decide) ?_
    refine tn_icmp_eq (tgt := 37) dX7_step_28 (by decide) ⟨by omega, by omega⟩ ⟨by decide, by decide⟩ (fun h37 => ?_) (fun h37 => ?_)
    · refine tn_aload_n dX7_step_37 rfl 2 rfl ?_
      refine tn_getI (ci := 7) (i := 3) (n := 58) (t := σ.2.1 58 a) dX7_step_38 rfl lay_7 (by decide) fl7_38 ha rfl rfl (rfl) ?_
      have g38 : ((-2147483648 : Int) ≤ σ.2.1 58 a ∧ σ.2.1 58 a ≤ 2147483647) := wf_58 hw ha
      refine tn_bipush dX7_step_41 (by decide) ?_
      refine tn_icmp_le (tgt := 53) dX7_step_43 (by decide) ⟨by omega, by omega⟩ ⟨by decide, by decide⟩ (fun h39 => ?_) (fun h39 => ?_)
      · refine tn_aload_n dX7_step_53 rfl 2 rfl ?_
        refine tn_dup dX7_step_54 rfl ?_
        refine tn_getI (ci := 7) (i := 12) (n := 67) (t := σ.2.1 67 a) dX7_step_55 rfl lay_7 (by decide) fl7_47 ha rfl rfl (rfl) ?_
        have g40 : ((-2147483648 : Int) ≤ σ.2.1 67 a ∧ σ.2.1 67 a ≤ 2147483647) := wf_67 hw ha
        refine tn_iconst dX7_step_58 ?_
        refine tn_iadd dX7_step_59 ?_
        refine tn_any (fun z41 g42 => ?_)
        have g42r : -2147483648 ≤ z41 ∧ z41 ≤ 2147483647 := g42
        refine tn_putV (ci := 7) (i := 12) (n := 67) (r := false) (v := z41) tyX7 tyX7_ok nmX7 dX7_step_60 rfl lay_7 (by decide) fl7_47 rfl (tyX7_ok 12 (by decide)) rfl rfl rfl ha rfl rfl ?_
        refine tn_iload_n dX7_step_63 rfl 1 rfl ?_
        refine tn_iconst dX7_step_64 ?_
        refine tn_iadd dX7_step_65 ?_
        refine tn_any (fun z43 g44 => ?_)
        have g44r : -2147483648 ≤ z43 ∧ z43 ≤ 2147483647 := g44
        refine tn_istore_n (L' := [(3, .int (iI z43)), (2, .int (iI v36)), (1, .int (iI v6)), (0, .ref a)]) dX7_step_66 rfl (by decide) rfl ?_
        refine tn_iload_n dX7_step_67 rfl 1 rfl ?_
        by_cases h45 : v36 < -1 ∨ 15 < v36
        · refine tn_tableOut (tgt := 369) dX7_step_68 (x := v36) ⟨by omega, by omega⟩ h45 (by decide) ?_
          refine tn_aload_n dX7_step_369 rfl 3 rfl ?_
          refine tn_iload_n dX7_step_370 rfl 2 rfl ?_
          refine tn_iload_n dX7_step_371 rfl 1 rfl ?_
          refine tn_callV (M := m_X7_step) (pc := 372) (ix := 129) (ci := 7) (M' := m_X7_reckonAt) (As := [.int (iI v6), .int (iI v36)]) (rest := []) dX7_step_372 ok_X7_reckonAt im_X7_reckonAt se_X7_reckonAt ml7_129 np_X7_reckonAt rfl rfl ha rfl (Nat.le_of_ble_eq_true rfl) (Nat.le_of_ble_eq_true rfl) rfl (k_X7_reckonAt (d + 1) (T := T) (σ := (sA 67 a (z41) σ)) (a := a) (k := v6) (e := v36) ha (by omega) (by omega) (hw.put (by decide) (by decide) (fo_67 (by omega))) (by rw [show (sA 67 a (z41) σ).2.1 69 a = _ from rc_o (by decide) (hx7)]; omega)) (fun r46 T48 σ47 gt49 hp => ?_)
          obtain ⟨rfl, rfl, w51, F52⟩ := hp
          clear gt49
          show Tn _ _ 375 T σ47 [(3, .int (iI z43)), (2, .int (iI v36)), (1, .int (iI v6)), (0, .ref a)] [] _
          refine tn_aload_n dX7_step_375 rfl 3 rfl ?_
          obtain ⟨x53, hx54, hk55, hl56⟩ : ∃ x : Nat, σ.2.1 60 a = (x : Int) ∧ AR T x 1 9 9 := wf_60 hw ha
          have hk55i : IA T x53 := by unfold IA; omega
          refine tn_getR (ci := 7) (i := 5) (n := 60) (x := x53) dX7_step_376 rfl lay_7 (by decide) fl7_15 ha rfl rfl (rc_F F52 (Or.inl (by decide)) (by decide) (rc_o (by decide) (hx54))) ?_
          refine tn_aload_n dX7_step_379 rfl 3 rfl ?_
          refine tn_getI (ci := 7) (i := 2) (n := 57) (t := σ.2.1 57 a) dX7_step_380 rfl lay_7 (by decide) fl7_65 ha rfl rfl (rc_F F52 (Or.inl (by decide)) (by decide) (rc_o (by decide) (rfl))) ?_
          have g57 : ((0 : Int) ≤ σ.2.1 57 a ∧ σ.2.1 57 a ≤ 11184800) ∧ ((T a).1 = 57 → σ.2.1 57 a ≤ 8) := wf_57 hw ha
          have g57x := g57.2
          replace g57 := g57.1
          have g57x := g57x hta
          refine tn_iload_n dX7_step_383 rfl 0 rfl ?_
          refine tn_callSN (M := m_X7_step) (pc := 384) (ix := 61) (M' := m_X11_put) (As := [.ref x53, .int (iI (σ.2.1 57 a)), .int (iI z43)]) (rest := []) dX7_step_384 ok_X11_put stt_X11_put nl7_61 np_X11_put rfl (Nat.le_of_ble_eq_true rfl) (Nat.le_of_ble_eq_true rfl) rfl (k_X11_put (d + 3) (T := T) (σ := σ47) (x := x53) (i := σ.2.1 57 a) (y := z43) hk55i (by omega) (by omega) (by omega) w51 (nh_k hk55 (by unfold HT; omega)) (vok_1 (by have q9 := hk55; omega) (by omega))) (fun r58 T60 σ59 gt61 hp => ?_)
          obtain ⟨rfl, rfl, w63, F64⟩ := hp
          clear gt61
          show Tn _ _ 387 T σ59 [(3, .int (iI z43)), (2, .int (iI v36)), (1, .int (iI v6)), (0, .ref a)] [] _
          refine tn_iload_n dX7_step_387 rfl 1 rfl ?_
          refine tn_bipush dX7_step_388 (by decide) ?_
          refine tn_icmp_ne (tgt := 397) dX7_step_390 (by decide) ⟨by omega, by omega⟩ ⟨by decide, by decide⟩ (fun h65 => ?_) (fun h65 => absurd h65 (by omega))
          refine tn_iconst dX7_step_397 ?_
          have q66 : σ59.2.1 56 a = σ.2.1 56 a := rc_F F64 (Or.inl (by decide)) (by decide) (rc_F F52 (Or.inl (by decide)) (by decide) (rc_o (by decide) (rfl)))
          have q67 : σ59.2.1 57 a = σ.2.1 57 a := rc_F F64 (Or.inl (by decide)) (by decide) (rc_F F52 (Or.inl (by decide)) (by decide) (rc_o (by decide) (rfl)))
          have q68 : σ59.2.1 58 a = σ.2.1 58 a := rc_F F64 (Or.inl (by decide)) (by decide) (rc_F F52 (Or.inl (by decide)) (by decide) (rc_o (by decide) (rfl)))
          exact tn_zret (v := 0) rfl (by decide) dX7_step_398 ⟨_, rfl, rfl, w63, (((FrC.rfl.put (by decide) (by decide)).trans (FrC.sub F52 (by decide))).trans (FrC.sub F64 (by decide))), by omega, by unfold PIv at *; rw [q66, q67, q68]; omega, (((FA.rfl.put).trans (FA.of F52 (by decide))).trans (FA.of F64 (by decide)))⟩
        · have h69 : v36 = -1 ∨ v36 = 0 ∨ v36 = 1 ∨ v36 = 2 ∨ v36 = 3 ∨ v36 = 4 ∨ v36 = 5 ∨ v36 = 6 ∨ v36 = 7 ∨ v36 = 8 ∨ v36 = 9 ∨ v36 = 10 ∨ v36 = 11 ∨ v36 = 12 ∨ v36 = 13 ∨ v36 = 14 ∨ v36 = 15 := by omega
          rcases h69 with h69 | h69 | h69 | h69 | h69 | h69 | h69 | h69 | h69 | h69 | h69 | h69 | h69 | h69 | h69 | h69 | h69
          · refine tn_tableIn (tgt := 362) (off := 294) dX7_step_68 (x := v36) ⟨by omega, by omega⟩ (by omega) (by omega) (by rw [h69]; rfl) (by decide) ?_
            refine tn_aload_n dX7_step_362 rfl 3 rfl ?_
            refine tn_iconst dX7_step_363 ?_
            refine tn_callV (M := m_X7_step) (pc := 364) (ix := 123) (ci := 7) (M' := m_X7_giveBack) (As := [.int (iI 0)]) (rest := []) dX7_step_364 ok_X7_giveBack im_X7_giveBack se_X7_giveBack ml7_123 np_X7_giveBack rfl rfl ha rfl (Nat.le_of_ble_eq_true rfl) (Nat.le_of_ble_eq_true rfl) rfl (k_X7_giveBack_57 (d + 1) (T := T) (σ := (sA 67 a (z41) σ)) (a := a) (n := 0) ha hta (by decide) (hw.put (by decide) (by decide) (fo_67 (by omega))) (by rw [show (sA 67 a (z41) σ).2.1 58 a = σ.2.1 58 a from rc_o (by decide) (rfl), show (sA 67 a (z41) σ).2.1 57 a = σ.2.1 57 a from rc_o (by decide) (rfl)]; omega)) (fun r70 T72 σ71 gt73 hp => ?_)
            obtain ⟨rfl, rfl, w77, F78, f74, f75⟩ := hp
            clear gt73
            show Tn _ _ 367 T σ71 [(3, .int (iI z43)), (2, .int (iI v36)), (1, .int (iI v6)), (0, .ref a)] [] _
            refine tn_iconst dX7_step_367 ?_
            have q79 : σ71.2.1 56 a = σ71.2.1 56 a := rfl
            have q80 : σ71.2.1 57 a = σ71.2.1 57 a := rfl
            have q81 : σ71.2.1 58 a = σ71.2.1 58 a := rfl
            exact tn_zret (v := 0) rfl (by decide) dX7_step_368 ⟨_, rfl, rfl, w77, ((FrC.rfl.put (by decide) (by decide)).trans (FrC.sub F78 (by decide))), by omega, by unfold PIv at *; rw [q79, q80, q81]; omega, ((FA.rfl.put).trans f75)⟩
          · refine tn_tableIn (tgt := 369) (off := 301) dX7_step_68 (x := v36) ⟨by omega, by omega⟩ (by omega) (by omega) (by rw [h69]; rfl) (by decide) ?_
            refine tn_aload_n dX7_step_369 rfl 3 rfl ?_
            refine tn_iload_n dX7_step_370 rfl 2 rfl ?_
            refine tn_iload_n dX7_step_371 rfl 1 rfl ?_
            refine tn_callV (M := m_X7_step) (pc := 372) (ix := 129) (ci := 7) (M' := m_X7_reckonAt) (As := [.int (iI v6), .int (iI v36)]) (rest := []) dX7_step_372 ok_X7_reckonAt im_X7_reckonAt se_X7_reckonAt ml7_129 np_X7_reckonAt rfl rfl ha rfl (Nat.le_of_ble_eq_true rfl) (Nat.le_of_ble_eq_true rfl) rfl (k_X7_reckonAt (d + 1) (T := T) (σ := (sA 67 a (z41) σ)) (a := a) (k := v6) (e := v36) ha (by omega) (by omega) (hw.put (by decide) (by decide) (fo_67 (by omega))) (by rw [show (sA 67 a (z41) σ).2.1 69 a = _ from rc_o (by decide) (hx7)]; omega)) (fun r82 T84 σ83 gt85 hp => ?_)
            obtain ⟨rfl, rfl, w87, F88⟩ := hp
            clear gt85
            show Tn _ _ 375 T σ83 [(3, .int (iI z43)), (2, .int (iI v36)), (1, .int (iI v6)), (0, .ref a)] [] _
            refine tn_aload_n dX7_step_375 rfl 3 rfl ?_
            obtain ⟨x89, hx90, hk91, hl92⟩ : ∃ x : Nat, σ.2.1 60 a = (x : Int) ∧ AR T x 1 9 9 := wf_60 hw ha
            have hk91i : IA T x89 := by unfold IA; omega
            refine tn_getR (ci := 7) (i := 5) (n := 60) (x := x89) dX7_step_376 rfl lay_7 (by decide) fl7_15 ha rfl rfl (rc_F F88 (Or.inl (by decide)) (by decide) (rc_o (by decide) (hx90))) ?_
            refine tn_aload_n dX7_step_379 rfl 3 rfl ?_
            refine tn_getI (ci := 7) (i := 2) (n := 57) (t := σ.2.1 57 a) dX7_step_380 rfl lay_7 (by decide) fl7_65 ha rfl rfl (rc_F F88 (Or.inl (by decide)) (by decide) (rc_o (by decide) (rfl))) ?_
            have g93 : ((0 : Int) ≤ σ.2.1 57 a ∧ σ.2.1 57 a ≤ 11184800) ∧ ((T a).1 = 57 → σ.2.1 57 a ≤ 8) := wf_57 hw ha
            have g93x := g93.2
            replace g93 := g93.1
            have g93x := g93x hta
            refine tn_iload_n dX7_step_383 rfl 0 rfl ?_
            refine tn_callSN (M := m_X7_step) (pc := 384) (ix := 61) (M' := m_X11_put) (As := [.ref x89, .int (iI (σ.2.1 57 a)), .int (iI z43)]) (rest := []) dX7_step_384 ok_X11_put stt_X11_put nl7_61 np_X11_put rfl (Nat.le_of_ble_eq_true rfl) (Nat.le_of_ble_eq_true rfl) rfl (k_X11_put (d + 3) (T := T) (σ := σ83) (x := x89) (i := σ.2.1 57 a) (y := z43) hk91i (by omega) (by omega) (by omega) w87 (nh_k hk91 (by unfold HT; omega)) (vok_1 (by have q9 := hk91; omega) (by omega))) (fun r94 T96 σ95 gt97 hp => ?_)
            obtain ⟨rfl, rfl, w99, F100⟩ := hp
            clear gt97
            show Tn _ _ 387 T σ95 [(3, .int (iI z43)), (2, .int (iI v36)), (1, .int (iI v6)), (0, .ref a)] [] _
            refine tn_iload_n dX7_step_387 rfl 1 rfl ?_
            refine tn_bipush dX7_step_388 (by decide) ?_
            refine tn_icmp_ne (tgt := 397) dX7_step_390 (by decide) ⟨by omega, by omega⟩ ⟨by decide, by decide⟩ (fun h101 => ?_) (fun h101 => absurd h101 (by omega))
            refine tn_iconst dX7_step_397 ?_
            have q102 : σ95.2.1 56 a = σ.2.1 56 a := rc_F F100 (Or.inl (by decide)) (by decide) (rc_F F88 (Or.inl (by decide)) (by decide) (rc_o (by decide) (rfl)))
            have q103 : σ95.2.1 57 a = σ.2.1 57 a := rc_F F100 (Or.inl (by decide)) (by decide) (rc_F F88 (Or.inl (by decide)) (by decide) (rc_o (by decide) (rfl)))
            have q104 : σ95.2.1 58 a = σ.2.1 58 a := rc_F F100 (Or.inl (by decide)) (by decide) (rc_F F88 (Or.inl (by decide)) (by decide) (rc_o (by decide) (rfl)))
            exact tn_zret (v := 0) rfl (by decide) dX7_step_398 ⟨_, rfl, rfl, w99, (((FrC.rfl.put (by decide) (by decide)).trans (FrC.sub F88 (by decide))).trans (FrC.sub F100 (by decide))), by omega, by unfold PIv at *; rw [q102, q103, q104]; omega, (((FA.rfl.put).trans (FA.of F88 (by decide))).trans (FA.of F100 (by decide)))⟩
          · refine tn_tableIn (tgt := 369) (off := 301) dX7_step_68 (x := v36) ⟨by omega, by omega⟩ (by omega) (by omega) (by rw [h69]; rfl) (by decide) ?_
            refine tn_aload_n dX7_step_369 rfl 3 rfl ?_
            refine tn_iload_n dX7_step_370 rfl 2 rfl ?_
            refine tn_iload_n dX7_step_371 rfl 1 rfl ?_
            refine tn_callV (M := m_X7_step) (pc := 372) (ix := 129) (ci := 7) (M' := m_X7_reckonAt) (As := [.int (iI v6), .int (iI v36)]) (rest := []) dX7_step_372 ok_X7_reckonAt im_X7_reckonAt se_X7_reckonAt ml7_129 np_X7_reckonAt rfl rfl ha rfl (Nat.le_of_ble_eq_true rfl) (Nat.le_of_ble_eq_true rfl) rfl (k_X7_reckonAt (d + 1) (T := T) (σ := (sA 67 a (z41) σ)) (a := a) (k := v6) (e := v36) ha (by omega) (by omega) (hw.put (by decide) (by decide) (fo_67 (by omega))) (by rw [show (sA 67 a (z41) σ).2.1 69 a = _ from rc_o (by decide) (hx7)]; omega)) (fun r105 T107 σ106 gt108 hp => ?_)
            obtain ⟨rfl, rfl, w110, F111⟩ := hp
            clear gt108
            show Tn _ _ 375 T σ106 [(3, .int (iI z43)), (2, .int (iI v36)), (1, .int (iI v6)), (0, .ref a)] [] _
            refine tn_aload_n dX7_step_375 rfl 3 rfl ?_
            obtain ⟨x112, hx113, hk114, hl115⟩ : ∃ x : Nat, σ.2.1 60 a = (x : Int) ∧ AR T x 1 9 9 := wf_60 hw ha
            have hk114i : IA T x112 := by unfold IA; omega
            refine tn_getR (ci := 7) (i := 5) (n := 60) (x := x112) dX7_step_376 rfl lay_7 (by decide) fl7_15 ha rfl rfl (rc_F F111 (Or.inl (by decide)) (by decide) (rc_o (by decide) (hx113))) ?_
            refine tn_aload_n dX7_step_379 rfl 3 rfl ?_
            refine tn_getI (ci := 7) (i := 2) (n := 57) (t := σ.2.1 57 a) dX7_step_380 rfl lay_7 (by decide) fl7_65 ha rfl rfl (rc_F F111 (Or.inl (by decide)) (by decide) (rc_o (by decide) (rfl))) ?_
            have g116 : ((0 : Int) ≤ σ.2.1 57 a ∧ σ.2.1 57 a ≤ 11184800) ∧ ((T a).1 = 57 → σ.2.1 57 a ≤ 8) := wf_57 hw ha
            have g116x := g116.2
            replace g116 := g116.1
            have g116x := g116x hta
            refine tn_iload_n dX7_step_383 rfl 0 rfl ?_
            refine tn_callSN (M := m_X7_step) (pc := 384) (ix := 61) (M' := m_X11_put) (As := [.ref x112, .int (iI (σ.2.1 57 a)), .int (iI z43)]) (rest := []) dX7_step_384 ok_X11_put stt_X11_put nl7_61 np_X11_put rfl (Nat.le_of_ble_eq_true rfl) (Nat.le_of_ble_eq_true rfl) rfl (k_X11_put (d + 3) (T := T) (σ := σ106) (x := x112) (i := σ.2.1 57 a) (y := z43) hk114i (by omega) (by omega) (by omega) w110 (nh_k hk114 (by unfold HT; omega)) (vok_1 (by have q9 := hk114; omega) (by omega))) (fun r117 T119 σ118 gt120 hp => ?_)
            obtain ⟨rfl, rfl, w122, F123⟩ := hp
            clear gt120
            show Tn _ _ 387 T σ118 [(3, .int (iI z43)), (2, .int (iI v36)), (1, .int (iI v6)), (0, .ref a)] [] _
            refine tn_iload_n dX7_step_387 rfl 1 rfl ?_
            refine tn_bipush dX7_step_388 (by decide) ?_
            refine tn_icmp_ne (tgt := 397) dX7_step_390 (by decide) ⟨by omega, by omega⟩ ⟨by decide, by decide⟩ (fun h124 => ?_) (fun h124 => absurd h124 (by omega))
            refine tn_iconst dX7_step_397 ?_
            have q125 : σ118.2.1 56 a = σ.2.1 56 a := rc_F F123 (Or.inl (by decide)) (by decide) (rc_F F111 (Or.inl (by decide)) (by decide) (rc_o (by decide) (rfl)))
            have q126 : σ118.2.1 57 a = σ.2.1 57 a := rc_F F123 (Or.inl (by decide)) (by decide) (rc_F F111 (Or.inl (by decide)) (by decide) (rc_o (by decide) (rfl)))
            have q127 : σ118.2.1 58 a = σ.2.1 58 a := rc_F F123 (Or.inl (by decide)) (by decide) (rc_F F111 (Or.inl (by decide)) (by decide) (rc_o (by decide) (rfl)))
            exact tn_zret (v := 0) rfl (by decide) dX7_step_398 ⟨_, rfl, rfl, w122, (((FrC.rfl.put (by decide) (by decide)).trans (FrC.sub F111 (by decide))).trans (FrC.sub F123 (by decide))), by omega, by unfold PIv at *; rw [q125, q126, q127]; omega, (((FA.rfl.put).trans (FA.of F111 (by decide))).trans (FA.of F123 (by decide)))⟩
          · refine tn_tableIn (tgt := 369) (off := 301) dX7_step_68 (x := v36) ⟨by omega, by omega⟩ (by omega) (by omega) (by rw [h69]; rfl) (by decide) ?_
            refine tn_aload_n dX7_step_369 rfl 3 rfl ?_
            refine tn_iload_n dX7_step_370 rfl 2 rfl ?_
            refine tn_iload_n dX7_step_371 rfl 1 rfl ?_
            refine tn_callV (M := m_X7_step) (pc := 372) (ix := 129) (ci := 7) (M' := m_X7_reckonAt) (As := [.int (iI v6), .int (iI v36)]) (rest := []) dX7_step_372 ok_X7_reckonAt im_X7_reckonAt se_X7_reckonAt ml7_129 np_X7_reckonAt rfl rfl ha rfl (Nat.le_of_ble_eq_true rfl) (Nat.le_of_ble_eq_true rfl) rfl (k_X7_reckonAt (d + 1) (T := T) (σ := (sA 67 a (z41) σ)) (a := a) (k := v6) (e := v36) ha (by omega) (by omega) (hw.put (by decide) (by decide) (fo_67 (by omega))) (by rw [show (sA 67 a (z41) σ).2.1 69 a = _ from rc_o (by decide) (hx7)]; omega)) (fun r128 T130 σ129 gt131 hp => ?_)
            obtain ⟨rfl, rfl, w133, F134⟩ := hp
            clear gt131
            show Tn _ _ 375 T σ129 [(3, .int (iI z43)), (2, .int (iI v36)), (1, .int (iI v6)), (0, .ref a)] [] _
            refine tn_aload_n dX7_step_375 rfl 3 rfl ?_
            obtain ⟨x135, hx136, hk137, hl138⟩ : ∃ x : Nat, σ.2.1 60 a = (x : Int) ∧ AR T x 1 9 9 := wf_60 hw ha
            have hk137i : IA T x135 := by unfold IA; omega
            refine tn_getR (ci := 7) (i := 5) (n := 60) (x := x135) dX7_step_376 rfl lay_7 (by decide) fl7_15 ha rfl rfl (rc_F F134 (Or.inl (by decide)) (by decide) (rc_o (by decide) (hx136))) ?_
            refine tn_aload_n dX7_step_379 rfl 3 rfl ?_
            refine tn_getI (ci := 7) (i := 2) (n := 57) (t := σ.2.1 57 a) dX7_step_380 rfl lay_7 (by decide) fl7_65 ha rfl rfl (rc_F F134 (Or.inl (by decide)) (by decide) (rc_o (by decide) (rfl))) ?_
            have g139 : ((0 : Int) ≤ σ.2.1 57 a ∧ σ.2.1 57 a ≤ 11184800) ∧ ((T a).1 = 57 → σ.2.1 57 a ≤ 8) := wf_57 hw ha
            have g139x := g139.2
            replace g139 := g139.1
            have g139x := g139x hta
            refine tn_iload_n dX7_step_383 rfl 0 rfl ?_
            refine tn_callSN (M := m_X7_step) (pc := 384) (ix := 61) (M' := m_X11_put) (As := [.ref x135, .int (iI (σ.2.1 57 a)), .int (iI z43)]) (rest := []) dX7_step_384 ok_X11_put stt_X11_put nl7_61 np_X11_put rfl (Nat.le_of_ble_eq_true rfl) (Nat.le_of_ble_eq_true rfl) rfl (k_X11_put (d + 3) (T := T) (σ := σ129) (x := x135) (i := σ.2.1 57 a) (y := z43) hk137i (by omega) (by omega) (by omega) w133 (nh_k hk137 (by unfold HT; omega)) (vok_1 (by have q9 := hk137; omega) (by omega))) (fun r140 T142 σ141 gt143 hp => ?_)
            obtain ⟨rfl, rfl, w145, F146⟩ := hp
            clear gt143
            show Tn _ _ 387 T σ141 [(3, .int (iI z43)), (2, .int (iI v36)), (1, .int (iI v6)), (0, .ref a)] [] _
            refine tn_iload_n dX7_step_387 rfl 1 rfl ?_
            refine tn_bipush dX7_step_388 (by decide) ?_
            refine tn_icmp_ne (tgt := 397) dX7_step_390 (by decide) ⟨by omega, by omega⟩ ⟨by decide, by decide⟩ (fun h147 => ?_) (fun h147 => absurd h147 (by omega))
            refine tn_iconst dX7_step_397 ?_
            have q148 : σ141.2.1 56 a = σ.2.1 56 a := rc_F F146 (Or.inl (by decide)) (by decide) (rc_F F134 (Or.inl (by decide)) (by decide) (rc_o (by decide) (rfl)))
            have q149 : σ141.2.1 57 a = σ.2.1 57 a := rc_F F146 (Or.inl (by decide)) (by decide) (rc_F F134 (Or.inl (by decide)) (by decide) (rc_o (by decide) (rfl)))
            have q150 : σ141.2.1 58 a = σ.2.1 58 a := rc_F F146 (Or.inl (by decide)) (by decide) (rc_F F134 (Or.inl (by decide)) (by decide) (rc_o (by decide) (rfl)))
            exact tn_zret (v := 0) rfl (by decide) dX7_step_398 ⟨_, rfl, rfl, w145, (((FrC.rfl.put (by decide) (by decide)).trans (FrC.sub F134 (by decide))).trans (FrC.sub F146 (by decide))), by omega, by unfold PIv at *; rw [q148, q149, q150]; omega, (((FA.rfl.put).trans (FA.of F134 (by decide))).trans (FA.of F146 (by decide)))⟩
          · refine tn_tableIn (tgt := 369) (off := 301) dX7_step_68 (x := v36) ⟨by omega, by omega⟩ (by omega) (by omega) (by rw [h69]; rfl) (by decide) ?_
            refine tn_aload_n dX7_step_369 rfl 3 rfl ?_
            refine tn_iload_n dX7_step_370 rfl 2 rfl ?_
            refine tn_iload_n dX7_step_371 rfl 1 rfl ?_
            refine tn_callV (M := m_X7_step) (pc := 372) (ix := 129) (ci := 7) (M' := m_X7_reckonAt) (As := [.int (iI v6), .int (iI v36)]) (rest := []) dX7_step_372 ok_X7_reckonAt im_X7_reckonAt se_X7_reckonAt ml7_129 np_X7_reckonAt rfl rfl ha rfl (Nat.le_of_ble_eq_true rfl) (Nat.le_of_ble_eq_true rfl) rfl (k_X7_reckonAt (d + 1) (T := T) (σ := (sA 67 a (z41) σ)) (a := a) (k := v6) (e := v36) ha (by omega) (by omega) (hw.put (by decide) (by decide) (fo_67 (by omega))) (by rw [show (sA 67 a (z41) σ).2.1 69 a = _ from rc_o (by decide) (hx7)]; omega)) (fun r151 T153 σ152 gt154 hp => ?_)
            obtain ⟨rfl, rfl, w156, F157⟩ := hp
            clear gt154
            show Tn _ _ 375 T σ152 [(3, .int (iI z43)), (2, .int (iI v36)), (1, .int (iI v6)), (0, .ref a)] [] _
            refine tn_aload_n dX7_step_375 rfl 3 rfl ?_
            obtain ⟨x158, hx159, hk160, hl161⟩ : ∃ x : Nat, σ.2.1 60 a = (x : Int) ∧ AR T x 1 9 9 := wf_60 hw ha
            have hk160i : IA T x158 := by unfold IA; omega
            refine tn_getR (ci := 7) (i := 5) (n := 60) (x := x158) dX7_step_376 rfl lay_7 (by decide) fl7_15 ha rfl rfl (rc_F F157 (Or.inl (by decide)) (by decide) (rc_o (by decide) (hx159))) ?_
            refine tn_aload_n dX7_step_379 rfl 3 rfl ?_
            refine tn_getI (ci := 7) (i := 2) (n := 57) (t := σ.2.1 57 a) dX7_step_380 rfl lay_7 (by decide) fl7_65 ha rfl rfl (rc_F F157 (Or.inl (by decide)) (by decide) (rc_o (by decide) (rfl))) ?_
            have g162 : ((0 : Int) ≤ σ.2.1 57 a ∧ σ.2.1 57 a ≤ 11184800) ∧ ((T a).1 = 57 → σ.2.1 57 a ≤ 8) := wf_57 hw ha
            have g162x := g162.2
            replace g162 := g162.1
            have g162x := g162x hta
            refine tn_iload_n dX7_step_383 rfl 0 rfl ?_
            refine tn_callSN (M := m_X7_step) (pc := 384) (ix := 61) (M' := m_X11_put) (As := [.ref x158, .int (iI (σ.2.1 57 a)), .int (iI z43)]) (rest := []) dX7_step_384 ok_X11_put stt_X11_put nl7_61 np_X11_put rfl (Nat.le_of_ble_eq_true rfl) (Nat.le_of_ble_eq_true rfl) rfl (k_X11_put (d + 3) (T := T) (σ := σ152) (x := x158) (i := σ.2.1 57 a) (y := z43) hk160i (by omega) (by omega) (by omega) w156 (nh_k hk160 (by unfold HT; omega)) (vok_1 (by have q9 := hk160; omega) (by omega))) (fun r163 T165 σ164 gt166 hp => ?_)
            obtain ⟨rfl, rfl, w168, F169⟩ := hp
            clear gt166
            show Tn _ _ 387 T σ164 [(3, .int (iI z43)), (2, .int (iI v36)), (1, .int (iI v6)), (0, .ref a)] [] _
            refine tn_iload_n dX7_step_387 rfl 1 rfl ?_
            refine tn_bipush dX7_step_388 (by decide) ?_
            refine tn_icmp_ne (tgt := 397) dX7_step_390 (by decide) ⟨by omega, by omega⟩ ⟨by decide, by decide⟩ (fun h170 => ?_) (fun h170 => absurd h170 (by omega))
            refine tn_iconst dX7_step_397 ?_
            have q171 : σ164.2.1 56 a = σ.2.1 56 a := rc_F F169 (Or.inl (by decide)) (by decide) (rc_F F157 (Or.inl (by decide)) (by decide) (rc_o (by decide) (rfl)))
            have q172 : σ164.2.1 57 a = σ.2.1 57 a := rc_F F169 (Or.inl (by decide)) (by decide) (rc_F F157 (Or.inl (by decide)) (by decide) (rc_o (by decide) (rfl)))
            have q173 : σ164.2.1 58 a = σ.2.1 58 a := rc_F F169 (Or.inl (by decide)) (by decide) (rc_F F157 (Or.inl (by decide)) (by decide) (rc_o (by decide) (rfl)))
            exact tn_zret (v := 0) rfl (by decide) dX7_step_398 ⟨_, rfl, rfl, w168, (((FrC.rfl.put (by decide) (by decide)).trans (FrC.sub F157 (by decide))).trans (FrC.sub F169 (by decide))), by omega, by unfold PIv at *; rw [q171, q172, q173]; omega, (((FA.rfl.put).trans (FA.of F157 (by decide))).trans (FA.of F169 (by decide)))⟩
          · refine tn_tableIn (tgt := 369) (off := 301) dX7_step_68 (x := v36) ⟨by omega, by omega⟩ (by omega) (by omega) (by rw [h69]; rfl) (by decide) ?_
            refine tn_aload_n dX7_step_369 rfl 3 rfl ?_
            refine tn_iload_n dX7_step_370 rfl 2 rfl ?_
            refine tn_iload_n dX7_step_371 rfl 1 rfl ?_
            refine tn_callV (M := m_X7_step) (pc := 372) (ix := 129) (ci := 7) (M' := m_X7_reckonAt) (As := [.int (iI v6), .int (iI v36)]) (rest := []) dX7_step_372 ok_X7_reckonAt im_X7_reckonAt se_X7_reckonAt ml7_129 np_X7_reckonAt rfl rfl ha rfl (Nat.le_of_ble_eq_true rfl) (Nat.le_of_ble_eq_true rfl) rfl (k_X7_reckonAt (d + 1) (T := T) (σ := (sA 67 a (z41) σ)) (a := a) (k := v6) (e := v36) ha (by omega) (by omega) (hw.put (by decide) (by decide) (fo_67 (by omega))) (by rw [show (sA 67 a (z41) σ).2.1 69 a = _ from rc_o (by decide) (hx7)]; omega)) (fun r174 T176 σ175 gt177 hp => ?_)
            obtain ⟨rfl, rfl, w179, F180⟩ := hp
            clear gt177
            show Tn _ _ 375 T σ175 [(3, .int (iI z43)), (2, .int (iI v36)), (1, .int (iI v6)), (0, .ref a)] [] _
            refine tn_aload_n dX7_step_375 rfl 3 rfl ?_
            obtain ⟨x181, hx182, hk183, hl184⟩ : ∃ x : Nat, σ.2.1 60 a = (x : Int) ∧ AR T x 1 9 9 := wf_60 hw ha
            have hk183i : IA T x181 := by unfold IA; omega
            refine tn_getR (ci := 7) (i := 5) (n := 60) (x := x181) dX7_step_376 rfl lay_7 (by decide) fl7_15 ha rfl rfl (rc_F F180 (Or.inl (by decide)) (by decide) (rc_o (by decide) (hx182))) ?_
            refine tn_aload_n dX7_step_379 rfl 3 rfl ?_
            refine tn_getI (ci := 7) (i := 2) (n := 57) (t := σ.2.1 57 a) dX7_step_380 rfl lay_7 (by decide) fl7_65 ha rfl rfl (rc_F F180 (Or.inl (by decide)) (by decide) (rc_o (by decide) (rfl))) ?_
            have g185 : ((0 : Int) ≤ σ.2.1 57 a ∧ σ.2.1 57 a ≤ 11184800) ∧ ((T a).1 = 57 → σ.2.1 57 a ≤ 8) := wf_57 hw ha
            have g185x := g185.2
            replace g185 := g185.1
            have g185x := g185x hta
            refine tn_iload_n dX7_step_383 rfl 0 rfl ?_
            refine tn_callSN (M := m_X7_step) (pc := 384) (ix := 61) (M' := m_X11_put) (As := [.ref x181, .int (iI (σ.2.1 57 a)), .int (iI z43)]) (rest := []) dX7_step_384 ok_X11_put stt_X11_put nl7_61 np_X11_put rfl (Nat.le_of_ble_eq_true rfl) (Nat.le_of_ble_eq_true rfl) rfl (k_X11_put (d + 3) (T := T) (σ := σ175) (x := x181) (i := σ.2.1 57 a) (y := z43) hk183i (by omega) (by omega) (by omega) w179 (nh_k hk183 (by unfold HT; omega)) (vok_1 (by have q9 := hk183; omega) (by omega))) (fun r186 T188 σ187 gt189 hp => ?_)
            obtain ⟨rfl, rfl, w191, F192⟩ := hp
            clear gt189
            show Tn _ _ 387 T σ187 [(3, .int (iI z43)), (2, .int (iI v36)), (1, .int (iI v6)), (0, .ref a)] [] _
            refine tn_iload_n dX7_step_387 rfl 1 rfl ?_
            refine tn_bipush dX7_step_388 (by decide) ?_
            refine tn_icmp_ne (tgt := 397) dX7_step_390 (by decide) ⟨by omega, by omega⟩ ⟨by decide, by decide⟩ (fun h193 => ?_) (fun h193 => absurd h193 (by omega))
            refine tn_iconst dX7_step_397 ?_
            have q194 : σ187.2.1 56 a = σ.2.1 56 a := rc_F F192 (Or.inl (by decide)) (by decide) (rc_F F180 (Or.inl (by decide)) (by decide) (rc_o (by decide) (rfl)))
            have q195 : σ187.2.1 57 a = σ.2.1 57 a := rc_F F192 (Or.inl (by decide)) (by decide) (rc_F F180 (Or.inl (by decide)) (by decide) (rc_o (by decide) (rfl)))
            have q196 : σ187.2.1 58 a = σ.2.1 58 a := rc_F F192 (Or.inl (by decide)) (by decide) (rc_F F180 (Or.inl (by decide)) (by decide) (rc_o (by decide) (rfl)))
            exact tn_zret (v := 0) rfl (by decide) dX7_step_398 ⟨_, rfl, rfl, w191, (((FrC.rfl.put (by decide) (by decide)).trans (FrC.sub F180 (by decide))).trans (FrC.sub F192 (by decide))), by omega, by unfold PIv at *; rw [q194, q195, q196]; omega, (((FA.rfl.put).trans (FA.of F180 (by decide))).trans (FA.of F192 (by decide)))⟩
          · refine tn_tableIn (tgt := 369) (off := 301) dX7_step_68 (x := v36) ⟨by omega, by omega⟩ (by omega) (by omega) (by rw [h69]; rfl) (by decide) ?_
            refine tn_aload_n dX7_step_369 rfl 3 rfl ?_
            refine tn_iload_n dX7_step_370 rfl 2 rfl ?_
            refine tn_iload_n dX7_step_371 rfl 1 rfl ?_
            refine tn_callV (M := m_X7_step) (pc := 372) (ix := 129) (ci := 7) (M' := m_X7_reckonAt) (As := [.int (iI v6), .int (iI v36)]) (rest := []) dX7_step_372 ok_X7_reckonAt im_X7_reckonAt se_X7_reckonAt ml7_129 np_X7_reckonAt rfl rfl ha rfl (Nat.le_of_ble_eq_true rfl) (Nat.le_of_ble_eq_true rfl) rfl (k_X7_reckonAt (d + 1) (T := T) (σ := (sA 67 a (z41) σ)) (a := a) (k := v6) (e := v36) ha (by omega) (by omega) (hw.put (by decide) (by decide) (fo_67 (by omega))) (by rw [show (sA 67 a (z41) σ).2.1 69 a = _ from rc_o (by decide) (hx7)]; omega)) (fun r197 T199 σ198 gt200 hp => ?_)
            obtain ⟨rfl, rfl, w202, F203⟩ := hp
            clear gt200
            show Tn _ _ 375 T σ198 [(3, .int (iI z43)), (2, .int (iI v36)), (1, .int (iI v6)), (0, .ref a)] [] _
            refine tn_aload_n dX7_step_375 rfl 3 rfl ?_
            obtain ⟨x204, hx205, hk206, hl207⟩ : ∃ x : Nat, σ.2.1 60 a = (x : Int) ∧ AR T x 1 9 9 := wf_60 hw ha
            have hk206i : IA T x204 := by unfold IA; omega
            refine tn_getR (ci := 7) (i := 5) (n := 60) (x := x204) dX7_step_376 rfl lay_7 (by decide) fl7_15 ha rfl rfl (rc_F F203 (Or.inl (by decide)) (by decide) (rc_o (by decide) (hx205))) ?_
            refine tn_aload_n dX7_step_379 rfl 3 rfl ?_
            refine tn_getI (ci := 7) (i := 2) (n := 57) (t := σ.2.1 57 a) dX7_step_380 rfl lay_7 (by decide) fl7_65 ha rfl rfl (rc_F F203 (Or.inl (by decide)) (by decide) (rc_o (by decide) (rfl))) ?_
            have g208 : ((0 : Int) ≤ σ.2.1 57 a ∧ σ.2.1 57 a ≤ 11184800) ∧ ((T a).1 = 57 → σ.2.1 57 a ≤ 8) := wf_57 hw ha
            have g208x := g208.2
            replace g208 := g208.1
            have g208x := g208x hta
            refine tn_iload_n dX7_step_383 rfl 0 rfl ?_
            refine tn_callSN (M := m_X7_step) (pc := 384) (ix := 61) (M' := m_X11_put) (As := [.ref x204, .int (iI (σ.2.1 57 a)), .int (iI z43)]) (rest := []) dX7_step_384 ok_X11_put stt_X11_put nl7_61 np_X11_put rfl (Nat.le_of_ble_eq_true rfl) (Nat.le_of_ble_eq_true rfl) rfl (k_X11_put (d + 3) (T := T) (σ := σ198) (x := x204) (i := σ.2.1 57 a) (y := z43) hk206i (by omega) (by omega) (by omega) w202 (nh_k hk206 (by unfold HT; omega)) (vok_1 (by have q9 := hk206; omega) (by omega))) (fun r209 T211 σ210 gt212 hp => ?_)
            obtain ⟨rfl, rfl, w214, F215⟩ := hp
            clear gt212
            show Tn _ _ 387 T σ210 [(3, .int (iI z43)), (2, .int (iI v36)), (1, .int (iI v6)), (0, .ref a)] [] _
            refine tn_iload_n dX7_step_387 rfl 1 rfl ?_
            refine tn_bipush dX7_step_388 (by decide) ?_
            refine tn_icmp_ne (tgt := 397) dX7_step_390 (by decide) ⟨by omega, by omega⟩ ⟨by decide, by decide⟩ (fun h216 => ?_) (fun h216 => absurd h216 (by omega))
            refine tn_iconst dX7_step_397 ?_
            have q217 : σ210.2.1 56 a = σ.2.1 56 a := rc_F F215 (Or.inl (by decide)) (by decide) (rc_F F203 (Or.inl (by decide)) (by decide) (rc_o (by decide) (rfl)))
            have q218 : σ210.2.1 57 a = σ.2.1 57 a := rc_F F215 (Or.inl (by decide)) (by decide) (rc_F F203 (Or.inl (by decide)) (by decide) (rc_o (by decide) (rfl)))
            have q219 : σ210.2.1 58 a = σ.2.1 58 a := rc_F F215 (Or.inl (by decide)) (by decide) (rc_F F203 (Or.inl (by decide)) (by decide) (rc_o (by decide) (rfl)))
            exact tn_zret (v := 0) rfl (by decide) dX7_step_398 ⟨_, rfl, rfl, w214, (((FrC.rfl.put (by decide) (by decide)).trans (FrC.sub F203 (by decide))).trans (FrC.sub F215 (by decide))), by omega, by unfold PIv at *; rw [q217, q218, q219]; omega, (((FA.rfl.put).trans (FA.of F203 (by decide))).trans (FA.of F215 (by decide)))⟩
          · refine tn_tableIn (tgt := 152) (off := 84) dX7_step_68 (x := v36) ⟨by omega, by omega⟩ (by omega) (by omega) (by rw [h69]; rfl) (by decide) ?_
            refine tn_aload_n dX7_step_152 rfl 3 rfl ?_
            refine tn_aload_n dX7_step_153 rfl 3 rfl ?_
            refine tn_iload_n dX7_step_154 rfl 2 rfl ?_
            refine tn_iconst dX7_step_155 ?_
            refine tn_callV (M := m_X7_step) (pc := 156) (ix := 110) (ci := 7) (M' := m_X7_operand) (As := [.int (iI v6), .int (iI 3)]) (rest := [.ref a]) dX7_step_156 ok_X7_operand im_X7_operand se_X7_operand ml7_110 np_X7_operand rfl rfl ha rfl (Nat.le_of_ble_eq_true rfl) (Nat.le_of_ble_eq_true rfl) rfl (k_X7_operand (d + 2) (T := T) (σ := (sA 67 a (z41) σ)) (a := a) (k := v6) (c := 3) ha (by omega) (by decide) (hw.put (by decide) (by decide) (fo_67 (by omega))) (by rw [show (sA 67 a (z41) σ).2.1 69 a = _ from rc_o (by decide) (hx7)]; omega) (by omega)) (fun r220 T222 σ221 gt223 hp => ?_)
            obtain ⟨v225, rfl, rfl, rfl, f224⟩ := hp
            clear gt223
            show Tn _ _ 159 T (sA 67 a (z41) σ) [(3, .int (iI z43)), (2, .int (iI v36)), (1, .int (iI v6)), (0, .ref a)] [.int (iI v225), .ref a] _
            refine tn_callV (M := m_X7_step) (pc := 159) (ix := 113) (ci := 7) (M' := m_X7_emit) (As := [.int (iI v225)]) (rest := []) dX7_step_159 ok_X7_emit im_X7_emit se_X7_emit ml7_113 np_X7_emit rfl rfl ha rfl (Nat.le_of_ble_eq_true rfl) (Nat.le_of_ble_eq_true rfl) rfl (k_X7_emit (d + 2) (T := T) (σ := (sA 67 a (z41) σ)) (a := a) (p1 := v225) ha (by omega) (hw.put (by decide) (by decide) (fo_67 (by omega))) ) (fun r226 T228 σ227 gt229 hp => ?_)
            obtain ⟨rfl, rfl, w232, F233, f230⟩ := hp
            clear gt229
            show Tn _ _ 162 T σ227 [(3, .int (iI z43)), (2, .int (iI v36)), (1, .int (iI v6)), (0, .ref a)] [] _
            refine tn_goto (tgt := 375) dX7_step_162 (by decide) ?_
            refine tn_aload_n dX7_step_375 rfl 3 rfl ?_
            obtain ⟨x234, hx235, hk236, hl237⟩ : ∃ x : Nat, σ.2.1 60 a = (x : Int) ∧ AR T x 1 9 9 := wf_60 hw ha
            have hk236i : IA T x234 := by unfold IA; omega
            refine tn_getR (ci := 7) (i := 5) (n := 60) (x := x234) dX7_step_376 rfl lay_7 (by decide) fl7_15 ha rfl rfl (rc_F F233 (Or.inl (by decide)) (by decide) (rc_o (by decide) (hx235))) ?_
            refine tn_aload_n dX7_step_379 rfl 3 rfl ?_
            refine tn_getI (ci := 7) (i := 2) (n := 57) (t := σ.2.1 57 a) dX7_step_380 rfl lay_7 (by decide) fl7_65 ha rfl rfl (rc_F F233 (Or.inl (by decide)) (by decide) (rc_o (by decide) (rfl))) ?_
            have g238 : ((0 : Int) ≤ σ.2.1 57 a ∧ σ.2.1 57 a ≤ 11184800) ∧ ((T a).1 = 57 → σ.2.1 57 a ≤ 8) := wf_57 hw ha
            have g238x := g238.2
            replace g238 := g238.1
            have g238x := g238x hta
            refine tn_iload_n dX7_step_383 rfl 0 rfl ?_
            refine tn_callSN (M := m_X7_step) (pc := 384) (ix := 61) (M' := m_X11_put) (As := [.ref x234, .int (iI (σ.2.1 57 a)), .int (iI z43)]) (rest := []) dX7_step_384 ok_X11_put stt_X11_put nl7_61 np_X11_put rfl (Nat.le_of_ble_eq_true rfl) (Nat.le_of_ble_eq_true rfl) rfl (k_X11_put (d + 3) (T := T) (σ := σ227) (x := x234) (i := σ.2.1 57 a) (y := z43) hk236i (by omega) (by omega) (by omega) w232 (nh_k hk236 (by unfold HT; omega)) (vok_1 (by have q9 := hk236; omega) (by omega))) (fun r239 T241 σ240 gt242 hp => ?_)
            obtain ⟨rfl, rfl, w244, F245⟩ := hp
            clear gt242
            show Tn _ _ 387 T σ240 [(3, .int (iI z43)), (2, .int (iI v36)), (1, .int (iI v6)), (0, .ref a)] [] _
            refine tn_iload_n dX7_step_387 rfl 1 rfl ?_
            refine tn_bipush dX7_step_388 (by decide) ?_
            refine tn_icmp_ne (tgt := 397) dX7_step_390 (by decide) ⟨by omega, by omega⟩ ⟨by decide, by decide⟩ (fun h246 => ?_) (fun h246 => absurd h246 (by omega))
            refine tn_iconst dX7_step_397 ?_
            have q247 : σ240.2.1 56 a = σ.2.1 56 a := rc_F F245 (Or.inl (by decide)) (by decide) (rc_F F233 (Or.inl (by decide)) (by decide) (rc_o (by decide) (rfl)))
            have q248 : σ240.2.1 57 a = σ.2.1 57 a := rc_F F245 (Or.inl (by decide)) (by decide) (rc_F F233 (Or.inl (by decide)) (by decide) (rc_o (by decide) (rfl)))
            have q249 : σ240.2.1 58 a = σ.2.1 58 a := rc_F F245 (Or.inl (by decide)) (by decide) (rc_F F233 (Or.inl (by decide)) (by decide) (rc_o (by decide) (rfl)))
            exact tn_zret (v := 0) rfl (by decide) dX7_step_398 ⟨_, rfl, rfl, w244, (((FrC.rfl.put (by decide) (by decide)).trans (FrC.sub F233 (by decide))).trans (FrC.sub F245 (by decide))), by omega, by unfold PIv at *; rw [q247, q248, q249]; omega, (((FA.rfl.put).trans f230).trans (FA.of F245 (by decide)))⟩
          · refine tn_tableIn (tgt := 213) (off := 145) dX7_step_68 (x := v36) ⟨by omega, by omega⟩ (by omega) (by omega) (by rw [h69]; rfl) (by decide) ?_
            refine tn_aload_n dX7_step_213 rfl 3 rfl ?_
            refine tn_aload_n dX7_step_214 rfl 3 rfl ?_
            refine tn_iload_n dX7_step_215 rfl 2 rfl ?_
            refine tn_iconst dX7_step_216 ?_
            refine tn_callV (M := m_X7_step) (pc := 217) (ix := 110) (ci := 7) (M' := m_X7_operand) (As := [.int (iI v6), .int (iI 3)]) (rest := [.ref a]) dX7_step_217 ok_X7_operand im_X7_operand se_X7_operand ml7_110 np_X7_operand rfl rfl ha rfl (Nat.le_of_ble_eq_true rfl) (Nat.le_of_ble_eq_true rfl) rfl (k_X7_operand (d + 2) (T := T) (σ := (sA 67 a (z41) σ)) (a := a) (k := v6) (c := 3) ha (by omega) (by decide) (hw.put (by decide) (by decide) (fo_67 (by omega))) (by rw [show (sA 67 a (z41) σ).2.1 69 a = _ from rc_o (by decide) (hx7)]; omega) (by omega)) (fun r250 T252 σ251 gt253 hp => ?_)
            obtain ⟨v255, rfl, rfl, rfl, f254⟩ := hp
            clear gt253
            show Tn _ _ 220 T (sA 67 a (z41) σ) [(3, .int (iI z43)), (2, .int (iI v36)), (1, .int (iI v6)), (0, .ref a)] [.int (iI v255), .ref a] _
            refine tn_callV (M := m_X7_step) (pc := 220) (ix := 123) (ci := 7) (M' := m_X7_giveBack) (As := [.int (iI v255)]) (rest := []) dX7_step_220 ok_X7_giveBack im_X7_giveBack se_X7_giveBack ml7_123 np_X7_giveBack rfl rfl ha rfl (Nat.le_of_ble_eq_true rfl) (Nat.le_of_ble_eq_true rfl) rfl (k_X7_giveBack_57 (d + 1) (T := T) (σ := (sA 67 a (z41) σ)) (a := a) (n := v255) ha hta (by omega) (hw.put (by decide) (by decide) (fo_67 (by omega))) (by rw [show (sA 67 a (z41) σ).2.1 58 a = σ.2.1 58 a from rc_o (by decide) (rfl), show (sA 67 a (z41) σ).2.1 57 a = σ.2.1 57 a from rc_o (by decide) (rfl)]; omega)) (fun r256 T258 σ257 gt259 hp => ?_)
            obtain ⟨rfl, rfl, w263, F264, f260, f261⟩ := hp
            clear gt259
            show Tn _ _ 223 T σ257 [(3, .int (iI z43)), (2, .int (iI v36)), (1, .int (iI v6)), (0, .ref a)] [] _
            refine tn_iconst dX7_step_223 ?_
            have q265 : σ257.2.1 56 a = σ257.2.1 56 a := rfl
            have q266 : σ257.2.1 57 a = σ257.2.1 57 a := rfl
            have q267 : σ257.2.1 58 a = σ257.2.1 58 a := rfl
            exact tn_zret (v := 0) rfl (by decide) dX7_step_224 ⟨_, rfl, rfl, w263, ((FrC.rfl.put (by decide) (by decide)).trans (FrC.sub F264 (by decide))), by omega, by unfold PIv at *; rw [q265, q266, q267]; omega, ((FA.rfl.put).trans f261)⟩
          · refine tn_tableIn (tgt := 165) (off := 97) dX7_step_68 (x := v36) ⟨by omega, by omega⟩ (by omega) (by omega) (by rw [h69]; rfl) (by decide) ?_
            refine tn_aload_n dX7_step_165 rfl 3 rfl ?_
            refine tn_getR (ci := 7) (i := 14) (n := 69) (x := x8) dX7_step_166 rfl lay_7 (by decide) fl7_72 ha rfl rfl (rc_o (by decide) (hx7)) ?_
            refine tn_iload_n dX7_step_169 rfl 2 rfl ?_
            refine tn_bipush dX7_step_170 (by decide) ?_
            refine tn_callV (M := m_X7_step) (pc := 172) (ix := 117) (ci := 1) (M' := m_X1_get) (As := [.int (iI v6), .int (iI 12)]) (rest := []) dX7_step_172 ok_X1_get im_X1_get se_X1_get ml7_117 np_X1_get rfl rfl hk9o rfl (Nat.le_of_ble_eq_true rfl) (Nat.le_of_ble_eq_true rfl) rfl (k_X1_get (d + 3) (T := T) (σ := (sA 67 a (z41) σ)) (a := x8) (k := v6) (c := 12) hk9o (by omega) (by decide) (hw.put (by decide) (by decide) (fo_67 (by omega))) (by omega)) (fun r268 T270 σ269 gt271 hp => ?_)
            obtain ⟨v273, rfl, rfl, rfl, f272⟩ := hp
            clear gt271
            show Tn _ _ 175 T (sA 67 a (z41) σ) [(3, .int (iI z43)), (2, .int (iI v36)), (1, .int (iI v6)), (0, .ref a)] [.int (iI v273)] _
            refine tn_istore_n (L' := [(3, .int (iI v273)), (2, .int (iI v36)), (1, .int (iI v6)), (0, .ref a)]) dX7_step_175 rfl (by decide) rfl ?_
            refine tn_goto (tgt := 375) dX7_step_176 (by decide) ?_
            refine tn_aload_n dX7_step_375 rfl 3 rfl ?_
            obtain ⟨x274, hx275, hk276, hl277⟩ : ∃ x : Nat, σ.2.1 60 a = (x : Int) ∧ AR T x 1 9 9 := wf_60 hw ha
            have hk276i : IA T x274 := by unfold IA; omega
            refine tn_getR (ci := 7) (i := 5) (n := 60) (x := x274) dX7_step_376 rfl lay_7 (by decide) fl7_15 ha rfl rfl (rc_o (by decide) (hx275)) ?_
            refine tn_aload_n dX7_step_379 rfl 3 rfl ?_
            refine tn_getI (ci := 7) (i := 2) (n := 57) (t := σ.2.1 57 a) dX7_step_380 rfl lay_7 (by decide) fl7_65 ha rfl rfl (rc_o (by decide) (rfl)) ?_
            have g278 : ((0 : Int) ≤ σ.2.1 57 a ∧ σ.2.1 57 a ≤ 11184800) ∧ ((T a).1 = 57 → σ.2.1 57 a ≤ 8) := wf_57 hw ha
            have g278x := g278.2
            replace g278 := g278.1
            have g278x := g278x hta
            refine tn_iload_n dX7_step_383 rfl 0 rfl ?_
            refine tn_callSN (M := m_X7_step) (pc := 384) (ix := 61) (M' := m_X11_put) (As := [.ref x274, .int (iI (σ.2.1 57 a)), .int (iI v273)]) (rest := []) dX7_step_384 ok_X11_put stt_X11_put nl7_61 np_X11_put rfl (Nat.le_of_ble_eq_true rfl) (Nat.le_of_ble_eq_true rfl) rfl (k_X11_put (d + 3) (T := T) (σ := (sA 67 a (z41) σ)) (x := x274) (i := σ.2.1 57 a) (y := v273) hk276i (by omega) (by omega) (by omega) (hw.put (by decide) (by decide) (fo_67 (by omega))) (nh_k hk276 (by unfold HT; omega)) (vok_1 (by have q9 := hk276; omega) (by omega))) (fun r279 T281 σ280 gt282 hp => ?_)
            obtain ⟨rfl, rfl, w284, F285⟩ := hp
            clear gt282
            show Tn _ _ 387 T σ280 [(3, .int (iI v273)), (2, .int (iI v36)), (1, .int (iI v6)), (0, .ref a)] [] _
            refine tn_iload_n dX7_step_387 rfl 1 rfl ?_
            refine tn_bipush dX7_step_388 (by decide) ?_
            refine tn_icmp_ne (tgt := 397) dX7_step_390 (by decide) ⟨by omega, by omega⟩ ⟨by decide, by decide⟩ (fun h286 => ?_) (fun h286 => absurd h286 (by omega))
            refine tn_iconst dX7_step_397 ?_
            have q287 : σ280.2.1 56 a = σ.2.1 56 a := rc_F F285 (Or.inl (by decide)) (by decide) (rc_o (by decide) (rfl))
            have q288 : σ280.2.1 57 a = σ.2.1 57 a := rc_F F285 (Or.inl (by decide)) (by decide) (rc_o (by decide) (rfl))
            have q289 : σ280.2.1 58 a = σ.2.1 58 a := rc_F F285 (Or.inl (by decide)) (by decide) (rc_o (by decide) (rfl))
            exact tn_zret (v := 0) rfl (by decide) dX7_step_398 ⟨_, rfl, rfl, w284, ((FrC.rfl.put (by decide) (by decide)).trans (FrC.sub F285 (by decide))), by omega, by unfold PIv at *; rw [q287, q288, q289]; omega, ((FA.rfl.put).trans (FA.of F285 (by decide)))⟩
          · refine tn_tableIn (tgt := 179) (off := 111) dX7_step_68 (x := v36) ⟨by omega, by omega⟩ (by omega) (by omega) (by rw [h69]; rfl) (by decide) ?_
            refine tn_aload_n dX7_step_179 rfl 3 rfl ?_
            refine tn_iload_n dX7_step_180 rfl 2 rfl ?_
            refine tn_iconst dX7_step_181 ?_
            refine tn_callV (M := m_X7_step) (pc := 182) (ix := 110) (ci := 7) (M' := m_X7_operand) (As := [.int (iI v6), .int (iI 3)]) (rest := []) dX7_step_182 ok_X7_operand im_X7_operand se_X7_operand ml7_110 np_X7_operand rfl rfl ha rfl (Nat.le_of_ble_eq_true rfl) (Nat.le_of_ble_eq_true rfl) rfl (k_X7_operand (d + 2) (T := T) (σ := (sA 67 a (z41) σ)) (a := a) (k := v6) (c := 3) ha (by omega) (by decide) (hw.put (by decide) (by decide) (fo_67 (by omega))) (by rw [show (sA 67 a (z41) σ).2.1 69 a = _ from rc_o (by decide) (hx7)]; omega) (by omega)) (fun r290 T292 σ291 gt293 hp => ?_)
            obtain ⟨v295, rfl, rfl, rfl, f294⟩ := hp
            clear gt293
            show Tn _ _ 185 T (sA 67 a (z41) σ) [(3, .int (iI z43)), (2, .int (iI v36)), (1, .int (iI v6)), (0, .ref a)] [.int (iI v295)] _
            refine tn_if_ne (tgt := 201) dX7_step_185 (by decide) ⟨by omega, by omega⟩ (fun h296 => ?_) (fun h296 => ?_)
            · refine tn_iload_n dX7_step_201 rfl 0 rfl ?_
              refine tn_istore_n (L' := [(3, .int (iI z43)), (2, .int (iI v36)), (1, .int (iI v6)), (0, .ref a)]) dX7_step_202 rfl (by decide) rfl ?_
              refine tn_goto (tgt := 375) dX7_step_203 (by decide) ?_
              refine tn_aload_n dX7_step_375 rfl 3 rfl ?_
              obtain ⟨x297, hx298, hk299, hl300⟩ : ∃ x : Nat, σ.2.1 60 a = (x : Int) ∧ AR T x 1 9 9 := wf_60 hw ha
              have hk299i : IA T x297 := by unfold IA; omega
              refine tn_getR (ci := 7) (i := 5) (n := 60) (x := x297) dX7_step_376 rfl lay_7 (by decide) fl7_15 ha rfl rfl (rc_o (by decide) (hx298)) ?_
              refine tn_aload_n dX7_step_379 rfl 3 rfl ?_
              refine tn_getI (ci := 7) (i := 2) (n := 57) (t := σ.2.1 57 a) dX7_step_380 rfl lay_7 (by decide) fl7_65 ha rfl rfl (rc_o (by decide) (rfl)) ?_
              have g301 : ((0 : Int) ≤ σ.2.1 57 a ∧ σ.2.1 57 a ≤ 11184800) ∧ ((T a).1 = 57 → σ.2.1 57 a ≤ 8) := wf_57 hw ha
              have g301x := g301.2
              replace g301 := g301.1
              have g301x := g301x hta
              refine tn_iload_n dX7_step_383 rfl 0 rfl ?_
              refine tn_callSN (M := m_X7_step) (pc := 384) (ix := 61) (M' := m_X11_put) (As := [.ref x297, .int (iI (σ.2.1 57 a)), .int (iI z43)]) (rest := []) dX7_step_384 ok_X11_put stt_X11_put nl7_61 np_X11_put rfl (Nat.le_of_ble_eq_true rfl) (Nat.le_of_ble_eq_true rfl) rfl (k_X11_put (d + 3) (T := T) (σ := (sA 67 a (z41) σ)) (x := x297) (i := σ.2.1 57 a) (y := z43) hk299i (by omega) (by omega) (by omega) (hw.put (by decide) (by decide) (fo_67 (by omega))) (nh_k hk299 (by unfold HT; omega)) (vok_1 (by have q9 := hk299; omega) (by omega))) (fun r302 T304 σ303 gt305 hp => ?_)
              obtain ⟨rfl, rfl, w307, F308⟩ := hp
              clear gt305
              show Tn _ _ 387 T σ303 [(3, .int (iI z43)), (2, .int (iI v36)), (1, .int (iI v6)), (0, .ref a)] [] _
              refine tn_iload_n dX7_step_387 rfl 1 rfl ?_
              refine tn_bipush dX7_step_388 (by decide) ?_
              refine tn_icmp_ne (tgt := 397) dX7_step_390 (by decide) ⟨by omega, by omega⟩ ⟨by decide, by decide⟩ (fun h309 => ?_) (fun h309 => absurd h309 (by omega))
              refine tn_iconst dX7_step_397 ?_
              have q310 : σ303.2.1 56 a = σ.2.1 56 a := rc_F F308 (Or.inl (by decide)) (by decide) (rc_o (by decide) (rfl))
              have q311 : σ303.2.1 57 a = σ.2.1 57 a := rc_F F308 (Or.inl (by decide)) (by decide) (rc_o (by decide) (rfl))
              have q312 : σ303.2.1 58 a = σ.2.1 58 a := rc_F F308 (Or.inl (by decide)) (by decide) (rc_o (by decide) (rfl))
              exact tn_zret (v := 0) rfl (by decide) dX7_step_398 ⟨_, rfl, rfl, w307, ((FrC.rfl.put (by decide) (by decide)).trans (FrC.sub F308 (by decide))), by omega, by unfold PIv at *; rw [q310, q311, q312]; omega, ((FA.rfl.put).trans (FA.of F308 (by decide)))⟩
            · refine tn_aload_n dX7_step_188 rfl 3 rfl ?_
              refine tn_getR (ci := 7) (i := 14) (n := 69) (x := x8) dX7_step_189 rfl lay_7 (by decide) fl7_72 ha rfl rfl (rc_o (by decide) (hx7)) ?_
              refine tn_iload_n dX7_step_192 rfl 2 rfl ?_
              refine tn_bipush dX7_step_193 (by decide) ?_
              refine tn_callV (M := m_X7_step) (pc := 195) (ix := 117) (ci := 1) (M' := m_X1_get) (As := [.int (iI v6), .int (iI 12)]) (rest := []) dX7_step_195 ok_X1_get im_X1_get se_X1_get ml7_117 np_X1_get rfl rfl hk9o rfl (Nat.le_of_ble_eq_true rfl) (Nat.le_of_ble_eq_true rfl) rfl (k_X1_get (d + 3) (T := T) (σ := (sA 67 a (z41) σ)) (a := x8) (k := v6) (c := 12) hk9o (by omega) (by decide) (hw.put (by decide) (by decide) (fo_67 (by omega))) (by omega)) (fun r313 T315 σ314 gt316 hp => ?_)
              obtain ⟨v318, rfl, rfl, rfl, f317⟩ := hp
              clear gt316
              show Tn _ _ 198 T (sA 67 a (z41) σ) [(3, .int (iI z43)), (2, .int (iI v36)), (1, .int (iI v6)), (0, .ref a)] [.int (iI v318)] _
              refine tn_goto (tgt := 202) dX7_step_198 (by decide) ?_
              refine tn_istore_n (L' := [(3, .int (iI v318)), (2, .int (iI v36)), (1, .int (iI v6)), (0, .ref a)]) dX7_step_202 rfl (by decide) rfl ?_
              refine tn_goto (tgt := 375) dX7_step_203 (by decide) ?_
              refine tn_aload_n dX7_step_375 rfl 3 rfl ?_
              obtain ⟨x319, hx320, hk321, hl322⟩ : ∃ x : Nat, σ.2.1 60 a = (x : Int) ∧ AR T x 1 9 9 := wf_60 hw ha
              have hk321i : IA T x319 := by unfold IA; omega
              refine tn_getR (ci := 7) (i := 5) (n := 60) (x := x319) dX7_step_376 rfl lay_7 (by decide) fl7_15 ha rfl rfl (rc_o (by decide) (hx320)) ?_
              refine tn_aload_n dX7_step_379 rfl 3 rfl ?_
              refine tn_getI (ci := 7) (i := 2) (n := 57) (t := σ.2.1 57 a) dX7_step_380 rfl lay_7 (by decide) fl7_65 ha rfl rfl (rc_o (by decide) (rfl)) ?_
              have g323 : ((0 : Int) ≤ σ.2.1 57 a ∧ σ.2.1 57 a ≤ 11184800) ∧ ((T a).1 = 57 → σ.2.1 57 a ≤ 8) := wf_57 hw ha
              have g323x := g323.2
              replace g323 := g323.1
              have g323x := g323x hta
              refine tn_iload_n dX7_step_383 rfl 0 rfl ?_
              refine tn_callSN (M := m_X7_step) (pc := 384) (ix := 61) (M' := m_X11_put) (As := [.ref x319, .int (iI (σ.2.1 57 a)), .int (iI v318)]) (rest := []) dX7_step_384 ok_X11_put stt_X11_put nl7_61 np_X11_put rfl (Nat.le_of_ble_eq_true rfl) (Nat.le_of_ble_eq_true rfl) rfl (k_X11_put (d + 3) (T := T) (σ := (sA 67 a (z41) σ)) (x := x319) (i := σ.2.1 57 a) (y := v318) hk321i (by omega) (by omega) (by omega) (hw.put (by decide) (by decide) (fo_67 (by omega))) (nh_k hk321 (by unfold HT; omega)) (vok_1 (by have q9 := hk321; omega) (by omega))) (fun r324 T326 σ325 gt327 hp => ?_)
              obtain ⟨rfl, rfl, w329, F330⟩ := hp
              clear gt327
              show Tn _ _ 387 T σ325 [(3, .int (iI v318)), (2, .int (iI v36)), (1, .int (iI v6)), (0, .ref a)] [] _
              refine tn_iload_n dX7_step_387 rfl 1 rfl ?_
              refine tn_bipush dX7_step_388 (by decide) ?_
              refine tn_icmp_ne (tgt := 397) dX7_step_390 (by decide) ⟨by omega, by omega⟩ ⟨by decide, by decide⟩ (fun h331 => ?_) (fun h331 => absurd h331 (by omega))
              refine tn_iconst dX7_step_397 ?_
              have q332 : σ325.2.1 56 a = σ.2.1 56 a := rc_F F330 (Or.inl (by decide)) (by decide) (rc_o (by decide) (rfl))
              have q333 : σ325.2.1 57 a = σ.2.1 57 a := rc_F F330 (Or.inl (by decide)) (by decide) (rc_o (by decide) (rfl))
              have q334 : σ325.2.1 58 a = σ.2.1 58 a := rc_F F330 (Or.inl (by decide)) (by decide) (rc_o (by decide) (rfl))
              exact tn_zret (v := 0) rfl (by decide) dX7_step_398 ⟨_, rfl, rfl, w329, ((FrC.rfl.put (by decide) (by decide)).trans (FrC.sub F330 (by decide))), by omega, by unfold PIv at *; rw [q332, q333, q334]; omega, ((FA.rfl.put).trans (FA.of F330 (by decide)))⟩
          · refine tn_tableIn (tgt := 206) (off := 138) dX7_step_68 (x := v36) ⟨by omega, by omega⟩ (by omega) (by omega) (by rw [h69]; rfl) (by decide) ?_
            refine tn_aload_n dX7_step_206 rfl 3 rfl ?_
            refine tn_iload_n dX7_step_207 rfl 2 rfl ?_
            have q339 : (sA 67 a (z41) σ).2.1 57 a = σ.2.1 57 a := rc_o (by decide) (rfl)
            have q340 : (sA 67 a (z41) σ).2.1 58 a = σ.2.1 58 a := rc_o (by decide) (rfl)
            refine tn_callV (M := m_X7_step) (pc := 208) (ix := 120) (ci := 7) (M' := m_X7_callFrom) (As := [.int (iI v6)]) (rest := []) dX7_step_208 ok_X7_callFrom im_X7_callFrom se_X7_callFrom ml7_120 np_X7_callFrom rfl rfl ha rfl (Nat.le_of_ble_eq_true rfl) (Nat.le_of_ble_eq_true rfl) rfl (k_X7_callFrom_57 (d) (T := T) (σ := (sA 67 a (z41) σ)) (a := a) (k := v6) ha hta (by omega) (hw.put (by decide) (by decide) (fo_67 (by omega))) (by rw [show (sA 67 a (z41) σ).2.1 69 a = _ from rc_o (by decide) (hx7)]; omega) (by rw [show (sA 67 a (z41) σ).2.1 57 a = σ.2.1 57 a from rc_o (by decide) (rfl)]; omega) (by rw [show (sA 67 a (z41) σ).2.1 58 a = σ.2.1 58 a from rc_o (by decide) (rfl)]; omega)) (fun r335 T337 σ336 gt338 hp => ?_)
            obtain ⟨rfl, rfl, w345, F346, f341, f342, f343⟩ := hp
            clear gt338
            show Tn _ _ 211 T σ336 [(3, .int (iI z43)), (2, .int (iI v36)), (1, .int (iI v6)), (0, .ref a)] [] _
            refine tn_iconst dX7_step_211 ?_
            have q347 : σ336.2.1 56 a = σ.2.1 56 a := rc_F F346 (Or.inl (by decide)) (by decide) (rc_o (by decide) (rfl))
            have q348 : σ336.2.1 57 a = σ336.2.1 57 a := rfl
            have q349 : σ336.2.1 58 a = σ336.2.1 58 a := rfl
            exact tn_zret (v := 0) rfl (by decide) dX7_step_212 ⟨_, rfl, rfl, w345, ((FrC.rfl.put (by decide) (by decide)).trans (FrC.sub F346 (by decide))), by omega, by unfold PIv at *; rw [q347, q348, q349]; omega, ((FA.rfl.put).trans f343)⟩
          · refine tn_tableIn (tgt := 225) (off := 157) dX7_step_68 (x := v36) ⟨by omega, by omega⟩ (by omega) (by omega) (by rw [h69]; rfl) (by decide) ?_
            refine tn_aload_n dX7_step_225 rfl 3 rfl ?_
            obtain ⟨x350, hx351, hk352, hl353⟩ : ∃ x : Nat, σ.2.1 62 a = (x : Int) ∧ AR T x 1 108 108 := wf_62 hw ha
            have hk352i : IA T x350 := by unfold IA; omega
            refine tn_getR (ci := 7) (i := 7) (n := 62) (x := x350) dX7_step_226 rfl lay_7 (by decide) fl7_21 ha rfl rfl (rc_o (by decide) (hx351)) ?_
            refine tn_aload_n dX7_step_229 rfl 3 rfl ?_
            refine tn_getI (ci := 7) (i := 2) (n := 57) (t := σ.2.1 57 a) dX7_step_230 rfl lay_7 (by decide) fl7_65 ha rfl rfl (rc_o (by decide) (rfl)) ?_
            have g354 : ((0 : Int) ≤ σ.2.1 57 a ∧ σ.2.1 57 a ≤ 11184800) ∧ ((T a).1 = 57 → σ.2.1 57 a ≤ 8) := wf_57 hw ha
            have g354x := g354.2
            replace g354 := g354.1
            have g354x := g354x hta
            refine tn_bipush dX7_step_233 (by decide) ?_
            refine tn_imul dX7_step_235 ?_
            refine tn_aload_n dX7_step_236 rfl 3 rfl ?_
            refine tn_getR (ci := 7) (i := 14) (n := 69) (x := x8) dX7_step_237 rfl lay_7 (by decide) fl7_72 ha rfl rfl (rc_o (by decide) (hx7)) ?_
            refine tn_iload_n dX7_step_240 rfl 2 rfl ?_
            refine tn_iconst dX7_step_241 ?_
            refine tn_callV (M := m_X7_step) (pc := 242) (ix := 117) (ci := 1) (M' := m_X1_get) (As := [.int (iI v6), .int (iI 2)]) (rest := [.int (iI ((σ.2.1 57 a) * 12)), .ref x350]) dX7_step_242 ok_X1_get im_X1_get se_X1_get ml7_117 np_X1_get rfl rfl hk9o rfl (Nat.le_of_ble_eq_true rfl) (Nat.le_of_ble_eq_true rfl) rfl (k_X1_get (d + 3) (T := T) (σ := (sA 67 a (z41) σ)) (a := x8) (k := v6) (c := 2) hk9o (by omega) (by decide) (hw.put (by decide) (by decide) (fo_67 (by omega))) (by omega)) (fun r355 T357 σ356 gt358 hp => ?_)
            obtain ⟨v360, rfl, rfl, rfl, f359⟩ := hp
            clear gt358
            show Tn _ _ 245 T (sA 67 a (z41) σ) [(3, .int (iI z43)), (2, .int (iI v36)), (1, .int (iI v6)), (0, .ref a)] [.int (iI v360), .int (iI ((σ.2.1 57 a) * 12)), .ref x350] _
            refine tn_iadd dX7_step_245 ?_
            refine tn_any (fun z361 g362 => ?_)
            have g362r : -2147483648 ≤ z361 ∧ z361 ≤ 2147483647 := g362
            refine tn_aload_n dX7_step_246 rfl 3 rfl ?_
            refine tn_getR (ci := 7) (i := 14) (n := 69) (x := x8) dX7_step_247 rfl lay_7 (by decide) fl7_72 ha rfl rfl (rc_o (by decide) (hx7)) ?_
            refine tn_iload_n dX7_step_250 rfl 2 rfl ?_
            refine tn_iconst dX7_step_251 ?_
            refine tn_callV (M := m_X7_step) (pc := 252) (ix := 117) (ci := 1) (M' := m_X1_get) (As := [.int (iI v6), .int (iI 1)]) (rest := [.int (iI z361), .ref x350]) dX7_step_252 ok_X1_get im_X1_get se_X1_get ml7_117 np_X1_get rfl rfl hk9o rfl (Nat.le_of_ble_eq_true rfl) (Nat.le_of_ble_eq_true rfl) rfl (k_X1_get (d + 3) (T := T) (σ := (sA 67 a (z41) σ)) (a := x8) (k := v6) (c := 1) hk9o (by omega) (by decide) (hw.put (by decide) (by decide) (fo_67 (by omega))) (by omega)) (fun r363 T365 σ364 gt366 hp => ?_)
            obtain ⟨v368, rfl, rfl, rfl, f367⟩ := hp
            clear gt366
            show Tn _ _ 255 T (sA 67 a (z41) σ) [(3, .int (iI z43)), (2, .int (iI v36)), (1, .int (iI v6)), (0, .ref a)] [.int (iI v368), .int (iI z361), .ref x350] _
            refine tn_callSN (M := m_X7_step) (pc := 255) (ix := 61) (M' := m_X11_put) (As := [.ref x350, .int (iI z361), .int (iI v368)]) (rest := []) dX7_step_255 ok_X11_put stt_X11_put nl7_61 np_X11_put rfl (Nat.le_of_ble_eq_true rfl) (Nat.le_of_ble_eq_true rfl) rfl (k_X11_put (d + 3) (T := T) (σ := (sA 67 a (z41) σ)) (x := x350) (i := z361) (y := v368) hk352i (by omega) (by omega) (by omega) (hw.put (by decide) (by decide) (fo_67 (by omega))) (nh_k hk352 (by unfold HT; omega)) (vok_1 (by have q9 := hk352; omega) (by omega))) (fun r369 T371 σ370 gt372 hp => ?_)
            obtain ⟨rfl, rfl, w374, F375⟩ := hp
            clear gt372
            show Tn _ _ 258 T σ370 [(3, .int (iI z43)), (2, .int (iI v36)), (1, .int (iI v6)), (0, .ref a)] [] _
            refine tn_goto (tgt := 375) dX7_step_258 (by decide) ?_
            refine tn_aload_n dX7_step_375 rfl 3 rfl ?_
            obtain ⟨x376, hx377, hk378, hl379⟩ : ∃ x : Nat, σ.2.1 60 a = (x : Int) ∧ AR T x 1 9 9 := wf_60 hw ha
            have hk378i : IA T x376 := by unfold IA; omega
            refine tn_getR (ci := 7) (i := 5) (n := 60) (x := x376) dX7_step_376 rfl lay_7 (by decide) fl7_15 ha rfl rfl (rc_F F375 (Or.inl (by decide)) (by decide) (rc_o (by decide) (hx377))) ?_
            refine tn_aload_n dX7_step_379 rfl 3 rfl ?_
            refine tn_getI (ci := 7) (i := 2) (n := 57) (t := σ.2.1 57 a) dX7_step_380 rfl lay_7 (by decide) fl7_65 ha rfl rfl (rc_F F375 (Or.inl (by decide)) (by decide) (rc_o (by decide) (rfl))) ?_
            refine tn_iload_n dX7_step_383 rfl 0 rfl ?_
            refine tn_callSN (M := m_X7_step) (pc := 384) (ix := 61) (M' := m_X11_put) (As := [.ref x376, .int (iI (σ.2.1 57 a)), .int (iI z43)]) (rest := []) dX7_step_384 ok_X11_put stt_X11_put nl7_61 np_X11_put rfl (Nat.le_of_ble_eq_true rfl) (Nat.le_of_ble_eq_true rfl) rfl (k_X11_put (d + 3) (T := T) (σ := σ370) (x := x376) (i := σ.2.1 57 a) (y := z43) hk378i (by omega) (by omega) (by omega) w374 (nh_k hk378 (by unfold HT; omega)) (vok_1 (by have q9 := hk378; omega) (by omega))) (fun r380 T382 σ381 gt383 hp => ?_)
            obtain ⟨rfl, rfl, w385, F386⟩ := hp
            clear gt383
            show Tn _ _ 387 T σ381 [(3, .int (iI z43)), (2, .int (iI v36)), (1, .int (iI v6)), (0, .ref a)] [] _
            refine tn_iload_n dX7_step_387 rfl 1 rfl ?_
            refine tn_bipush dX7_step_388 (by decide) ?_
            refine tn_icmp_ne (tgt := 397) dX7_step_390 (by decide) ⟨by omega, by omega⟩ ⟨by decide, by decide⟩ (fun h387 => absurd h387 (by omega)) (fun h387 => ?_)
            refine tn_iconst dX7_step_393 ?_
            refine tn_goto (tgt := 398) dX7_step_394 (by decide) ?_
            have q388 : σ381.2.1 56 a = σ.2.1 56 a := rc_F F386 (Or.inl (by decide)) (by decide) (rc_F F375 (Or.inl (by decide)) (by decide) (rc_o (by decide) (rfl)))
            have q389 : σ381.2.1 57 a = σ.2.1 57 a := rc_F F386 (Or.inl (by decide)) (by decide) (rc_F F375 (Or.inl (by decide)) (by decide) (rc_o (by decide) (rfl)))
            have q390 : σ381.2.1 58 a = σ.2.1 58 a := rc_F F386 (Or.inl (by decide)) (by decide) (rc_F F375 (Or.inl (by decide)) (by decide) (rc_o (by decide) (rfl)))
            exact tn_zret (v := 1) rfl (by decide) dX7_step_398 ⟨_, rfl, rfl, w385, (((FrC.rfl.put (by decide) (by decide)).trans (FrC.sub F375 (by decide))).trans (FrC.sub F386 (by decide))), by omega, by unfold PIv at *; rw [q388, q389, q390]; omega, (((FA.rfl.put).trans (FA.of F375 (by decide))).trans (FA.of F386 (by decide)))⟩
          · refine tn_tableIn (tgt := 369) (off := 301) dX7_step_68 (x := v36) ⟨by omega, by omega⟩ (by omega) (by omega) (by rw [h69]; rfl) (by decide) ?_
            refine tn_aload_n dX7_step_369 rfl 3 rfl ?_
            refine tn_iload_n dX7_step_370 rfl 2 rfl ?_
            refine tn_iload_n dX7_step_371 rfl 1 rfl ?_
            refine tn_callV (M := m_X7_step) (pc := 372) (ix := 129) (ci := 7) (M' := m_X7_reckonAt) (As := [.int (iI v6), .int (iI v36)]) (rest := []) dX7_step_372 ok_X7_reckonAt im_X7_reckonAt se_X7_reckonAt ml7_129 np_X7_reckonAt rfl rfl ha rfl (Nat.le_of_ble_eq_true rfl) (Nat.le_of_ble_eq_true rfl) rfl (k_X7_reckonAt (d + 1) (T := T) (σ := (sA 67 a (z41) σ)) (a := a) (k := v6) (e := v36) ha (by omega) (by omega) (hw.put (by decide) (by decide) (fo_67 (by omega))) (by rw [show (sA 67 a (z41) σ).2.1 69 a = _ from rc_o (by decide) (hx7)]; omega)) (fun r391 T393 σ392 gt394 hp => ?_)
            obtain ⟨rfl, rfl, w396, F397⟩ := hp
            clear gt394
            show Tn _ _ 375 T σ392 [(3, .int (iI z43)), (2, .int (iI v36)), (1, .int (iI v6)), (0, .ref a)] [] _
            refine tn_aload_n dX7_step_375 rfl 3 rfl ?_
            obtain ⟨x398, hx399, hk400, hl401⟩ : ∃ x : Nat, σ.2.1 60 a = (x : Int) ∧ AR T x 1 9 9 := wf_60 hw ha
            have hk400i : IA T x398 := by unfold IA; omega
            refine tn_getR (ci := 7) (i := 5) (n := 60) (x := x398) dX7_step_376 rfl lay_7 (by decide) fl7_15 ha rfl rfl (rc_F F397 (Or.inl (by decide)) (by decide) (rc_o (by decide) (hx399))) ?_
            refine tn_aload_n dX7_step_379 rfl 3 rfl ?_
            refine tn_getI (ci := 7) (i := 2) (n := 57) (t := σ.2.1 57 a) dX7_step_380 rfl lay_7 (by decide) fl7_65 ha rfl rfl (rc_F F397 (Or.inl (by decide)) (by decide) (rc_o (by decide) (rfl))) ?_
            have g402 : ((0 : Int) ≤ σ.2.1 57 a ∧ σ.2.1 57 a ≤ 11184800) ∧ ((T a).1 = 57 → σ.2.1 57 a ≤ 8) := wf_57 hw ha
            have g402x := g402.2
            replace g402 := g402.1
            have g402x := g402x hta
            refine tn_iload_n dX7_step_383 rfl 0 rfl ?_
            refine tn_callSN (M := m_X7_step) (pc := 384) (ix := 61) (M' := m_X11_put) (As := [.ref x398, .int (iI (σ.2.1 57 a)), .int (iI z43)]) (rest := []) dX7_step_384 ok_X11_put stt_X11_put nl7_61 np_X11_put rfl (Nat.le_of_ble_eq_true rfl) (Nat.le_of_ble_eq_true rfl) rfl (k_X11_put (d + 3) (T := T) (σ := σ392) (x := x398) (i := σ.2.1 57 a) (y := z43) hk400i (by omega) (by omega) (by omega) w396 (nh_k hk400 (by unfold HT; omega)) (vok_1 (by have q9 := hk400; omega) (by omega))) (fun r403 T405 σ404 gt406 hp => ?_)
            obtain ⟨rfl, rfl, w408, F409⟩ := hp
            clear gt406
            show Tn _ _ 387 T σ404 [(3, .int (iI z43)), (2, .int (iI v36)), (1, .int (iI v6)), (0, .ref a)] [] _
            refine tn_iload_n dX7_step_387 rfl 1 rfl ?_
            refine tn_bipush dX7_step_388 (by decide) ?_
            refine tn_icmp_ne (tgt := 397) dX7_step_390 (by decide) ⟨by omega, by omega⟩ ⟨by decide, by decide⟩ (fun h410 => ?_) (fun h410 => absurd h410 (by omega))
            refine tn_iconst dX7_step_397 ?_
            have q411 : σ404.2.1 56 a = σ.2.1 56 a := rc_F F409 (Or.inl (by decide)) (by decide) (rc_F F397 (Or.inl (by decide)) (by decide) (rc_o (by decide) (rfl)))
            have q412 : σ404.2.1 57 a = σ.2.1 57 a := rc_F F409 (Or.inl (by decide)) (by decide) (rc_F F397 (Or.inl (by decide)) (by decide) (rc_o (by decide) (rfl)))
            have q413 : σ404.2.1 58 a = σ.2.1 58 a := rc_F F409 (Or.inl (by decide)) (by decide) (rc_F F397 (Or.inl (by decide)) (by decide) (rc_o (by decide) (rfl)))
            exact tn_zret (v := 0) rfl (by decide) dX7_step_398 ⟨_, rfl, rfl, w408, (((FrC.rfl.put (by decide) (by decide)).trans (FrC.sub F397 (by decide))).trans (FrC.sub F409 (by decide))), by omega, by unfold PIv at *; rw [q411, q412, q413]; omega, (((FA.rfl.put).trans (FA.of F397 (by decide))).trans (FA.of F409 (by decide)))⟩
          · refine tn_tableIn (tgt := 369) (off := 301) dX7_step_68 (x := v36) ⟨by omega, by omega⟩ (by omega) (by omega) (by rw [h69]; rfl) (by decide) ?_
            refine tn_aload_n dX7_step_369 rfl 3 rfl ?_
            refine tn_iload_n dX7_step_370 rfl 2 rfl ?_
            refine tn_iload_n dX7_step_371 rfl 1 rfl ?_
            refine tn_callV (M := m_X7_step) (pc := 372) (ix := 129) (ci := 7) (M' := m_X7_reckonAt) (As := [.int (iI v6), .int (iI v36)]) (rest := []) dX7_step_372 ok_X7_reckonAt im_X7_reckonAt se_X7_reckonAt ml7_129 np_X7_reckonAt rfl rfl ha rfl (Nat.le_of_ble_eq_true rfl) (Nat.le_of_ble_eq_true rfl) rfl (k_X7_reckonAt (d + 1) (T := T) (σ := (sA 67 a (z41) σ)) (a := a) (k := v6) (e := v36) ha (by omega) (by omega) (hw.put (by decide) (by decide) (fo_67 (by omega))) (by rw [show (sA 67 a (z41) σ).2.1 69 a = _ from rc_o (by decide) (hx7)]; omega)) (fun r414 T416 σ415 gt417 hp => ?_)
            obtain ⟨rfl, rfl, w419, F420⟩ := hp
            clear gt417
            show Tn _ _ 375 T σ415 [(3, .int (iI z43)), (2, .int (iI v36)), (1, .int (iI v6)), (0, .ref a)] [] _
            refine tn_aload_n dX7_step_375 rfl 3 rfl ?_
            obtain ⟨x421, hx422, hk423, hl424⟩ : ∃ x : Nat, σ.2.1 60 a = (x : Int) ∧ AR T x 1 9 9 := wf_60 hw ha
            have hk423i : IA T x421 := by unfold IA; omega
            refine tn_getR (ci := 7) (i := 5) (n := 60) (x := x421) dX7_step_376 rfl lay_7 (by decide) fl7_15 ha rfl rfl (rc_F F420 (Or.inl (by decide)) (by decide) (rc_o (by decide) (hx422))) ?_
            refine tn_aload_n dX7_step_379 rfl 3 rfl ?_
            refine tn_getI (ci := 7) (i := 2) (n := 57) (t := σ.2.1 57 a) dX7_step_380 rfl lay_7 (by decide) fl7_65 ha rfl rfl (rc_F F420 (Or.inl (by decide)) (by decide) (rc_o (by decide) (rfl))) ?_
            have g425 : ((0 : Int) ≤ σ.2.1 57 a ∧ σ.2.1 57 a ≤ 11184800) ∧ ((T a).1 = 57 → σ.2.1 57 a ≤ 8) := wf_57 hw ha
            have g425x := g425.2
            replace g425 := g425.1
            have g425x := g425x hta
            refine tn_iload_n dX7_step_383 rfl 0 rfl ?_
            refine tn_callSN (M := m_X7_step) (pc := 384) (ix := 61) (M' := m_X11_put) (As := [.ref x421, .int (iI (σ.2.1 57 a)), .int (iI z43)]) (rest := []) dX7_step_384 ok_X11_put stt_X11_put nl7_61 np_X11_put rfl (Nat.le_of_ble_eq_true rfl) (Nat.le_of_ble_eq_true rfl) rfl (k_X11_put (d + 3) (T := T) (σ := σ415) (x := x421) (i := σ.2.1 57 a) (y := z43) hk423i (by omega) (by omega) (by omega) w419 (nh_k hk423 (by unfold HT; omega)) (vok_1 (by have q9 := hk423; omega) (by omega))) (fun r426 T428 σ427 gt429 hp => ?_)
            obtain ⟨rfl, rfl, w431, F432⟩ := hp
            clear gt429
            show Tn _ _ 387 T σ427 [(3, .int (iI z43)), (2, .int (iI v36)), (1, .int (iI v6)), (0, .ref a)] [] _
            refine tn_iload_n dX7_step_387 rfl 1 rfl ?_
            refine tn_bipush dX7_step_388 (by decide) ?_
            refine tn_icmp_ne (tgt := 397) dX7_step_390 (by decide) ⟨by omega, by omega⟩ ⟨by decide, by decide⟩ (fun h433 => ?_) (fun h433 => absurd h433 (by omega))
            refine tn_iconst dX7_step_397 ?_
            have q434 : σ427.2.1 56 a = σ.2.1 56 a := rc_F F432 (Or.inl (by decide)) (by decide) (rc_F F420 (Or.inl (by decide)) (by decide) (rc_o (by decide) (rfl)))
            have q435 : σ427.2.1 57 a = σ.2.1 57 a := rc_F F432 (Or.inl (by decide)) (by decide) (rc_F F420 (Or.inl (by decide)) (by decide) (rc_o (by decide) (rfl)))
            have q436 : σ427.2.1 58 a = σ.2.1 58 a := rc_F F432 (Or.inl (by decide)) (by decide) (rc_F F420 (Or.inl (by decide)) (by decide) (rc_o (by decide) (rfl)))
            exact tn_zret (v := 0) rfl (by decide) dX7_step_398 ⟨_, rfl, rfl, w431, (((FrC.rfl.put (by decide) (by decide)).trans (FrC.sub F420 (by decide))).trans (FrC.sub F432 (by decide))), by omega, by unfold PIv at *; rw [q434, q435, q436]; omega, (((FA.rfl.put).trans (FA.of F420 (by decide))).trans (FA.of F432 (by decide)))⟩
          · refine tn_tableIn (tgt := 261) (off := 193) dX7_step_68 (x := v36) ⟨by omega, by omega⟩ (by omega) (by omega) (by rw [h69]; rfl) (by decide) ?_
            exact absurd True.intro (by omega)
          · refine tn_tableIn (tgt := 319) (off := 251) dX7_step_68 (x := v36) ⟨by omega, by omega⟩ (by omega) (by omega) (by rw [h69]; rfl) (by decide) ?_
            exact absurd True.intro (by omega)
      · refine tn_aload_n dX7_step_46 rfl 2 rfl ?_
        refine tn_iconst dX7_step_47 ?_
        refine tn_putV (ci := 7) (i := 1) (n := 56) (r := false) (v := 3) tyX7 tyX7_ok nmX7 dX7_step_48 rfl lay_7 (by decide) fl7_34 rfl (tyX7_ok 1 (by decide)) rfl rfl rfl ha rfl rfl ?_
        refine tn_iconst dX7_step_51 ?_
        have q437 : (sA 56 a (3) σ).2.1 56 a = 3 := ra_eq
        have q438 : (sA 56 a (3) σ).2.1 57 a = σ.2.1 57 a := rc_o (by decide) (rfl)
        have q439 : (sA 56 a (3) σ).2.1 58 a = σ.2.1 58 a := rc_o (by decide) (rfl)
        exact tn_zret (v := 0) rfl (by decide) dX7_step_52 ⟨_, rfl, rfl, (hw.put (by decide) (by decide) (fo_56 (by omega))), (FrC.rfl.put (by decide) (by decide)), by omega, by unfold PIv at *; rw [q437, q438, q439]; omega, (FA.rfl.put)⟩
    · refine tn_iload_n dX7_step_31 rfl 0 rfl ?_
      refine tn_bipush dX7_step_32 (by decide) ?_
      refine tn_icmp_ne (tgt := 53) dX7_step_34 (by decide) ⟨by omega, by omega⟩ ⟨by decide, by decide⟩ (fun h440 => ?_) (fun h440 => ?_)
      · refine tn_aload_n dX7_step_53 rfl 2 rfl ?_
        refine tn_dup dX7_step_54 rfl ?_
        refine tn_getI (ci := 7) (i := 12) (n := 67) (t := σ.2.1 67 a) dX7_step_55 rfl lay_7 (by decide) fl7_47 ha rfl rfl (rfl) ?_
        have g441 : ((-2147483648 : Int) ≤ σ.2.1 67 a ∧ σ.2.1 67 a ≤ 2147483647) := wf_67 hw ha
        refine tn_iconst dX7_step_58 ?_
        refine tn_iadd dX7_step_59 ?_
        refine tn_any (fun z442 g443 => ?_)
        have g443r : -2147483648 ≤ z442 ∧ z442 ≤ 2147483647 := g443
        refine tn_putV (ci := 7) (i := 12) (n := 67) (r := false) (v := z442) tyX7 tyX7_ok nmX7 dX7_step_60 rfl lay_7 (by decide) fl7_47 rfl (tyX7_ok 12 (by decide)) rfl rfl rfl ha rfl rfl ?_
        refine tn_iload_n dX7_step_63 rfl 1 rfl ?_
        refine tn_iconst dX7_step_64 ?_
        refine tn_iadd dX7_step_65 ?_
        refine tn_any (fun z444 g445 => ?_)
        have g445r : -2147483648 ≤ z444 ∧ z444 ≤ 2147483647 := g445
        refine tn_istore_n (L' := [(3, .int (iI z444)), (2, .int (iI v36)), (1, .int (iI v6)), (0, .ref a)]) dX7_step_66 rfl (by decide) rfl ?_
        refine tn_iload_n dX7_step_67 rfl 1 rfl ?_
        by_cases h446 : v36 < -1 ∨ 15 < v36
        · refine tn_tableOut (tgt := 369) dX7_step_68 (x := v36) ⟨by omega, by omega⟩ h446 (by decide) ?_
          refine tn_aload_n dX7_step_369 rfl 3 rfl ?_
          refine tn_iload_n dX7_step_370 rfl 2 rfl ?_
          refine tn_iload_n dX7_step_371 rfl 1 rfl ?_
          refine tn_callV (M := m_X7_step) (pc := 372) (ix := 129) (ci := 7) (M' := m_X7_reckonAt) (As := [.int (iI v6), .int (iI v36)]) (rest := []) dX7_step_372 ok_X7_reckonAt im_X7_reckonAt se_X7_reckonAt ml7_129 np_X7_reckonAt rfl rfl ha rfl (Nat.le_of_ble_eq_true rfl) (Nat.le_of_ble_eq_true rfl) rfl (k_X7_reckonAt (d + 1) (T := T) (σ := (sA 67 a (z442) σ)) (a := a) (k := v6) (e := v36) ha (by omega) (by omega) (hw.put (by decide) (by decide) (fo_67 (by omega))) (by rw [show (sA 67 a (z442) σ).2.1 69 a = _ from rc_o (by decide) (hx7)]; omega)) (fun r447 T449 σ448 gt450 hp => ?_)
          obtain ⟨rfl, rfl, w452, F453⟩ := hp
          clear gt450
          show Tn _ _ 375 T σ448 [(3, .int (iI z444)), (2, .int (iI v36)), (1, .int (iI v6)), (0, .ref a)] [] _
          refine tn_aload_n dX7_step_375 rfl 3 rfl ?_
          obtain ⟨x454, hx455, hk456, hl457⟩ : ∃ x : Nat, σ.2.1 60 a = (x : Int) ∧ AR T x 1 9 9 := wf_60 hw ha
          have hk456i : IA T x454 := by unfold IA; omega
          refine tn_getR (ci := 7) (i := 5) (n := 60) (x := x454) dX7_step_376 rfl lay_7 (by decide) fl7_15 ha rfl rfl (rc_F F453 (Or.inl (by decide)) (by decide) (rc_o (by decide) (hx455))) ?_
          refine tn_aload_n dX7_step_379 rfl 3 rfl ?_
          refine tn_getI (ci := 7) (i := 2) (n := 57) (t := σ.2.1 57 a) dX7_step_380 rfl lay_7 (by decide) fl7_65 ha rfl rfl (rc_F F453 (Or.inl (by decide)) (by decide) (rc_o (by decide) (rfl))) ?_
          have g458 : ((0 : Int) ≤ σ.2.1 57 a ∧ σ.2.1 57 a ≤ 11184800) ∧ ((T a).1 = 57 → σ.2.1 57 a ≤ 8) := wf_57 hw ha
          have g458x := g458.2
          replace g458 := g458.1
          have g458x := g458x hta
          refine tn_iload_n dX7_step_383 rfl 0 rfl ?_
          refine tn_callSN (M := m_X7_step) (pc := 384) (ix := 61) (M' := m_X11_put) (As := [.ref x454, .int (iI (σ.2.1 57 a)), .int (iI z444)]) (rest := []) dX7_step_384 ok_X11_put stt_X11_put nl7_61 np_X11_put rfl (Nat.le_of_ble_eq_true rfl) (Nat.le_of_ble_eq_true rfl) rfl (k_X11_put (d + 3) (T := T) (σ := σ448) (x := x454) (i := σ.2.1 57 a) (y := z444) hk456i (by omega) (by omega) (by omega) w452 (nh_k hk456 (by unfold HT; omega)) (vok_1 (by have q9 := hk456; omega) (by omega))) (fun r459 T461 σ460 gt462 hp => ?_)
          obtain ⟨rfl, rfl, w464, F465⟩ := hp
          clear gt462
          show Tn _ _ 387 T σ460 [(3, .int (iI z444)), (2, .int (iI v36)), (1, .int (iI v6)), (0, .ref a)] [] _
          refine tn_iload_n dX7_step_387 rfl 1 rfl ?_
          refine tn_bipush dX7_step_388 (by decide) ?_
          refine tn_icmp_ne (tgt := 397) dX7_step_390 (by decide) ⟨by omega, by omega⟩ ⟨by decide, by decide⟩ (fun h466 => ?_) (fun h466 => ?_)
          · refine tn_iconst dX7_step_397 ?_
            have q467 : σ460.2.1 56 a = σ.2.1 56 a := rc_F F465 (Or.inl (by decide)) (by decide) (rc_F F453 (Or.inl (by decide)) (by decide) (rc_o (by decide) (rfl)))
            have q468 : σ460.2.1 57 a = σ.2.1 57 a := rc_F F465 (Or.inl (by decide)) (by decide) (rc_F F453 (Or.inl (by decide)) (by decide) (rc_o (by decide) (rfl)))
            have q469 : σ460.2.1 58 a = σ.2.1 58 a := rc_F F465 (Or.inl (by decide)) (by decide) (rc_F F453 (Or.inl (by decide)) (by decide) (rc_o (by decide) (rfl)))
            exact tn_zret (v := 0) rfl (by decide) dX7_step_398 ⟨_, rfl, rfl, w464, (((FrC.rfl.put (by decide) (by decide)).trans (FrC.sub F453 (by decide))).trans (FrC.sub F465 (by decide))), by omega, by unfold PIv at *; rw [q467, q468, q469]; omega, (((FA.rfl.put).trans (FA.of F453 (by decide))).trans (FA.of F465 (by decide)))⟩
          · refine tn_iconst dX7_step_393 ?_
            refine tn_goto (tgt := 398) dX7_step_394 (by decide) ?_
            have q470 : σ460.2.1 56 a = σ.2.1 56 a := rc_F F465 (Or.inl (by decide)) (by decide) (rc_F F453 (Or.inl (by decide)) (by decide) (rc_o (by decide) (rfl)))
            have q471 : σ460.2.1 57 a = σ.2.1 57 a := rc_F F465 (Or.inl (by decide)) (by decide) (rc_F F453 (Or.inl (by decide)) (by decide) (rc_o (by decide) (rfl)))
            have q472 : σ460.2.1 58 a = σ.2.1 58 a := rc_F F465 (Or.inl (by decide)) (by decide) (rc_F F453 (Or.inl (by decide)) (by decide) (rc_o (by decide) (rfl)))
            exact tn_zret (v := 1) rfl (by decide) dX7_step_398 ⟨_, rfl, rfl, w464, (((FrC.rfl.put (by decide) (by decide)).trans (FrC.sub F453 (by decide))).trans (FrC.sub F465 (by decide))), by omega, by unfold PIv at *; rw [q470, q471, q472]; omega, (((FA.rfl.put).trans (FA.of F453 (by decide))).trans (FA.of F465 (by decide)))⟩
        · have h473 : v36 = -1 ∨ v36 = 0 ∨ v36 = 1 ∨ v36 = 2 ∨ v36 = 3 ∨ v36 = 4 ∨ v36 = 5 ∨ v36 = 6 ∨ v36 = 7 ∨ v36 = 8 ∨ v36 = 9 ∨ v36 = 10 ∨ v36 = 11 ∨ v36 = 12 ∨ v36 = 13 ∨ v36 = 14 ∨ v36 = 15 := by omega
          rcases h473 with h473 | h473 | h473 | h473 | h473 | h473 | h473 | h473 | h473 | h473 | h473 | h473 | h473 | h473 | h473 | h473 | h473
          · refine tn_tableIn (tgt := 362) (off := 294) dX7_step_68 (x := v36) ⟨by omega, by omega⟩ (by omega) (by omega) (by rw [h473]; rfl) (by decide) ?_
            refine tn_aload_n dX7_step_362 rfl 3 rfl ?_
            refine tn_iconst dX7_step_363 ?_
            refine tn_callV (M := m_X7_step) (pc := 364) (ix := 123) (ci := 7) (M' := m_X7_giveBack) (As := [.int (iI 0)]) (rest := []) dX7_step_364 ok_X7_giveBack im_X7_giveBack se_X7_giveBack ml7_123 np_X7_giveBack rfl rfl ha rfl (Nat.le_of_ble_eq_true rfl) (Nat.le_of_ble_eq_true rfl) rfl (k_X7_giveBack_57 (d + 1) (T := T) (σ := (sA 67 a (z442) σ)) (a := a) (n := 0) ha hta (by decide) (hw.put (by decide) (by decide) (fo_67 (by omega))) (by rw [show (sA 67 a (z442) σ).2.1 58 a = σ.2.1 58 a from rc_o (by decide) (rfl), show (sA 67 a (z442) σ).2.1 57 a = σ.2.1 57 a from rc_o (by decide) (rfl)]; omega)) (fun r474 T476 σ475 gt477 hp => ?_)
            obtain ⟨rfl, rfl, w481, F482, f478, f479⟩ := hp
            clear gt477
            show Tn _ _ 367 T σ475 [(3, .int (iI z444)), (2, .int (iI v36)), (1, .int (iI v6)), (0, .ref a)] [] _
            refine tn_iconst dX7_step_367 ?_
            have q483 : σ475.2.1 56 a = σ475.2.1 56 a := rfl
            have q484 : σ475.2.1 57 a = σ475.2.1 57 a := rfl
            have q485 : σ475.2.1 58 a = σ475.2.1 58 a := rfl
            exact tn_zret (v := 0) rfl (by decide) dX7_step_368 ⟨_, rfl, rfl, w481, ((FrC.rfl.put (by decide) (by decide)).trans (FrC.sub F482 (by decide))), by omega, by unfold PIv at *; rw [q483, q484, q485]; omega, ((FA.rfl.put).trans f479)⟩
          · refine tn_tableIn (tgt := 369) (off := 301) dX7_step_68 (x := v36) ⟨by omega, by omega⟩ (by omega) (by omega) (by rw [h473]; rfl) (by decide) ?_
            refine tn_aload_n dX7_step_369 rfl 3 rfl ?_
            refine tn_iload_n dX7_step_370 rfl 2 rfl ?_
            refine tn_iload_n dX7_step_371 rfl 1 rfl ?_
            refine tn_callV (M := m_X7_step) (pc := 372) (ix := 129) (ci := 7) (M' := m_X7_reckonAt) (As := [.int (iI v6), .int (iI v36)]) (rest := []) dX7_step_372 ok_X7_reckonAt im_X7_reckonAt se_X7_reckonAt ml7_129 np_X7_reckonAt rfl rfl ha rfl (Nat.le_of_ble_eq_true rfl) (Nat.le_of_ble_eq_true rfl) rfl (k_X7_reckonAt (d + 1) (T := T) (σ := (sA 67 a (z442) σ)) (a := a) (k := v6) (e := v36) ha (by omega) (by omega) (hw.put (by decide) (by decide) (fo_67 (by omega))) (by rw [show (sA 67 a (z442) σ).2.1 69 a = _ from rc_o (by decide) (hx7)]; omega)) (fun r486 T488 σ487 gt489 hp => ?_)
            obtain ⟨rfl, rfl, w491, F492⟩ := hp
            clear gt489
            show Tn _ _ 375 T σ487 [(3, .int (iI z444)), (2, .int (iI v36)), (1, .int (iI v6)), (0, .ref a)] [] _
            refine tn_aload_n dX7_step_375 rfl 3 rfl ?_
            obtain ⟨x493, hx494, hk495, hl496⟩ : ∃ x : Nat, σ.2.1 60 a = (x : Int) ∧ AR T x 1 9 9 := wf_60 hw ha
            have hk495i : IA T x493 := by unfold IA; omega
            refine tn_getR (ci := 7) (i := 5) (n := 60) (x := x493) dX7_step_376 rfl lay_7 (by decide) fl7_15 ha rfl rfl (rc_F F492 (Or.inl (by decide)) (by decide) (rc_o (by decide) (hx494))) ?_
            refine tn_aload_n dX7_step_379 rfl 3 rfl ?_
            refine tn_getI (ci := 7) (i := 2) (n := 57) (t := σ.2.1 57 a) dX7_step_380 rfl lay_7 (by decide) fl7_65 ha rfl rfl (rc_F F492 (Or.inl (by decide)) (by decide) (rc_o (by decide) (rfl))) ?_
            have g497 : ((0 : Int) ≤ σ.2.1 57 a ∧ σ.2.1 57 a ≤ 11184800) ∧ ((T a).1 = 57 → σ.2.1 57 a ≤ 8) := wf_57 hw ha
            have g497x := g497.2
            replace g497 := g497.1
            have g497x := g497x hta
            refine tn_iload_n dX7_step_383 rfl 0 rfl ?_
            refine tn_callSN (M := m_X7_step) (pc := 384) (ix := 61) (M' := m_X11_put) (As := [.ref x493, .int (iI (σ.2.1 57 a)), .int (iI z444)]) (rest := []) dX7_step_384 ok_X11_put stt_X11_put nl7_61 np_X11_put rfl (Nat.le_of_ble_eq_true rfl) (Nat.le_of_ble_eq_true rfl) rfl (k_X11_put (d + 3) (T := T) (σ := σ487) (x := x493) (i := σ.2.1 57 a) (y := z444) hk495i (by omega) (by omega) (by omega) w491 (nh_k hk495 (by unfold HT; omega)) (vok_1 (by have q9 := hk495; omega) (by omega))) (fun r498 T500 σ499 gt501 hp => ?_)
            obtain ⟨rfl, rfl, w503, F504⟩ := hp
            clear gt501
            show Tn _ _ 387 T σ499 [(3, .int (iI z444)), (2, .int (iI v36)), (1, .int (iI v6)), (0, .ref a)] [] _
            refine tn_iload_n dX7_step_387 rfl 1 rfl ?_
            refine tn_bipush dX7_step_388 (by decide) ?_
            refine tn_icmp_ne (tgt := 397) dX7_step_390 (by decide) ⟨by omega, by omega⟩ ⟨by decide, by decide⟩ (fun h505 => ?_) (fun h505 => absurd h505 (by omega))
            refine tn_iconst dX7_step_397 ?_
            have q506 : σ499.2.1 56 a = σ.2.1 56 a := rc_F F504 (Or.inl (by decide)) (by decide) (rc_F F492 (Or.inl (by decide)) (by decide) (rc_o (by decide) (rfl)))
            have q507 : σ499.2.1 57 a = σ.2.1 57 a := rc_F F504 (Or.inl (by decide)) (by decide) (rc_F F492 (Or.inl (by decide)) (by decide) (rc_o (by decide) (rfl)))
            have q508 : σ499.2.1 58 a = σ.2.1 58 a := rc_F F504 (Or.inl (by decide)) (by decide) (rc_F F492 (Or.inl (by decide)) (by decide) (rc_o (by decide) (rfl)))
            exact tn_zret (v := 0) rfl (by decide) dX7_step_398 ⟨_, rfl, rfl, w503, (((FrC.rfl.put (by decide) (by decide)).trans (FrC.sub F492 (by decide))).trans (FrC.sub F504 (by decide))), by omega, by unfold PIv at *; rw [q506, q507, q508]; omega, (((FA.rfl.put).trans (FA.of F492 (by decide))).trans (FA.of F504 (by decide)))⟩
          · refine tn_tableIn (tgt := 369) (off := 301) dX7_step_68 (x := v36) ⟨by omega, by omega⟩ (by omega) (by omega) (by rw [h473]; rfl) (by decide) ?_
            refine tn_aload_n dX7_step_369 rfl 3 rfl ?_
            refine tn_iload_n dX7_step_370 rfl 2 rfl ?_
            refine tn_iload_n dX7_step_371 rfl 1 rfl ?_
            refine tn_callV (M := m_X7_step) (pc := 372) (ix := 129) (ci := 7) (M' := m_X7_reckonAt) (As := [.int (iI v6), .int (iI v36)]) (rest := []) dX7_step_372 ok_X7_reckonAt im_X7_reckonAt se_X7_reckonAt ml7_129 np_X7_reckonAt rfl rfl ha rfl (Nat.le_of_ble_eq_true rfl) (Nat.le_of_ble_eq_true rfl) rfl (k_X7_reckonAt (d + 1) (T := T) (σ := (sA 67 a (z442) σ)) (a := a) (k := v6) (e := v36) ha (by omega) (by omega) (hw.put (by decide) (by decide) (fo_67 (by omega))) (by rw [show (sA 67 a (z442) σ).2.1 69 a = _ from rc_o (by decide) (hx7)]; omega)) (fun r509 T511 σ510 gt512 hp => ?_)
            obtain ⟨rfl, rfl, w514, F515⟩ := hp
            clear gt512
            show Tn _ _ 375 T σ510 [(3, .int (iI z444)), (2, .int (iI v36)), (1, .int (iI v6)), (0, .ref a)] [] _
            refine tn_aload_n dX7_step_375 rfl 3 rfl ?_
            obtain ⟨x516, hx517, hk518, hl519⟩ : ∃ x : Nat, σ.2.1 60 a = (x : Int) ∧ AR T x 1 9 9 := wf_60 hw ha
            have hk518i : IA T x516 := by unfold IA; omega
            refine tn_getR (ci := 7) (i := 5) (n := 60) (x := x516) dX7_step_376 rfl lay_7 (by decide) fl7_15 ha rfl rfl (rc_F F515 (Or.inl (by decide)) (by decide) (rc_o (by decide) (hx517))) ?_
            refine tn_aload_n dX7_step_379 rfl 3 rfl ?_
            refine tn_getI (ci := 7) (i := 2) (n := 57) (t := σ.2.1 57 a) dX7_step_380 rfl lay_7 (by decide) fl7_65 ha rfl rfl (rc_F F515 (Or.inl (by decide)) (by decide) (rc_o (by decide) (rfl))) ?_
            have g520 : ((0 : Int) ≤ σ.2.1 57 a ∧ σ.2.1 57 a ≤ 11184800) ∧ ((T a).1 = 57 → σ.2.1 57 a ≤ 8) := wf_57 hw ha
            have g520x := g520.2
            replace g520 := g520.1
            have g520x := g520x hta
            refine tn_iload_n dX7_step_383 rfl 0 rfl ?_
            refine tn_callSN (M := m_X7_step) (pc := 384) (ix := 61) (M' := m_X11_put) (As := [.ref x516, .int (iI (σ.2.1 57 a)), .int (iI z444)]) (rest := []) dX7_step_384 ok_X11_put stt_X11_put nl7_61 np_X11_put rfl (Nat.le_of_ble_eq_true rfl) (Nat.le_of_ble_eq_true rfl) rfl (k_X11_put (d + 3) (T := T) (σ := σ510) (x := x516) (i := σ.2.1 57 a) (y := z444) hk518i (by omega) (by omega) (by omega) w514 (nh_k hk518 (by unfold HT; omega)) (vok_1 (by have q9 := hk518; omega) (by omega))) (fun r521 T523 σ522 gt524 hp => ?_)
            obtain ⟨rfl, rfl, w526, F527⟩ := hp
            clear gt524
            show Tn _ _ 387 T σ522 [(3, .int (iI z444)), (2, .int (iI v36)), (1, .int (iI v6)), (0, .ref a)] [] _
            refine tn_iload_n dX7_step_387 rfl 1 rfl ?_
            refine tn_bipush dX7_step_388 (by decide) ?_
            refine tn_icmp_ne (tgt := 397) dX7_step_390 (by decide) ⟨by omega, by omega⟩ ⟨by decide, by decide⟩ (fun h528 => ?_) (fun h528 => absurd h528 (by omega))
            refine tn_iconst dX7_step_397 ?_
            have q529 : σ522.2.1 56 a = σ.2.1 56 a := rc_F F527 (Or.inl (by decide)) (by decide) (rc_F F515 (Or.inl (by decide)) (by decide) (rc_o (by decide) (rfl)))
            have q530 : σ522.2.1 57 a = σ.2.1 57 a := rc_F F527 (Or.inl (by decide)) (by decide) (rc_F F515 (Or.inl (by decide)) (by decide) (rc_o (by decide) (rfl)))
            have q531 : σ522.2.1 58 a = σ.2.1 58 a := rc_F F527 (Or.inl (by decide)) (by decide) (rc_F F515 (Or.inl (by decide)) (by decide) (rc_o (by decide) (rfl)))
            exact tn_zret (v := 0) rfl (by decide) dX7_step_398 ⟨_, rfl, rfl, w526, (((FrC.rfl.put (by decide) (by decide)).trans (FrC.sub F515 (by decide))).trans (FrC.sub F527 (by decide))), by omega, by unfold PIv at *; rw [q529, q530, q531]; omega, (((FA.rfl.put).trans (FA.of F515 (by decide))).trans (FA.of F527 (by decide)))⟩
          · refine tn_tableIn (tgt := 369) (off := 301) dX7_step_68 (x := v36) ⟨by omega, by omega⟩ (by omega) (by omega) (by rw [h473]; rfl) (by decide) ?_
            refine tn_aload_n dX7_step_369 rfl 3 rfl ?_
            refine tn_iload_n dX7_step_370 rfl 2 rfl ?_
            refine tn_iload_n dX7_step_371 rfl 1 rfl ?_
            refine tn_callV (M := m_X7_step) (pc := 372) (ix := 129) (ci := 7) (M' := m_X7_reckonAt) (As := [.int (iI v6), .int (iI v36)]) (rest := []) dX7_step_372 ok_X7_reckonAt im_X7_reckonAt se_X7_reckonAt ml7_129 np_X7_reckonAt rfl rfl ha rfl (Nat.le_of_ble_eq_true rfl) (Nat.le_of_ble_eq_true rfl) rfl (k_X7_reckonAt (d + 1) (T := T) (σ := (sA 67 a (z442) σ)) (a := a) (k := v6) (e := v36) ha (by omega) (by omega) (hw.put (by decide) (by decide) (fo_67 (by omega))) (by rw [show (sA 67 a (z442) σ).2.1 69 a = _ from rc_o (by decide) (hx7)]; omega)) (fun r532 T534 σ533 gt535 hp => ?_)
            obtain ⟨rfl, rfl, w537, F538⟩ := hp
            clear gt535
            show Tn _ _ 375 T σ533 [(3, .int (iI z444)), (2, .int (iI v36)), (1, .int (iI v6)), (0, .ref a)] [] _
            refine tn_aload_n dX7_step_375 rfl 3 rfl ?_
            obtain ⟨x539, hx540, hk541, hl542⟩ : ∃ x : Nat, σ.2.1 60 a = (x : Int) ∧ AR T x 1 9 9 := wf_60 hw ha
            have hk541i : IA T x539 := by unfold IA; omega
            refine tn_getR (ci := 7) (i := 5) (n := 60) (x := x539) dX7_step_376 rfl lay_7 (by decide) fl7_15 ha rfl rfl (rc_F F538 (Or.inl (by decide)) (by decide) (rc_o (by decide) (hx540))) ?_
            refine tn_aload_n dX7_step_379 rfl 3 rfl ?_
            refine tn_getI (ci := 7) (i := 2) (n := 57) (t := σ.2.1 57 a) dX7_step_380 rfl lay_7 (by decide) fl7_65 ha rfl rfl (rc_F F538 (Or.inl (by decide)) (by decide) (rc_o (by decide) (rfl))) ?_
            have g543 : ((0 : Int) ≤ σ.2.1 57 a ∧ σ.2.1 57 a ≤ 11184800) ∧ ((T a).1 = 57 → σ.2.1 57 a ≤ 8) := wf_57 hw ha
            have g543x := g543.2
            replace g543 := g543.1
            have g543x := g543x hta
            refine tn_iload_n dX7_step_383 rfl 0 rfl ?_
            refine tn_callSN (M := m_X7_step) (pc := 384) (ix := 61) (M' := m_X11_put) (As := [.ref x539, .int (iI (σ.2.1 57 a)), .int (iI z444)]) (rest := []) dX7_step_384 ok_X11_put stt_X11_put nl7_61 np_X11_put rfl (Nat.le_of_ble_eq_true rfl) (Nat.le_of_ble_eq_true rfl) rfl (k_X11_put (d + 3) (T := T) (σ := σ533) (x := x539) (i := σ.2.1 57 a) (y := z444) hk541i (by omega) (by omega) (by omega) w537 (nh_k hk541 (by unfold HT; omega)) (vok_1 (by have q9 := hk541; omega) (by omega))) (fun r544 T546 σ545 gt547 hp => ?_)
            obtain ⟨rfl, rfl, w549, F550⟩ := hp
            clear gt547
            show Tn _ _ 387 T σ545 [(3, .int (iI z444)), (2, .int (iI v36)), (1, .int (iI v6)), (0, .ref a)] [] _
            refine tn_iload_n dX7_step_387 rfl 1 rfl ?_
            refine tn_bipush dX7_step_388 (by decide) ?_
            refine tn_icmp_ne (tgt := 397) dX7_step_390 (by decide) ⟨by omega, by omega⟩ ⟨by decide, by decide⟩ (fun h551 => ?_) (fun h551 => absurd h551 (by omega))
            refine tn_iconst dX7_step_397 ?_
            have q552 : σ545.2.1 56 a = σ.2.1 56 a := rc_F F550 (Or.inl (by decide)) (by decide) (rc_F F538 (Or.inl (by decide)) (by decide) (rc_o (by decide) (rfl)))
            have q553 : σ545.2.1 57 a = σ.2.1 57 a := rc_F F550 (Or.inl (by decide)) (by decide) (rc_F F538 (Or.inl (by decide)) (by decide) (rc_o (by decide) (rfl)))
            have q554 : σ545.2.1 58 a = σ.2.1 58 a := rc_F F550 (Or.inl (by decide)) (by decide) (rc_F F538 (Or.inl (by decide)) (by decide) (rc_o (by decide) (rfl)))
            exact tn_zret (v := 0) rfl (by decide) dX7_step_398 ⟨_, rfl, rfl, w549, (((FrC.rfl.put (by decide) (by decide)).trans (FrC.sub F538 (by decide))).trans (FrC.sub F550 (by decide))), by omega, by unfold PIv at *; rw [q552, q553, q554]; omega, (((FA.rfl.put).trans (FA.of F538 (by decide))).trans (FA.of F550 (by decide)))⟩
          · refine tn_tableIn (tgt := 369) (off := 301) dX7_step_68 (x := v36) ⟨by omega, by omega⟩ (by omega) (by omega) (by rw [h473]; rfl) (by decide) ?_
            refine tn_aload_n dX7_step_369 rfl 3 rfl ?_
            refine tn_iload_n dX7_step_370 rfl 2 rfl ?_
            refine tn_iload_n dX7_step_371 rfl 1 rfl ?_
            refine tn_callV (M := m_X7_step) (pc := 372) (ix := 129) (ci := 7) (M' := m_X7_reckonAt) (As := [.int (iI v6), .int (iI v36)]) (rest := []) dX7_step_372 ok_X7_reckonAt im_X7_reckonAt se_X7_reckonAt ml7_129 np_X7_reckonAt rfl rfl ha rfl (Nat.le_of_ble_eq_true rfl) (Nat.le_of_ble_eq_true rfl) rfl (k_X7_reckonAt (d + 1) (T := T) (σ := (sA 67 a (z442) σ)) (a := a) (k := v6) (e := v36) ha (by omega) (by omega) (hw.put (by decide) (by decide) (fo_67 (by omega))) (by rw [show (sA 67 a (z442) σ).2.1 69 a = _ from rc_o (by decide) (hx7)]; omega)) (fun r555 T557 σ556 gt558 hp => ?_)
            obtain ⟨rfl, rfl, w560, F561⟩ := hp
            clear gt558
            show Tn _ _ 375 T σ556 [(3, .int (iI z444)), (2, .int (iI v36)), (1, .int (iI v6)), (0, .ref a)] [] _
            refine tn_aload_n dX7_step_375 rfl 3 rfl ?_
            obtain ⟨x562, hx563, hk564, hl565⟩ : ∃ x : Nat, σ.2.1 60 a = (x : Int) ∧ AR T x 1 9 9 := wf_60 hw ha
            have hk564i : IA T x562 := by unfold IA; omega
            refine tn_getR (ci := 7) (i := 5) (n := 60) (x := x562) dX7_step_376 rfl lay_7 (by decide) fl7_15 ha rfl rfl (rc_F F561 (Or.inl (by decide)) (by decide) (rc_o (by decide) (hx563))) ?_
            refine tn_aload_n dX7_step_379 rfl 3 rfl ?_
            refine tn_getI (ci := 7) (i := 2) (n := 57) (t := σ.2.1 57 a) dX7_step_380 rfl lay_7 (by decide) fl7_65 ha rfl rfl (rc_F F561 (Or.inl (by decide)) (by decide) (rc_o (by decide) (rfl))) ?_
            have g566 : ((0 : Int) ≤ σ.2.1 57 a ∧ σ.2.1 57 a ≤ 11184800) ∧ ((T a).1 = 57 → σ.2.1 57 a ≤ 8) := wf_57 hw ha
            have g566x := g566.2
            replace g566 := g566.1
            have g566x := g566x hta
            refine tn_iload_n dX7_step_383 rfl 0 rfl ?_
            refine tn_callSN (M := m_X7_step) (pc := 384) (ix := 61) (M' := m_X11_put) (As := [.ref x562, .int (iI (σ.2.1 57 a)), .int (iI z444)]) (rest := []) dX7_step_384 ok_X11_put stt_X11_put nl7_61 np_X11_put rfl (Nat.le_of_ble_eq_true rfl) (Nat.le_of_ble_eq_true rfl) rfl (k_X11_put (d + 3) (T := T) (σ := σ556) (x := x562) (i := σ.2.1 57 a) (y := z444) hk564i (by omega) (by omega) (by omega) w560 (nh_k hk564 (by unfold HT; omega)) (vok_1 (by have q9 := hk564; omega) (by omega))) (fun r567 T569 σ568 gt570 hp => ?_)
            obtain ⟨rfl, rfl, w572, F573⟩ := hp
            clear gt570
            show Tn _ _ 387 T σ568 [(3, .int (iI z444)), (2, .int (iI v36)), (1, .int (iI v6)), (0, .ref a)] [] _
            refine tn_iload_n dX7_step_387 rfl 1 rfl ?_
            refine tn_bipush dX7_step_388 (by decide) ?_
            refine tn_icmp_ne (tgt := 397) dX7_step_390 (by decide) ⟨by omega, by omega⟩ ⟨by decide, by decide⟩ (fun h574 => ?_) (fun h574 => absurd h574 (by omega))
            refine tn_iconst dX7_step_397 ?_
            have q575 : σ568.2.1 56 a = σ.2.1 56 a := rc_F F573 (Or.inl (by decide)) (by decide) (rc_F F561 (Or.inl (by decide)) (by decide) (rc_o (by decide) (rfl)))
            have q576 : σ568.2.1 57 a = σ.2.1 57 a := rc_F F573 (Or.inl (by decide)) (by decide) (rc_F F561 (Or.inl (by decide)) (by decide) (rc_o (by decide) (rfl)))
            have q577 : σ568.2.1 58 a = σ.2.1 58 a := rc_F F573 (Or.inl (by decide)) (by decide) (rc_F F561 (Or.inl (by decide)) (by decide) (rc_o (by decide) (rfl)))
            exact tn_zret (v := 0) rfl (by decide) dX7_step_398 ⟨_, rfl, rfl, w572, (((FrC.rfl.put (by decide) (by decide)).trans (FrC.sub F561 (by decide))).trans (FrC.sub F573 (by decide))), by omega, by unfold PIv at *; rw [q575, q576, q577]; omega, (((FA.rfl.put).trans (FA.of F561 (by decide))).trans (FA.of F573 (by decide)))⟩
          · refine tn_tableIn (tgt := 369) (off := 301) dX7_step_68 (x := v36) ⟨by omega, by omega⟩ (by omega) (by omega) (by rw [h473]; rfl) (by decide) ?_
            refine tn_aload_n dX7_step_369 rfl 3 rfl ?_
            refine tn_iload_n dX7_step_370 rfl 2 rfl ?_
            refine tn_iload_n dX7_step_371 rfl 1 rfl ?_
            refine tn_callV (M := m_X7_step) (pc := 372) (ix := 129) (ci := 7) (M' := m_X7_reckonAt) (As := [.int (iI v6), .int (iI v36)]) (rest := []) dX7_step_372 ok_X7_reckonAt im_X7_reckonAt se_X7_reckonAt ml7_129 np_X7_reckonAt rfl rfl ha rfl (Nat.le_of_ble_eq_true rfl) (Nat.le_of_ble_eq_true rfl) rfl (k_X7_reckonAt (d + 1) (T := T) (σ := (sA 67 a (z442) σ)) (a := a) (k := v6) (e := v36) ha (by omega) (by omega) (hw.put (by decide) (by decide) (fo_67 (by omega))) (by rw [show (sA 67 a (z442) σ).2.1 69 a = _ from rc_o (by decide) (hx7)]; omega)) (fun r578 T580 σ579 gt581 hp => ?_)
            obtain ⟨rfl, rfl, w583, F584⟩ := hp
            clear gt581
            show Tn _ _ 375 T σ579 [(3, .int (iI z444)), (2, .int (iI v36)), (1, .int (iI v6)), (0, .ref a)] [] _
            refine tn_aload_n dX7_step_375 rfl 3 rfl ?_
            obtain ⟨x585, hx586, hk587, hl588⟩ : ∃ x : Nat, σ.2.1 60 a = (x : Int) ∧ AR T x 1 9 9 := wf_60 hw ha
            have hk587i : IA T x585 := by unfold IA; omega
            refine tn_getR (ci := 7) (i := 5) (n := 60) (x := x585) dX7_step_376 rfl lay_7 (by decide) fl7_15 ha rfl rfl (rc_F F584 (Or.inl (by decide)) (by decide) (rc_o (by decide) (hx586))) ?_
            refine tn_aload_n dX7_step_379 rfl 3 rfl ?_
            refine tn_getI (ci := 7) (i := 2) (n := 57) (t := σ.2.1 57 a) dX7_step_380 rfl lay_7 (by decide) fl7_65 ha rfl rfl (rc_F F584 (Or.inl (by decide)) (by decide) (rc_o (by decide) (rfl))) ?_
            have g589 : ((0 : Int) ≤ σ.2.1 57 a ∧ σ.2.1 57 a ≤ 11184800) ∧ ((T a).1 = 57 → σ.2.1 57 a ≤ 8) := wf_57 hw ha
            have g589x := g589.2
            replace g589 := g589.1
            have g589x := g589x hta
            refine tn_iload_n dX7_step_383 rfl 0 rfl ?_
            refine tn_callSN (M := m_X7_step) (pc := 384) (ix := 61) (M' := m_X11_put) (As := [.ref x585, .int (iI (σ.2.1 57 a)), .int (iI z444)]) (rest := []) dX7_step_384 ok_X11_put stt_X11_put nl7_61 np_X11_put rfl (Nat.le_of_ble_eq_true rfl) (Nat.le_of_ble_eq_true rfl) rfl (k_X11_put (d + 3) (T := T) (σ := σ579) (x := x585) (i := σ.2.1 57 a) (y := z444) hk587i (by omega) (by omega) (by omega) w583 (nh_k hk587 (by unfold HT; omega)) (vok_1 (by have q9 := hk587; omega) (by omega))) (fun r590 T592 σ591 gt593 hp => ?_)
            obtain ⟨rfl, rfl, w595, F596⟩ := hp
            clear gt593
            show Tn _ _ 387 T σ591 [(3, .int (iI z444)), (2, .int (iI v36)), (1, .int (iI v6)), (0, .ref a)] [] _
            refine tn_iload_n dX7_step_387 rfl 1 rfl ?_
            refine tn_bipush dX7_step_388 (by decide) ?_
            refine tn_icmp_ne (tgt := 397) dX7_step_390 (by decide) ⟨by omega, by omega⟩ ⟨by decide, by decide⟩ (fun h597 => ?_) (fun h597 => absurd h597 (by omega))
            refine tn_iconst dX7_step_397 ?_
            have q598 : σ591.2.1 56 a = σ.2.1 56 a := rc_F F596 (Or.inl (by decide)) (by decide) (rc_F F584 (Or.inl (by decide)) (by decide) (rc_o (by decide) (rfl)))
            have q599 : σ591.2.1 57 a = σ.2.1 57 a := rc_F F596 (Or.inl (by decide)) (by decide) (rc_F F584 (Or.inl (by decide)) (by decide) (rc_o (by decide) (rfl)))
            have q600 : σ591.2.1 58 a = σ.2.1 58 a := rc_F F596 (Or.inl (by decide)) (by decide) (rc_F F584 (Or.inl (by decide)) (by decide) (rc_o (by decide) (rfl)))
            exact tn_zret (v := 0) rfl (by decide) dX7_step_398 ⟨_, rfl, rfl, w595, (((FrC.rfl.put (by decide) (by decide)).trans (FrC.sub F584 (by decide))).trans (FrC.sub F596 (by decide))), by omega, by unfold PIv at *; rw [q598, q599, q600]; omega, (((FA.rfl.put).trans (FA.of F584 (by decide))).trans (FA.of F596 (by decide)))⟩
          · refine tn_tableIn (tgt := 369) (off := 301) dX7_step_68 (x := v36) ⟨by omega, by omega⟩ (by omega) (by omega) (by rw [h473]; rfl) (by decide) ?_
            refine tn_aload_n dX7_step_369 rfl 3 rfl ?_
            refine tn_iload_n dX7_step_370 rfl 2 rfl ?_
            refine tn_iload_n dX7_step_371 rfl 1 rfl ?_
            refine tn_callV (M := m_X7_step) (pc := 372) (ix := 129) (ci := 7) (M' := m_X7_reckonAt) (As := [.int (iI v6), .int (iI v36)]) (rest := []) dX7_step_372 ok_X7_reckonAt im_X7_reckonAt se_X7_reckonAt ml7_129 np_X7_reckonAt rfl rfl ha rfl (Nat.le_of_ble_eq_true rfl) (Nat.le_of_ble_eq_true rfl) rfl (k_X7_reckonAt (d + 1) (T := T) (σ := (sA 67 a (z442) σ)) (a := a) (k := v6) (e := v36) ha (by omega) (by omega) (hw.put (by decide) (by decide) (fo_67 (by omega))) (by rw [show (sA 67 a (z442) σ).2.1 69 a = _ from rc_o (by decide) (hx7)]; omega)) (fun r601 T603 σ602 gt604 hp => ?_)
            obtain ⟨rfl, rfl, w606, F607⟩ := hp
            clear gt604
            show Tn _ _ 375 T σ602 [(3, .int (iI z444)), (2, .int (iI v36)), (1, .int (iI v6)), (0, .ref a)] [] _
            refine tn_aload_n dX7_step_375 rfl 3 rfl ?_
            obtain ⟨x608, hx609, hk610, hl611⟩ : ∃ x : Nat, σ.2.1 60 a = (x : Int) ∧ AR T x 1 9 9 := wf_60 hw ha
            have hk610i : IA T x608 := by unfold IA; omega
            refine tn_getR (ci := 7) (i := 5) (n := 60) (x := x608) dX7_step_376 rfl lay_7 (by decide) fl7_15 ha rfl rfl (rc_F F607 (Or.inl (by decide)) (by decide) (rc_o (by decide) (hx609))) ?_
            refine tn_aload_n dX7_step_379 rfl 3 rfl ?_
            refine tn_getI (ci := 7) (i := 2) (n := 57) (t := σ.2.1 57 a) dX7_step_380 rfl lay_7 (by decide) fl7_65 ha rfl rfl (rc_F F607 (Or.inl (by decide)) (by decide) (rc_o (by decide) (rfl))) ?_
            have g612 : ((0 : Int) ≤ σ.2.1 57 a ∧ σ.2.1 57 a ≤ 11184800) ∧ ((T a).1 = 57 → σ.2.1 57 a ≤ 8) := wf_57 hw ha
            have g612x := g612.2
            replace g612 := g612.1
            have g612x := g612x hta
            refine tn_iload_n dX7_step_383 rfl 0 rfl ?_
            refine tn_callSN (M := m_X7_step) (pc := 384) (ix := 61) (M' := m_X11_put) (As := [.ref x608, .int (iI (σ.2.1 57 a)), .int (iI z444)]) (rest := []) dX7_step_384 ok_X11_put stt_X11_put nl7_61 np_X11_put rfl (Nat.le_of_ble_eq_true rfl) (Nat.le_of_ble_eq_true rfl) rfl (k_X11_put (d + 3) (T := T) (σ := σ602) (x := x608) (i := σ.2.1 57 a) (y := z444) hk610i (by omega) (by omega) (by omega) w606 (nh_k hk610 (by unfold HT; omega)) (vok_1 (by have q9 := hk610; omega) (by omega))) (fun r613 T615 σ614 gt616 hp => ?_)
            obtain ⟨rfl, rfl, w618, F619⟩ := hp
            clear gt616
            show Tn _ _ 387 T σ614 [(3, .int (iI z444)), (2, .int (iI v36)), (1, .int (iI v6)), (0, .ref a)] [] _
            refine tn_iload_n dX7_step_387 rfl 1 rfl ?_
            refine tn_bipush dX7_step_388 (by decide) ?_
            refine tn_icmp_ne (tgt := 397) dX7_step_390 (by decide) ⟨by omega, by omega⟩ ⟨by decide, by decide⟩ (fun h620 => ?_) (fun h620 => absurd h620 (by omega))
            refine tn_iconst dX7_step_397 ?_
            have q621 : σ614.2.1 56 a = σ.2.1 56 a := rc_F F619 (Or.inl (by decide)) (by decide) (rc_F F607 (Or.inl (by decide)) (by decide) (rc_o (by decide) (rfl)))
            have q622 : σ614.2.1 57 a = σ.2.1 57 a := rc_F F619 (Or.inl (by decide)) (by decide) (rc_F F607 (Or.inl (by decide)) (by decide) (rc_o (by decide) (rfl)))
            have q623 : σ614.2.1 58 a = σ.2.1 58 a := rc_F F619 (Or.inl (by decide)) (by decide) (rc_F F607 (Or.inl (by decide)) (by decide) (rc_o (by decide) (rfl)))
            exact tn_zret (v := 0) rfl (by decide) dX7_step_398 ⟨_, rfl, rfl, w618, (((FrC.rfl.put (by decide) (by decide)).trans (FrC.sub F607 (by decide))).trans (FrC.sub F619 (by decide))), by omega, by unfold PIv at *; rw [q621, q622, q623]; omega, (((FA.rfl.put).trans (FA.of F607 (by decide))).trans (FA.of F619 (by decide)))⟩
          · refine tn_tableIn (tgt := 152) (off := 84) dX7_step_68 (x := v36) ⟨by omega, by omega⟩ (by omega) (by omega) (by rw [h473]; rfl) (by decide) ?_
            refine tn_aload_n dX7_step_152 rfl 3 rfl ?_
            refine tn_aload_n dX7_step_153 rfl 3 rfl ?_
            refine tn_iload_n dX7_step_154 rfl 2 rfl ?_
            refine tn_iconst dX7_step_155 ?_
            refine tn_callV (M := m_X7_step) (pc := 156) (ix := 110) (ci := 7) (M' := m_X7_operand) (As := [.int (iI v6), .int (iI 3)]) (rest := [.ref a]) dX7_step_156 ok_X7_operand im_X7_operand se_X7_operand ml7_110 np_X7_operand rfl rfl ha rfl (Nat.le_of_ble_eq_true rfl) (Nat.le_of_ble_eq_true rfl) rfl (k_X7_operand (d + 2) (T := T) (σ := (sA 67 a (z442) σ)) (a := a) (k := v6) (c := 3) ha (by omega) (by decide) (hw.put (by decide) (by decide) (fo_67 (by omega))) (by rw [show (sA 67 a (z442) σ).2.1 69 a = _ from rc_o (by decide) (hx7)]; omega) (by omega)) (fun r624 T626 σ625 gt627 hp => ?_)
            obtain ⟨v629, rfl, rfl, rfl, f628⟩ := hp
            clear gt627
            show Tn _ _ 159 T (sA 67 a (z442) σ) [(3, .int (iI z444)), (2, .int (iI v36)), (1, .int (iI v6)), (0, .ref a)] [.int (iI v629), .ref a] _
            refine tn_callV (M := m_X7_step) (pc := 159) (ix := 113) (ci := 7) (M' := m_X7_emit) (As := [.int (iI v629)]) (rest := []) dX7_step_159 ok_X7_emit im_X7_emit se_X7_emit ml7_113 np_X7_emit rfl rfl ha rfl (Nat.le_of_ble_eq_true rfl) (Nat.le_of_ble_eq_true rfl) rfl (k_X7_emit (d + 2) (T := T) (σ := (sA 67 a (z442) σ)) (a := a) (p1 := v629) ha (by omega) (hw.put (by decide) (by decide) (fo_67 (by omega))) ) (fun r630 T632 σ631 gt633 hp => ?_)
            obtain ⟨rfl, rfl, w636, F637, f634⟩ := hp
            clear gt633
            show Tn _ _ 162 T σ631 [(3, .int (iI z444)), (2, .int (iI v36)), (1, .int (iI v6)), (0, .ref a)] [] _
            refine tn_goto (tgt := 375) dX7_step_162 (by decide) ?_
            refine tn_aload_n dX7_step_375 rfl 3 rfl ?_
            obtain ⟨x638, hx639, hk640, hl641⟩ : ∃ x : Nat, σ.2.1 60 a = (x : Int) ∧ AR T x 1 9 9 := wf_60 hw ha
            have hk640i : IA T x638 := by unfold IA; omega
            refine tn_getR (ci := 7) (i := 5) (n := 60) (x := x638) dX7_step_376 rfl lay_7 (by decide) fl7_15 ha rfl rfl (rc_F F637 (Or.inl (by decide)) (by decide) (rc_o (by decide) (hx639))) ?_
            refine tn_aload_n dX7_step_379 rfl 3 rfl ?_
            refine tn_getI (ci := 7) (i := 2) (n := 57) (t := σ.2.1 57 a) dX7_step_380 rfl lay_7 (by decide) fl7_65 ha rfl rfl (rc_F F637 (Or.inl (by decide)) (by decide) (rc_o (by decide) (rfl))) ?_
            have g642 : ((0 : Int) ≤ σ.2.1 57 a ∧ σ.2.1 57 a ≤ 11184800) ∧ ((T a).1 = 57 → σ.2.1 57 a ≤ 8) := wf_57 hw ha
            have g642x := g642.2
            replace g642 := g642.1
            have g642x := g642x hta
            refine tn_iload_n dX7_step_383 rfl 0 rfl ?_
            refine tn_callSN (M := m_X7_step) (pc := 384) (ix := 61) (M' := m_X11_put) (As := [.ref x638, .int (iI (σ.2.1 57 a)), .int (iI z444)]) (rest := []) dX7_step_384 ok_X11_put stt_X11_put nl7_61 np_X11_put rfl (Nat.le_of_ble_eq_true rfl) (Nat.le_of_ble_eq_true rfl) rfl (k_X11_put (d + 3) (T := T) (σ := σ631) (x := x638) (i := σ.2.1 57 a) (y := z444) hk640i (by omega) (by omega) (by omega) w636 (nh_k hk640 (by unfold HT; omega)) (vok_1 (by have q9 := hk640; omega) (by omega))) (fun r643 T645 σ644 gt646 hp => ?_)
            obtain ⟨rfl, rfl, w648, F649⟩ := hp
            clear gt646
            show Tn _ _ 387 T σ644 [(3, .int (iI z444)), (2, .int (iI v36)), (1, .int (iI v6)), (0, .ref a)] [] _
            refine tn_iload_n dX7_step_387 rfl 1 rfl ?_
            refine tn_bipush dX7_step_388 (by decide) ?_
            refine tn_icmp_ne (tgt := 397) dX7_step_390 (by decide) ⟨by omega, by omega⟩ ⟨by decide, by decide⟩ (fun h650 => ?_) (fun h650 => absurd h650 (by omega))
            refine tn_iconst dX7_step_397 ?_
            have q651 : σ644.2.1 56 a = σ.2.1 56 a := rc_F F649 (Or.inl (by decide)) (by decide) (rc_F F637 (Or.inl (by decide)) (by decide) (rc_o (by decide) (rfl)))
            have q652 : σ644.2.1 57 a = σ.2.1 57 a := rc_F F649 (Or.inl (by decide)) (by decide) (rc_F F637 (Or.inl (by decide)) (by decide) (rc_o (by decide) (rfl)))
            have q653 : σ644.2.1 58 a = σ.2.1 58 a := rc_F F649 (Or.inl (by decide)) (by decide) (rc_F F637 (Or.inl (by decide)) (by decide) (rc_o (by decide) (rfl)))
            exact tn_zret (v := 0) rfl (by decide) dX7_step_398 ⟨_, rfl, rfl, w648, (((FrC.rfl.put (by decide) (by decide)).trans (FrC.sub F637 (by decide))).trans (FrC.sub F649 (by decide))), by omega, by unfold PIv at *; rw [q651, q652, q653]; omega, (((FA.rfl.put).trans f634).trans (FA.of F649 (by decide)))⟩
          · refine tn_tableIn (tgt := 213) (off := 145) dX7_step_68 (x := v36) ⟨by omega, by omega⟩ (by omega) (by omega) (by rw [h473]; rfl) (by decide) ?_
            refine tn_aload_n dX7_step_213 rfl 3 rfl ?_
            refine tn_aload_n dX7_step_214 rfl 3 rfl ?_
            refine tn_iload_n dX7_step_215 rfl 2 rfl ?_
            refine tn_iconst dX7_step_216 ?_
            refine tn_callV (M := m_X7_step) (pc := 217) (ix := 110) (ci := 7) (M' := m_X7_operand) (As := [.int (iI v6), .int (iI 3)]) (rest := [.ref a]) dX7_step_217 ok_X7_operand im_X7_operand se_X7_operand ml7_110 np_X7_operand rfl rfl ha rfl (Nat.le_of_ble_eq_true rfl) (Nat.le_of_ble_eq_true rfl) rfl (k_X7_operand (d + 2) (T := T) (σ := (sA 67 a (z442) σ)) (a := a) (k := v6) (c := 3) ha (by omega) (by decide) (hw.put (by decide) (by decide) (fo_67 (by omega))) (by rw [show (sA 67 a (z442) σ).2.1 69 a = _ from rc_o (by decide) (hx7)]; omega) (by omega)) (fun r654 T656 σ655 gt657 hp => ?_)
            obtain ⟨v659, rfl, rfl, rfl, f658⟩ := hp
            clear gt657
            show Tn _ _ 220 T (sA 67 a (z442) σ) [(3, .int (iI z444)), (2, .int (iI v36)), (1, .int (iI v6)), (0, .ref a)] [.int (iI v659), .ref a] _
            refine tn_callV (M := m_X7_step) (pc := 220) (ix := 123) (ci := 7) (M' := m_X7_giveBack) (As := [.int (iI v659)]) (rest := []) dX7_step_220 ok_X7_giveBack im_X7_giveBack se_X7_giveBack ml7_123 np_X7_giveBack rfl rfl ha rfl (Nat.le_of_ble_eq_true rfl) (Nat.le_of_ble_eq_true rfl) rfl (k_X7_giveBack_57 (d + 1) (T := T) (σ := (sA 67 a (z442) σ)) (a := a) (n := v659) ha hta (by omega) (hw.put (by decide) (by decide) (fo_67 (by omega))) (by rw [show (sA 67 a (z442) σ).2.1 58 a = σ.2.1 58 a from rc_o (by decide) (rfl), show (sA 67 a (z442) σ).2.1 57 a = σ.2.1 57 a from rc_o (by decide) (rfl)]; omega)) (fun r660 T662 σ661 gt663 hp => ?_)
            obtain ⟨rfl, rfl, w667, F668, f664, f665⟩ := hp
            clear gt663
            show Tn _ _ 223 T σ661 [(3, .int (iI z444)), (2, .int (iI v36)), (1, .int (iI v6)), (0, .ref a)] [] _
            refine tn_iconst dX7_step_223 ?_
            have q669 : σ661.2.1 56 a = σ661.2.1 56 a := rfl
            have q670 : σ661.2.1 57 a = σ661.2.1 57 a := rfl
            have q671 : σ661.2.1 58 a = σ661.2.1 58 a := rfl
            exact tn_zret (v := 0) rfl (by decide) dX7_step_224 ⟨_, rfl, rfl, w667, ((FrC.rfl.put (by decide) (by decide)).trans (FrC.sub F668 (by decide))), by omega, by unfold PIv at *; rw [q669, q670, q671]; omega, ((FA.rfl.put).trans f665)⟩
          · refine tn_tableIn (tgt := 165) (off := 97) dX7_step_68 (x := v36) ⟨by omega, by omega⟩ (by omega) (by omega) (by rw [h473]; rfl) (by decide) ?_
            refine tn_aload_n dX7_step_165 rfl 3 rfl ?_
            refine tn_getR (ci := 7) (i := 14) (n := 69) (x := x8) dX7_step_166 rfl lay_7 (by decide) fl7_72 ha rfl rfl (rc_o (by decide) (hx7)) ?_
            refine tn_iload_n dX7_step_169 rfl 2 rfl ?_
            refine tn_bipush dX7_step_170 (by decide) ?_
            refine tn_callV (M := m_X7_step) (pc := 172) (ix := 117) (ci := 1) (M' := m_X1_get) (As := [.int (iI v6), .int (iI 12)]) (rest := []) dX7_step_172 ok_X1_get im_X1_get se_X1_get ml7_117 np_X1_get rfl rfl hk9o rfl (Nat.le_of_ble_eq_true rfl) (Nat.le_of_ble_eq_true rfl) rfl (k_X1_get (d + 3) (T := T) (σ := (sA 67 a (z442) σ)) (a := x8) (k := v6) (c := 12) hk9o (by omega) (by decide) (hw.put (by decide) (by decide) (fo_67 (by omega))) (by omega)) (fun r672 T674 σ673 gt675 hp => ?_)
            obtain ⟨v677, rfl, rfl, rfl, f676⟩ := hp
            clear gt675
            show Tn _ _ 175 T (sA 67 a (z442) σ) [(3, .int (iI z444)), (2, .int (iI v36)), (1, .int (iI v6)), (0, .ref a)] [.int (iI v677)] _
            refine tn_istore_n (L' := [(3, .int (iI v677)), (2, .int (iI v36)), (1, .int (iI v6)), (0, .ref a)]) dX7_step_175 rfl (by decide) rfl ?_
            refine tn_goto (tgt := 375) dX7_step_176 (by decide) ?_
            refine tn_aload_n dX7_step_375 rfl 3 rfl ?_
            obtain ⟨x678, hx679, hk680, hl681⟩ : ∃ x : Nat, σ.2.1 60 a = (x : Int) ∧ AR T x 1 9 9 := wf_60 hw ha
            have hk680i : IA T x678 := by unfold IA; omega
            refine tn_getR (ci := 7) (i := 5) (n := 60) (x := x678) dX7_step_376 rfl lay_7 (by decide) fl7_15 ha rfl rfl (rc_o (by decide) (hx679)) ?_
            refine tn_aload_n dX7_step_379 rfl 3 rfl ?_
            refine tn_getI (ci := 7) (i := 2) (n := 57) (t := σ.2.1 57 a) dX7_step_380 rfl lay_7 (by decide) fl7_65 ha rfl rfl (rc_o (by decide) (rfl)) ?_
            have g682 : ((0 : Int) ≤ σ.2.1 57 a ∧ σ.2.1 57 a ≤ 11184800) ∧ ((T a).1 = 57 → σ.2.1 57 a ≤ 8) := wf_57 hw ha
            have g682x := g682.2
            replace g682 := g682.1
            have g682x := g682x hta
            refine tn_iload_n dX7_step_383 rfl 0 rfl ?_
            refine tn_callSN (M := m_X7_step) (pc := 384) (ix := 61) (M' := m_X11_put) (As := [.ref x678, .int (iI (σ.2.1 57 a)), .int (iI v677)]) (rest := []) dX7_step_384 ok_X11_put stt_X11_put nl7_61 np_X11_put rfl (Nat.le_of_ble_eq_true rfl) (Nat.le_of_ble_eq_true rfl) rfl (k_X11_put (d + 3) (T := T) (σ := (sA 67 a (z442) σ)) (x := x678) (i := σ.2.1 57 a) (y := v677) hk680i (by omega) (by omega) (by omega) (hw.put (by decide) (by decide) (fo_67 (by omega))) (nh_k hk680 (by unfold HT; omega)) (vok_1 (by have q9 := hk680; omega) (by omega))) (fun r683 T685 σ684 gt686 hp => ?_)
            obtain ⟨rfl, rfl, w688, F689⟩ := hp
            clear gt686
            show Tn _ _ 387 T σ684 [(3, .int (iI v677)), (2, .int (iI v36)), (1, .int (iI v6)), (0, .ref a)] [] _
            refine tn_iload_n dX7_step_387 rfl 1 rfl ?_
            refine tn_bipush dX7_step_388 (by decide) ?_
            refine tn_icmp_ne (tgt := 397) dX7_step_390 (by decide) ⟨by omega, by omega⟩ ⟨by decide, by decide⟩ (fun h690 => ?_) (fun h690 => absurd h690 (by omega))
            refine tn_iconst dX7_step_397 ?_
            have q691 : σ684.2.1 56 a = σ.2.1 56 a := rc_F F689 (Or.inl (by decide)) (by decide) (rc_o (by decide) (rfl))
            have q692 : σ684.2.1 57 a = σ.2.1 57 a := rc_F F689 (Or.inl (by decide)) (by decide) (rc_o (by decide) (rfl))
            have q693 : σ684.2.1 58 a = σ.2.1 58 a := rc_F F689 (Or.inl (by decide)) (by decide) (rc_o (by decide) (rfl))
            exact tn_zret (v := 0) rfl (by decide) dX7_step_398 ⟨_, rfl, rfl, w688, ((FrC.rfl.put (by decide) (by decide)).trans (FrC.sub F689 (by decide))), by omega, by unfold PIv at *; rw [q691, q692, q693]; omega, ((FA.rfl.put).trans (FA.of F689 (by decide)))⟩
          · refine tn_tableIn (tgt := 179) (off := 111) dX7_step_68 (x := v36) ⟨by omega, by omega⟩ (by omega) (by omega) (by rw [h473]; rfl) (by decide) ?_
            refine tn_aload_n dX7_step_179 rfl 3 rfl ?_
            refine tn_iload_n dX7_step_180 rfl 2 rfl ?_
            refine tn_iconst dX7_step_181 ?_
            refine tn_callV (M := m_X7_step) (pc := 182) (ix := 110) (ci := 7) (M' := m_X7_operand) (As := [.int (iI v6), .int (iI 3)]) (rest := []) dX7_step_182 ok_X7_operand im_X7_operand se_X7_operand ml7_110 np_X7_operand rfl rfl ha rfl (Nat.le_of_ble_eq_true rfl) (Nat.le_of_ble_eq_true rfl) rfl (k_X7_operand (d + 2) (T := T) (σ := (sA 67 a (z442) σ)) (a := a) (k := v6) (c := 3) ha (by omega) (by decide) (hw.put (by decide) (by decide) (fo_67 (by omega))) (by rw [show (sA 67 a (z442) σ).2.1 69 a = _ from rc_o (by decide) (hx7)]; omega) (by omega)) (fun r694 T696 σ695 gt697 hp => ?_)
            obtain ⟨v699, rfl, rfl, rfl, f698⟩ := hp
            clear gt697
            show Tn _ _ 185 T (sA 67 a (z442) σ) [(3, .int (iI z444)), (2, .int (iI v36)), (1, .int (iI v6)), (0, .ref a)] [.int (iI v699)] _
            refine tn_if_ne (tgt := 201) dX7_step_185 (by decide) ⟨by omega, by omega⟩ (fun h700 => ?_) (fun h700 => ?_)
            · refine tn_iload_n dX7_step_201 rfl 0 rfl ?_
              refine tn_istore_n (L' := [(3, .int (iI z444)), (2, .int (iI v36)), (1, .int (iI v6)), (0, .ref a)]) dX7_step_202 rfl (by decide) rfl ?_
              refine tn_goto (tgt := 375) dX7_step_203 (by decide) ?_
              refine tn_aload_n dX7_step_375 rfl 3 rfl ?_
              obtain ⟨x701, hx702, hk703, hl704⟩ : ∃ x : Nat, σ.2.1 60 a = (x : Int) ∧ AR T x 1 9 9 := wf_60 hw ha
              have hk703i : IA T x701 := by unfold IA; omega
              refine tn_getR (ci := 7) (i := 5) (n := 60) (x := x701) dX7_step_376 rfl lay_7 (by decide) fl7_15 ha rfl rfl (rc_o (by decide) (hx702)) ?_
              refine tn_aload_n dX7_step_379 rfl 3 rfl ?_
              refine tn_getI (ci := 7) (i := 2) (n := 57) (t := σ.2.1 57 a) dX7_step_380 rfl lay_7 (by decide) fl7_65 ha rfl rfl (rc_o (by decide) (rfl)) ?_
              have g705 : ((0 : Int) ≤ σ.2.1 57 a ∧ σ.2.1 57 a ≤ 11184800) ∧ ((T a).1 = 57 → σ.2.1 57 a ≤ 8) := wf_57 hw ha
              have g705x := g705.2
              replace g705 := g705.1
              have g705x := g705x hta
              refine tn_iload_n dX7_step_383 rfl 0 rfl ?_
              refine tn_callSN (M := m_X7_step) (pc := 384) (ix := 61) (M' := m_X11_put) (As := [.ref x701, .int (iI (σ.2.1 57 a)), .int (iI z444)]) (rest := []) dX7_step_384 ok_X11_put stt_X11_put nl7_61 np_X11_put rfl (Nat.le_of_ble_eq_true rfl) (Nat.le_of_ble_eq_true rfl) rfl (k_X11_put (d + 3) (T := T) (σ := (sA 67 a (z442) σ)) (x := x701) (i := σ.2.1 57 a) (y := z444) hk703i (by omega) (by omega) (by omega) (hw.put (by decide) (by decide) (fo_67 (by omega))) (nh_k hk703 (by unfold HT; omega)) (vok_1 (by have q9 := hk703; omega) (by omega))) (fun r706 T708 σ707 gt709 hp => ?_)
              obtain ⟨rfl, rfl, w711, F712⟩ := hp
              clear gt709
              show Tn _ _ 387 T σ707 [(3, .int (iI z444)), (2, .int (iI v36)), (1, .int (iI v6)), (0, .ref a)] [] _
              refine tn_iload_n dX7_step_387 rfl 1 rfl ?_
              refine tn_bipush dX7_step_388 (by decide) ?_
              refine tn_icmp_ne (tgt := 397) dX7_step_390 (by decide) ⟨by omega, by omega⟩ ⟨by decide, by decide⟩ (fun h713 => ?_) (fun h713 => absurd h713 (by omega))
              refine tn_iconst dX7_step_397 ?_
              have q714 : σ707.2.1 56 a = σ.2.1 56 a := rc_F F712 (Or.inl (by decide)) (by decide) (rc_o (by decide) (rfl))
              have q715 : σ707.2.1 57 a = σ.2.1 57 a := rc_F F712 (Or.inl (by decide)) (by decide) (rc_o (by decide) (rfl))
              have q716 : σ707.2.1 58 a = σ.2.1 58 a := rc_F F712 (Or.inl (by decide)) (by decide) (rc_o (by decide) (rfl))
              exact tn_zret (v := 0) rfl (by decide) dX7_step_398 ⟨_, rfl, rfl, w711, ((FrC.rfl.put (by decide) (by decide)).trans (FrC.sub F712 (by decide))), by omega, by unfold PIv at *; rw [q714, q715, q716]; omega, ((FA.rfl.put).trans (FA.of F712 (by decide)))⟩
            · refine tn_aload_n dX7_step_188 rfl 3 rfl ?_
              refine tn_getR (ci := 7) (i := 14) (n := 69) (x := x8) dX7_step_189 rfl lay_7 (by decide) fl7_72 ha rfl rfl (rc_o (by decide) (hx7)) ?_
              refine tn_iload_n dX7_step_192 rfl 2 rfl ?_
              refine tn_bipush dX7_step_193 (by decide) ?_
              refine tn_callV (M := m_X7_step) (pc := 195) (ix := 117) (ci := 1) (M' := m_X1_get) (As := [.int (iI v6), .int (iI 12)]) (rest := []) dX7_step_195 ok_X1_get im_X1_get se_X1_get ml7_117 np_X1_get rfl rfl hk9o rfl (Nat.le_of_ble_eq_true rfl) (Nat.le_of_ble_eq_true rfl) rfl (k_X1_get (d + 3) (T := T) (σ := (sA 67 a (z442) σ)) (a := x8) (k := v6) (c := 12) hk9o (by omega) (by decide) (hw.put (by decide) (by decide) (fo_67 (by omega))) (by omega)) (fun r717 T719 σ718 gt720 hp => ?_)
              obtain ⟨v722, rfl, rfl, rfl, f721⟩ := hp
              clear gt720
              show Tn _ _ 198 T (sA 67 a (z442) σ) [(3, .int (iI z444)), (2, .int (iI v36)), (1, .int (iI v6)), (0, .ref a)] [.int (iI v722)] _
              refine tn_goto (tgt := 202) dX7_step_198 (by decide) ?_
              refine tn_istore_n (L' := [(3, .int (iI v722)), (2, .int (iI v36)), (1, .int (iI v6)), (0, .ref a)]) dX7_step_202 rfl (by decide) rfl ?_
              refine tn_goto (tgt := 375) dX7_step_203 (by decide) ?_
              refine tn_aload_n dX7_step_375 rfl 3 rfl ?_
              obtain ⟨x723, hx724, hk725, hl726⟩ : ∃ x : Nat, σ.2.1 60 a = (x : Int) ∧ AR T x 1 9 9 := wf_60 hw ha
              have hk725i : IA T x723 := by unfold IA; omega
              refine tn_getR (ci := 7) (i := 5) (n := 60) (x := x723) dX7_step_376 rfl lay_7 (by decide) fl7_15 ha rfl rfl (rc_o (by decide) (hx724)) ?_
              refine tn_aload_n dX7_step_379 rfl 3 rfl ?_
              refine tn_getI (ci := 7) (i := 2) (n := 57) (t := σ.2.1 57 a) dX7_step_380 rfl lay_7 (by decide) fl7_65 ha rfl rfl (rc_o (by decide) (rfl)) ?_
              have g727 : ((0 : Int) ≤ σ.2.1 57 a ∧ σ.2.1 57 a ≤ 11184800) ∧ ((T a).1 = 57 → σ.2.1 57 a ≤ 8) := wf_57 hw ha
              have g727x := g727.2
              replace g727 := g727.1
              have g727x := g727x hta
              refine tn_iload_n dX7_step_383 rfl 0 rfl ?_
              refine tn_callSN (M := m_X7_step) (pc := 384) (ix := 61) (M' := m_X11_put) (As := [.ref x723, .int (iI (σ.2.1 57 a)), .int (iI v722)]) (rest := []) dX7_step_384 ok_X11_put stt_X11_put nl7_61 np_X11_put rfl (Nat.le_of_ble_eq_true rfl) (Nat.le_of_ble_eq_true rfl) rfl (k_X11_put (d + 3) (T := T) (σ := (sA 67 a (z442) σ)) (x := x723) (i := σ.2.1 57 a) (y := v722) hk725i (by omega) (by omega) (by omega) (hw.put (by decide) (by decide) (fo_67 (by omega))) (nh_k hk725 (by unfold HT; omega)) (vok_1 (by have q9 := hk725; omega) (by omega))) (fun r728 T730 σ729 gt731 hp => ?_)
              obtain ⟨rfl, rfl, w733, F734⟩ := hp
              clear gt731
              show Tn _ _ 387 T σ729 [(3, .int (iI v722)), (2, .int (iI v36)), (1, .int (iI v6)), (0, .ref a)] [] _
              refine tn_iload_n dX7_step_387 rfl 1 rfl ?_
              refine tn_bipush dX7_step_388 (by decide) ?_
              refine tn_icmp_ne (tgt := 397) dX7_step_390 (by decide) ⟨by omega, by omega⟩ ⟨by decide, by decide⟩ (fun h735 => ?_) (fun h735 => absurd h735 (by omega))
              refine tn_iconst dX7_step_397 ?_
              have q736 : σ729.2.1 56 a = σ.2.1 56 a := rc_F F734 (Or.inl (by decide)) (by decide) (rc_o (by decide) (rfl))
              have q737 : σ729.2.1 57 a = σ.2.1 57 a := rc_F F734 (Or.inl (by decide)) (by decide) (rc_o (by decide) (rfl))
              have q738 : σ729.2.1 58 a = σ.2.1 58 a := rc_F F734 (Or.inl (by decide)) (by decide) (rc_o (by decide) (rfl))
              exact tn_zret (v := 0) rfl (by decide) dX7_step_398 ⟨_, rfl, rfl, w733, ((FrC.rfl.put (by decide) (by decide)).trans (FrC.sub F734 (by decide))), by omega, by unfold PIv at *; rw [q736, q737, q738]; omega, ((FA.rfl.put).trans (FA.of F734 (by decide)))⟩
          · refine tn_tableIn (tgt := 206) (off := 138) dX7_step_68 (x := v36) ⟨by omega, by omega⟩ (by omega) (by omega) (by rw [h473]; rfl) (by decide) ?_
            refine tn_aload_n dX7_step_206 rfl 3 rfl ?_
            refine tn_iload_n dX7_step_207 rfl 2 rfl ?_
            have q743 : (sA 67 a (z442) σ).2.1 57 a = σ.2.1 57 a := rc_o (by decide) (rfl)
            have q744 : (sA 67 a (z442) σ).2.1 58 a = σ.2.1 58 a := rc_o (by decide) (rfl)
            refine tn_callV (M := m_X7_step) (pc := 208) (ix := 120) (ci := 7) (M' := m_X7_callFrom) (As := [.int (iI v6)]) (rest := []) dX7_step_208 ok_X7_callFrom im_X7_callFrom se_X7_callFrom ml7_120 np_X7_callFrom rfl rfl ha rfl (Nat.le_of_ble_eq_true rfl) (Nat.le_of_ble_eq_true rfl) rfl (k_X7_callFrom_57 (d) (T := T) (σ := (sA 67 a (z442) σ)) (a := a) (k := v6) ha hta (by omega) (hw.put (by decide) (by decide) (fo_67 (by omega))) (by rw [show (sA 67 a (z442) σ).2.1 69 a = _ from rc_o (by decide) (hx7)]; omega) (by rw [show (sA 67 a (z442) σ).2.1 57 a = σ.2.1 57 a from rc_o (by decide) (rfl)]; omega) (by rw [show (sA 67 a (z442) σ).2.1 58 a = σ.2.1 58 a from rc_o (by decide) (rfl)]; omega)) (fun r739 T741 σ740 gt742 hp => ?_)
            obtain ⟨rfl, rfl, w749, F750, f745, f746, f747⟩ := hp
            clear gt742
            show Tn _ _ 211 T σ740 [(3, .int (iI z444)), (2, .int (iI v36)), (1, .int (iI v6)), (0, .ref a)] [] _
            refine tn_iconst dX7_step_211 ?_
            have q751 : σ740.2.1 56 a = σ.2.1 56 a := rc_F F750 (Or.inl (by decide)) (by decide) (rc_o (by decide) (rfl))
            have q752 : σ740.2.1 57 a = σ740.2.1 57 a := rfl
            have q753 : σ740.2.1 58 a = σ740.2.1 58 a := rfl
            exact tn_zret (v := 0) rfl (by decide) dX7_step_212 ⟨_, rfl, rfl, w749, ((FrC.rfl.put (by decide) (by decide)).trans (FrC.sub F750 (by decide))), by omega, by unfold PIv at *; rw [q751, q752, q753]; omega, ((FA.rfl.put).trans f747)⟩
          · refine tn_tableIn (tgt := 225) (off := 157) dX7_step_68 (x := v36) ⟨by omega, by omega⟩ (by omega) (by omega) (by rw [h473]; rfl) (by decide) ?_
            refine tn_aload_n dX7_step_225 rfl 3 rfl ?_
            obtain ⟨x754, hx755, hk756, hl757⟩ : ∃ x : Nat, σ.2.1 62 a = (x : Int) ∧ AR T x 1 108 108 := wf_62 hw ha
            have hk756i : IA T x754 := by unfold IA; omega
            refine tn_getR (ci := 7) (i := 7) (n := 62) (x := x754) dX7_step_226 rfl lay_7 (by decide) fl7_21 ha rfl rfl (rc_o (by decide) (hx755)) ?_
            refine tn_aload_n dX7_step_229 rfl 3 rfl ?_
            refine tn_getI (ci := 7) (i := 2) (n := 57) (t := σ.2.1 57 a) dX7_step_230 rfl lay_7 (by decide) fl7_65 ha rfl rfl (rc_o (by decide) (rfl)) ?_
            have g758 : ((0 : Int) ≤ σ.2.1 57 a ∧ σ.2.1 57 a ≤ 11184800) ∧ ((T a).1 = 57 → σ.2.1 57 a ≤ 8) := wf_57 hw ha
            have g758x := g758.2
            replace g758 := g758.1
            have g758x := g758x hta
            refine tn_bipush dX7_step_233 (by decide) ?_
            refine tn_imul dX7_step_235 ?_
            refine tn_aload_n dX7_step_236 rfl 3 rfl ?_
            refine tn_getR (ci := 7) (i := 14) (n := 69) (x := x8) dX7_step_237 rfl lay_7 (by decide) fl7_72 ha rfl rfl (rc_o (by decide) (hx7)) ?_
            refine tn_iload_n dX7_step_240 rfl 2 rfl ?_
            refine tn_iconst dX7_step_241 ?_
            refine tn_callV (M := m_X7_step) (pc := 242) (ix := 117) (ci := 1) (M' := m_X1_get) (As := [.int (iI v6), .int (iI 2)]) (rest := [.int (iI ((σ.2.1 57 a) * 12)), .ref x754]) dX7_step_242 ok_X1_get im_X1_get se_X1_get ml7_117 np_X1_get rfl rfl hk9o rfl (Nat.le_of_ble_eq_true rfl) (Nat.le_of_ble_eq_true rfl) rfl (k_X1_get (d + 3) (T := T) (σ := (sA 67 a (z442) σ)) (a := x8) (k := v6) (c := 2) hk9o (by omega) (by decide) (hw.put (by decide) (by decide) (fo_67 (by omega))) (by omega)) (fun r759 T761 σ760 gt762 hp => ?_)
            obtain ⟨v764, rfl, rfl, rfl, f763⟩ := hp
            clear gt762
            show Tn _ _ 245 T (sA 67 a (z442) σ) [(3, .int (iI z444)), (2, .int (iI v36)), (1, .int (iI v6)), (0, .ref a)] [.int (iI v764), .int (iI ((σ.2.1 57 a) * 12)), .ref x754] _
            refine tn_iadd dX7_step_245 ?_
            refine tn_any (fun z765 g766 => ?_)
            have g766r : -2147483648 ≤ z765 ∧ z765 ≤ 2147483647 := g766
            refine tn_aload_n dX7_step_246 rfl 3 rfl ?_
            refine tn_getR (ci := 7) (i := 14) (n := 69) (x := x8) dX7_step_247 rfl lay_7 (by decide) fl7_72 ha rfl rfl (rc_o (by decide) (hx7)) ?_
            refine tn_iload_n dX7_step_250 rfl 2 rfl ?_
            refine tn_iconst dX7_step_251 ?_
            refine tn_callV (M := m_X7_step) (pc := 252) (ix := 117) (ci := 1) (M' := m_X1_get) (As := [.int (iI v6), .int (iI 1)]) (rest := [.int (iI z765), .ref x754]) dX7_step_252 ok_X1_get im_X1_get se_X1_get ml7_117 np_X1_get rfl rfl hk9o rfl (Nat.le_of_ble_eq_true rfl) (Nat.le_of_ble_eq_true rfl) rfl (k_X1_get (d + 3) (T := T) (σ := (sA 67 a (z442) σ)) (a := x8) (k := v6) (c := 1) hk9o (by omega) (by decide) (hw.put (by decide) (by decide) (fo_67 (by omega))) (by omega)) (fun r767 T769 σ768 gt770 hp => ?_)
            obtain ⟨v772, rfl, rfl, rfl, f771⟩ := hp
            clear gt770
            show Tn _ _ 255 T (sA 67 a (z442) σ) [(3, .int (iI z444)), (2, .int (iI v36)), (1, .int (iI v6)), (0, .ref a)] [.int (iI v772), .int (iI z765), .ref x754] _
            refine tn_callSN (M := m_X7_step) (pc := 255) (ix := 61) (M' := m_X11_put) (As := [.ref x754, .int (iI z765), .int (iI v772)]) (rest := []) dX7_step_255 ok_X11_put stt_X11_put nl7_61 np_X11_put rfl (Nat.le_of_ble_eq_true rfl) (Nat.le_of_ble_eq_true rfl) rfl (k_X11_put (d + 3) (T := T) (σ := (sA 67 a (z442) σ)) (x := x754) (i := z765) (y := v772) hk756i (by omega) (by omega) (by omega) (hw.put (by decide) (by decide) (fo_67 (by omega))) (nh_k hk756 (by unfold HT; omega)) (vok_1 (by have q9 := hk756; omega) (by omega))) (fun r773 T775 σ774 gt776 hp => ?_)
            obtain ⟨rfl, rfl, w778, F779⟩ := hp
            clear gt776
            show Tn _ _ 258 T σ774 [(3, .int (iI z444)), (2, .int (iI v36)), (1, .int (iI v6)), (0, .ref a)] [] _
            refine tn_goto (tgt := 375) dX7_step_258 (by decide) ?_
            refine tn_aload_n dX7_step_375 rfl 3 rfl ?_
            obtain ⟨x780, hx781, hk782, hl783⟩ : ∃ x : Nat, σ.2.1 60 a = (x : Int) ∧ AR T x 1 9 9 := wf_60 hw ha
            have hk782i : IA T x780 := by unfold IA; omega
            refine tn_getR (ci := 7) (i := 5) (n := 60) (x := x780) dX7_step_376 rfl lay_7 (by decide) fl7_15 ha rfl rfl (rc_F F779 (Or.inl (by decide)) (by decide) (rc_o (by decide) (hx781))) ?_
            refine tn_aload_n dX7_step_379 rfl 3 rfl ?_
            refine tn_getI (ci := 7) (i := 2) (n := 57) (t := σ.2.1 57 a) dX7_step_380 rfl lay_7 (by decide) fl7_65 ha rfl rfl (rc_F F779 (Or.inl (by decide)) (by decide) (rc_o (by decide) (rfl))) ?_
            refine tn_iload_n dX7_step_383 rfl 0 rfl ?_
            refine tn_callSN (M := m_X7_step) (pc := 384) (ix := 61) (M' := m_X11_put) (As := [.ref x780, .int (iI (σ.2.1 57 a)), .int (iI z444)]) (rest := []) dX7_step_384 ok_X11_put stt_X11_put nl7_61 np_X11_put rfl (Nat.le_of_ble_eq_true rfl) (Nat.le_of_ble_eq_true rfl) rfl (k_X11_put (d + 3) (T := T) (σ := σ774) (x := x780) (i := σ.2.1 57 a) (y := z444) hk782i (by omega) (by omega) (by omega) w778 (nh_k hk782 (by unfold HT; omega)) (vok_1 (by have q9 := hk782; omega) (by omega))) (fun r784 T786 σ785 gt787 hp => ?_)
            obtain ⟨rfl, rfl, w789, F790⟩ := hp
            clear gt787
            show Tn _ _ 387 T σ785 [(3, .int (iI z444)), (2, .int (iI v36)), (1, .int (iI v6)), (0, .ref a)] [] _
            refine tn_iload_n dX7_step_387 rfl 1 rfl ?_
            refine tn_bipush dX7_step_388 (by decide) ?_
            refine tn_icmp_ne (tgt := 397) dX7_step_390 (by decide) ⟨by omega, by omega⟩ ⟨by decide, by decide⟩ (fun h791 => absurd h791 (by omega)) (fun h791 => ?_)
            refine tn_iconst dX7_step_393 ?_
            refine tn_goto (tgt := 398) dX7_step_394 (by decide) ?_
            have q792 : σ785.2.1 56 a = σ.2.1 56 a := rc_F F790 (Or.inl (by decide)) (by decide) (rc_F F779 (Or.inl (by decide)) (by decide) (rc_o (by decide) (rfl)))
            have q793 : σ785.2.1 57 a = σ.2.1 57 a := rc_F F790 (Or.inl (by decide)) (by decide) (rc_F F779 (Or.inl (by decide)) (by decide) (rc_o (by decide) (rfl)))
            have q794 : σ785.2.1 58 a = σ.2.1 58 a := rc_F F790 (Or.inl (by decide)) (by decide) (rc_F F779 (Or.inl (by decide)) (by decide) (rc_o (by decide) (rfl)))
            exact tn_zret (v := 1) rfl (by decide) dX7_step_398 ⟨_, rfl, rfl, w789, (((FrC.rfl.put (by decide) (by decide)).trans (FrC.sub F779 (by decide))).trans (FrC.sub F790 (by decide))), by omega, by unfold PIv at *; rw [q792, q793, q794]; omega, (((FA.rfl.put).trans (FA.of F779 (by decide))).trans (FA.of F790 (by decide)))⟩
          · refine tn_tableIn (tgt := 369) (off := 301) dX7_step_68 (x := v36) ⟨by omega, by omega⟩ (by omega) (by omega) (by rw [h473]; rfl) (by decide) ?_
            refine tn_aload_n dX7_step_369 rfl 3 rfl ?_
            refine tn_iload_n dX7_step_370 rfl 2 rfl ?_
            refine tn_iload_n dX7_step_371 rfl 1 rfl ?_
            refine tn_callV (M := m_X7_step) (pc := 372) (ix := 129) (ci := 7) (M' := m_X7_reckonAt) (As := [.int (iI v6), .int (iI v36)]) (rest := []) dX7_step_372 ok_X7_reckonAt im_X7_reckonAt se_X7_reckonAt ml7_129 np_X7_reckonAt rfl rfl ha rfl (Nat.le_of_ble_eq_true rfl) (Nat.le_of_ble_eq_true rfl) rfl (k_X7_reckonAt (d + 1) (T := T) (σ := (sA 67 a (z442) σ)) (a := a) (k := v6) (e := v36) ha (by omega) (by omega) (hw.put (by decide) (by decide) (fo_67 (by omega))) (by rw [show (sA 67 a (z442) σ).2.1 69 a = _ from rc_o (by decide) (hx7)]; omega)) (fun r795 T797 σ796 gt798 hp => ?_)
            obtain ⟨rfl, rfl, w800, F801⟩ := hp
            clear gt798
            show Tn _ _ 375 T σ796 [(3, .int (iI z444)), (2, .int (iI v36)), (1, .int (iI v6)), (0, .ref a)] [] _
            refine tn_aload_n dX7_step_375 rfl 3 rfl ?_
            obtain ⟨x802, hx803, hk804, hl805⟩ : ∃ x : Nat, σ.2.1 60 a = (x : Int) ∧ AR T x 1 9 9 := wf_60 hw ha
            have hk804i : IA T x802 := by unfold IA; omega
            refine tn_getR (ci := 7) (i := 5) (n := 60) (x := x802) dX7_step_376 rfl lay_7 (by decide) fl7_15 ha rfl rfl (rc_F F801 (Or.inl (by decide)) (by decide) (rc_o (by decide) (hx803))) ?_
            refine tn_aload_n dX7_step_379 rfl 3 rfl ?_
            refine tn_getI (ci := 7) (i := 2) (n := 57) (t := σ.2.1 57 a) dX7_step_380 rfl lay_7 (by decide) fl7_65 ha rfl rfl (rc_F F801 (Or.inl (by decide)) (by decide) (rc_o (by decide) (rfl))) ?_
            have g806 : ((0 : Int) ≤ σ.2.1 57 a ∧ σ.2.1 57 a ≤ 11184800) ∧ ((T a).1 = 57 → σ.2.1 57 a ≤ 8) := wf_57 hw ha
            have g806x := g806.2
            replace g806 := g806.1
            have g806x := g806x hta
            refine tn_iload_n dX7_step_383 rfl 0 rfl ?_
            refine tn_callSN (M := m_X7_step) (pc := 384) (ix := 61) (M' := m_X11_put) (As := [.ref x802, .int (iI (σ.2.1 57 a)), .int (iI z444)]) (rest := []) dX7_step_384 ok_X11_put stt_X11_put nl7_61 np_X11_put rfl (Nat.le_of_ble_eq_true rfl) (Nat.le_of_ble_eq_true rfl) rfl (k_X11_put (d + 3) (T := T) (σ := σ796) (x := x802) (i := σ.2.1 57 a) (y := z444) hk804i (by omega) (by omega) (by omega) w800 (nh_k hk804 (by unfold HT; omega)) (vok_1 (by have q9 := hk804; omega) (by omega))) (fun r807 T809 σ808 gt810 hp => ?_)
            obtain ⟨rfl, rfl, w812, F813⟩ := hp
            clear gt810
            show Tn _ _ 387 T σ808 [(3, .int (iI z444)), (2, .int (iI v36)), (1, .int (iI v6)), (0, .ref a)] [] _
            refine tn_iload_n dX7_step_387 rfl 1 rfl ?_
            refine tn_bipush dX7_step_388 (by decide) ?_
            refine tn_icmp_ne (tgt := 397) dX7_step_390 (by decide) ⟨by omega, by omega⟩ ⟨by decide, by decide⟩ (fun h814 => ?_) (fun h814 => absurd h814 (by omega))
            refine tn_iconst dX7_step_397 ?_
            have q815 : σ808.2.1 56 a = σ.2.1 56 a := rc_F F813 (Or.inl (by decide)) (by decide) (rc_F F801 (Or.inl (by decide)) (by decide) (rc_o (by decide) (rfl)))
            have q816 : σ808.2.1 57 a = σ.2.1 57 a := rc_F F813 (Or.inl (by decide)) (by decide) (rc_F F801 (Or.inl (by decide)) (by decide) (rc_o (by decide) (rfl)))
            have q817 : σ808.2.1 58 a = σ.2.1 58 a := rc_F F813 (Or.inl (by decide)) (by decide) (rc_F F801 (Or.inl (by decide)) (by decide) (rc_o (by decide) (rfl)))
            exact tn_zret (v := 0) rfl (by decide) dX7_step_398 ⟨_, rfl, rfl, w812, (((FrC.rfl.put (by decide) (by decide)).trans (FrC.sub F801 (by decide))).trans (FrC.sub F813 (by decide))), by omega, by unfold PIv at *; rw [q815, q816, q817]; omega, (((FA.rfl.put).trans (FA.of F801 (by decide))).trans (FA.of F813 (by decide)))⟩
          · refine tn_tableIn (tgt := 369) (off := 301) dX7_step_68 (x := v36) ⟨by omega, by omega⟩ (by omega) (by omega) (by rw [h473]; rfl) (by decide) ?_
            refine tn_aload_n dX7_step_369 rfl 3 rfl ?_
            refine tn_iload_n dX7_step_370 rfl 2 rfl ?_
            refine tn_iload_n dX7_step_371 rfl 1 rfl ?_
            refine tn_callV (M := m_X7_step) (pc := 372) (ix := 129) (ci := 7) (M' := m_X7_reckonAt) (As := [.int (iI v6), .int (iI v36)]) (rest := []) dX7_step_372 ok_X7_reckonAt im_X7_reckonAt se_X7_reckonAt ml7_129 np_X7_reckonAt rfl rfl ha rfl (Nat.le_of_ble_eq_true rfl) (Nat.le_of_ble_eq_true rfl) rfl (k_X7_reckonAt (d + 1) (T := T) (σ := (sA 67 a (z442) σ)) (a := a) (k := v6) (e := v36) ha (by omega) (by omega) (hw.put (by decide) (by decide) (fo_67 (by omega))) (by rw [show (sA 67 a (z442) σ).2.1 69 a = _ from rc_o (by decide) (hx7)]; omega)) (fun r818 T820 σ819 gt821 hp => ?_)
            obtain ⟨rfl, rfl, w823, F824⟩ := hp
            clear gt821
            show Tn _ _ 375 T σ819 [(3, .int (iI z444)), (2, .int (iI v36)), (1, .int (iI v6)), (0, .ref a)] [] _
            refine tn_aload_n dX7_step_375 rfl 3 rfl ?_
            obtain ⟨x825, hx826, hk827, hl828⟩ : ∃ x : Nat, σ.2.1 60 a = (x : Int) ∧ AR T x 1 9 9 := wf_60 hw ha
            have hk827i : IA T x825 := by unfold IA; omega
            refine tn_getR (ci := 7) (i := 5) (n := 60) (x := x825) dX7_step_376 rfl lay_7 (by decide) fl7_15 ha rfl rfl (rc_F F824 (Or.inl (by decide)) (by decide) (rc_o (by decide) (hx826))) ?_
            refine tn_aload_n dX7_step_379 rfl 3 rfl ?_
            refine tn_getI (ci := 7) (i := 2) (n := 57) (t := σ.2.1 57 a) dX7_step_380 rfl lay_7 (by decide) fl7_65 ha rfl rfl (rc_F F824 (Or.inl (by decide)) (by decide) (rc_o (by decide) (rfl))) ?_
            have g829 : ((0 : Int) ≤ σ.2.1 57 a ∧ σ.2.1 57 a ≤ 11184800) ∧ ((T a).1 = 57 → σ.2.1 57 a ≤ 8) := wf_57 hw ha
            have g829x := g829.2
            replace g829 := g829.1
            have g829x := g829x hta
            refine tn_iload_n dX7_step_383 rfl 0 rfl ?_
            refine tn_callSN (M := m_X7_step) (pc := 384) (ix := 61) (M' := m_X11_put) (As := [.ref x825, .int (iI (σ.2.1 57 a)), .int (iI z444)]) (rest := []) dX7_step_384 ok_X11_put stt_X11_put nl7_61 np_X11_put rfl (Nat.le_of_ble_eq_true rfl) (Nat.le_of_ble_eq_true rfl) rfl (k_X11_put (d + 3) (T := T) (σ := σ819) (x := x825) (i := σ.2.1 57 a) (y := z444) hk827i (by omega) (by omega) (by omega) w823 (nh_k hk827 (by unfold HT; omega)) (vok_1 (by have q9 := hk827; omega) (by omega))) (fun r830 T832 σ831 gt833 hp => ?_)
            obtain ⟨rfl, rfl, w835, F836⟩ := hp
            clear gt833
            show Tn _ _ 387 T σ831 [(3, .int (iI z444)), (2, .int (iI v36)), (1, .int (iI v6)), (0, .ref a)] [] _
            refine tn_iload_n dX7_step_387 rfl 1 rfl ?_
            refine tn_bipush dX7_step_388 (by decide) ?_
            refine tn_icmp_ne (tgt := 397) dX7_step_390 (by decide) ⟨by omega, by omega⟩ ⟨by decide, by decide⟩ (fun h837 => ?_) (fun h837 => absurd h837 (by omega))
            refine tn_iconst dX7_step_397 ?_
            have q838 : σ831.2.1 56 a = σ.2.1 56 a := rc_F F836 (Or.inl (by decide)) (by decide) (rc_F F824 (Or.inl (by decide)) (by decide) (rc_o (by decide) (rfl)))
            have q839 : σ831.2.1 57 a = σ.2.1 57 a := rc_F F836 (Or.inl (by decide)) (by decide) (rc_F F824 (Or.inl (by decide)) (by decide) (rc_o (by decide) (rfl)))
            have q840 : σ831.2.1 58 a = σ.2.1 58 a := rc_F F836 (Or.inl (by decide)) (by decide) (rc_F F824 (Or.inl (by decide)) (by decide) (rc_o (by decide) (rfl)))
            exact tn_zret (v := 0) rfl (by decide) dX7_step_398 ⟨_, rfl, rfl, w835, (((FrC.rfl.put (by decide) (by decide)).trans (FrC.sub F824 (by decide))).trans (FrC.sub F836 (by decide))), by omega, by unfold PIv at *; rw [q838, q839, q840]; omega, (((FA.rfl.put).trans (FA.of F824 (by decide))).trans (FA.of F836 (by decide)))⟩
          · refine tn_tableIn (tgt := 261) (off := 193) dX7_step_68 (x := v36) ⟨by omega, by omega⟩ (by omega) (by omega) (by rw [h473]; rfl) (by decide) ?_
            exact absurd True.intro (by omega)
          · refine tn_tableIn (tgt := 319) (off := 251) dX7_step_68 (x := v36) ⟨by omega, by omega⟩ (by omega) (by omega) (by rw [h473]; rfl) (by decide) ?_
            exact absurd True.intro (by omega)
      · refine tn_aload_n dX7_step_37 rfl 2 rfl ?_
        refine tn_getI (ci := 7) (i := 3) (n := 58) (t := σ.2.1 58 a) dX7_step_38 rfl lay_7 (by decide) fl7_38 ha rfl rfl (rfl) ?_
        have g841 : ((-2147483648 : Int) ≤ σ.2.1 58 a ∧ σ.2.1 58 a ≤ 2147483647) := wf_58 hw ha
        refine tn_bipush dX7_step_41 (by decide) ?_
        refine tn_icmp_le (tgt := 53) dX7_step_43 (by decide) ⟨by omega, by omega⟩ ⟨by decide, by decide⟩ (fun h842 => ?_) (fun h842 => ?_)
        · refine tn_aload_n dX7_step_53 rfl 2 rfl ?_
          refine tn_dup dX7_step_54 rfl ?_
          refine tn_getI (ci := 7) (i := 12) (n := 67) (t := σ.2.1 67 a) dX7_step_55 rfl lay_7 (by decide) fl7_47 ha rfl rfl (rfl) ?_
          have g843 : ((-2147483648 : Int) ≤ σ.2.1 67 a ∧ σ.2.1 67 a ≤ 2147483647) := wf_67 hw ha
          refine tn_iconst dX7_step_58 ?_
          refine tn_iadd dX7_step_59 ?_
          refine tn_any (fun z844 g845 => ?_)
          have g845r : -2147483648 ≤ z844 ∧ z844 ≤ 2147483647 := g845
          refine tn_putV (ci := 7) (i := 12) (n := 67) (r := false) (v := z844) tyX7 tyX7_ok nmX7 dX7_step_60 rfl lay_7 (by decide) fl7_47 rfl (tyX7_ok 12 (by decide)) rfl rfl rfl ha rfl rfl ?_
          refine tn_iload_n dX7_step_63 rfl 1 rfl ?_
          refine tn_iconst dX7_step_64 ?_
          refine tn_iadd dX7_step_65 ?_
          refine tn_any (fun z846 g847 => ?_)
          have g847r : -2147483648 ≤ z846 ∧ z846 ≤ 2147483647 := g847
          refine tn_istore_n (L' := [(3, .int (iI z846)), (2, .int (iI v36)), (1, .int (iI v6)), (0, .ref a)]) dX7_step_66 rfl (by decide) rfl ?_
          refine tn_iload_n dX7_step_67 rfl 1 rfl ?_
          by_cases h848 : v36 < -1 ∨ 15 < v36
          · refine tn_tableOut (tgt := 369) dX7_step_68 (x := v36) ⟨by omega, by omega⟩ h848 (by decide) ?_
            refine tn_aload_n dX7_step_369 rfl 3 rfl ?_
            refine tn_iload_n dX7_step_370 rfl 2 rfl ?_
            refine tn_iload_n dX7_step_371 rfl 1 rfl ?_
            refine tn_callV (M := m_X7_step) (pc := 372) (ix := 129) (ci := 7) (M' := m_X7_reckonAt) (As := [.int (iI v6), .int (iI v36)]) (rest := []) dX7_step_372 ok_X7_reckonAt im_X7_reckonAt se_X7_reckonAt ml7_129 np_X7_reckonAt rfl rfl ha rfl (Nat.le_of_ble_eq_true rfl) (Nat.le_of_ble_eq_true rfl) rfl (k_X7_reckonAt (d + 1) (T := T) (σ := (sA 67 a (z844) σ)) (a := a) (k := v6) (e := v36) ha (by omega) (by omega) (hw.put (by decide) (by decide) (fo_67 (by omega))) (by rw [show (sA 67 a (z844) σ).2.1 69 a = _ from rc_o (by decide) (hx7)]; omega)) (fun r849 T851 σ850 gt852 hp => ?_)
            obtain ⟨rfl, rfl, w854, F855⟩ := hp
            clear gt852
            show Tn _ _ 375 T σ850 [(3, .int (iI z846)), (2, .int (iI v36)), (1, .int (iI v6)), (0, .ref a)] [] _
            refine tn_aload_n dX7_step_375 rfl 3 rfl ?_
            obtain ⟨x856, hx857, hk858, hl859⟩ : ∃ x : Nat, σ.2.1 60 a = (x : Int) ∧ AR T x 1 9 9 := wf_60 hw ha
            have hk858i : IA T x856 := by unfold IA; omega
            refine tn_getR (ci := 7) (i := 5) (n := 60) (x := x856) dX7_step_376 rfl lay_7 (by decide) fl7_15 ha rfl rfl (rc_F F855 (Or.inl (by decide)) (by decide) (rc_o (by decide) (hx857))) ?_
            refine tn_aload_n dX7_step_379 rfl 3 rfl ?_
            refine tn_getI (ci := 7) (i := 2) (n := 57) (t := σ.2.1 57 a) dX7_step_380 rfl lay_7 (by decide) fl7_65 ha rfl rfl (rc_F F855 (Or.inl (by decide)) (by decide) (rc_o (by decide) (rfl))) ?_
            have g860 : ((0 : Int) ≤ σ.2.1 57 a ∧ σ.2.1 57 a ≤ 11184800) ∧ ((T a).1 = 57 → σ.2.1 57 a ≤ 8) := wf_57 hw ha
            have g860x := g860.2
            replace g860 := g860.1
            have g860x := g860x hta
            refine tn_iload_n dX7_step_383 rfl 0 rfl ?_
            refine tn_callSN (M := m_X7_step) (pc := 384) (ix := 61) (M' := m_X11_put) (As := [.ref x856, .int (iI (σ.2.1 57 a)), .int (iI z846)]) (rest := []) dX7_step_384 ok_X11_put stt_X11_put nl7_61 np_X11_put rfl (Nat.le_of_ble_eq_true rfl) (Nat.le_of_ble_eq_true rfl) rfl (k_X11_put (d + 3) (T := T) (σ := σ850) (x := x856) (i := σ.2.1 57 a) (y := z846) hk858i (by omega) (by omega) (by omega) w854 (nh_k hk858 (by unfold HT; omega)) (vok_1 (by have q9 := hk858; omega) (by omega))) (fun r861 T863 σ862 gt864 hp => ?_)
            obtain ⟨rfl, rfl, w866, F867⟩ := hp
            clear gt864
            show Tn _ _ 387 T σ862 [(3, .int (iI z846)), (2, .int (iI v36)), (1, .int (iI v6)), (0, .ref a)] [] _
            refine tn_iload_n dX7_step_387 rfl 1 rfl ?_
            refine tn_bipush dX7_step_388 (by decide) ?_
            refine tn_icmp_ne (tgt := 397) dX7_step_390 (by decide) ⟨by omega, by omega⟩ ⟨by decide, by decide⟩ (fun h868 => ?_) (fun h868 => absurd h868 (by omega))
            refine tn_iconst dX7_step_397 ?_
            have q869 : σ862.2.1 56 a = σ.2.1 56 a := rc_F F867 (Or.inl (by decide)) (by decide) (rc_F F855 (Or.inl (by decide)) (by decide) (rc_o (by decide) (rfl)))
            have q870 : σ862.2.1 57 a = σ.2.1 57 a := rc_F F867 (Or.inl (by decide)) (by decide) (rc_F F855 (Or.inl (by decide)) (by decide) (rc_o (by decide) (rfl)))
            have q871 : σ862.2.1 58 a = σ.2.1 58 a := rc_F F867 (Or.inl (by decide)) (by decide) (rc_F F855 (Or.inl (by decide)) (by decide) (rc_o (by decide) (rfl)))
            exact tn_zret (v := 0) rfl (by decide) dX7_step_398 ⟨_, rfl, rfl, w866, (((FrC.rfl.put (by decide) (by decide)).trans (FrC.sub F855 (by decide))).trans (FrC.sub F867 (by decide))), by omega, by unfold PIv at *; rw [q869, q870, q871]; omega, (((FA.rfl.put).trans (FA.of F855 (by decide))).trans (FA.of F867 (by decide)))⟩
          · have h872 : v36 = -1 ∨ v36 = 0 ∨ v36 = 1 ∨ v36 = 2 ∨ v36 = 3 ∨ v36 = 4 ∨ v36 = 5 ∨ v36 = 6 ∨ v36 = 7 ∨ v36 = 8 ∨ v36 = 9 ∨ v36 = 10 ∨ v36 = 11 ∨ v36 = 12 ∨ v36 = 13 ∨ v36 = 14 ∨ v36 = 15 := by omega
            rcases h872 with h872 | h872 | h872 | h872 | h872 | h872 | h872 | h872 | h872 | h872 | h872 | h872 | h872 | h872 | h872 | h872 | h872
            · refine tn_tableIn (tgt := 362) (off := 294) dX7_step_68 (x := v36) ⟨by omega, by omega⟩ (by omega) (by omega) (by rw [h872]; rfl) (by decide) ?_
              refine tn_aload_n dX7_step_362 rfl 3 rfl ?_
              refine tn_iconst dX7_step_363 ?_
              refine tn_callV (M := m_X7_step) (pc := 364) (ix := 123) (ci := 7) (M' := m_X7_giveBack) (As := [.int (iI 0)]) (rest := []) dX7_step_364 ok_X7_giveBack im_X7_giveBack se_X7_giveBack ml7_123 np_X7_giveBack rfl rfl ha rfl (Nat.le_of_ble_eq_true rfl) (Nat.le_of_ble_eq_true rfl) rfl (k_X7_giveBack_57 (d + 1) (T := T) (σ := (sA 67 a (z844) σ)) (a := a) (n := 0) ha hta (by decide) (hw.put (by decide) (by decide) (fo_67 (by omega))) (by rw [show (sA 67 a (z844) σ).2.1 58 a = σ.2.1 58 a from rc_o (by decide) (rfl), show (sA 67 a (z844) σ).2.1 57 a = σ.2.1 57 a from rc_o (by decide) (rfl)]; omega)) (fun r873 T875 σ874 gt876 hp => ?_)
              obtain ⟨rfl, rfl, w880, F881, f877, f878⟩ := hp
              clear gt876
              show Tn _ _ 367 T σ874 [(3, .int (iI z846)), (2, .int (iI v36)), (1, .int (iI v6)), (0, .ref a)] [] _
              refine tn_iconst dX7_step_367 ?_
              have q882 : σ874.2.1 56 a = σ874.2.1 56 a := rfl
              have q883 : σ874.2.1 57 a = σ874.2.1 57 a := rfl
              have q884 : σ874.2.1 58 a = σ874.2.1 58 a := rfl
              exact tn_zret (v := 0) rfl (by decide) dX7_step_368 ⟨_, rfl, rfl, w880, ((FrC.rfl.put (by decide) (by decide)).trans (FrC.sub F881 (by decide))), by omega, by unfold PIv at *; rw [q882, q883, q884]; omega, ((FA.rfl.put).trans f878)⟩
            · refine tn_tableIn (tgt := 369) (off := 301) dX7_step_68 (x := v36) ⟨by omega, by omega⟩ (by omega) (by omega) (by rw [h872]; rfl) (by decide) ?_
              refine tn_aload_n dX7_step_369 rfl 3 rfl ?_
              refine tn_iload_n dX7_step_370 rfl 2 rfl ?_
              refine tn_iload_n dX7_step_371 rfl 1 rfl ?_
              refine tn_callV (M := m_X7_step) (pc := 372) (ix := 129) (ci := 7) (M' := m_X7_reckonAt) (As := [.int (iI v6), .int (iI v36)]) (rest := []) dX7_step_372 ok_X7_reckonAt im_X7_reckonAt se_X7_reckonAt ml7_129 np_X7_reckonAt rfl rfl ha rfl (Nat.le_of_ble_eq_true rfl) (Nat.le_of_ble_eq_true rfl) rfl (k_X7_reckonAt (d + 1) (T := T) (σ := (sA 67 a (z844) σ)) (a := a) (k := v6) (e := v36) ha (by omega) (by omega) (hw.put (by decide) (by decide) (fo_67 (by omega))) (by rw [show (sA 67 a (z844) σ).2.1 69 a = _ from rc_o (by decide) (hx7)]; omega)) (fun r885 T887 σ886 gt888 hp => ?_)
              obtain ⟨rfl, rfl, w890, F891⟩ := hp
              clear gt888
              show Tn _ _ 375 T σ886 [(3, .int (iI z846)), (2, .int (iI v36)), (1, .int (iI v6)), (0, .ref a)] [] _
              refine tn_aload_n dX7_step_375 rfl 3 rfl ?_
              obtain ⟨x892, hx893, hk894, hl895⟩ : ∃ x : Nat, σ.2.1 60 a = (x : Int) ∧ AR T x 1 9 9 := wf_60 hw ha
              have hk894i : IA T x892 := by unfold IA; omega
              refine tn_getR (ci := 7) (i := 5) (n := 60) (x := x892) dX7_step_376 rfl lay_7 (by decide) fl7_15 ha rfl rfl (rc_F F891 (Or.inl (by decide)) (by decide) (rc_o (by decide) (hx893))) ?_
              refine tn_aload_n dX7_step_379 rfl 3 rfl ?_
              refine tn_getI (ci := 7) (i := 2) (n := 57) (t := σ.2.1 57 a) dX7_step_380 rfl lay_7 (by decide) fl7_65 ha rfl rfl (rc_F F891 (Or.inl (by decide)) (by decide) (rc_o (by decide) (rfl))) ?_
              have g896 : ((0 : Int) ≤ σ.2.1 57 a ∧ σ.2.1 57 a ≤ 11184800) ∧ ((T a).1 = 57 → σ.2.1 57 a ≤ 8) := wf_57 hw ha
              have g896x := g896.2
              replace g896 := g896.1
              have g896x := g896x hta
              refine tn_iload_n dX7_step_383 rfl 0 rfl ?_
              refine tn_callSN (M := m_X7_step) (pc := 384) (ix := 61) (M' := m_X11_put) (As := [.ref x892, .int (iI (σ.2.1 57 a)), .int (iI z846)]) (rest := []) dX7_step_384 ok_X11_put stt_X11_put nl7_61 np_X11_put rfl (Nat.le_of_ble_eq_true rfl) (Nat.le_of_ble_eq_true rfl) rfl (k_X11_put (d + 3) (T := T) (σ := σ886) (x := x892) (i := σ.2.1 57 a) (y := z846) hk894i (by omega) (by omega) (by omega) w890 (nh_k hk894 (by unfold HT; omega)) (vok_1 (by have q9 := hk894; omega) (by omega))) (fun r897 T899 σ898 gt900 hp => ?_)
              obtain ⟨rfl, rfl, w902, F903⟩ := hp
              clear gt900
              show Tn _ _ 387 T σ898 [(3, .int (iI z846)), (2, .int (iI v36)), (1, .int (iI v6)), (0, .ref a)] [] _
              refine tn_iload_n dX7_step_387 rfl 1 rfl ?_
              refine tn_bipush dX7_step_388 (by decide) ?_
              refine tn_icmp_ne (tgt := 397) dX7_step_390 (by decide) ⟨by omega, by omega⟩ ⟨by decide, by decide⟩ (fun h904 => ?_) (fun h904 => absurd h904 (by omega))
              refine tn_iconst dX7_step_397 ?_
              have q905 : σ898.2.1 56 a = σ.2.1 56 a := rc_F F903 (Or.inl (by decide)) (by decide) (rc_F F891 (Or.inl (by decide)) (by decide) (rc_o (by decide) (rfl)))
              have q906 : σ898.2.1 57 a = σ.2.1 57 a := rc_F F903 (Or.inl (by decide)) (by decide) (rc_F F891 (Or.inl (by decide)) (by decide) (rc_o (by decide) (rfl)))
              have q907 : σ898.2.1 58 a = σ.2.1 58 a := rc_F F903 (Or.inl (by decide)) (by decide) (rc_F F891 (Or.inl (by decide)) (by decide) (rc_o (by decide) (rfl)))
              exact tn_zret (v := 0) rfl (by decide) dX7_step_398 ⟨_, rfl, rfl, w902, (((FrC.rfl.put (by decide) (by decide)).trans (FrC.sub F891 (by decide))).trans (FrC.sub F903 (by decide))), by omega, by unfold PIv at *; rw [q905, q906, q907]; omega, (((FA.rfl.put).trans (FA.of F891 (by decide))).trans (FA.of F903 (by decide)))⟩
            · refine tn_tableIn (tgt := 369) (off := 301) dX7_step_68 (x := v36) ⟨by omega, by omega⟩ (by omega) (by omega) (by rw [h872]; rfl) (by decide) ?_
              refine tn_aload_n dX7_step_369 rfl 3 rfl ?_
              refine tn_iload_n dX7_step_370 rfl 2 rfl ?_
              refine tn_iload_n dX7_step_371 rfl 1 rfl ?_
              refine tn_callV (M := m_X7_step) (pc := 372) (ix := 129) (ci := 7) (M' := m_X7_reckonAt) (As := [.int (iI v6), .int (iI v36)]) (rest := []) dX7_step_372 ok_X7_reckonAt im_X7_reckonAt se_X7_reckonAt ml7_129 np_X7_reckonAt rfl rfl ha rfl (Nat.le_of_ble_eq_true rfl) (Nat.le_of_ble_eq_true rfl) rfl (k_X7_reckonAt (d + 1) (T := T) (σ := (sA 67 a (z844) σ)) (a := a) (k := v6) (e := v36) ha (by omega) (by omega) (hw.put (by decide) (by decide) (fo_67 (by omega))) (by rw [show (sA 67 a (z844) σ).2.1 69 a = _ from rc_o (by decide) (hx7)]; omega)) (fun r908 T910 σ909 gt911 hp => ?_)
              obtain ⟨rfl, rfl, w913, F914⟩ := hp
              clear gt911
              show Tn _ _ 375 T σ909 [(3, .int (iI z846)), (2, .int (iI v36)), (1, .int (iI v6)), (0, .ref a)] [] _
              refine tn_aload_n dX7_step_375 rfl 3 rfl ?_
              obtain ⟨x915, hx916, hk917, hl918⟩ : ∃ x : Nat, σ.2.1 60 a = (x : Int) ∧ AR T x 1 9 9 := wf_60 hw ha
              have hk917i : IA T x915 := by unfold IA; omega
              refine tn_getR (ci := 7) (i := 5) (n := 60) (x := x915) dX7_step_376 rfl lay_7 (by decide) fl7_15 ha rfl rfl (rc_F F914 (Or.inl (by decide)) (by decide) (rc_o (by decide) (hx916))) ?_
              refine tn_aload_n dX7_step_379 rfl 3 rfl ?_
              refine tn_getI (ci := 7) (i := 2) (n := 57) (t := σ.2.1 57 a) dX7_step_380 rfl lay_7 (by decide) fl7_65 ha rfl rfl (rc_F F914 (Or.inl (by decide)) (by decide) (rc_o (by decide) (rfl))) ?_
              have g919 : ((0 : Int) ≤ σ.2.1 57 a ∧ σ.2.1 57 a ≤ 11184800) ∧ ((T a).1 = 57 → σ.2.1 57 a ≤ 8) := wf_57 hw ha
              have g919x := g919.2
              replace g919 := g919.1
              have g919x := g919x hta
              refine tn_iload_n dX7_step_383 rfl 0 rfl ?_
              refine tn_callSN (M := m_X7_step) (pc := 384) (ix := 61) (M' := m_X11_put) (As := [.ref x915, .int (iI (σ.2.1 57 a)), .int (iI z846)]) (rest := []) dX7_step_384 ok_X11_put stt_X11_put nl7_61 np_X11_put rfl (Nat.le_of_ble_eq_true rfl) (Nat.le_of_ble_eq_true rfl) rfl (k_X11_put (d + 3) (T := T) (σ := σ909) (x := x915) (i := σ.2.1 57 a) (y := z846) hk917i (by omega) (by omega) (by omega) w913 (nh_k hk917 (by unfold HT; omega)) (vok_1 (by have q9 := hk917; omega) (by omega))) (fun r920 T922 σ921 gt923 hp => ?_)
              obtain ⟨rfl, rfl, w925, F926⟩ := hp
              clear gt923
              show Tn _ _ 387 T σ921 [(3, .int (iI z846)), (2, .int (iI v36)), (1, .int (iI v6)), (0, .ref a)] [] _
              refine tn_iload_n dX7_step_387 rfl 1 rfl ?_
              refine tn_bipush dX7_step_388 (by decide) ?_
              refine tn_icmp_ne (tgt := 397) dX7_step_390 (by decide) ⟨by omega, by omega⟩ ⟨by decide, by decide⟩ (fun h927 => ?_) (fun h927 => absurd h927 (by omega))
              refine tn_iconst dX7_step_397 ?_
              have q928 : σ921.2.1 56 a = σ.2.1 56 a := rc_F F926 (Or.inl (by decide)) (by decide) (rc_F F914 (Or.inl (by decide)) (by decide) (rc_o (by decide) (rfl)))
              have q929 : σ921.2.1 57 a = σ.2.1 57 a := rc_F F926 (Or.inl (by decide)) (by decide) (rc_F F914 (Or.inl (by decide)) (by decide) (rc_o (by decide) (rfl)))
              have q930 : σ921.2.1 58 a = σ.2.1 58 a := rc_F F926 (Or.inl (by decide)) (by decide) (rc_F F914 (Or.inl (by decide)) (by decide) (rc_o (by decide) (rfl)))
              exact tn_zret (v := 0) rfl (by decide) dX7_step_398 ⟨_, rfl, rfl, w925, (((FrC.rfl.put (by decide) (by decide)).trans (FrC.sub F914 (by decide))).trans (FrC.sub F926 (by decide))), by omega, by unfold PIv at *; rw [q928, q929, q930]; omega, (((FA.rfl.put).trans (FA.of F914 (by decide))).trans (FA.of F926 (by decide)))⟩
            · refine tn_tableIn (tgt := 369) (off := 301) dX7_step_68 (x := v36) ⟨by omega, by omega⟩ (by omega) (by omega) (by rw [h872]; rfl) (by decide) ?_
              refine tn_aload_n dX7_step_369 rfl 3 rfl ?_
              refine tn_iload_n dX7_step_370 rfl 2 rfl ?_
              refine tn_iload_n dX7_step_371 rfl 1 rfl ?_
              refine tn_callV (M := m_X7_step) (pc := 372) (ix := 129) (ci := 7) (M' := m_X7_reckonAt) (As := [.int (iI v6), .int (iI v36)]) (rest := []) dX7_step_372 ok_X7_reckonAt im_X7_reckonAt se_X7_reckonAt ml7_129 np_X7_reckonAt rfl rfl ha rfl (Nat.le_of_ble_eq_true rfl) (Nat.le_of_ble_eq_true rfl) rfl (k_X7_reckonAt (d + 1) (T := T) (σ := (sA 67 a (z844) σ)) (a := a) (k := v6) (e := v36) ha (by omega) (by omega) (hw.put (by decide) (by decide) (fo_67 (by omega))) (by rw [show (sA 67 a (z844) σ).2.1 69 a = _ from rc_o (by decide) (hx7)]; omega)) (fun r931 T933 σ932 gt934 hp => ?_)
              obtain ⟨rfl, rfl, w936, F937⟩ := hp
              clear gt934
              show Tn _ _ 375 T σ932 [(3, .int (iI z846)), (2, .int (iI v36)), (1, .int (iI v6)), (0, .ref a)] [] _
              refine tn_aload_n dX7_step_375 rfl 3 rfl ?_
              obtain ⟨x938, hx939, hk940, hl941⟩ : ∃ x : Nat, σ.2.1 60 a = (x : Int) ∧ AR T x 1 9 9 := wf_60 hw ha
              have hk940i : IA T x938 := by unfold IA; omega
              refine tn_getR (ci := 7) (i := 5) (n := 60) (x := x938) dX7_step_376 rfl lay_7 (by decide) fl7_15 ha rfl rfl (rc_F F937 (Or.inl (by decide)) (by decide) (rc_o (by decide) (hx939))) ?_
              refine tn_aload_n dX7_step_379 rfl 3 rfl ?_
              refine tn_getI (ci := 7) (i := 2) (n := 57) (t := σ.2.1 57 a) dX7_step_380 rfl lay_7 (by decide) fl7_65 ha rfl rfl (rc_F F937 (Or.inl (by decide)) (by decide) (rc_o (by decide) (rfl))) ?_
              have g942 : ((0 : Int) ≤ σ.2.1 57 a ∧ σ.2.1 57 a ≤ 11184800) ∧ ((T a).1 = 57 → σ.2.1 57 a ≤ 8) := wf_57 hw ha
              have g942x := g942.2
              replace g942 := g942.1
              have g942x := g942x hta
              refine tn_iload_n dX7_step_383 rfl 0 rfl ?_
              refine tn_callSN (M := m_X7_step) (pc := 384) (ix := 61) (M' := m_X11_put) (As := [.ref x938, .int (iI (σ.2.1 57 a)), .int (iI z846)]) (rest := []) dX7_step_384 ok_X11_put stt_X11_put nl7_61 np_X11_put rfl (Nat.le_of_ble_eq_true rfl) (Nat.le_of_ble_eq_true rfl) rfl (k_X11_put (d + 3) (T := T) (σ := σ932) (x := x938) (i := σ.2.1 57 a) (y := z846) hk940i (by omega) (by omega) (by omega) w936 (nh_k hk940 (by unfold HT; omega)) (vok_1 (by have q9 := hk940; omega) (by omega))) (fun r943 T945 σ944 gt946 hp => ?_)
              obtain ⟨rfl, rfl, w948, F949⟩ := hp
              clear gt946
              show Tn _ _ 387 T σ944 [(3, .int (iI z846)), (2, .int (iI v36)), (1, .int (iI v6)), (0, .ref a)] [] _
              refine tn_iload_n dX7_step_387 rfl 1 rfl ?_
              refine tn_bipush dX7_step_388 (by decide) ?_
              refine tn_icmp_ne (tgt := 397) dX7_step_390 (by decide) ⟨by omega, by omega⟩ ⟨by decide, by decide⟩ (fun h950 => ?_) (fun h950 => absurd h950 (by omega))
              refine tn_iconst dX7_step_397 ?_
              have q951 : σ944.2.1 56 a = σ.2.1 56 a := rc_F F949 (Or.inl (by decide)) (by decide) (rc_F F937 (Or.inl (by decide)) (by decide) (rc_o (by decide) (rfl)))
              have q952 : σ944.2.1 57 a = σ.2.1 57 a := rc_F F949 (Or.inl (by decide)) (by decide) (rc_F F937 (Or.inl (by decide)) (by decide) (rc_o (by decide) (rfl)))
              have q953 : σ944.2.1 58 a = σ.2.1 58 a := rc_F F949 (Or.inl (by decide)) (by decide) (rc_F F937 (Or.inl (by decide)) (by decide) (rc_o (by decide) (rfl)))
              exact tn_zret (v := 0) rfl (by decide) dX7_step_398 ⟨_, rfl, rfl, w948, (((FrC.rfl.put (by decide) (by decide)).trans (FrC.sub F937 (by decide))).trans (FrC.sub F949 (by decide))), by omega, by unfold PIv at *; rw [q951, q952, q953]; omega, (((FA.rfl.put).trans (FA.of F937 (by decide))).trans (FA.of F949 (by decide)))⟩
            · refine tn_tableIn (tgt := 369) (off := 301) dX7_step_68 (x := v36) ⟨by omega, by omega⟩ (by omega) (by omega) (by rw [h872]; rfl) (by decide) ?_
              refine tn_aload_n dX7_step_369 rfl 3 rfl ?_
              refine tn_iload_n dX7_step_370 rfl 2 rfl ?_
              refine tn_iload_n dX7_step_371 rfl 1 rfl ?_
              refine tn_callV (M := m_X7_step) (pc := 372) (ix := 129) (ci := 7) (M' := m_X7_reckonAt) (As := [.int (iI v6), .int (iI v36)]) (rest := []) dX7_step_372 ok_X7_reckonAt im_X7_reckonAt se_X7_reckonAt ml7_129 np_X7_reckonAt rfl rfl ha rfl (Nat.le_of_ble_eq_true rfl) (Nat.le_of_ble_eq_true rfl) rfl (k_X7_reckonAt (d + 1) (T := T) (σ := (sA 67 a (z844) σ)) (a := a) (k := v6) (e := v36) ha (by omega) (by omega) (hw.put (by decide) (by decide) (fo_67 (by omega))) (by rw [show (sA 67 a (z844) σ).2.1 69 a = _ from rc_o (by decide) (hx7)]; omega)) (fun r954 T956 σ955 gt957 hp => ?_)
              obtain ⟨rfl, rfl, w959, F960⟩ := hp
              clear gt957
              show Tn _ _ 375 T σ955 [(3, .int (iI z846)), (2, .int (iI v36)), (1, .int (iI v6)), (0, .ref a)] [] _
              refine tn_aload_n dX7_step_375 rfl 3 rfl ?_
              obtain ⟨x961, hx962, hk963, hl964⟩ : ∃ x : Nat, σ.2.1 60 a = (x : Int) ∧ AR T x 1 9 9 := wf_60 hw ha
              have hk963i : IA T x961 := by unfold IA; omega
              refine tn_getR (ci := 7) (i := 5) (n := 60) (x := x961) dX7_step_376 rfl lay_7 (by decide) fl7_15 ha rfl rfl (rc_F F960 (Or.inl (by decide)) (by decide) (rc_o (by decide) (hx962))) ?_
              refine tn_aload_n dX7_step_379 rfl 3 rfl ?_
              refine tn_getI (ci := 7) (i := 2) (n := 57) (t := σ.2.1 57 a) dX7_step_380 rfl lay_7 (by decide) fl7_65 ha rfl rfl (rc_F F960 (Or.inl (by decide)) (by decide) (rc_o (by decide) (rfl))) ?_
              have g965 : ((0 : Int) ≤ σ.2.1 57 a ∧ σ.2.1 57 a ≤ 11184800) ∧ ((T a).1 = 57 → σ.2.1 57 a ≤ 8) := wf_57 hw ha
              have g965x := g965.2
              replace g965 := g965.1
              have g965x := g965x hta
              refine tn_iload_n dX7_step_383 rfl 0 rfl ?_
              refine tn_callSN (M := m_X7_step) (pc := 384) (ix := 61) (M' := m_X11_put) (As := [.ref x961, .int (iI (σ.2.1 57 a)), .int (iI z846)]) (rest := []) dX7_step_384 ok_X11_put stt_X11_put nl7_61 np_X11_put rfl (Nat.le_of_ble_eq_true rfl) (Nat.le_of_ble_eq_true rfl) rfl (k_X11_put (d + 3) (T := T) (σ := σ955) (x := x961) (i := σ.2.1 57 a) (y := z846) hk963i (by omega) (by omega) (by omega) w959 (nh_k hk963 (by unfold HT; omega)) (vok_1 (by have q9 := hk963; omega) (by omega))) (fun r966 T968 σ967 gt969 hp => ?_)
              obtain ⟨rfl, rfl, w971, F972⟩ := hp
              clear gt969
              show Tn _ _ 387 T σ967 [(3, .int (iI z846)), (2, .int (iI v36)), (1, .int (iI v6)), (0, .ref a)] [] _
              refine tn_iload_n dX7_step_387 rfl 1 rfl ?_
              refine tn_bipush dX7_step_388 (by decide) ?_
              refine tn_icmp_ne (tgt := 397) dX7_step_390 (by decide) ⟨by omega, by omega⟩ ⟨by decide, by decide⟩ (fun h973 => ?_) (fun h973 => absurd h973 (by omega))
              refine tn_iconst dX7_step_397 ?_
              have q974 : σ967.2.1 56 a = σ.2.1 56 a := rc_F F972 (Or.inl (by decide)) (by decide) (rc_F F960 (Or.inl (by decide)) (by decide) (rc_o (by decide) (rfl)))
              have q975 : σ967.2.1 57 a = σ.2.1 57 a := rc_F F972 (Or.inl (by decide)) (by decide) (rc_F F960 (Or.inl (by decide)) (by decide) (rc_o (by decide) (rfl)))
              have q976 : σ967.2.1 58 a = σ.2.1 58 a := rc_F F972 (Or.inl (by decide)) (by decide) (rc_F F960 (Or.inl (by decide)) (by decide) (rc_o (by decide) (rfl)))
              exact tn_zret (v := 0) rfl (by decide) dX7_step_398 ⟨_, rfl, rfl, w971, (((FrC.rfl.put (by decide) (by decide)).trans (FrC.sub F960 (by decide))).trans (FrC.sub F972 (by decide))), by omega, by unfold PIv at *; rw [q974, q975, q976]; omega, (((FA.rfl.put).trans (FA.of F960 (by decide))).trans (FA.of F972 (by decide)))⟩
            · refine tn_tableIn (tgt := 369) (off := 301) dX7_step_68 (x := v36) ⟨by omega, by omega⟩ (by omega) (by omega) (by rw [h872]; rfl) (by decide) ?_
              refine tn_aload_n dX7_step_369 rfl 3 rfl ?_
              refine tn_iload_n dX7_step_370 rfl 2 rfl ?_
              refine tn_iload_n dX7_step_371 rfl 1 rfl ?_
              refine tn_callV (M := m_X7_step) (pc := 372) (ix := 129) (ci := 7) (M' := m_X7_reckonAt) (As := [.int (iI v6), .int (iI v36)]) (rest := []) dX7_step_372 ok_X7_reckonAt im_X7_reckonAt se_X7_reckonAt ml7_129 np_X7_reckonAt rfl rfl ha rfl (Nat.le_of_ble_eq_true rfl) (Nat.le_of_ble_eq_true rfl) rfl (k_X7_reckonAt (d + 1) (T := T) (σ := (sA 67 a (z844) σ)) (a := a) (k := v6) (e := v36) ha (by omega) (by omega) (hw.put (by decide) (by decide) (fo_67 (by omega))) (by rw [show (sA 67 a (z844) σ).2.1 69 a = _ from rc_o (by decide) (hx7)]; omega)) (fun r977 T979 σ978 gt980 hp => ?_)
              obtain ⟨rfl, rfl, w982, F983⟩ := hp
              clear gt980
              show Tn _ _ 375 T σ978 [(3, .int (iI z846)), (2, .int (iI v36)), (1, .int (iI v6)), (0, .ref a)] [] _
              refine tn_aload_n dX7_step_375 rfl 3 rfl ?_
              obtain ⟨x984, hx985, hk986, hl987⟩ : ∃ x : Nat, σ.2.1 60 a = (x : Int) ∧ AR T x 1 9 9 := wf_60 hw ha
              have hk986i : IA T x984 := by unfold IA; omega
              refine tn_getR (ci := 7) (i := 5) (n := 60) (x := x984) dX7_step_376 rfl lay_7 (by decide) fl7_15 ha rfl rfl (rc_F F983 (Or.inl (by decide)) (by decide) (rc_o (by decide) (hx985))) ?_
              refine tn_aload_n dX7_step_379 rfl 3 rfl ?_
              refine tn_getI (ci := 7) (i := 2) (n := 57) (t := σ.2.1 57 a) dX7_step_380 rfl lay_7 (by decide) fl7_65 ha rfl rfl (rc_F F983 (Or.inl (by decide)) (by decide) (rc_o (by decide) (rfl))) ?_
              have g988 : ((0 : Int) ≤ σ.2.1 57 a ∧ σ.2.1 57 a ≤ 11184800) ∧ ((T a).1 = 57 → σ.2.1 57 a ≤ 8) := wf_57 hw ha
              have g988x := g988.2
              replace g988 := g988.1
              have g988x := g988x hta
              refine tn_iload_n dX7_step_383 rfl 0 rfl ?_
              refine tn_callSN (M := m_X7_step) (pc := 384) (ix := 61) (M' := m_X11_put) (As := [.ref x984, .int (iI (σ.2.1 57 a)), .int (iI z846)]) (rest := []) dX7_step_384 ok_X11_put stt_X11_put nl7_61 np_X11_put rfl (Nat.le_of_ble_eq_true rfl) (Nat.le_of_ble_eq_true rfl) rfl (k_X11_put (d + 3) (T := T) (σ := σ978) (x := x984) (i := σ.2.1 57 a) (y := z846) hk986i (by omega) (by omega) (by omega) w982 (nh_k hk986 (by unfold HT; omega)) (vok_1 (by have q9 := hk986; omega) (by omega))) (fun r989 T991 σ990 gt992 hp => ?_)
              obtain ⟨rfl, rfl, w994, F995⟩ := hp
              clear gt992
              show Tn _ _ 387 T σ990 [(3, .int (iI z846)), (2, .int (iI v36)), (1, .int (iI v6)), (0, .ref a)] [] _
              refine tn_iload_n dX7_step_387 rfl 1 rfl ?_
              refine tn_bipush dX7_step_388 (by decide) ?_
              refine tn_icmp_ne (tgt := 397) dX7_step_390 (by decide) ⟨by omega, by omega⟩ ⟨by decide, by decide⟩ (fun h996 => ?_) (fun h996 => absurd h996 (by omega))
              refine tn_iconst dX7_step_397 ?_
              have q997 : σ990.2.1 56 a = σ.2.1 56 a := rc_F F995 (Or.inl (by decide)) (by decide) (rc_F F983 (Or.inl (by decide)) (by decide) (rc_o (by decide) (rfl)))
              have q998 : σ990.2.1 57 a = σ.2.1 57 a := rc_F F995 (Or.inl (by decide)) (by decide) (rc_F F983 (Or.inl (by decide)) (by decide) (rc_o (by decide) (rfl)))
              have q999 : σ990.2.1 58 a = σ.2.1 58 a := rc_F F995 (Or.inl (by decide)) (by decide) (rc_F F983 (Or.inl (by decide)) (by decide) (rc_o (by decide) (rfl)))
              exact tn_zret (v := 0) rfl (by decide) dX7_step_398 ⟨_, rfl, rfl, w994, (((FrC.rfl.put (by decide) (by decide)).trans (FrC.sub F983 (by decide))).trans (FrC.sub F995 (by decide))), by omega, by unfold PIv at *; rw [q997, q998, q999]; omega, (((FA.rfl.put).trans (FA.of F983 (by decide))).trans (FA.of F995 (by decide)))⟩
            · refine tn_tableIn (tgt := 369) (off := 301) dX7_step_68 (x := v36) ⟨by omega, by omega⟩ (by omega) (by omega) (by rw [h872]; rfl) (by decide) ?_
              refine tn_aload_n dX7_step_369 rfl 3 rfl ?_
              refine tn_iload_n dX7_step_370 rfl 2 rfl ?_
              refine tn_iload_n dX7_step_371 rfl 1 rfl ?_
              refine tn_callV (M := m_X7_step) (pc := 372) (ix := 129) (ci := 7) (M' := m_X7_reckonAt) (As := [.int (iI v6), .int (iI v36)]) (rest := []) dX7_step_372 ok_X7_reckonAt im_X7_reckonAt se_X7_reckonAt ml7_129 np_X7_reckonAt rfl rfl ha rfl (Nat.le_of_ble_eq_true rfl) (Nat.le_of_ble_eq_true rfl) rfl (k_X7_reckonAt (d + 1) (T := T) (σ := (sA 67 a (z844) σ)) (a := a) (k := v6) (e := v36) ha (by omega) (by omega) (hw.put (by decide) (by decide) (fo_67 (by omega))) (by rw [show (sA 67 a (z844) σ).2.1 69 a = _ from rc_o (by decide) (hx7)]; omega)) (fun r1000 T1002 σ1001 gt1003 hp => ?_)
              obtain ⟨rfl, rfl, w1005, F1006⟩ := hp
              clear gt1003
              show Tn _ _ 375 T σ1001 [(3, .int (iI z846)), (2, .int (iI v36)), (1, .int (iI v6)), (0, .ref a)] [] _
              refine tn_aload_n dX7_step_375 rfl 3 rfl ?_
              obtain ⟨x1007, hx1008, hk1009, hl1010⟩ : ∃ x : Nat, σ.2.1 60 a = (x : Int) ∧ AR T x 1 9 9 := wf_60 hw ha
              have hk1009i : IA T x1007 := by unfold IA; omega
              refine tn_getR (ci := 7) (i := 5) (n := 60) (x := x1007) dX7_step_376 rfl lay_7 (by decide) fl7_15 ha rfl rfl (rc_F F1006 (Or.inl (by decide)) (by decide) (rc_o (by decide) (hx1008))) ?_
              refine tn_aload_n dX7_step_379 rfl 3 rfl ?_
              refine tn_getI (ci := 7) (i := 2) (n := 57) (t := σ.2.1 57 a) dX7_step_380 rfl lay_7 (by decide) fl7_65 ha rfl rfl (rc_F F1006 (Or.inl (by decide)) (by decide) (rc_o (by decide) (rfl))) ?_
              have g1011 : ((0 : Int) ≤ σ.2.1 57 a ∧ σ.2.1 57 a ≤ 11184800) ∧ ((T a).1 = 57 → σ.2.1 57 a ≤ 8) := wf_57 hw ha
              have g1011x := g1011.2
              replace g1011 := g1011.1
              have g1011x := g1011x hta
              refine tn_iload_n dX7_step_383 rfl 0 rfl ?_
              refine tn_callSN (M := m_X7_step) (pc := 384) (ix := 61) (M' := m_X11_put) (As := [.ref x1007, .int (iI (σ.2.1 57 a)), .int (iI z846)]) (rest := []) dX7_step_384 ok_X11_put stt_X11_put nl7_61 np_X11_put rfl (Nat.le_of_ble_eq_true rfl) (Nat.le_of_ble_eq_true rfl) rfl (k_X11_put (d + 3) (T := T) (σ := σ1001) (x := x1007) (i := σ.2.1 57 a) (y := z846) hk1009i (by omega) (by omega) (by omega) w1005 (nh_k hk1009 (by unfold HT; omega)) (vok_1 (by have q9 := hk1009; omega) (by omega))) (fun r1012 T1014 σ1013 gt1015 hp => ?_)
              obtain ⟨rfl, rfl, w1017, F1018⟩ := hp
              clear gt1015
              show Tn _ _ 387 T σ1013 [(3, .int (iI z846)), (2, .int (iI v36)), (1, .int (iI v6)), (0, .ref a)] [] _
              refine tn_iload_n dX7_step_387 rfl 1 rfl ?_
              refine tn_bipush dX7_step_388 (by decide) ?_
              refine tn_icmp_ne (tgt := 397) dX7_step_390 (by decide) ⟨by omega, by omega⟩ ⟨by decide, by decide⟩ (fun h1019 => ?_) (fun h1019 => absurd h1019 (by omega))
              refine tn_iconst dX7_step_397 ?_
              have q1020 : σ1013.2.1 56 a = σ.2.1 56 a := rc_F F1018 (Or.inl (by decide)) (by decide) (rc_F F1006 (Or.inl (by decide)) (by decide) (rc_o (by decide) (rfl)))
              have q1021 : σ1013.2.1 57 a = σ.2.1 57 a := rc_F F1018 (Or.inl (by decide)) (by decide) (rc_F F1006 (Or.inl (by decide)) (by decide) (rc_o (by decide) (rfl)))
              have q1022 : σ1013.2.1 58 a = σ.2.1 58 a := rc_F F1018 (Or.inl (by decide)) (by decide) (rc_F F1006 (Or.inl (by decide)) (by decide) (rc_o (by decide) (rfl)))
              exact tn_zret (v := 0) rfl (by decide) dX7_step_398 ⟨_, rfl, rfl, w1017, (((FrC.rfl.put (by decide) (by decide)).trans (FrC.sub F1006 (by decide))).trans (FrC.sub F1018 (by decide))), by omega, by unfold PIv at *; rw [q1020, q1021, q1022]; omega, (((FA.rfl.put).trans (FA.of F1006 (by decide))).trans (FA.of F1018 (by decide)))⟩
            · refine tn_tableIn (tgt := 152) (off := 84) dX7_step_68 (x := v36) ⟨by omega, by omega⟩ (by omega) (by omega) (by rw [h872]; rfl) (by decide) ?_
              refine tn_aload_n dX7_step_152 rfl 3 rfl ?_
              refine tn_aload_n dX7_step_153 rfl 3 rfl ?_
              refine tn_iload_n dX7_step_154 rfl 2 rfl ?_
              refine tn_iconst dX7_step_155 ?_
              refine tn_callV (M := m_X7_step) (pc := 156) (ix := 110) (ci := 7) (M' := m_X7_operand) (As := [.int (iI v6), .int (iI 3)]) (rest := [.ref a]) dX7_step_156 ok_X7_operand im_X7_operand se_X7_operand ml7_110 np_X7_operand rfl rfl ha rfl (Nat.le_of_ble_eq_true rfl) (Nat.le_of_ble_eq_true rfl) rfl (k_X7_operand (d + 2) (T := T) (σ := (sA 67 a (z844) σ)) (a := a) (k := v6) (c := 3) ha (by omega) (by decide) (hw.put (by decide) (by decide) (fo_67 (by omega))) (by rw [show (sA 67 a (z844) σ).2.1 69 a = _ from rc_o (by decide) (hx7)]; omega) (by omega)) (fun r1023 T1025 σ1024 gt1026 hp => ?_)
              obtain ⟨v1028, rfl, rfl, rfl, f1027⟩ := hp
              clear gt1026
              show Tn _ _ 159 T (sA 67 a (z844) σ) [(3, .int (iI z846)), (2, .int (iI v36)), (1, .int (iI v6)), (0, .ref a)] [.int (iI v1028), .ref a] _
              refine tn_callV (M := m_X7_step) (pc := 159) (ix := 113) (ci := 7) (M' := m_X7_emit) (As := [.int (iI v1028)]) (rest := []) dX7_step_159 ok_X7_emit im_X7_emit se_X7_emit ml7_113 np_X7_emit rfl rfl ha rfl (Nat.le_of_ble_eq_true rfl) (Nat.le_of_ble_eq_true rfl) rfl (k_X7_emit (d + 2) (T := T) (σ := (sA 67 a (z844) σ)) (a := a) (p1 := v1028) ha (by omega) (hw.put (by decide) (by decide) (fo_67 (by omega))) ) (fun r1029 T1031 σ1030 gt1032 hp => ?_)
              obtain ⟨rfl, rfl, w1035, F1036, f1033⟩ := hp
              clear gt1032
              show Tn _ _ 162 T σ1030 [(3, .int (iI z846)), (2, .int (iI v36)), (1, .int (iI v6)), (0, .ref a)] [] _
              refine tn_goto (tgt := 375) dX7_step_162 (by decide) ?_
              refine tn_aload_n dX7_step_375 rfl 3 rfl ?_
              obtain ⟨x1037, hx1038, hk1039, hl1040⟩ : ∃ x : Nat, σ.2.1 60 a = (x : Int) ∧ AR T x 1 9 9 := wf_60 hw ha
              have hk1039i : IA T x1037 := by unfold IA; omega
              refine tn_getR (ci := 7) (i := 5) (n := 60) (x := x1037) dX7_step_376 rfl lay_7 (by decide) fl7_15 ha rfl rfl (rc_F F1036 (Or.inl (by decide)) (by decide) (rc_o (by decide) (hx1038))) ?_
              refine tn_aload_n dX7_step_379 rfl 3 rfl ?_
              refine tn_getI (ci := 7) (i := 2) (n := 57) (t := σ.2.1 57 a) dX7_step_380 rfl lay_7 (by decide) fl7_65 ha rfl rfl (rc_F F1036 (Or.inl (by decide)) (by decide) (rc_o (by decide) (rfl))) ?_
              have g1041 : ((0 : Int) ≤ σ.2.1 57 a ∧ σ.2.1 57 a ≤ 11184800) ∧ ((T a).1 = 57 → σ.2.1 57 a ≤ 8) := wf_57 hw ha
              have g1041x := g1041.2
              replace g1041 := g1041.1
              have g1041x := g1041x hta
              refine tn_iload_n dX7_step_383 rfl 0 rfl ?_
              refine tn_callSN (M := m_X7_step) (pc := 384) (ix := 61) (M' := m_X11_put) (As := [.ref x1037, .int (iI (σ.2.1 57 a)), .int (iI z846)]) (rest := []) dX7_step_384 ok_X11_put stt_X11_put nl7_61 np_X11_put rfl (Nat.le_of_ble_eq_true rfl) (Nat.le_of_ble_eq_true rfl) rfl (k_X11_put (d + 3) (T := T) (σ := σ1030) (x := x1037) (i := σ.2.1 57 a) (y := z846) hk1039i (by omega) (by omega) (by omega) w1035 (nh_k hk1039 (by unfold HT; omega)) (vok_1 (by have q9 := hk1039; omega) (by omega))) (fun r1042 T1044 σ1043 gt1045 hp => ?_)
              obtain ⟨rfl, rfl, w1047, F1048⟩ := hp
              clear gt1045
              show Tn _ _ 387 T σ1043 [(3, .int (iI z846)), (2, .int (iI v36)), (1, .int (iI v6)), (0, .ref a)] [] _
              refine tn_iload_n dX7_step_387 rfl 1 rfl ?_
              refine tn_bipush dX7_step_388 (by decide) ?_
              refine tn_icmp_ne (tgt := 397) dX7_step_390 (by decide) ⟨by omega, by omega⟩ ⟨by decide, by decide⟩ (fun h1049 => ?_) (fun h1049 => absurd h1049 (by omega))
              refine tn_iconst dX7_step_397 ?_
              have q1050 : σ1043.2.1 56 a = σ.2.1 56 a := rc_F F1048 (Or.inl (by decide)) (by decide) (rc_F F1036 (Or.inl (by decide)) (by decide) (rc_o (by decide) (rfl)))
              have q1051 : σ1043.2.1 57 a = σ.2.1 57 a := rc_F F1048 (Or.inl (by decide)) (by decide) (rc_F F1036 (Or.inl (by decide)) (by decide) (rc_o (by decide) (rfl)))
              have q1052 : σ1043.2.1 58 a = σ.2.1 58 a := rc_F F1048 (Or.inl (by decide)) (by decide) (rc_F F1036 (Or.inl (by decide)) (by decide) (rc_o (by decide) (rfl)))
              exact tn_zret (v := 0) rfl (by decide) dX7_step_398 ⟨_, rfl, rfl, w1047, (((FrC.rfl.put (by decide) (by decide)).trans (FrC.sub F1036 (by decide))).trans (FrC.sub F1048 (by decide))), by omega, by unfold PIv at *; rw [q1050, q1051, q1052]; omega, (((FA.rfl.put).trans f1033).trans (FA.of F1048 (by decide)))⟩
            · refine tn_tableIn (tgt := 213) (off := 145) dX7_step_68 (x := v36) ⟨by omega, by omega⟩ (by omega) (by omega) (by rw [h872]; rfl) (by decide) ?_
              refine tn_aload_n dX7_step_213 rfl 3 rfl ?_
              refine tn_aload_n dX7_step_214 rfl 3 rfl ?_
              refine tn_iload_n dX7_step_215 rfl 2 rfl ?_
              refine tn_iconst dX7_step_216 ?_
              refine tn_callV (M := m_X7_step) (pc := 217) (ix := 110) (ci := 7) (M' := m_X7_operand) (As := [.int (iI v6), .int (iI 3)]) (rest := [.ref a]) dX7_step_217 ok_X7_operand im_X7_operand se_X7_operand ml7_110 np_X7_operand rfl rfl ha rfl (Nat.le_of_ble_eq_true rfl) (Nat.le_of_ble_eq_true rfl) rfl (k_X7_operand (d + 2) (T := T) (σ := (sA 67 a (z844) σ)) (a := a) (k := v6) (c := 3) ha (by omega) (by decide) (hw.put (by decide) (by decide) (fo_67 (by omega))) (by rw [show (sA 67 a (z844) σ).2.1 69 a = _ from rc_o (by decide) (hx7)]; omega) (by omega)) (fun r1053 T1055 σ1054 gt1056 hp => ?_)
              obtain ⟨v1058, rfl, rfl, rfl, f1057⟩ := hp
              clear gt1056
              show Tn _ _ 220 T (sA 67 a (z844) σ) [(3, .int (iI z846)), (2, .int (iI v36)), (1, .int (iI v6)), (0, .ref a)] [.int (iI v1058), .ref a] _
              refine tn_callV (M := m_X7_step) (pc := 220) (ix := 123) (ci := 7) (M' := m_X7_giveBack) (As := [.int (iI v1058)]) (rest := []) dX7_step_220 ok_X7_giveBack im_X7_giveBack se_X7_giveBack ml7_123 np_X7_giveBack rfl rfl ha rfl (Nat.le_of_ble_eq_true rfl) (Nat.le_of_ble_eq_true rfl) rfl (k_X7_giveBack_57 (d + 1) (T := T) (σ := (sA 67 a (z844) σ)) (a := a) (n := v1058) ha hta (by omega) (hw.put (by decide) (by decide) (fo_67 (by omega))) (by rw [show (sA 67 a (z844) σ).2.1 58 a = σ.2.1 58 a from rc_o (by decide) (rfl), show (sA 67 a (z844) σ).2.1 57 a = σ.2.1 57 a from rc_o (by decide) (rfl)]; omega)) (fun r1059 T1061 σ1060 gt1062 hp => ?_)
              obtain ⟨rfl, rfl, w1066, F1067, f1063, f1064⟩ := hp
              clear gt1062
              show Tn _ _ 223 T σ1060 [(3, .int (iI z846)), (2, .int (iI v36)), (1, .int (iI v6)), (0, .ref a)] [] _
              refine tn_iconst dX7_step_223 ?_
              have q1068 : σ1060.2.1 56 a = σ1060.2.1 56 a := rfl
              have q1069 : σ1060.2.1 57 a = σ1060.2.1 57 a := rfl
              have q1070 : σ1060.2.1 58 a = σ1060.2.1 58 a := rfl
              exact tn_zret (v := 0) rfl (by decide) dX7_step_224 ⟨_, rfl, rfl, w1066, ((FrC.rfl.put (by decide) (by decide)).trans (FrC.sub F1067 (by decide))), by omega, by unfold PIv at *; rw [q1068, q1069, q1070]; omega, ((FA.rfl.put).trans f1064)⟩
            · refine tn_tableIn (tgt := 165) (off := 97) dX7_step_68 (x := v36) ⟨by omega, by omega⟩ (by omega) (by omega) (by rw [h872]; rfl) (by decide) ?_
              refine tn_aload_n dX7_step_165 rfl 3 rfl ?_
              refine tn_getR (ci := 7) (i := 14) (n := 69) (x := x8) dX7_step_166 rfl lay_7 (by decide) fl7_72 ha rfl rfl (rc_o (by decide) (hx7)) ?_
              refine tn_iload_n dX7_step_169 rfl 2 rfl ?_
              refine tn_bipush dX7_step_170 (by decide) ?_
              refine tn_callV (M := m_X7_step) (pc := 172) (ix := 117) (ci := 1) (M' := m_X1_get) (As := [.int (iI v6), .int (iI 12)]) (rest := []) dX7_step_172 ok_X1_get im_X1_get se_X1_get ml7_117 np_X1_get rfl rfl hk9o rfl (Nat.le_of_ble_eq_true rfl) (Nat.le_of_ble_eq_true rfl) rfl (k_X1_get (d + 3) (T := T) (σ := (sA 67 a (z844) σ)) (a := x8) (k := v6) (c := 12) hk9o (by omega) (by decide) (hw.put (by decide) (by decide) (fo_67 (by omega))) (by omega)) (fun r1071 T1073 σ1072 gt1074 hp => ?_)
              obtain ⟨v1076, rfl, rfl, rfl, f1075⟩ := hp
              clear gt1074
              show Tn _ _ 175 T (sA 67 a (z844) σ) [(3, .int (iI z846)), (2, .int (iI v36)), (1, .int (iI v6)), (0, .ref a)] [.int (iI v1076)] _
              refine tn_istore_n (L' := [(3, .int (iI v1076)), (2, .int (iI v36)), (1, .int (iI v6)), (0, .ref a)]) dX7_step_175 rfl (by decide) rfl ?_
              refine tn_goto (tgt := 375) dX7_step_176 (by decide) ?_
              refine tn_aload_n dX7_step_375 rfl 3 rfl ?_
              obtain ⟨x1077, hx1078, hk1079, hl1080⟩ : ∃ x : Nat, σ.2.1 60 a = (x : Int) ∧ AR T x 1 9 9 := wf_60 hw ha
              have hk1079i : IA T x1077 := by unfold IA; omega
              refine tn_getR (ci := 7) (i := 5) (n := 60) (x := x1077) dX7_step_376 rfl lay_7 (by decide) fl7_15 ha rfl rfl (rc_o (by decide) (hx1078)) ?_
              refine tn_aload_n dX7_step_379 rfl 3 rfl ?_
              refine tn_getI (ci := 7) (i := 2) (n := 57) (t := σ.2.1 57 a) dX7_step_380 rfl lay_7 (by decide) fl7_65 ha rfl rfl (rc_o (by decide) (rfl)) ?_
              have g1081 : ((0 : Int) ≤ σ.2.1 57 a ∧ σ.2.1 57 a ≤ 11184800) ∧ ((T a).1 = 57 → σ.2.1 57 a ≤ 8) := wf_57 hw ha
              have g1081x := g1081.2
              replace g1081 := g1081.1
              have g1081x := g1081x hta
              refine tn_iload_n dX7_step_383 rfl 0 rfl ?_
              refine tn_callSN (M := m_X7_step) (pc := 384) (ix := 61) (M' := m_X11_put) (As := [.ref x1077, .int (iI (σ.2.1 57 a)), .int (iI v1076)]) (rest := []) dX7_step_384 ok_X11_put stt_X11_put nl7_61 np_X11_put rfl (Nat.le_of_ble_eq_true rfl) (Nat.le_of_ble_eq_true rfl) rfl (k_X11_put (d + 3) (T := T) (σ := (sA 67 a (z844) σ)) (x := x1077) (i := σ.2.1 57 a) (y := v1076) hk1079i (by omega) (by omega) (by omega) (hw.put (by decide) (by decide) (fo_67 (by omega))) (nh_k hk1079 (by unfold HT; omega)) (vok_1 (by have q9 := hk1079; omega) (by omega))) (fun r1082 T1084 σ1083 gt1085 hp => ?_)
              obtain ⟨rfl, rfl, w1087, F1088⟩ := hp
              clear gt1085
              show Tn _ _ 387 T σ1083 [(3, .int (iI v1076)), (2, .int (iI v36)), (1, .int (iI v6)), (0, .ref a)] [] _
              refine tn_iload_n dX7_step_387 rfl 1 rfl ?_
              refine tn_bipush dX7_step_388 (by decide) ?_
              refine tn_icmp_ne (tgt := 397) dX7_step_390 (by decide) ⟨by omega, by omega⟩ ⟨by decide, by decide⟩ (fun h1089 => ?_) (fun h1089 => absurd h1089 (by omega))
              refine tn_iconst dX7_step_397 ?_
              have q1090 : σ1083.2.1 56 a = σ.2.1 56 a := rc_F F1088 (Or.inl (by decide)) (by decide) (rc_o (by decide) (rfl))
              have q1091 : σ1083.2.1 57 a = σ.2.1 57 a := rc_F F1088 (Or.inl (by decide)) (by decide) (rc_o (by decide) (rfl))
              have q1092 : σ1083.2.1 58 a = σ.2.1 58 a := rc_F F1088 (Or.inl (by decide)) (by decide) (rc_o (by decide) (rfl))
              exact tn_zret (v := 0) rfl (by decide) dX7_step_398 ⟨_, rfl, rfl, w1087, ((FrC.rfl.put (by decide) (by decide)).trans (FrC.sub F1088 (by decide))), by omega, by unfold PIv at *; rw [q1090, q1091, q1092]; omega, ((FA.rfl.put).trans (FA.of F1088 (by decide)))⟩
            · refine tn_tableIn (tgt := 179) (off := 111) dX7_step_68 (x := v36) ⟨by omega, by omega⟩ (by omega) (by omega) (by rw [h872]; rfl) (by decide) ?_
              refine tn_aload_n dX7_step_179 rfl 3 rfl ?_
              refine tn_iload_n dX7_step_180 rfl 2 rfl ?_
              refine tn_iconst dX7_step_181 ?_
              refine tn_callV (M := m_X7_step) (pc := 182) (ix := 110) (ci := 7) (M' := m_X7_operand) (As := [.int (iI v6), .int (iI 3)]) (rest := []) dX7_step_182 ok_X7_operand im_X7_operand se_X7_operand ml7_110 np_X7_operand rfl rfl ha rfl (Nat.le_of_ble_eq_true rfl) (Nat.le_of_ble_eq_true rfl) rfl (k_X7_operand (d + 2) (T := T) (σ := (sA 67 a (z844) σ)) (a := a) (k := v6) (c := 3) ha (by omega) (by decide) (hw.put (by decide) (by decide) (fo_67 (by omega))) (by rw [show (sA 67 a (z844) σ).2.1 69 a = _ from rc_o (by decide) (hx7)]; omega) (by omega)) (fun r1093 T1095 σ1094 gt1096 hp => ?_)
              obtain ⟨v1098, rfl, rfl, rfl, f1097⟩ := hp
              clear gt1096
              show Tn _ _ 185 T (sA 67 a (z844) σ) [(3, .int (iI z846)), (2, .int (iI v36)), (1, .int (iI v6)), (0, .ref a)] [.int (iI v1098)] _
              refine tn_if_ne (tgt := 201) dX7_step_185 (by decide) ⟨by omega, by omega⟩ (fun h1099 => ?_) (fun h1099 => ?_)
              · refine tn_iload_n dX7_step_201 rfl 0 rfl ?_
                refine tn_istore_n (L' := [(3, .int (iI z846)), (2, .int (iI v36)), (1, .int (iI v6)), (0, .ref a)]) dX7_step_202 rfl (by decide) rfl ?_
                refine tn_goto (tgt := 375) dX7_step_203 (by decide) ?_
                refine tn_aload_n dX7_step_375 rfl 3 rfl ?_
                obtain ⟨x1100, hx1101, hk1102, hl1103⟩ : ∃ x : Nat, σ.2.1 60 a = (x : Int) ∧ AR T x 1 9 9 := wf_60 hw ha
                have hk1102i : IA T x1100 := by unfold IA; omega
                refine tn_getR (ci := 7) (i := 5) (n := 60) (x := x1100) dX7_step_376 rfl lay_7 (by decide) fl7_15 ha rfl rfl (rc_o (by decide) (hx1101)) ?_
                refine tn_aload_n dX7_step_379 rfl 3 rfl ?_
                refine tn_getI (ci := 7) (i := 2) (n := 57) (t := σ.2.1 57 a) dX7_step_380 rfl lay_7 (by decide) fl7_65 ha rfl rfl (rc_o (by decide) (rfl)) ?_
                have g1104 : ((0 : Int) ≤ σ.2.1 57 a ∧ σ.2.1 57 a ≤ 11184800) ∧ ((T a).1 = 57 → σ.2.1 57 a ≤ 8) := wf_57 hw ha
                have g1104x := g1104.2
                replace g1104 := g1104.1
                have g1104x := g1104x hta
                refine tn_iload_n dX7_step_383 rfl 0 rfl ?_
                refine tn_callSN (M := m_X7_step) (pc := 384) (ix := 61) (M' := m_X11_put) (As := [.ref x1100, .int (iI (σ.2.1 57 a)), .int (iI z846)]) (rest := []) dX7_step_384 ok_X11_put stt_X11_put nl7_61 np_X11_put rfl (Nat.le_of_ble_eq_true rfl) (Nat.le_of_ble_eq_true rfl) rfl (k_X11_put (d + 3) (T := T) (σ := (sA 67 a (z844) σ)) (x := x1100) (i := σ.2.1 57 a) (y := z846) hk1102i (by omega) (by omega) (by omega) (hw.put (by decide) (by decide) (fo_67 (by omega))) (nh_k hk1102 (by unfold HT; omega)) (vok_1 (by have q9 := hk1102; omega) (by omega))) (fun r1105 T1107 σ1106 gt1108 hp => ?_)
                obtain ⟨rfl, rfl, w1110, F1111⟩ := hp
                clear gt1108
                show Tn _ _ 387 T σ1106 [(3, .int (iI z846)), (2, .int (iI v36)), (1, .int (iI v6)), (0, .ref a)] [] _
                refine tn_iload_n dX7_step_387 rfl 1 rfl ?_
                refine tn_bipush dX7_step_388 (by decide) ?_
                refine tn_icmp_ne (tgt := 397) dX7_step_390 (by decide) ⟨by omega, by omega⟩ ⟨by decide, by decide⟩ (fun h1112 => ?_) (fun h1112 => absurd h1112 (by omega))
                refine tn_iconst dX7_step_397 ?_
                have q1113 : σ1106.2.1 56 a = σ.2.1 56 a := rc_F F1111 (Or.inl (by decide)) (by decide) (rc_o (by decide) (rfl))
                have q1114 : σ1106.2.1 57 a = σ.2.1 57 a := rc_F F1111 (Or.inl (by decide)) (by decide) (rc_o (by decide) (rfl))
                have q1115 : σ1106.2.1 58 a = σ.2.1 58 a := rc_F F1111 (Or.inl (by decide)) (by decide) (rc_o (by decide) (rfl))
                exact tn_zret (v := 0) rfl (by decide) dX7_step_398 ⟨_, rfl, rfl, w1110, ((FrC.rfl.put (by decide) (by decide)).trans (FrC.sub F1111 (by decide))), by omega, by unfold PIv at *; rw [q1113, q1114, q1115]; omega, ((FA.rfl.put).trans (FA.of F1111 (by decide)))⟩
              · refine tn_aload_n dX7_step_188 rfl 3 rfl ?_
                refine tn_getR (ci := 7) (i := 14) (n := 69) (x := x8) dX7_step_189 rfl lay_7 (by decide) fl7_72 ha rfl rfl (rc_o (by decide) (hx7)) ?_
                refine tn_iload_n dX7_step_192 rfl 2 rfl ?_
                refine tn_bipush dX7_step_193 (by decide) ?_
                refine tn_callV (M := m_X7_step) (pc := 195) (ix := 117) (ci := 1) (M' := m_X1_get) (As := [.int (iI v6), .int (iI 12)]) (rest := []) dX7_step_195 ok_X1_get im_X1_get se_X1_get ml7_117 np_X1_get rfl rfl hk9o rfl (Nat.le_of_ble_eq_true rfl) (Nat.le_of_ble_eq_true rfl) rfl (k_X1_get (d + 3) (T := T) (σ := (sA 67 a (z844) σ)) (a := x8) (k := v6) (c := 12) hk9o (by omega) (by decide) (hw.put (by decide) (by decide) (fo_67 (by omega))) (by omega)) (fun r1116 T1118 σ1117 gt1119 hp => ?_)
                obtain ⟨v1121, rfl, rfl, rfl, f1120⟩ := hp
                clear gt1119
                show Tn _ _ 198 T (sA 67 a (z844) σ) [(3, .int (iI z846)), (2, .int (iI v36)), (1, .int (iI v6)), (0, .ref a)] [.int (iI v1121)] _
                refine tn_goto (tgt := 202) dX7_step_198 (by decide) ?_
                refine tn_istore_n (L' := [(3, .int (iI v1121)), (2, .int (iI v36)), (1, .int (iI v6)), (0, .ref a)]) dX7_step_202 rfl (by decide) rfl ?_
                refine tn_goto (tgt := 375) dX7_step_203 (by decide) ?_
                refine tn_aload_n dX7_step_375 rfl 3 rfl ?_
                obtain ⟨x1122, hx1123, hk1124, hl1125⟩ : ∃ x : Nat, σ.2.1 60 a = (x : Int) ∧ AR T x 1 9 9 := wf_60 hw ha
                have hk1124i : IA T x1122 := by unfold IA; omega
                refine tn_getR (ci := 7) (i := 5) (n := 60) (x := x1122) dX7_step_376 rfl lay_7 (by decide) fl7_15 ha rfl rfl (rc_o (by decide) (hx1123)) ?_
                refine tn_aload_n dX7_step_379 rfl 3 rfl ?_
                refine tn_getI (ci := 7) (i := 2) (n := 57) (t := σ.2.1 57 a) dX7_step_380 rfl lay_7 (by decide) fl7_65 ha rfl rfl (rc_o (by decide) (rfl)) ?_
                have g1126 : ((0 : Int) ≤ σ.2.1 57 a ∧ σ.2.1 57 a ≤ 11184800) ∧ ((T a).1 = 57 → σ.2.1 57 a ≤ 8) := wf_57 hw ha
                have g1126x := g1126.2
                replace g1126 := g1126.1
                have g1126x := g1126x hta
                refine tn_iload_n dX7_step_383 rfl 0 rfl ?_
                refine tn_callSN (M := m_X7_step) (pc := 384) (ix := 61) (M' := m_X11_put) (As := [.ref x1122, .int (iI (σ.2.1 57 a)), .int (iI v1121)]) (rest := []) dX7_step_384 ok_X11_put stt_X11_put nl7_61 np_X11_put rfl (Nat.le_of_ble_eq_true rfl) (Nat.le_of_ble_eq_true rfl) rfl (k_X11_put (d + 3) (T := T) (σ := (sA 67 a (z844) σ)) (x := x1122) (i := σ.2.1 57 a) (y := v1121) hk1124i (by omega) (by omega) (by omega) (hw.put (by decide) (by decide) (fo_67 (by omega))) (nh_k hk1124 (by unfold HT; omega)) (vok_1 (by have q9 := hk1124; omega) (by omega))) (fun r1127 T1129 σ1128 gt1130 hp => ?_)
                obtain ⟨rfl, rfl, w1132, F1133⟩ := hp
                clear gt1130
                show Tn _ _ 387 T σ1128 [(3, .int (iI v1121)), (2, .int (iI v36)), (1, .int (iI v6)), (0, .ref a)] [] _
                refine tn_iload_n dX7_step_387 rfl 1 rfl ?_
                refine tn_bipush dX7_step_388 (by decide) ?_
                refine tn_icmp_ne (tgt := 397) dX7_step_390 (by decide) ⟨by omega, by omega⟩ ⟨by decide, by decide⟩ (fun h1134 => ?_) (fun h1134 => absurd h1134 (by omega))
                refine tn_iconst dX7_step_397 ?_
                have q1135 : σ1128.2.1 56 a = σ.2.1 56 a := rc_F F1133 (Or.inl (by decide)) (by decide) (rc_o (by decide) (rfl))
                have q1136 : σ1128.2.1 57 a = σ.2.1 57 a := rc_F F1133 (Or.inl (by decide)) (by decide) (rc_o (by decide) (rfl))
                have q1137 : σ1128.2.1 58 a = σ.2.1 58 a := rc_F F1133 (Or.inl (by decide)) (by decide) (rc_o (by decide) (rfl))
                exact tn_zret (v := 0) rfl (by decide) dX7_step_398 ⟨_, rfl, rfl, w1132, ((FrC.rfl.put (by decide) (by decide)).trans (FrC.sub F1133 (by decide))), by omega, by unfold PIv at *; rw [q1135, q1136, q1137]; omega, ((FA.rfl.put).trans (FA.of F1133 (by decide)))⟩
            · refine tn_tableIn (tgt := 206) (off := 138) dX7_step_68 (x := v36) ⟨by omega, by omega⟩ (by omega) (by omega) (by rw [h872]; rfl) (by decide) ?_
              refine tn_aload_n dX7_step_206 rfl 3 rfl ?_
              refine tn_iload_n dX7_step_207 rfl 2 rfl ?_
              have q1142 : (sA 67 a (z844) σ).2.1 57 a = σ.2.1 57 a := rc_o (by decide) (rfl)
              have q1143 : (sA 67 a (z844) σ).2.1 58 a = σ.2.1 58 a := rc_o (by decide) (rfl)
              refine tn_callV (M := m_X7_step) (pc := 208) (ix := 120) (ci := 7) (M' := m_X7_callFrom) (As := [.int (iI v6)]) (rest := []) dX7_step_208 ok_X7_callFrom im_X7_callFrom se_X7_callFrom ml7_120 np_X7_callFrom rfl rfl ha rfl (Nat.le_of_ble_eq_true rfl) (Nat.le_of_ble_eq_true rfl) rfl (k_X7_callFrom_57 (d) (T := T) (σ := (sA 67 a (z844) σ)) (a := a) (k := v6) ha hta (by omega) (hw.put (by decide) (by decide) (fo_67 (by omega))) (by rw [show (sA 67 a (z844) σ).2.1 69 a = _ from rc_o (by decide) (hx7)]; omega) (by rw [show (sA 67 a (z844) σ).2.1 57 a = σ.2.1 57 a from rc_o (by decide) (rfl)]; omega) (by rw [show (sA 67 a (z844) σ).2.1 58 a = σ.2.1 58 a from rc_o (by decide) (rfl)]; omega)) (fun r1138 T1140 σ1139 gt1141 hp => ?_)
              obtain ⟨rfl, rfl, w1148, F1149, f1144, f1145, f1146⟩ := hp
              clear gt1141
              show Tn _ _ 211 T σ1139 [(3, .int (iI z846)), (2, .int (iI v36)), (1, .int (iI v6)), (0, .ref a)] [] _
              refine tn_iconst dX7_step_211 ?_
              have q1150 : σ1139.2.1 56 a = σ.2.1 56 a := rc_F F1149 (Or.inl (by decide)) (by decide) (rc_o (by decide) (rfl))
              have q1151 : σ1139.2.1 57 a = σ1139.2.1 57 a := rfl
              have q1152 : σ1139.2.1 58 a = σ1139.2.1 58 a := rfl
              exact tn_zret (v := 0) rfl (by decide) dX7_step_212 ⟨_, rfl, rfl, w1148, ((FrC.rfl.put (by decide) (by decide)).trans (FrC.sub F1149 (by decide))), by omega, by unfold PIv at *; rw [q1150, q1151, q1152]; omega, ((FA.rfl.put).trans f1146)⟩
            · refine tn_tableIn (tgt := 225) (off := 157) dX7_step_68 (x := v36) ⟨by omega, by omega⟩ (by omega) (by omega) (by rw [h872]; rfl) (by decide) ?_
              refine tn_aload_n dX7_step_225 rfl 3 rfl ?_
              obtain ⟨x1153, hx1154, hk1155, hl1156⟩ : ∃ x : Nat, σ.2.1 62 a = (x : Int) ∧ AR T x 1 108 108 := wf_62 hw ha
              have hk1155i : IA T x1153 := by unfold IA; omega
              refine tn_getR (ci := 7) (i := 7) (n := 62) (x := x1153) dX7_step_226 rfl lay_7 (by decide) fl7_21 ha rfl rfl (rc_o (by decide) (hx1154)) ?_
              refine tn_aload_n dX7_step_229 rfl 3 rfl ?_
              refine tn_getI (ci := 7) (i := 2) (n := 57) (t := σ.2.1 57 a) dX7_step_230 rfl lay_7 (by decide) fl7_65 ha rfl rfl (rc_o (by decide) (rfl)) ?_
              have g1157 : ((0 : Int) ≤ σ.2.1 57 a ∧ σ.2.1 57 a ≤ 11184800) ∧ ((T a).1 = 57 → σ.2.1 57 a ≤ 8) := wf_57 hw ha
              have g1157x := g1157.2
              replace g1157 := g1157.1
              have g1157x := g1157x hta
              refine tn_bipush dX7_step_233 (by decide) ?_
              refine tn_imul dX7_step_235 ?_
              refine tn_aload_n dX7_step_236 rfl 3 rfl ?_
              refine tn_getR (ci := 7) (i := 14) (n := 69) (x := x8) dX7_step_237 rfl lay_7 (by decide) fl7_72 ha rfl rfl (rc_o (by decide) (hx7)) ?_
              refine tn_iload_n dX7_step_240 rfl 2 rfl ?_
              refine tn_iconst dX7_step_241 ?_
              refine tn_callV (M := m_X7_step) (pc := 242) (ix := 117) (ci := 1) (M' := m_X1_get) (As := [.int (iI v6), .int (iI 2)]) (rest := [.int (iI ((σ.2.1 57 a) * 12)), .ref x1153]) dX7_step_242 ok_X1_get im_X1_get se_X1_get ml7_117 np_X1_get rfl rfl hk9o rfl (Nat.le_of_ble_eq_true rfl) (Nat.le_of_ble_eq_true rfl) rfl (k_X1_get (d + 3) (T := T) (σ := (sA 67 a (z844) σ)) (a := x8) (k := v6) (c := 2) hk9o (by omega) (by decide) (hw.put (by decide) (by decide) (fo_67 (by omega))) (by omega)) (fun r1158 T1160 σ1159 gt1161 hp => ?_)
              obtain ⟨v1163, rfl, rfl, rfl, f1162⟩ := hp
              clear gt1161
              show Tn _ _ 245 T (sA 67 a (z844) σ) [(3, .int (iI z846)), (2, .int (iI v36)), (1, .int (iI v6)), (0, .ref a)] [.int (iI v1163), .int (iI ((σ.2.1 57 a) * 12)), .ref x1153] _
              refine tn_iadd dX7_step_245 ?_
              refine tn_any (fun z1164 g1165 => ?_)
              have g1165r : -2147483648 ≤ z1164 ∧ z1164 ≤ 2147483647 := g1165
              refine tn_aload_n dX7_step_246 rfl 3 rfl ?_
              refine tn_getR (ci := 7) (i := 14) (n := 69) (x := x8) dX7_step_247 rfl lay_7 (by decide) fl7_72 ha rfl rfl (rc_o (by decide) (hx7)) ?_
              refine tn_iload_n dX7_step_250 rfl 2 rfl ?_
              refine tn_iconst dX7_step_251 ?_
              refine tn_callV (M := m_X7_step) (pc := 252) (ix := 117) (ci := 1) (M' := m_X1_get) (As := [.int (iI v6), .int (iI 1)]) (rest := [.int (iI z1164), .ref x1153]) dX7_step_252 ok_X1_get im_X1_get se_X1_get ml7_117 np_X1_get rfl rfl hk9o rfl (Nat.le_of_ble_eq_true rfl) (Nat.le_of_ble_eq_true rfl) rfl (k_X1_get (d + 3) (T := T) (σ := (sA 67 a (z844) σ)) (a := x8) (k := v6) (c := 1) hk9o (by omega) (by decide) (hw.put (by decide) (by decide) (fo_67 (by omega))) (by omega)) (fun r1166 T1168 σ1167 gt1169 hp => ?_)
              obtain ⟨v1171, rfl, rfl, rfl, f1170⟩ := hp
              clear gt1169
              show Tn _ _ 255 T (sA 67 a (z844) σ) [(3, .int (iI z846)), (2, .int (iI v36)), (1, .int (iI v6)), (0, .ref a)] [.int (iI v1171), .int (iI z1164), .ref x1153] _
              refine tn_callSN (M := m_X7_step) (pc := 255) (ix := 61) (M' := m_X11_put) (As := [.ref x1153, .int (iI z1164), .int (iI v1171)]) (rest := []) dX7_step_255 ok_X11_put stt_X11_put nl7_61 np_X11_put rfl (Nat.le_of_ble_eq_true rfl) (Nat.le_of_ble_eq_true rfl) rfl (k_X11_put (d + 3) (T := T) (σ := (sA 67 a (z844) σ)) (x := x1153) (i := z1164) (y := v1171) hk1155i (by omega) (by omega) (by omega) (hw.put (by decide) (by decide) (fo_67 (by omega))) (nh_k hk1155 (by unfold HT; omega)) (vok_1 (by have q9 := hk1155; omega) (by omega))) (fun r1172 T1174 σ1173 gt1175 hp => ?_)
              obtain ⟨rfl, rfl, w1177, F1178⟩ := hp
              clear gt1175
              show Tn _ _ 258 T σ1173 [(3, .int (iI z846)), (2, .int (iI v36)), (1, .int (iI v6)), (0, .ref a)] [] _
              refine tn_goto (tgt := 375) dX7_step_258 (by decide) ?_
              refine tn_aload_n dX7_step_375 rfl 3 rfl ?_
              obtain ⟨x1179, hx1180, hk1181, hl1182⟩ : ∃ x : Nat, σ.2.1 60 a = (x : Int) ∧ AR T x 1 9 9 := wf_60 hw ha
              have hk1181i : IA T x1179 := by unfold IA; omega
              refine tn_getR (ci := 7) (i := 5) (n := 60) (x := x1179) dX7_step_376 rfl lay_7 (by decide) fl7_15 ha rfl rfl (rc_F F1178 (Or.inl (by decide)) (by decide) (rc_o (by decide) (hx1180))) ?_
              refine tn_aload_n dX7_step_379 rfl 3 rfl ?_
              refine tn_getI (ci := 7) (i := 2) (n := 57) (t := σ.2.1 57 a) dX7_step_380 rfl lay_7 (by decide) fl7_65 ha rfl rfl (rc_F F1178 (Or.inl (by decide)) (by decide) (rc_o (by decide) (rfl))) ?_
              refine tn_iload_n dX7_step_383 rfl 0 rfl ?_
              refine tn_callSN (M := m_X7_step) (pc := 384) (ix := 61) (M' := m_X11_put) (As := [.ref x1179, .int (iI (σ.2.1 57 a)), .int (iI z846)]) (rest := []) dX7_step_384 ok_X11_put stt_X11_put nl7_61 np_X11_put rfl (Nat.le_of_ble_eq_true rfl) (Nat.le_of_ble_eq_true rfl) rfl (k_X11_put (d + 3) (T := T) (σ := σ1173) (x := x1179) (i := σ.2.1 57 a) (y := z846) hk1181i (by omega) (by omega) (by omega) w1177 (nh_k hk1181 (by unfold HT; omega)) (vok_1 (by have q9 := hk1181; omega) (by omega))) (fun r1183 T1185 σ1184 gt1186 hp => ?_)
              obtain ⟨rfl, rfl, w1188, F1189⟩ := hp
              clear gt1186
              show Tn _ _ 387 T σ1184 [(3, .int (iI z846)), (2, .int (iI v36)), (1, .int (iI v6)), (0, .ref a)] [] _
              refine tn_iload_n dX7_step_387 rfl 1 rfl ?_
              refine tn_bipush dX7_step_388 (by decide) ?_
              refine tn_icmp_ne (tgt := 397) dX7_step_390 (by decide) ⟨by omega, by omega⟩ ⟨by decide, by decide⟩ (fun h1190 => absurd h1190 (by omega)) (fun h1190 => ?_)
              refine tn_iconst dX7_step_393 ?_
              refine tn_goto (tgt := 398) dX7_step_394 (by decide) ?_
              have q1191 : σ1184.2.1 56 a = σ.2.1 56 a := rc_F F1189 (Or.inl (by decide)) (by decide) (rc_F F1178 (Or.inl (by decide)) (by decide) (rc_o (by decide) (rfl)))
              have q1192 : σ1184.2.1 57 a = σ.2.1 57 a := rc_F F1189 (Or.inl (by decide)) (by decide) (rc_F F1178 (Or.inl (by decide)) (by decide) (rc_o (by decide) (rfl)))
              have q1193 : σ1184.2.1 58 a = σ.2.1 58 a := rc_F F1189 (Or.inl (by decide)) (by decide) (rc_F F1178 (Or.inl (by decide)) (by decide) (rc_o (by decide) (rfl)))
              exact tn_zret (v := 1) rfl (by decide) dX7_step_398 ⟨_, rfl, rfl, w1188, (((FrC.rfl.put (by decide) (by decide)).trans (FrC.sub F1178 (by decide))).trans (FrC.sub F1189 (by decide))), by omega, by unfold PIv at *; rw [q1191, q1192, q1193]; omega, (((FA.rfl.put).trans (FA.of F1178 (by decide))).trans (FA.of F1189 (by decide)))⟩
            · refine tn_tableIn (tgt := 369) (off := 301) dX7_step_68 (x := v36) ⟨by omega, by omega⟩ (by omega) (by omega) (by rw [h872]; rfl) (by decide) ?_
              refine tn_aload_n dX7_step_369 rfl 3 rfl ?_
              refine tn_iload_n dX7_step_370 rfl 2 rfl ?_
              refine tn_iload_n dX7_step_371 rfl 1 rfl ?_
              refine tn_callV (M := m_X7_step) (pc := 372) (ix := 129) (ci := 7) (M' := m_X7_reckonAt) (As := [.int (iI v6), .int (iI v36)]) (rest := []) dX7_step_372 ok_X7_reckonAt im_X7_reckonAt se_X7_reckonAt ml7_129 np_X7_reckonAt rfl rfl ha rfl (Nat.le_of_ble_eq_true rfl) (Nat.le_of_ble_eq_true rfl) rfl (k_X7_reckonAt (d + 1) (T := T) (σ := (sA 67 a (z844) σ)) (a := a) (k := v6) (e := v36) ha (by omega) (by omega) (hw.put (by decide) (by decide) (fo_67 (by omega))) (by rw [show (sA 67 a (z844) σ).2.1 69 a = _ from rc_o (by decide) (hx7)]; omega)) (fun r1194 T1196 σ1195 gt1197 hp => ?_)
              obtain ⟨rfl, rfl, w1199, F1200⟩ := hp
              clear gt1197
              show Tn _ _ 375 T σ1195 [(3, .int (iI z846)), (2, .int (iI v36)), (1, .int (iI v6)), (0, .ref a)] [] _
              refine tn_aload_n dX7_step_375 rfl 3 rfl ?_
              obtain ⟨x1201, hx1202, hk1203, hl1204⟩ : ∃ x : Nat, σ.2.1 60 a = (x : Int) ∧ AR T x 1 9 9 := wf_60 hw ha
              have hk1203i : IA T x1201 := by unfold IA; omega
              refine tn_getR (ci := 7) (i := 5) (n := 60) (x := x1201) dX7_step_376 rfl lay_7 (by decide) fl7_15 ha rfl rfl (rc_F F1200 (Or.inl (by decide)) (by decide) (rc_o (by decide) (hx1202))) ?_
              refine tn_aload_n dX7_step_379 rfl 3 rfl ?_
              refine tn_getI (ci := 7) (i := 2) (n := 57) (t := σ.2.1 57 a) dX7_step_380 rfl lay_7 (by decide) fl7_65 ha rfl rfl (rc_F F1200 (Or.inl (by decide)) (by decide) (rc_o (by decide) (rfl))) ?_
              have g1205 : ((0 : Int) ≤ σ.2.1 57 a ∧ σ.2.1 57 a ≤ 11184800) ∧ ((T a).1 = 57 → σ.2.1 57 a ≤ 8) := wf_57 hw ha
              have g1205x := g1205.2
              replace g1205 := g1205.1
              have g1205x := g1205x hta
              refine tn_iload_n dX7_step_383 rfl 0 rfl ?_
              refine tn_callSN (M := m_X7_step) (pc := 384) (ix := 61) (M' := m_X11_put) (As := [.ref x1201, .int (iI (σ.2.1 57 a)), .int (iI z846)]) (rest := []) dX7_step_384 ok_X11_put stt_X11_put nl7_61 np_X11_put rfl (Nat.le_of_ble_eq_true rfl) (Nat.le_of_ble_eq_true rfl) rfl (k_X11_put (d + 3) (T := T) (σ := σ1195) (x := x1201) (i := σ.2.1 57 a) (y := z846) hk1203i (by omega) (by omega) (by omega) w1199 (nh_k hk1203 (by unfold HT; omega)) (vok_1 (by have q9 := hk1203; omega) (by omega))) (fun r1206 T1208 σ1207 gt1209 hp => ?_)
              obtain ⟨rfl, rfl, w1211, F1212⟩ := hp
              clear gt1209
              show Tn _ _ 387 T σ1207 [(3, .int (iI z846)), (2, .int (iI v36)), (1, .int (iI v6)), (0, .ref a)] [] _
              refine tn_iload_n dX7_step_387 rfl 1 rfl ?_
              refine tn_bipush dX7_step_388 (by decide) ?_
              refine tn_icmp_ne (tgt := 397) dX7_step_390 (by decide) ⟨by omega, by omega⟩ ⟨by decide, by decide⟩ (fun h1213 => ?_) (fun h1213 => absurd h1213 (by omega))
              refine tn_iconst dX7_step_397 ?_
              have q1214 : σ1207.2.1 56 a = σ.2.1 56 a := rc_F F1212 (Or.inl (by decide)) (by decide) (rc_F F1200 (Or.inl (by decide)) (by decide) (rc_o (by decide) (rfl)))
              have q1215 : σ1207.2.1 57 a = σ.2.1 57 a := rc_F F1212 (Or.inl (by decide)) (by decide) (rc_F F1200 (Or.inl (by decide)) (by decide) (rc_o (by decide) (rfl)))
              have q1216 : σ1207.2.1 58 a = σ.2.1 58 a := rc_F F1212 (Or.inl (by decide)) (by decide) (rc_F F1200 (Or.inl (by decide)) (by decide) (rc_o (by decide) (rfl)))
              exact tn_zret (v := 0) rfl (by decide) dX7_step_398 ⟨_, rfl, rfl, w1211, (((FrC.rfl.put (by decide) (by decide)).trans (FrC.sub F1200 (by decide))).trans (FrC.sub F1212 (by decide))), by omega, by unfold PIv at *; rw [q1214, q1215, q1216]; omega, (((FA.rfl.put).trans (FA.of F1200 (by decide))).trans (FA.of F1212 (by decide)))⟩
            · refine tn_tableIn (tgt := 369) (off := 301) dX7_step_68 (x := v36) ⟨by omega, by omega⟩ (by omega) (by omega) (by rw [h872]; rfl) (by decide) ?_
              refine tn_aload_n dX7_step_369 rfl 3 rfl ?_
              refine tn_iload_n dX7_step_370 rfl 2 rfl ?_
              refine tn_iload_n dX7_step_371 rfl 1 rfl ?_
              refine tn_callV (M := m_X7_step) (pc := 372) (ix := 129) (ci := 7) (M' := m_X7_reckonAt) (As := [.int (iI v6), .int (iI v36)]) (rest := []) dX7_step_372 ok_X7_reckonAt im_X7_reckonAt se_X7_reckonAt ml7_129 np_X7_reckonAt rfl rfl ha rfl (Nat.le_of_ble_eq_true rfl) (Nat.le_of_ble_eq_true rfl) rfl (k_X7_reckonAt (d + 1) (T := T) (σ := (sA 67 a (z844) σ)) (a := a) (k := v6) (e := v36) ha (by omega) (by omega) (hw.put (by decide) (by decide) (fo_67 (by omega))) (by rw [show (sA 67 a (z844) σ).2.1 69 a = _ from rc_o (by decide) (hx7)]; omega)) (fun r1217 T1219 σ1218 gt1220 hp => ?_)
              obtain ⟨rfl, rfl, w1222, F1223⟩ := hp
              clear gt1220
              show Tn _ _ 375 T σ1218 [(3, .int (iI z846)), (2, .int (iI v36)), (1, .int (iI v6)), (0, .ref a)] [] _
              refine tn_aload_n dX7_step_375 rfl 3 rfl ?_
              obtain ⟨x1224, hx1225, hk1226, hl1227⟩ : ∃ x : Nat, σ.2.1 60 a = (x : Int) ∧ AR T x 1 9 9 := wf_60 hw ha
              have hk1226i : IA T x1224 := by unfold IA; omega
              refine tn_getR (ci := 7) (i := 5) (n := 60) (x := x1224) dX7_step_376 rfl lay_7 (by decide) fl7_15 ha rfl rfl (rc_F F1223 (Or.inl (by decide)) (by decide) (rc_o (by decide) (hx1225))) ?_
              refine tn_aload_n dX7_step_379 rfl 3 rfl ?_
              refine tn_getI (ci := 7) (i := 2) (n := 57) (t := σ.2.1 57 a) dX7_step_380 rfl lay_7 (by decide) fl7_65 ha rfl rfl (rc_F F1223 (Or.inl (by decide)) (by decide) (rc_o (by decide) (rfl))) ?_
              have g1228 : ((0 : Int) ≤ σ.2.1 57 a ∧ σ.2.1 57 a ≤ 11184800) ∧ ((T a).1 = 57 → σ.2.1 57 a ≤ 8) := wf_57 hw ha
              have g1228x := g1228.2
              replace g1228 := g1228.1
              have g1228x := g1228x hta
              refine tn_iload_n dX7_step_383 rfl 0 rfl ?_
              refine tn_callSN (M := m_X7_step) (pc := 384) (ix := 61) (M' := m_X11_put) (As := [.ref x1224, .int (iI (σ.2.1 57 a)), .int (iI z846)]) (rest := []) dX7_step_384 ok_X11_put stt_X11_put nl7_61 np_X11_put rfl (Nat.le_of_ble_eq_true rfl) (Nat.le_of_ble_eq_true rfl) rfl (k_X11_put (d + 3) (T := T) (σ := σ1218) (x := x1224) (i := σ.2.1 57 a) (y := z846) hk1226i (by omega) (by omega) (by omega) w1222 (nh_k hk1226 (by unfold HT; omega)) (vok_1 (by have q9 := hk1226; omega) (by omega))) (fun r1229 T1231 σ1230 gt1232 hp => ?_)
              obtain ⟨rfl, rfl, w1234, F1235⟩ := hp
              clear gt1232
              show Tn _ _ 387 T σ1230 [(3, .int (iI z846)), (2, .int (iI v36)), (1, .int (iI v6)), (0, .ref a)] [] _
              refine tn_iload_n dX7_step_387 rfl 1 rfl ?_
              refine tn_bipush dX7_step_388 (by decide) ?_
              refine tn_icmp_ne (tgt := 397) dX7_step_390 (by decide) ⟨by omega, by omega⟩ ⟨by decide, by decide⟩ (fun h1236 => ?_) (fun h1236 => absurd h1236 (by omega))
              refine tn_iconst dX7_step_397 ?_
              have q1237 : σ1230.2.1 56 a = σ.2.1 56 a := rc_F F1235 (Or.inl (by decide)) (by decide) (rc_F F1223 (Or.inl (by decide)) (by decide) (rc_o (by decide) (rfl)))
              have q1238 : σ1230.2.1 57 a = σ.2.1 57 a := rc_F F1235 (Or.inl (by decide)) (by decide) (rc_F F1223 (Or.inl (by decide)) (by decide) (rc_o (by decide) (rfl)))
              have q1239 : σ1230.2.1 58 a = σ.2.1 58 a := rc_F F1235 (Or.inl (by decide)) (by decide) (rc_F F1223 (Or.inl (by decide)) (by decide) (rc_o (by decide) (rfl)))
              exact tn_zret (v := 0) rfl (by decide) dX7_step_398 ⟨_, rfl, rfl, w1234, (((FrC.rfl.put (by decide) (by decide)).trans (FrC.sub F1223 (by decide))).trans (FrC.sub F1235 (by decide))), by omega, by unfold PIv at *; rw [q1237, q1238, q1239]; omega, (((FA.rfl.put).trans (FA.of F1223 (by decide))).trans (FA.of F1235 (by decide)))⟩
            · refine tn_tableIn (tgt := 261) (off := 193) dX7_step_68 (x := v36) ⟨by omega, by omega⟩ (by omega) (by omega) (by rw [h872]; rfl) (by decide) ?_
              exact absurd True.intro (by omega)
            · refine tn_tableIn (tgt := 319) (off := 251) dX7_step_68 (x := v36) ⟨by omega, by omega⟩ (by omega) (by omega) (by rw [h872]; rfl) (by decide) ?_
              exact absurd True.intro (by omega)
        · refine tn_aload_n dX7_step_46 rfl 2 rfl ?_
          refine tn_iconst dX7_step_47 ?_
          refine tn_putV (ci := 7) (i := 1) (n := 56) (r := false) (v := 3) tyX7 tyX7_ok nmX7 dX7_step_48 rfl lay_7 (by decide) fl7_34 rfl (tyX7_ok 1 (by decide)) rfl rfl rfl ha rfl rfl ?_
          refine tn_iconst dX7_step_51 ?_
          have q1240 : (sA 56 a (3) σ).2.1 56 a = 3 := ra_eq
          have q1241 : (sA 56 a (3) σ).2.1 57 a = σ.2.1 57 a := rc_o (by decide) (rfl)
          have q1242 : (sA 56 a (3) σ).2.1 58 a = σ.2.1 58 a := rc_o (by decide) (rfl)
          exact tn_zret (v := 0) rfl (by decide) dX7_step_52 ⟨_, rfl, rfl, (hw.put (by decide) (by decide) (fo_56 (by omega))), (FrC.rfl.put (by decide) (by decide)), by omega, by unfold PIv at *; rw [q1240, q1241, q1242]; omega, (FA.rfl.put)⟩
end
section
theorem cd_X7_advance : Cond.code yX7_advance cX7_advance 6 (some .int) ∈ pWW := pw6 (List.mem_of_getElem? (i := 55) rfl) rfl
abbrev m_X7_advance : MT := (yX7_advance, cX7_advance, 6, (some .int))
theorem ok_X7_advance : pOk m_X7_advance := ⟨⟨cd_X7_advance, ini_7⟩, by decide +kernel, ⟨by decide +kernel, by decide +kernel⟩, Nat.le_of_ble_eq_true rfl⟩
theorem np_X7_advance : (parseMethodDescriptor yX7_advance.desc).map (fun d => d.parameters.length) = some 2 := by decide +kernel
theorem im_X7_advance : Cond.instanceMethod yX7_advance ∈ pWW := pw6 (List.mem_of_getElem? (i := 53) rfl) rfl
theorem se_X7_advance : Cond.selects RX7 yX7_advance yX7_advance ∈ pWW := pw6 (List.mem_of_getElem? (i := 54) rfl) rfl
theorem ml7_95 : Cond.methodLink RX7 95 yX7_step ∈ pWW := pw6 (List.mem_of_getElem? (i := 56) rfl) rfl
theorem ml7_99 : Cond.methodLink RX7 99 yX7_stops ∈ pWW := pw6 (List.mem_of_getElem? (i := 93) rfl) rfl
theorem dX7_advance_0 : decode cX7_advance 0 = .ok (.aload_n 0, 1) := by decide +kernel
theorem dX7_advance_1 : decode cX7_advance 1 = .ok (.getfield 38, 3) := by decide +kernel
theorem dX7_advance_4 : decode cX7_advance 4 = .ok (.istore_n 3, 1) := by decide +kernel
theorem dX7_advance_5 : decode cX7_advance 5 = .ok (.iconst 0, 1) := by decide +kernel
theorem dX7_advance_6 : decode cX7_advance 6 = .ok (.istore 4, 2) := by decide +kernel
theorem dX7_advance_8 : decode cX7_advance 8 = .ok (.iload 4, 2) := by decide +kernel
theorem dX7_advance_10 : decode cX7_advance 10 = .ok (.iload_n 2, 1) := by decide +kernel
theorem dX7_advance_11 : decode cX7_advance 11 = .ok (.if_icmp .ge 47, 3) := by decide +kernel
theorem dX7_advance_14 : decode cX7_advance 14 = .ok (.aload_n 0, 1) := by decide +kernel
theorem dX7_advance_15 : decode cX7_advance 15 = .ok (.getfield 34, 3) := by decide +kernel
theorem dX7_advance_18 : decode cX7_advance 18 = .ok (.iconst 1, 1) := by decide +kernel
theorem dX7_advance_19 : decode cX7_advance 19 = .ok (.if_icmp .ne 39, 3) := by decide +kernel
theorem dX7_advance_22 : decode cX7_advance 22 = .ok (.aload_n 0, 1) := by decide +kernel
theorem dX7_advance_23 : decode cX7_advance 23 = .ok (.invokevirtual 95, 3) := by decide +kernel
theorem dX7_advance_26 : decode cX7_advance 26 = .ok (.istore 5, 2) := by decide +kernel
theorem dX7_advance_28 : decode cX7_advance 28 = .ok (.aload_n 0, 1) := by decide +kernel
theorem dX7_advance_29 : decode cX7_advance 29 = .ok (.getfield 34, 3) := by decide +kernel
theorem dX7_advance_32 : decode cX7_advance 32 = .ok (.iconst 1, 1) := by decide +kernel
theorem dX7_advance_33 : decode cX7_advance 33 = .ok (.if_icmp .ne 19, 3) := by decide +kernel
theorem dX7_advance_52 : decode cX7_advance 52 = .ok (.iinc 4 1, 3) := by decide +kernel
theorem dX7_advance_55 : decode cX7_advance 55 = .ok (.goto (-47), 3) := by decide +kernel
theorem dX7_advance_36 : decode cX7_advance 36 = .ok (.iload 5, 2) := by decide +kernel
theorem dX7_advance_38 : decode cX7_advance 38 = .ok (.ifCond .eq 14, 3) := by decide +kernel
theorem dX7_advance_41 : decode cX7_advance 41 = .ok (.aload_n 0, 1) := by decide +kernel
theorem dX7_advance_42 : decode cX7_advance 42 = .ok (.iload_n 1, 1) := by decide +kernel
theorem dX7_advance_43 : decode cX7_advance 43 = .ok (.iload_n 3, 1) := by decide +kernel
theorem dX7_advance_44 : decode cX7_advance 44 = .ok (.invokevirtual 99, 3) := by decide +kernel
theorem dX7_advance_47 : decode cX7_advance 47 = .ok (.ifCond .eq 5, 3) := by decide +kernel
set_option maxRecDepth 20000 in
theorem l_X7_advance_8 (d : Nat) {T : CT} {σ0 : MS} {a : Nat} {c1 : Int} {c2 : Int} {c3 : Int} {tg : Int} {post : Option Value → CT → MS → Prop} (h_a : OB T a 7) (t_a : (T a).1 = 37) (r_c1 : -2147483648 ≤ c1 ∧ c1 ≤ 2147483647) (r_c2 : -2147483648 ≤ c2 ∧ c2 ≤ 20000) (r_c3 : -2147483648 ≤ c3 ∧ c3 ≤ 2147483647) (hw0 : WT T σ0) (hx_50 : ∀ (i4 : Int) (σ : MS) , (WT T σ) → (FrC T [56, 57, 58, 65, 66, 67, 68, 69, 515] σ0 σ) → (0 ≤ i4 ∧ i4 ≤ 20000) → (σ.2.1 57 a ≤ tg + i4 + 1 ∧ tg ≤ 11164000) → Tn (d + 6) m_X7_advance 50 T σ [(0, .ref a), (1, .int (iI c1)), (2, .int (iI c2)), (3, .int (iI c3)), (4, .int (iI i4))] [] post) (hx_58 : ∀ (i4 : Int) (σ : MS) , (WT T σ) → (FrC T [56, 57, 58, 65, 66, 67, 68, 69, 515] σ0 σ) → (0 ≤ i4 ∧ i4 ≤ 20000) → (σ.2.1 57 a ≤ tg + i4 + 1 ∧ tg ≤ 11164000) → Tn (d + 6) m_X7_advance 58 T σ [(0, .ref a), (1, .int (iI c1)), (2, .int (iI c2)), (3, .int (iI c3)), (4, .int (iI i4))] [] post) : ∀ (n : Nat) (i4 : Int) (σ : MS) , (WT T σ) → (FrC T [56, 57, 58, 65, 66, 67, 68, 69, 515] σ0 σ) → (0 ≤ i4 ∧ i4 ≤ 20000) → (σ.2.1 57 a ≤ tg + i4 ∧ tg ≤ 11164000) → (2147483700 - i4).toNat = n → Tn (d + 6) m_X7_advance 8 T σ [(0, .ref a), (1, .int (iI c1)), (2, .int (iI c2)), (3, .int (iI c3)), (4, .int (iI i4))] [] post := by
  intro n
  induction n using Nat.strongRecOn with
  | _ n ih =>
    intro i4 σ hw hF r_i4 h0 hm
    refine tn_iload dX7_advance_8 4 rfl ?_
    refine tn_iload_n dX7_advance_10 rfl 2 rfl ?_
    refine tn_icmp_ge (tgt := 58) dX7_advance_11 (by decide) ⟨by omega, by omega⟩ ⟨by omega, by omega⟩ (fun h1 => ?_) (fun h1 => ?_)
    · exact tn_sub [0, 1, 2, 3, 4] rfl (hx_58 (i4) σ hw (FrC.rfl.trans (FrC.sub hF (by decide))) (by omega) (by omega))
    · refine tn_aload_n dX7_advance_14 rfl 0 rfl ?_
      refine tn_getI (ci := 7) (i := 1) (n := 56) (t := σ.2.1 56 a) dX7_advance_15 rfl lay_7 (by decide) fl7_34 h_a rfl rfl (rfl) ?_
      have g2 : ((-2147483648 : Int) ≤ σ.2.1 56 a ∧ σ.2.1 56 a ≤ 2147483647) := wf_56 hw h_a
      refine tn_iconst dX7_advance_18 ?_
      refine tn_icmp_ne (tgt := 58) dX7_advance_19 (by decide) ⟨by omega, by omega⟩ ⟨by decide, by decide⟩ (fun h3 => ?_) (fun h3 => ?_)
      · exact tn_sub [0, 1, 2, 3, 4] rfl (hx_58 (i4) σ hw (FrC.rfl.trans (FrC.sub hF (by decide))) (by omega) (by omega))
      · refine tn_aload_n dX7_advance_22 rfl 0 rfl ?_
        refine tn_callV (M := m_X7_advance) (pc := 23) (ix := 95) (ci := 7) (M' := m_X7_step) (As := []) (rest := []) dX7_advance_23 ok_X7_step im_X7_step se_X7_step ml7_95 np_X7_step rfl rfl h_a rfl (Nat.le_of_ble_eq_true rfl) (Nat.le_of_ble_eq_true rfl) rfl (k_X7_step (d) (T := T) (σ := σ) (a := a) h_a t_a hw (by rw [show σ.2.1 57 a = σ.2.1 57 a from rfl]; omega)) (fun r4 T6 σ5 gt7 hp => ?_)
        obtain ⟨v11, rfl, rfl, w12, F13, f8, f9, f10⟩ := hp
        clear gt7
        show Tn _ _ 26 T σ5 [(0, .ref a), (1, .int (iI c1)), (2, .int (iI c2)), (3, .int (iI c3)), (4, .int (iI i4))] [.int (iI v11)] _
        refine tn_istore (L' := [(5, .int (iI v11)), (0, .ref a), (1, .int (iI c1)), (2, .int (iI c2)), (3, .int (iI c3)), (4, .int (iI i4))]) dX7_advance_26 (by decide) rfl ?_
        refine tn_aload_n dX7_advance_28 rfl 1 rfl ?_
        refine tn_getI (ci := 7) (i := 1) (n := 56) (t := σ5.2.1 56 a) dX7_advance_29 rfl lay_7 (by decide) fl7_34 h_a rfl rfl (rfl) ?_
        have g14 : ((-2147483648 : Int) ≤ σ5.2.1 56 a ∧ σ5.2.1 56 a ≤ 2147483647) := wf_56 w12 h_a
        refine tn_iconst dX7_advance_32 ?_
        refine tn_icmp_ne (tgt := 52) dX7_advance_33 (by decide) ⟨by omega, by omega⟩ ⟨by decide, by decide⟩ (fun h15 => ?_) (fun h15 => ?_)
        · refine tn_iinc (q0 := 5) (L' := [(4, .int (iI (i4 + 1))), (5, .int (iI v11)), (0, .ref a), (1, .int (iI c1)), (2, .int (iI c2)), (3, .int (iI c3))]) dX7_advance_52 rfl (by decide) rfl ?_
          refine tn_goto (tgt := 8) dX7_advance_55 (by decide) ?_
          exact tn_sub [2, 3, 4, 5, 0] rfl (ih _ (by omega) (i4 + 1) σ5 w12 ((FrC.rfl.trans (FrC.sub hF (by decide))).trans (FrC.sub F13 (by decide))) (by omega) (by omega) rfl)
        · refine tn_iload dX7_advance_36 0 rfl ?_
          refine tn_if_eq (tgt := 52) dX7_advance_38 (by decide) ⟨by omega, by omega⟩ (fun h16 => ?_) (fun h16 => ?_)
          · refine tn_iinc (q0 := 5) (L' := [(4, .int (iI (i4 + 1))), (5, .int (iI v11)), (0, .ref a), (1, .int (iI c1)), (2, .int (iI c2)), (3, .int (iI c3))]) dX7_advance_52 rfl (by decide) rfl ?_
            refine tn_goto (tgt := 8) dX7_advance_55 (by decide) ?_
            exact tn_sub [2, 3, 4, 5, 0] rfl (ih _ (by omega) (i4 + 1) σ5 w12 ((FrC.rfl.trans (FrC.sub hF (by decide))).trans (FrC.sub F13 (by decide))) (by omega) (by omega) rfl)
          · refine tn_aload_n dX7_advance_41 rfl 1 rfl ?_
            refine tn_iload_n dX7_advance_42 rfl 2 rfl ?_
            refine tn_iload_n dX7_advance_43 rfl 4 rfl ?_
            refine tn_callV (M := m_X7_advance) (pc := 44) (ix := 99) (ci := 7) (M' := m_X7_stops) (As := [.int (iI c1), .int (iI c3)]) (rest := []) dX7_advance_44 ok_X7_stops im_X7_stops se_X7_stops ml7_99 np_X7_stops rfl rfl h_a rfl (Nat.le_of_ble_eq_true rfl) (Nat.le_of_ble_eq_true rfl) rfl (k_X7_stops (d + 4) (T := T) (σ := σ5) (a := a) (p1 := c1) (p2 := c3) h_a (by omega) (by omega) w12 ) (fun r17 T19 σ18 gt20 hp => ?_)
            obtain ⟨v22, rfl, rfl, rfl, f21⟩ := hp
            clear gt20
            show Tn _ _ 47 T σ5 [(5, .int (iI v11)), (0, .ref a), (1, .int (iI c1)), (2, .int (iI c2)), (3, .int (iI c3)), (4, .int (iI i4))] [.int (iI v22)] _
            refine tn_if_eq (tgt := 52) dX7_advance_47 (by decide) ⟨by omega, by omega⟩ (fun h23 => ?_) (fun h23 => ?_)
            · refine tn_iinc (q0 := 5) (L' := [(4, .int (iI (i4 + 1))), (5, .int (iI v11)), (0, .ref a), (1, .int (iI c1)), (2, .int (iI c2)), (3, .int (iI c3))]) dX7_advance_52 rfl (by decide) rfl ?_
              refine tn_goto (tgt := 8) dX7_advance_55 (by decide) ?_
              exact tn_sub [2, 3, 4, 5, 0] rfl (ih _ (by omega) (i4 + 1) σ5 w12 ((FrC.rfl.trans (FrC.sub hF (by decide))).trans (FrC.sub F13 (by decide))) (by omega) (by omega) rfl)
            · exact tn_sub [1, 2, 3, 4, 5] rfl (hx_50 (i4) σ5 w12 ((FrC.rfl.trans (FrC.sub hF (by decide))).trans (FrC.sub F13 (by decide))) (by omega) (by omega))
theorem dX7_advance_50 : decode cX7_advance 50 = .ok (.iconst 1, 1) := by decide +kernel
theorem dX7_advance_51 : decode cX7_advance 51 = .ok (.ireturn, 1) := by decide +kernel
theorem dX7_advance_58 : decode cX7_advance 58 = .ok (.aload_n 0, 1) := by decide +kernel
theorem dX7_advance_59 : decode cX7_advance 59 = .ok (.getfield 34, 3) := by decide +kernel
theorem dX7_advance_62 : decode cX7_advance 62 = .ok (.iconst 1, 1) := by decide +kernel
theorem dX7_advance_63 : decode cX7_advance 63 = .ok (.if_icmp .ne 5, 3) := by decide +kernel
theorem dX7_advance_68 : decode cX7_advance 68 = .ok (.aload_n 0, 1) := by decide +kernel
theorem dX7_advance_69 : decode cX7_advance 69 = .ok (.getfield 34, 3) := by decide +kernel
theorem dX7_advance_72 : decode cX7_advance 72 = .ok (.iconst 2, 1) := by decide +kernel
theorem dX7_advance_73 : decode cX7_advance 73 = .ok (.if_icmp .ne 7, 3) := by decide +kernel
theorem dX7_advance_80 : decode cX7_advance 80 = .ok (.iconst 3, 1) := by decide +kernel
theorem dX7_advance_81 : decode cX7_advance 81 = .ok (.ireturn, 1) := by decide +kernel
theorem dX7_advance_76 : decode cX7_advance 76 = .ok (.iconst 0, 1) := by decide +kernel
theorem dX7_advance_77 : decode cX7_advance 77 = .ok (.goto 4, 3) := by decide +kernel
theorem dX7_advance_66 : decode cX7_advance 66 = .ok (.iconst 2, 1) := by decide +kernel
theorem dX7_advance_67 : decode cX7_advance 67 = .ok (.ireturn, 1) := by decide +kernel
set_option maxRecDepth 20000 in
theorem k_X7_advance (d : Nat) {T : CT} {σ : MS} {a : Nat} {w : Int} {n : Int} (ha : OB T a 7) (hta : (T a).1 = 37) (h_w : -2147483648 ≤ w ∧ w ≤ 2147483647) (h_n : -2147483648 ≤ n ∧ n ≤ 2147483647) (hw : WT T σ) (hn2 : n ≤ 20000) (h8 : σ.2.1 57 a ≤ 11164000) : Tn (d + 6) m_X7_advance 0 T σ [(0, .ref a), (1, .int (iI w)), (2, .int (iI n))] [] (fun ro T2 σ2 => ∃ v : Int, ro = some (.int (iI v)) ∧ T = T2 ∧ WT T2 σ2 ∧ FrC T [56, 57, 58, 65, 66, 67, 68, 69, 515] σ σ2 ∧ (-2147483648 ≤ v ∧ v ≤ 2147483647) ∧ (σ2.2.1 57 a ≤ σ.2.1 57 a + 20001)) := by
  refine tn_aload_n dX7_advance_0 rfl 0 rfl ?_
  refine tn_getI (ci := 7) (i := 3) (n := 58) (t := σ.2.1 58 a) dX7_advance_1 rfl lay_7 (by decide) fl7_38 ha rfl rfl (rfl) ?_
  have g1 : ((-2147483648 : Int) ≤ σ.2.1 58 a ∧ σ.2.1 58 a ≤ 2147483647) := wf_58 hw ha
  refine tn_istore_n (L' := [(3, .int (iI (σ.2.1 58 a))), (0, .ref a), (1, .int (iI w)), (2, .int (iI n))]) dX7_advance_4 rfl (by decide) rfl ?_
  refine tn_iconst dX7_advance_5 ?_
  refine tn_istore (L' := [(4, .int (iI 0)), (3, .int (iI (σ.2.1 58 a))), (0, .ref a), (1, .int (iI w)), (2, .int (iI n))]) dX7_advance_6 (by decide) rfl ?_
  refine tn_sub [2, 3, 4, 1, 0] rfl (l_X7_advance_8 (d) (T := T) (σ0 := σ) (a := a) (c1 := w) (c2 := n) (c3 := σ.2.1 58 a) (tg := σ.2.1 57 a) ha hta (by omega) (by omega) (by omega) hw (fun i42 σ3 w6 F7 r8 f9 => ?_) (fun i410 σ11 w14 F15 r16 f17 => ?_) _ (0) σ hw FrC.rfl (by omega) (by omega) rfl)
  · show Tn _ _ 50 T σ3 [(0, .ref a), (1, .int (iI w)), (2, .int (iI n)), (3, .int (iI (σ.2.1 58 a))), (4, .int (iI i42))] [] _
    refine tn_iconst dX7_advance_50 ?_
    have q18 : σ3.2.1 57 a = σ3.2.1 57 a := rfl
    exact tn_iret rfl dX7_advance_51 ⟨_, rfl, rfl, w6, (FrC.rfl.trans (FrC.sub F7 (by decide))), by omega, by omega⟩
  · show Tn _ _ 58 T σ11 [(0, .ref a), (1, .int (iI w)), (2, .int (iI n)), (3, .int (iI (σ.2.1 58 a))), (4, .int (iI i410))] [] _
    refine tn_aload_n dX7_advance_58 rfl 0 rfl ?_
    refine tn_getI (ci := 7) (i := 1) (n := 56) (t := σ11.2.1 56 a) dX7_advance_59 rfl lay_7 (by decide) fl7_34 ha rfl rfl (rfl) ?_
    have g19 : ((-2147483648 : Int) ≤ σ11.2.1 56 a ∧ σ11.2.1 56 a ≤ 2147483647) := wf_56 w14 ha
    refine tn_iconst dX7_advance_62 ?_
    refine tn_icmp_ne (tgt := 68) dX7_advance_63 (by decide) ⟨by omega, by omega⟩ ⟨by decide, by decide⟩ (fun h20 => ?_) (fun h20 => ?_)
    · refine tn_aload_n dX7_advance_68 rfl 0 rfl ?_
      refine tn_getI (ci := 7) (i := 1) (n := 56) (t := σ11.2.1 56 a) dX7_advance_69 rfl lay_7 (by decide) fl7_34 ha rfl rfl (rfl) ?_
      refine tn_iconst dX7_advance_72 ?_
      refine tn_icmp_ne (tgt := 80) dX7_advance_73 (by decide) ⟨by omega, by omega⟩ ⟨by decide, by decide⟩ (fun h21 => ?_) (fun h21 => ?_)
      · refine tn_iconst dX7_advance_80 ?_
        have q22 : σ11.2.1 57 a = σ11.2.1 57 a := rfl
        exact tn_iret rfl dX7_advance_81 ⟨_, rfl, rfl, w14, (FrC.rfl.trans (FrC.sub F15 (by decide))), by omega, by omega⟩
      · refine tn_iconst dX7_advance_76 ?_
        refine tn_goto (tgt := 81) dX7_advance_77 (by decide) ?_
        have q23 : σ11.2.1 57 a = σ11.2.1 57 a := rfl
        exact tn_iret rfl dX7_advance_81 ⟨_, rfl, rfl, w14, (FrC.rfl.trans (FrC.sub F15 (by decide))), by omega, by omega⟩
    · refine tn_iconst dX7_advance_66 ?_
      have q24 : σ11.2.1 57 a = σ11.2.1 57 a := rfl
      exact tn_iret rfl dX7_advance_67 ⟨_, rfl, rfl, w14, (FrC.rfl.trans (FrC.sub F15 (by decide))), by omega, by omega⟩
end
section
theorem cd_X7_foundSource : Cond.code yX7_foundSource cX7_foundSource 1 (some .int) ∈ pWW := pw6 (List.mem_of_getElem? (i := 132) rfl) rfl
abbrev m_X7_foundSource : MT := (yX7_foundSource, cX7_foundSource, 1, (some .int))
theorem ok_X7_foundSource : pOk m_X7_foundSource := ⟨⟨cd_X7_foundSource, ini_7⟩, by decide +kernel, ⟨by decide +kernel, by decide +kernel⟩, Nat.le_of_ble_eq_true rfl⟩
theorem np_X7_foundSource : (parseMethodDescriptor yX7_foundSource.desc).map (fun d => d.parameters.length) = some 0 := by decide +kernel
theorem im_X7_foundSource : Cond.instanceMethod yX7_foundSource ∈ pWW := pw6 (List.mem_of_getElem? (i := 130) rfl) rfl
theorem se_X7_foundSource : Cond.selects RX7 yX7_foundSource yX7_foundSource ∈ pWW := pw6 (List.mem_of_getElem? (i := 131) rfl) rfl
theorem fl7_143 : Cond.fieldLink RX7 143 (TX7 15).1 (TX7 15).2.1 (TX7 15).2.2.1 ∈ pWW := pw2 (List.mem_of_getElem? (i := 159) rfl) rfl
theorem dX7_foundSource_0 : decode cX7_foundSource 0 = .ok (.aload_n 0, 1) := by decide +kernel
theorem dX7_foundSource_1 : decode cX7_foundSource 1 = .ok (.getfield 9, 3) := by decide +kernel
theorem dX7_foundSource_4 : decode cX7_foundSource 4 = .ok (.aload_n 0, 1) := by decide +kernel
theorem dX7_foundSource_5 : decode cX7_foundSource 5 = .ok (.getfield 143, 3) := by decide +kernel
theorem dX7_foundSource_8 : decode cX7_foundSource 8 = .ok (.invokestatic 91, 3) := by decide +kernel
theorem dX7_foundSource_11 : decode cX7_foundSource 11 = .ok (.ireturn, 1) := by decide +kernel
set_option maxRecDepth 20000 in
theorem k_X7_foundSource (d : Nat) {T : CT} {σ : MS} {a : Nat} (ha : OB T a 7) (hw : WT T σ) : Tn (d + 2) m_X7_foundSource 0 T σ [(0, .ref a)] [] (fun ro T2 σ2 => ∃ v : Int, ro = some (.int (iI v)) ∧ T = T2 ∧ σ = σ2 ∧ (-2147483648 ≤ v ∧ v ≤ 2147483647)) := by
  refine tn_aload_n dX7_foundSource_0 rfl 0 rfl ?_
  obtain ⟨x1, hx2, hk3, hl4⟩ : ∃ x : Nat, σ.2.1 59 a = (x : Int) ∧ AR T x 15 9 9 := wf_59 hw ha
  have hk3i : IA T x1 := by unfold IA; omega
  refine tn_getR (ci := 7) (i := 4) (n := 59) (x := x1) dX7_foundSource_1 rfl lay_7 (by decide) fl7_9 ha rfl rfl (hx2) ?_
  refine tn_aload_n dX7_foundSource_4 rfl 0 rfl ?_
  refine tn_getI (ci := 7) (i := 15) (n := 70) (t := σ.2.1 70 a) dX7_foundSource_5 rfl lay_7 (by decide) fl7_143 ha rfl rfl (rfl) ?_
  have g5 : ((-2147483648 : Int) ≤ σ.2.1 70 a ∧ σ.2.1 70 a ≤ 2147483647) := wf_70 hw ha
  refine tn_callSN (M := m_X7_foundSource) (pc := 8) (ix := 91) (M' := m_X11_at) (As := [.ref x1, .int (iI (σ.2.1 70 a))]) (rest := []) dX7_foundSource_8 ok_X11_at stt_X11_at nl7_91 np_X11_at rfl (Nat.le_of_ble_eq_true rfl) (Nat.le_of_ble_eq_true rfl) rfl (k_X11_at (d) (T := T) (σ := σ) (x := x1) (i := σ.2.1 70 a) hk3i (by omega) (by omega) hw ) (fun r6 T8 σ7 gt9 hp => ?_)
  obtain ⟨v13, rfl, rfl, rfl, f10, f11, f12⟩ := hp
  clear gt9
  clear f11 f12
  show Tn _ _ 11 T σ [(0, .ref a)] [.int (iI v13)] _
  exact tn_iret rfl dX7_foundSource_11 ⟨_, rfl, rfl, rfl, by omega⟩
end
section
theorem cd_X7_foundCode : Cond.code yX7_foundCode cX7_foundCode 1 (some (.object "LineKeeper$Code")) ∈ pWW := pw6 (List.mem_of_getElem? (i := 112) rfl) rfl
abbrev m_X7_foundCode : MT := (yX7_foundCode, cX7_foundCode, 1, (some (.object "LineKeeper$Code")))
theorem ok_X7_foundCode : pOk m_X7_foundCode := ⟨⟨cd_X7_foundCode, ini_7⟩, by decide +kernel, ⟨by decide +kernel, by decide +kernel⟩, Nat.le_of_ble_eq_true rfl⟩
theorem np_X7_foundCode : (parseMethodDescriptor yX7_foundCode.desc).map (fun d => d.parameters.length) = some 0 := by decide +kernel
theorem im_X7_foundCode : Cond.instanceMethod yX7_foundCode ∈ pWW := pw6 (List.mem_of_getElem? (i := 110) rfl) rfl
theorem se_X7_foundCode : Cond.selects RX7 yX7_foundCode yX7_foundCode ∈ pWW := pw6 (List.mem_of_getElem? (i := 111) rfl) rfl
theorem dX7_foundCode_0 : decode cX7_foundCode 0 = .ok (.aload_n 0, 1) := by decide +kernel
theorem dX7_foundCode_1 : decode cX7_foundCode 1 = .ok (.aload_n 0, 1) := by decide +kernel
theorem dX7_foundCode_2 : decode cX7_foundCode 2 = .ok (.getfield 9, 3) := by decide +kernel
theorem dX7_foundCode_5 : decode cX7_foundCode 5 = .ok (.aload_n 0, 1) := by decide +kernel
theorem dX7_foundCode_6 : decode cX7_foundCode 6 = .ok (.getfield 143, 3) := by decide +kernel
theorem dX7_foundCode_9 : decode cX7_foundCode 9 = .ok (.invokestatic 91, 3) := by decide +kernel
theorem dX7_foundCode_12 : decode cX7_foundCode 12 = .ok (.invokevirtual 68, 3) := by decide +kernel
theorem dX7_foundCode_15 : decode cX7_foundCode 15 = .ok (.areturn, 1) := by decide +kernel
set_option maxRecDepth 20000 in
theorem k_X7_foundCode (d : Nat) {T : CT} {σ : MS} {a : Nat} (ha : OB T a 7) (hw : WT T σ) : Tn (d + 2) m_X7_foundCode 0 T σ [(0, .ref a)] [] (fun ro T2 σ2 => ∃ v : Int, ro = some (vl true v) ∧ T = T2 ∧ σ = σ2 ∧ (v < 0 ∨ ∃ x : Nat, v = (x : Int) ∧ OB T2 x 1 ∧ RC T2 a x) ∧ (CAT (FRV T σ a) v)) := by
  refine tn_aload_n dX7_foundCode_0 rfl 0 rfl ?_
  refine tn_aload_n dX7_foundCode_1 rfl 0 rfl ?_
  obtain ⟨x1, hx2, hk3, hl4⟩ : ∃ x : Nat, σ.2.1 59 a = (x : Int) ∧ AR T x 15 9 9 := wf_59 hw ha
  have hk3i : IA T x1 := by unfold IA; omega
  refine tn_getR (ci := 7) (i := 4) (n := 59) (x := x1) dX7_foundCode_2 rfl lay_7 (by decide) fl7_9 ha rfl rfl (hx2) ?_
  refine tn_aload_n dX7_foundCode_5 rfl 0 rfl ?_
  refine tn_getI (ci := 7) (i := 15) (n := 70) (t := σ.2.1 70 a) dX7_foundCode_6 rfl lay_7 (by decide) fl7_143 ha rfl rfl (rfl) ?_
  have g5 : ((-2147483648 : Int) ≤ σ.2.1 70 a ∧ σ.2.1 70 a ≤ 2147483647) := wf_70 hw ha
  refine tn_callSN (M := m_X7_foundCode) (pc := 9) (ix := 91) (M' := m_X11_at) (As := [.ref x1, .int (iI (σ.2.1 70 a))]) (rest := [.ref a]) dX7_foundCode_9 ok_X11_at stt_X11_at nl7_91 np_X11_at rfl (Nat.le_of_ble_eq_true rfl) (Nat.le_of_ble_eq_true rfl) rfl (k_X11_at (d) (T := T) (σ := σ) (x := x1) (i := σ.2.1 70 a) hk3i (by omega) (by omega) hw ) (fun r6 T8 σ7 gt9 hp => ?_)
  obtain ⟨v13, rfl, rfl, rfl, f10, f11, f12⟩ := hp
  clear gt9
  show Tn _ _ 12 T σ [(0, .ref a)] [.int (iI v13), .ref a] _
  refine tn_callV (M := m_X7_foundCode) (pc := 12) (ix := 68) (ci := 7) (M' := m_X7_codeAt) (As := [.int (iI v13)]) (rest := []) dX7_foundCode_12 ok_X7_codeAt im_X7_codeAt se_X7_codeAt ml7_68 np_X7_codeAt rfl rfl ha rfl (Nat.le_of_ble_eq_true rfl) (Nat.le_of_ble_eq_true rfl) rfl (k_X7_codeAt (d) (T := T) (σ := σ) (a := a) (r := v13) ha (by omega) hw ) (fun r14 T16 σ15 gt17 hp => ?_)
  obtain ⟨v19, rfl, rfl, rfl, rv20, f18⟩ := hp
  clear gt17
  rcases rv20 with rv20 | ⟨x21, rfl, hk22⟩
  · show Tn _ _ 15 T σ [(0, .ref a)] (vl true v19 :: []) _
    rw [vl_null rv20]
    exact tn_aret rfl (Or.inl ⟨_, rfl⟩) (Or.inl rfl) dX7_foundCode_15 ⟨-1, congrArg some (vl_null (by decide)).symm, rfl, rfl, Or.inl (by decide), (frv_of hx2 rfl f12) ▸ (CAT.neg f18 rv20)⟩
  · show Tn _ _ 15 T σ [(0, .ref a)] (vl true (x21 : Int) :: []) _
    rw [vl_ref rfl]
    have hk22o : OB T x21 1 := hk22.1
    exact tn_aret rfl (Or.inl ⟨_, rfl⟩) (Or.inr ⟨_, rfl⟩) dX7_foundCode_15 ⟨(x21 : Int), congrArg some (vl_ref rfl).symm, rfl, rfl, Or.inr ⟨_, rfl, hk22o, hk22.2⟩, (frv_of hx2 rfl f12) ▸ f18⟩
end
section
theorem cd_X7_foundRoutine : Cond.code yX7_foundRoutine cX7_foundRoutine 2 (some .int) ∈ pWW := pw6 (List.mem_of_getElem? (i := 120) rfl) rfl
abbrev m_X7_foundRoutine : MT := (yX7_foundRoutine, cX7_foundRoutine, 2, (some .int))
theorem ok_X7_foundRoutine : pOk m_X7_foundRoutine := ⟨⟨cd_X7_foundRoutine, ini_7⟩, by decide +kernel, ⟨by decide +kernel, by decide +kernel⟩, Nat.le_of_ble_eq_true rfl⟩
theorem np_X7_foundRoutine : (parseMethodDescriptor yX7_foundRoutine.desc).map (fun d => d.parameters.length) = some 0 := by decide +kernel
theorem im_X7_foundRoutine : Cond.instanceMethod yX7_foundRoutine ∈ pWW := pw6 (List.mem_of_getElem? (i := 118) rfl) rfl
theorem se_X7_foundRoutine : Cond.selects RX7 yX7_foundRoutine yX7_foundRoutine ∈ pWW := pw6 (List.mem_of_getElem? (i := 119) rfl) rfl
theorem ml7_152 : Cond.methodLink RX7 152 yX7_foundCode ∈ pWW := pw6 (List.mem_of_getElem? (i := 109) rfl) rfl
theorem fl7_156 : Cond.fieldLink RX7 156 (TX1 6).1 (TX1 6).2.1 (TX1 6).2.2.1 ∈ pWW := pw1 (List.mem_of_getElem? (i := 110) rfl) rfl
theorem fl7_146 : Cond.fieldLink RX7 146 (TX7 16).1 (TX7 16).2.1 (TX7 16).2.2.1 ∈ pWW := pw2 (List.mem_of_getElem? (i := 160) rfl) rfl
theorem dX7_foundRoutine_0 : decode cX7_foundRoutine 0 = .ok (.aload_n 0, 1) := by decide +kernel
theorem dX7_foundRoutine_1 : decode cX7_foundRoutine 1 = .ok (.invokevirtual 152, 3) := by decide +kernel
theorem dX7_foundRoutine_4 : decode cX7_foundRoutine 4 = .ok (.astore_n 1, 1) := by decide +kernel
theorem dX7_foundRoutine_5 : decode cX7_foundRoutine 5 = .ok (.aload_n 1, 1) := by decide +kernel
theorem dX7_foundRoutine_6 : decode cX7_foundRoutine 6 = .ok (.ifnonnull 7, 3) := by decide +kernel
theorem dX7_foundRoutine_9 : decode cX7_foundRoutine 9 = .ok (.iconst (-1), 1) := by decide +kernel
theorem dX7_foundRoutine_10 : decode cX7_foundRoutine 10 = .ok (.goto 14, 3) := by decide +kernel
theorem dX7_foundRoutine_24 : decode cX7_foundRoutine 24 = .ok (.ireturn, 1) := by decide +kernel
theorem dX7_foundRoutine_13 : decode cX7_foundRoutine 13 = .ok (.aload_n 1, 1) := by decide +kernel
theorem dX7_foundRoutine_14 : decode cX7_foundRoutine 14 = .ok (.getfield 156, 3) := by decide +kernel
theorem dX7_foundRoutine_17 : decode cX7_foundRoutine 17 = .ok (.aload_n 0, 1) := by decide +kernel
theorem dX7_foundRoutine_18 : decode cX7_foundRoutine 18 = .ok (.getfield 146, 3) := by decide +kernel
theorem dX7_foundRoutine_21 : decode cX7_foundRoutine 21 = .ok (.invokestatic 91, 3) := by decide +kernel
set_option maxRecDepth 20000 in
theorem k_X7_foundRoutine (d : Nat) {T : CT} {σ : MS} {a : Nat} (ha : OB T a 7) (hw : WT T σ) : Tn (d + 3) m_X7_foundRoutine 0 T σ [(0, .ref a)] [] (fun ro T2 σ2 => ∃ v : Int, ro = some (.int (iI v)) ∧ T = T2 ∧ σ = σ2 ∧ (-2147483648 ≤ v ∧ v ≤ 2147483647)) := by
  refine tn_aload_n dX7_foundRoutine_0 rfl 0 rfl ?_
  refine tn_callV (M := m_X7_foundRoutine) (pc := 1) (ix := 152) (ci := 7) (M' := m_X7_foundCode) (As := []) (rest := []) dX7_foundRoutine_1 ok_X7_foundCode im_X7_foundCode se_X7_foundCode ml7_152 np_X7_foundCode rfl rfl ha rfl (Nat.le_of_ble_eq_true rfl) (Nat.le_of_ble_eq_true rfl) rfl (k_X7_foundCode (d) (T := T) (σ := σ) (a := a) ha hw ) (fun r1 T3 σ2 gt4 hp => ?_)
  obtain ⟨v6, rfl, rfl, rfl, rv7, f5⟩ := hp
  clear gt4
  clear f5
  rcases rv7 with rv7 | ⟨x8, rfl, hk9⟩
  · show Tn _ _ 4 T σ [(0, .ref a)] (vl true v6 :: []) _
    rw [vl_null rv7]
    refine tn_astore_nN (L' := [(1, .null), (0, .ref a)]) dX7_foundRoutine_4 rfl (by decide) rfl ?_
    refine tn_aload_nN dX7_foundRoutine_5 rfl 0 rfl ?_
    refine tn_ifnonnullN dX7_foundRoutine_6 ?_
    refine tn_iconst dX7_foundRoutine_9 ?_
    refine tn_goto (tgt := 24) dX7_foundRoutine_10 (by decide) ?_
    exact tn_iret rfl dX7_foundRoutine_24 ⟨_, rfl, rfl, rfl, by omega⟩
  · show Tn _ _ 4 T σ [(0, .ref a)] (vl true (x8 : Int) :: []) _
    rw [vl_ref rfl]
    have hk9o : OB T x8 1 := hk9.1
    refine tn_astore_n (L' := [(1, .ref x8), (0, .ref a)]) dX7_foundRoutine_4 rfl (by decide) rfl ?_
    refine tn_aload_n dX7_foundRoutine_5 rfl 0 rfl ?_
    refine tn_ifnonnull (tgt := 13) dX7_foundRoutine_6 (by decide) ?_
    refine tn_aload_n dX7_foundRoutine_13 rfl 0 rfl ?_
    obtain ⟨x10, hx11, hk12, hl13⟩ : ∃ x : Nat, σ.2.1 11 x8 = (x : Int) ∧ AR T x 1 12 12 := wf_11 hw hk9o
    have hk12i : IA T x10 := by unfold IA; omega
    refine tn_getR (ci := 1) (i := 6) (n := 11) (x := x10) dX7_foundRoutine_14 rfl lay_1 (by decide) fl7_156 hk9o rfl rfl (hx11) ?_
    refine tn_aload_n dX7_foundRoutine_17 rfl 1 rfl ?_
    refine tn_getI (ci := 7) (i := 16) (n := 71) (t := σ.2.1 71 a) dX7_foundRoutine_18 rfl lay_7 (by decide) fl7_146 ha rfl rfl (rfl) ?_
    have g14 : ((-2147483648 : Int) ≤ σ.2.1 71 a ∧ σ.2.1 71 a ≤ 2147483647) := wf_71 hw ha
    refine tn_callSN (M := m_X7_foundRoutine) (pc := 21) (ix := 91) (M' := m_X11_at) (As := [.ref x10, .int (iI (σ.2.1 71 a))]) (rest := []) dX7_foundRoutine_21 ok_X11_at stt_X11_at nl7_91 np_X11_at rfl (Nat.le_of_ble_eq_true rfl) (Nat.le_of_ble_eq_true rfl) rfl (k_X11_at (d + 1) (T := T) (σ := σ) (x := x10) (i := σ.2.1 71 a) hk12i (by omega) (by omega) hw ) (fun r15 T17 σ16 gt18 hp => ?_)
    obtain ⟨v22, rfl, rfl, rfl, f19, f20, f21⟩ := hp
    clear gt18
    clear f20 f21
    show Tn _ _ 24 T σ [(1, .ref x8), (0, .ref a)] [.int (iI v22)] _
    exact tn_iret rfl dX7_foundRoutine_24 ⟨_, rfl, rfl, rfl, by omega⟩
end
section
theorem cd_X7_foundLine : Cond.code yX7_foundLine cX7_foundLine 1 (some .int) ∈ pWW := pw6 (List.mem_of_getElem? (i := 116) rfl) rfl
abbrev m_X7_foundLine : MT := (yX7_foundLine, cX7_foundLine, 1, (some .int))
theorem ok_X7_foundLine : pOk m_X7_foundLine := ⟨⟨cd_X7_foundLine, ini_7⟩, by decide +kernel, ⟨by decide +kernel, by decide +kernel⟩, Nat.le_of_ble_eq_true rfl⟩
theorem np_X7_foundLine : (parseMethodDescriptor yX7_foundLine.desc).map (fun d => d.parameters.length) = some 0 := by decide +kernel
theorem im_X7_foundLine : Cond.instanceMethod yX7_foundLine ∈ pWW := pw6 (List.mem_of_getElem? (i := 114) rfl) rfl
theorem se_X7_foundLine : Cond.selects RX7 yX7_foundLine yX7_foundLine ∈ pWW := pw6 (List.mem_of_getElem? (i := 115) rfl) rfl
theorem dX7_foundLine_0 : decode cX7_foundLine 0 = .ok (.aload_n 0, 1) := by decide +kernel
theorem dX7_foundLine_1 : decode cX7_foundLine 1 = .ok (.getfield 21, 3) := by decide +kernel
theorem dX7_foundLine_4 : decode cX7_foundLine 4 = .ok (.aload_n 0, 1) := by decide +kernel
theorem dX7_foundLine_5 : decode cX7_foundLine 5 = .ok (.getfield 143, 3) := by decide +kernel
theorem dX7_foundLine_8 : decode cX7_foundLine 8 = .ok (.bipush 12, 2) := by decide +kernel
theorem dX7_foundLine_10 : decode cX7_foundLine 10 = .ok (.imul, 1) := by decide +kernel
theorem dX7_foundLine_11 : decode cX7_foundLine 11 = .ok (.aload_n 0, 1) := by decide +kernel
theorem dX7_foundLine_12 : decode cX7_foundLine 12 = .ok (.getfield 146, 3) := by decide +kernel
theorem dX7_foundLine_15 : decode cX7_foundLine 15 = .ok (.iadd, 1) := by decide +kernel
theorem dX7_foundLine_16 : decode cX7_foundLine 16 = .ok (.invokestatic 91, 3) := by decide +kernel
theorem dX7_foundLine_19 : decode cX7_foundLine 19 = .ok (.ireturn, 1) := by decide +kernel
set_option maxRecDepth 20000 in
theorem k_X7_foundLine (d : Nat) {T : CT} {σ : MS} {a : Nat} (ha : OB T a 7) (hw : WT T σ) : Tn (d + 2) m_X7_foundLine 0 T σ [(0, .ref a)] [] (fun ro T2 σ2 => ∃ v : Int, ro = some (.int (iI v)) ∧ T = T2 ∧ σ = σ2 ∧ (-2147483648 ≤ v ∧ v ≤ 2147483647)) := by
  refine tn_aload_n dX7_foundLine_0 rfl 0 rfl ?_
  obtain ⟨x1, hx2, hk3, hl4⟩ : ∃ x : Nat, σ.2.1 62 a = (x : Int) ∧ AR T x 1 108 108 := wf_62 hw ha
  have hk3i : IA T x1 := by unfold IA; omega
  refine tn_getR (ci := 7) (i := 7) (n := 62) (x := x1) dX7_foundLine_1 rfl lay_7 (by decide) fl7_21 ha rfl rfl (hx2) ?_
  refine tn_aload_n dX7_foundLine_4 rfl 0 rfl ?_
  refine tn_getI (ci := 7) (i := 15) (n := 70) (t := σ.2.1 70 a) dX7_foundLine_5 rfl lay_7 (by decide) fl7_143 ha rfl rfl (rfl) ?_
  have g5 : ((-2147483648 : Int) ≤ σ.2.1 70 a ∧ σ.2.1 70 a ≤ 2147483647) := wf_70 hw ha
  refine tn_bipush dX7_foundLine_8 (by decide) ?_
  refine tn_imul dX7_foundLine_10 ?_
  refine tn_any (fun z6 g7 => ?_)
  have g7r : -2147483648 ≤ z6 ∧ z6 ≤ 2147483647 := g7
  refine tn_aload_n dX7_foundLine_11 rfl 0 rfl ?_
  refine tn_getI (ci := 7) (i := 16) (n := 71) (t := σ.2.1 71 a) dX7_foundLine_12 rfl lay_7 (by decide) fl7_146 ha rfl rfl (rfl) ?_
  have g8 : ((-2147483648 : Int) ≤ σ.2.1 71 a ∧ σ.2.1 71 a ≤ 2147483647) := wf_71 hw ha
  refine tn_iadd dX7_foundLine_15 ?_
  refine tn_any (fun z9 g10 => ?_)
  have g10r : -2147483648 ≤ z9 ∧ z9 ≤ 2147483647 := g10
  refine tn_callSN (M := m_X7_foundLine) (pc := 16) (ix := 91) (M' := m_X11_at) (As := [.ref x1, .int (iI z9)]) (rest := []) dX7_foundLine_16 ok_X11_at stt_X11_at nl7_91 np_X11_at rfl (Nat.le_of_ble_eq_true rfl) (Nat.le_of_ble_eq_true rfl) rfl (k_X11_at (d) (T := T) (σ := σ) (x := x1) (i := z9) hk3i (by omega) (by omega) hw ) (fun r11 T13 σ12 gt14 hp => ?_)
  obtain ⟨v18, rfl, rfl, rfl, f15, f16, f17⟩ := hp
  clear gt14
  clear f16 f17
  show Tn _ _ 19 T σ [(0, .ref a)] [.int (iI v18)] _
  exact tn_iret rfl dX7_foundLine_19 ⟨_, rfl, rfl, rfl, by omega⟩
end
