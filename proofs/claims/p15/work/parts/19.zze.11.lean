section
set_option maxHeartbeats 1000000 in
set_option maxRecDepth 20000 in
theorem k_X7_step_h (d : Nat) {T : CT} {σ : MS} {a : Nat} {xa : Nat} {xb : Nat} {xc : Nat} {xd : Nat} {xe : Nat} {xf : Nat} (ha : OB T a 7) (hta : (T a).1 = 37) (hw : WT T σ) (hxa : σ.2.1 59 a = (xa : Int)) (hxb : σ.2.1 60 a = (xb : Int)) (hxc : σ.2.1 61 a = (xc : Int)) (hxd : σ.2.1 62 a = (xd : Int)) (hxe : σ.2.1 63 a = (xe : Int)) (hxf : σ.2.1 64 a = (xf : Int)) (h8 : σ.2.1 57 a ≤ 11184799) : Tn (d + 5) m_X7_step 0 T σ [(0, .ref a)] [] (fun ro T2 σ2 => ∃ v : Int, ro = some (.int (iI v)) ∧ T = T2 ∧ WT T2 σ2 ∧ FrC T [56, 57, 58, 65, 66, 67, 68, 69, 515] σ σ2 ∧ (v = 0 ∨ v = 1) ∧ (CHX [(56, a), (57, a), (58, a), (65, a), (66, a), (67, a), (68, a), (69, a), (70, a), (71, a)] [xa, xb, xc, xd, xe, xf] [] σ σ2) ∧ (σ2.2.1 57 a ≤ σ.2.1 57 a + 1) ∧ (FA a σ σ2)) := by
  refine tn_aload_n dX7_step_0 rfl 0 rfl ?_
  refine tn_callV (M := m_X7_step) (pc := 1) (ix := 103) (ci := 7) (M' := m_X7_place) (As := []) (rest := []) dX7_step_1 ok_X7_place im_X7_place se_X7_place ml7_103 np_X7_place rfl rfl ha rfl (Nat.le_of_ble_eq_true rfl) (Nat.le_of_ble_eq_true rfl) rfl (k_X7_place (d + 2) (T := T) (σ := σ) (a := a) ha hw ) (fun r1 T3 σ2 gt4 hp => ?_)
  obtain ⟨v6, rfl, rfl, rfl, f5⟩ := hp
  clear gt4
  show Tn _ _ 4 T σ [(0, .ref a)] [.int (iI v6)] _
  refine tn_istore_n (L' := [(1, .int (iI v6)), (0, .ref a)]) dX7_step_4 rfl (by decide) rfl ?_
  refine tn_aload_n dX7_step_5 rfl 1 rfl ?_
  rcases wf_69 hw ha with hx7 | ⟨xq8, hx7, hk9a, hk9b⟩
  · refine tn_getN (ci := 7) (i := 14) (n := 69) dX7_step_6 rfl lay_7 (by decide) fl7_72 ha rfl rfl (Int.lt_of_le_of_lt (Int.le_of_eq (Eq.refl _)) hx7) ?_
    refine tn_ifnonnullN dX7_step_9 ?_
    refine tn_iconst dX7_step_12 ?_
    refine tn_goto (tgt := 24) dX7_step_13 (by decide) ?_
    refine tn_istore_n (L' := [(2, .int (iI (-1))), (1, .int (iI v6)), (0, .ref a)]) dX7_step_24 rfl (by decide) rfl ?_
    refine tn_iload_n dX7_step_25 rfl 0 rfl ?_
    refine tn_bipush dX7_step_26 (by decide) ?_
    refine tn_icmp_eq (tgt := 37) dX7_step_28 (by decide) ⟨by decide, by decide⟩ ⟨by decide, by decide⟩ (fun h => absurd h (by decide)) (fun _ => ?_)
    refine tn_iload_n dX7_step_31 rfl 0 rfl ?_
    refine tn_bipush dX7_step_32 (by decide) ?_
    refine tn_icmp_ne (tgt := 53) dX7_step_34 (by decide) ⟨by decide, by decide⟩ ⟨by decide, by decide⟩ (fun _ => ?_) (fun h => absurd h (by decide))
    refine tn_aload_n dX7_step_53 rfl 2 rfl ?_
    refine tn_dup dX7_step_54 rfl ?_
    refine tn_getI (ci := 7) (i := 12) (n := 67) (t := σ.2.1 67 a) dX7_step_55 rfl lay_7 (by decide) fl7_47 ha rfl rfl (rfl) ?_
    have g13 : ((-2147483648 : Int) ≤ σ.2.1 67 a ∧ σ.2.1 67 a ≤ 2147483647) := wf_67 hw ha
    refine tn_iconst dX7_step_58 ?_
    refine tn_iadd dX7_step_59 ?_
    refine tn_any (fun z14 g15 => ?_)
    have g15r : -2147483648 ≤ z14 ∧ z14 ≤ 2147483647 := g15
    refine tn_putV (ci := 7) (i := 12) (n := 67) (r := false) (v := z14) tyX7 tyX7_ok nmX7 dX7_step_60 rfl lay_7 (by decide) fl7_47 rfl (tyX7_ok 12 (by decide)) rfl rfl rfl ha rfl rfl ?_
    refine tn_iload_n dX7_step_63 rfl 1 rfl ?_
    refine tn_iconst dX7_step_64 ?_
    refine tn_iadd dX7_step_65 ?_
    refine tn_any (fun z16 g17 => ?_)
    have g17r : -2147483648 ≤ z16 ∧ z16 ≤ 2147483647 := g17
    refine tn_istore_n (L' := [(3, .int (iI z16)), (2, .int (iI (-1))), (1, .int (iI v6)), (0, .ref a)]) dX7_step_66 rfl (by decide) rfl ?_
    refine tn_iload_n dX7_step_67 rfl 1 rfl ?_
    refine tn_tableIn (tgt := 362) dX7_step_68 (x := -1) ⟨by decide, by decide⟩ (by decide) (by decide) rfl (by decide) ?_
    refine tn_aload_n dX7_step_362 rfl 3 rfl ?_
    refine tn_iconst dX7_step_363 ?_
    obtain ⟨hk20, hl21⟩ : AR T xa 15 9 9 := ar_of (wf_59 hw ha) hxa
    have hk20i : IA T xa := by unfold IA; omega
    obtain ⟨hk24, hl25⟩ : AR T xb 1 9 9 := ar_of (wf_60 hw ha) hxb
    have hk24i : IA T xb := by unfold IA; omega
    obtain ⟨hl29, hk28a, hk28b⟩ := ex_at (wf_61 hw ha) hxc
    have hk28 : (T xc).1 = 1 := hk28b (by omega)
    clear hk28a hk28b
    have hk28i : IA T xc := by unfold IA; omega
    obtain ⟨hk32, hl33⟩ : AR T xd 1 108 108 := ar_of (wf_62 hw ha) hxd
    have hk32i : IA T xd := by unfold IA; omega
    obtain ⟨hk36, hl37⟩ : AR T xe 1 1728 1728 := ar_of (wf_63 hw ha) hxe
    have hk36i : IA T xe := by unfold IA; omega
    obtain ⟨hk40, hl41⟩ : AR T xf 1 200 200 := ar_of (wf_64 hw ha) hxf
    have hk40i : IA T xf := by unfold IA; omega
    have q46 : (sA 67 a (z14) σ).2.1 57 a = σ.2.1 57 a := rc_o (by decide) (rfl)
    refine tn_callV (M := m_X7_step) (pc := 364) (ix := 123) (ci := 7) (M' := m_X7_giveBack) (As := [.int (iI 0)]) (rest := []) dX7_step_364 ok_X7_giveBack im_X7_giveBack se_X7_giveBack ml7_123 np_X7_giveBack rfl rfl ha rfl (Nat.le_of_ble_eq_true rfl) (Nat.le_of_ble_eq_true rfl) rfl (k_X7_giveBack_h (d + 1) (T := T) (σ := (sA 67 a (z14) σ)) (a := a) (n := 0) (xa := xa) (xb := xb) (xc := xc) (xd := xd) (xe := xe) (xf := xf) ha hta (by decide) (hw.put (by decide) (by decide) (fo_67 (by omega))) (rc_o (by decide) (hxa)) (rc_o (by decide) (hxb)) (rc_o (by decide) (hxc)) (rc_o (by decide) (hxd)) (rc_o (by decide) (hxe)) (rc_o (by decide) (hxf))) (fun r42 T44 σ43 gt45 hp => ?_)
    obtain ⟨rfl, rfl, w51, F52, f47, f48, f49⟩ := hp
    clear gt45
    show Tn _ _ 367 T σ43 [(3, .int (iI z16)), (2, .int (iI (-1))), (1, .int (iI v6)), (0, .ref a)] [] _
    refine tn_iconst dX7_step_367 ?_
    have q53 : σ43.2.1 57 a = σ43.2.1 57 a := rfl
    exact tn_zret (v := 0) rfl (by decide) dX7_step_368 ⟨_, rfl, rfl, w51, ((FrC.rfl.put (by decide) (by decide)).trans (FrC.sub F52 (by decide))), by omega, ((CHX.rfl.fld (by simp) (by decide)).trans (CHX.sub f47 (by simp) (by simp) (by simp))), by omega, ((FA.rfl.put).trans f49)⟩
  · have hk9 : (T xq8).1 = 50 := hk9b (by omega)
    have hk9o : OB T xq8 1 := ⟨by omega, by rw [hk9]; rfl, by omega⟩
    refine tn_getR (ci := 7) (i := 14) (n := 69) (x := xq8) dX7_step_6 rfl lay_7 (by decide) fl7_72 ha rfl rfl (hx7) ?_
    refine tn_ifnonnull (tgt := 16) dX7_step_9 (by decide) ?_
    refine tn_aload_n dX7_step_16 rfl 1 rfl ?_
    refine tn_getR (ci := 7) (i := 14) (n := 69) (x := xq8) dX7_step_17 rfl lay_7 (by decide) fl7_72 ha rfl rfl (hx7) ?_
    refine tn_iload_n dX7_step_20 rfl 0 rfl ?_
    refine tn_callV (M := m_X7_step) (pc := 21) (ix := 107) (ci := 1) (M' := m_X1_kindAt) (As := [.int (iI v6)]) (rest := []) dX7_step_21 ok_X1_kindAt im_X1_kindAt se_X1_kindAt ml7_107 np_X1_kindAt rfl rfl hk9o rfl (Nat.le_of_ble_eq_true rfl) (Nat.le_of_ble_eq_true rfl) rfl (k_X1_kindAt (d + 3) (T := T) (σ := σ) (a := xq8) (k := v6) hk9o (by omega) hw ) (fun r54 T56 σ55 gt57 hp => ?_)
    obtain ⟨v60, rfl, rfl, rfl, f58, f59⟩ := hp
    clear gt57
    clear f59
    show Tn _ _ 24 T σ [(1, .int (iI v6)), (0, .ref a)] [.int (iI v60)] _
    refine tn_istore_n (L' := [(2, .int (iI v60)), (1, .int (iI v6)), (0, .ref a)]) dX7_step_24 rfl (by decide) rfl ?_
    refine tn_iload_n dX7_step_25 rfl 0 rfl ?_
    refine tn_bipush dX7_step_26 (by decide) ?_
    refine tn_icmp_eq (tgt := 37) dX7_step_28 (by decide) ⟨by omega, by omega⟩ ⟨by decide, by decide⟩ (fun h61 => ?_) (fun h61 => ?_)
    · refine tn_aload_n dX7_step_37 rfl 2 rfl ?_
      refine tn_getI (ci := 7) (i := 3) (n := 58) (t := σ.2.1 58 a) dX7_step_38 rfl lay_7 (by decide) fl7_38 ha rfl rfl (rfl) ?_
      have g62 : ((-2147483648 : Int) ≤ σ.2.1 58 a ∧ σ.2.1 58 a ≤ 2147483647) := wf_58 hw ha
      refine tn_bipush dX7_step_41 (by decide) ?_
      refine tn_icmp_le (tgt := 53) dX7_step_43 (by decide) ⟨by omega, by omega⟩ ⟨by decide, by decide⟩ (fun h63 => ?_) (fun h63 => ?_)
      · refine tn_aload_n dX7_step_53 rfl 2 rfl ?_
        refine tn_dup dX7_step_54 rfl ?_
        refine tn_getI (ci := 7) (i := 12) (n := 67) (t := σ.2.1 67 a) dX7_step_55 rfl lay_7 (by decide) fl7_47 ha rfl rfl (rfl) ?_
        have g64 : ((-2147483648 : Int) ≤ σ.2.1 67 a ∧ σ.2.1 67 a ≤ 2147483647) := wf_67 hw ha
        refine tn_iconst dX7_step_58 ?_
        refine tn_iadd dX7_step_59 ?_
        refine tn_any (fun z65 g66 => ?_)
        have g66r : -2147483648 ≤ z65 ∧ z65 ≤ 2147483647 := g66
        refine tn_putV (ci := 7) (i := 12) (n := 67) (r := false) (v := z65) tyX7 tyX7_ok nmX7 dX7_step_60 rfl lay_7 (by decide) fl7_47 rfl (tyX7_ok 12 (by decide)) rfl rfl rfl ha rfl rfl ?_
        refine tn_iload_n dX7_step_63 rfl 1 rfl ?_
        refine tn_iconst dX7_step_64 ?_
        refine tn_iadd dX7_step_65 ?_
        refine tn_any (fun z67 g68 => ?_)
        have g68r : -2147483648 ≤ z67 ∧ z67 ≤ 2147483647 := g68
        refine tn_istore_n (L' := [(3, .int (iI z67)), (2, .int (iI v60)), (1, .int (iI v6)), (0, .ref a)]) dX7_step_66 rfl (by decide) rfl ?_
        refine tn_iload_n dX7_step_67 rfl 1 rfl ?_
        by_cases h69 : v60 < -1 ∨ 15 < v60
        · refine tn_tableOut (tgt := 369) dX7_step_68 (x := v60) ⟨by omega, by omega⟩ h69 (by decide) ?_
          refine tn_aload_n dX7_step_369 rfl 3 rfl ?_
          refine tn_iload_n dX7_step_370 rfl 2 rfl ?_
          refine tn_iload_n dX7_step_371 rfl 1 rfl ?_
          obtain ⟨hk72, hl73⟩ : AR T xa 15 9 9 := ar_of (wf_59 hw ha) hxa
          have hk72i : IA T xa := by unfold IA; omega
          obtain ⟨hk76, hl77⟩ : AR T xb 1 9 9 := ar_of (wf_60 hw ha) hxb
          have hk76i : IA T xb := by unfold IA; omega
          obtain ⟨hl81, hk80a, hk80b⟩ := ex_at (wf_61 hw ha) hxc
          have hk80 : (T xc).1 = 1 := hk80b (by omega)
          clear hk80a hk80b
          have hk80i : IA T xc := by unfold IA; omega
          obtain ⟨hk84, hl85⟩ : AR T xd 1 108 108 := ar_of (wf_62 hw ha) hxd
          have hk84i : IA T xd := by unfold IA; omega
          obtain ⟨hk88, hl89⟩ : AR T xe 1 1728 1728 := ar_of (wf_63 hw ha) hxe
          have hk88i : IA T xe := by unfold IA; omega
          obtain ⟨hk92, hl93⟩ : AR T xf 1 200 200 := ar_of (wf_64 hw ha) hxf
          have hk92i : IA T xf := by unfold IA; omega
          refine tn_callV (M := m_X7_step) (pc := 372) (ix := 129) (ci := 7) (M' := m_X7_reckonAt) (As := [.int (iI v6), .int (iI v60)]) (rest := []) dX7_step_372 ok_X7_reckonAt im_X7_reckonAt se_X7_reckonAt ml7_129 np_X7_reckonAt rfl rfl ha rfl (Nat.le_of_ble_eq_true rfl) (Nat.le_of_ble_eq_true rfl) rfl (k_X7_reckonAt_h (d + 1) (T := T) (σ := (sA 67 a (z65) σ)) (a := a) (k := v6) (e := v60) (xa := xa) (xb := xb) (xc := xc) (xd := xd) (xe := xe) (xf := xf) ha (by omega) (by omega) (hw.put (by decide) (by decide) (fo_67 (by omega))) (rc_o (by decide) (hxa)) (rc_o (by decide) (hxb)) (rc_o (by decide) (hxc)) (rc_o (by decide) (hxd)) (rc_o (by decide) (hxe)) (rc_o (by decide) (hxf)) (by rw [show (sA 67 a (z65) σ).2.1 69 a = _ from rc_o (by decide) (hx7)]; omega)) (fun r94 T96 σ95 gt97 hp => ?_)
          obtain ⟨rfl, rfl, w100, F101, f98⟩ := hp
          clear gt97
          show Tn _ _ 375 T σ95 [(3, .int (iI z67)), (2, .int (iI v60)), (1, .int (iI v6)), (0, .ref a)] [] _
          refine tn_aload_n dX7_step_375 rfl 3 rfl ?_
          refine tn_getR (ci := 7) (i := 5) (n := 60) (x := xb) dX7_step_376 rfl lay_7 (by decide) fl7_15 ha rfl rfl (rc_F F101 (Or.inl (by decide)) (by decide) (rc_o (by decide) (hxb))) ?_
          refine tn_aload_n dX7_step_379 rfl 3 rfl ?_
          refine tn_getI (ci := 7) (i := 2) (n := 57) (t := σ.2.1 57 a) dX7_step_380 rfl lay_7 (by decide) fl7_65 ha rfl rfl (rc_F F101 (Or.inl (by decide)) (by decide) (rc_o (by decide) (rfl))) ?_
          have g102 : ((0 : Int) ≤ σ.2.1 57 a ∧ σ.2.1 57 a ≤ 11184800) ∧ ((T a).1 = 57 → σ.2.1 57 a ≤ 8) := wf_57 hw ha
          have g102x := g102.2
          replace g102 := g102.1
          clear g102x
          refine tn_iload_n dX7_step_383 rfl 0 rfl ?_
          refine tn_callSN (M := m_X7_step) (pc := 384) (ix := 61) (M' := m_X11_put) (As := [.ref xb, .int (iI (σ.2.1 57 a)), .int (iI z67)]) (rest := []) dX7_step_384 ok_X11_put stt_X11_put nl7_61 np_X11_put rfl (Nat.le_of_ble_eq_true rfl) (Nat.le_of_ble_eq_true rfl) rfl (k_X11_put_x (d + 3) (T := T) (σ := σ95) (x := xb) (i := σ.2.1 57 a) (y := z67) hk76i (by omega) (by omega) (by omega) w100 (nh_k hk76 (by unfold HT; omega)) (vok_1 (by have q9 := hk76; omega) (by omega))) (fun r103 T105 σ104 gt106 hp => ?_)
          obtain ⟨rfl, rfl, w110, F111, f107, f108⟩ := hp
          clear gt106
          show Tn _ _ 387 T σ104 [(3, .int (iI z67)), (2, .int (iI v60)), (1, .int (iI v6)), (0, .ref a)] [] _
          refine tn_iload_n dX7_step_387 rfl 1 rfl ?_
          refine tn_bipush dX7_step_388 (by decide) ?_
          refine tn_icmp_ne (tgt := 397) dX7_step_390 (by decide) ⟨by omega, by omega⟩ ⟨by decide, by decide⟩ (fun h112 => ?_) (fun h112 => absurd h112 (by omega))
          refine tn_iconst dX7_step_397 ?_
          have q113 : σ104.2.1 57 a = σ.2.1 57 a := rc_F F111 (Or.inl (by decide)) (by decide) (rc_F F101 (Or.inl (by decide)) (by decide) (rc_o (by decide) (rfl)))
          exact tn_zret (v := 0) rfl (by decide) dX7_step_398 ⟨_, rfl, rfl, w110, (((FrC.rfl.put (by decide) (by decide)).trans (FrC.sub F101 (by decide))).trans (FrC.sub F111 (by decide))), by omega, (((CHX.rfl.fld (by simp) (by decide)).trans (CHX.sub f98 (by simp) (by simp) (by simp))).trans (CHX.sub f107 (by simp) (by simp) (by simp))), by omega, (((FA.rfl.put).trans (FA.of F101 (by decide))).trans (FA.of F111 (by decide)))⟩
        · have h114 : v60 = -1 ∨ v60 = 0 ∨ v60 = 1 ∨ v60 = 2 ∨ v60 = 3 ∨ v60 = 4 ∨ v60 = 5 ∨ v60 = 6 ∨ v60 = 7 ∨ v60 = 8 ∨ v60 = 9 ∨ v60 = 10 ∨ v60 = 11 ∨ v60 = 12 ∨ v60 = 13 ∨ v60 = 14 ∨ v60 = 15 := by omega
          rcases h114 with h114 | h114 | h114 | h114 | h114 | h114 | h114 | h114 | h114 | h114 | h114 | h114 | h114 | h114 | h114 | h114 | h114
          · refine tn_tableIn (tgt := 362) (off := 294) dX7_step_68 (x := v60) ⟨by omega, by omega⟩ (by omega) (by omega) (by rw [h114]; rfl) (by decide) ?_
            refine tn_aload_n dX7_step_362 rfl 3 rfl ?_
            refine tn_iconst dX7_step_363 ?_
            obtain ⟨hk117, hl118⟩ : AR T xa 15 9 9 := ar_of (wf_59 hw ha) hxa
            have hk117i : IA T xa := by unfold IA; omega
            obtain ⟨hk121, hl122⟩ : AR T xb 1 9 9 := ar_of (wf_60 hw ha) hxb
            have hk121i : IA T xb := by unfold IA; omega
            obtain ⟨hl126, hk125a, hk125b⟩ := ex_at (wf_61 hw ha) hxc
            have hk125 : (T xc).1 = 1 := hk125b (by omega)
            clear hk125a hk125b
            have hk125i : IA T xc := by unfold IA; omega
            obtain ⟨hk129, hl130⟩ : AR T xd 1 108 108 := ar_of (wf_62 hw ha) hxd
            have hk129i : IA T xd := by unfold IA; omega
            obtain ⟨hk133, hl134⟩ : AR T xe 1 1728 1728 := ar_of (wf_63 hw ha) hxe
            have hk133i : IA T xe := by unfold IA; omega
            obtain ⟨hk137, hl138⟩ : AR T xf 1 200 200 := ar_of (wf_64 hw ha) hxf
            have hk137i : IA T xf := by unfold IA; omega
            have q143 : (sA 67 a (z65) σ).2.1 57 a = σ.2.1 57 a := rc_o (by decide) (rfl)
            refine tn_callV (M := m_X7_step) (pc := 364) (ix := 123) (ci := 7) (M' := m_X7_giveBack) (As := [.int (iI 0)]) (rest := []) dX7_step_364 ok_X7_giveBack im_X7_giveBack se_X7_giveBack ml7_123 np_X7_giveBack rfl rfl ha rfl (Nat.le_of_ble_eq_true rfl) (Nat.le_of_ble_eq_true rfl) rfl (k_X7_giveBack_h (d + 1) (T := T) (σ := (sA 67 a (z65) σ)) (a := a) (n := 0) (xa := xa) (xb := xb) (xc := xc) (xd := xd) (xe := xe) (xf := xf) ha hta (by decide) (hw.put (by decide) (by decide) (fo_67 (by omega))) (rc_o (by decide) (hxa)) (rc_o (by decide) (hxb)) (rc_o (by decide) (hxc)) (rc_o (by decide) (hxd)) (rc_o (by decide) (hxe)) (rc_o (by decide) (hxf))) (fun r139 T141 σ140 gt142 hp => ?_)
            obtain ⟨rfl, rfl, w148, F149, f144, f145, f146⟩ := hp
            clear gt142
            show Tn _ _ 367 T σ140 [(3, .int (iI z67)), (2, .int (iI v60)), (1, .int (iI v6)), (0, .ref a)] [] _
            refine tn_iconst dX7_step_367 ?_
            have q150 : σ140.2.1 57 a = σ140.2.1 57 a := rfl
            exact tn_zret (v := 0) rfl (by decide) dX7_step_368 ⟨_, rfl, rfl, w148, ((FrC.rfl.put (by decide) (by decide)).trans (FrC.sub F149 (by decide))), by omega, ((CHX.rfl.fld (by simp) (by decide)).trans (CHX.sub f144 (by simp) (by simp) (by simp))), by omega, ((FA.rfl.put).trans f146)⟩
          · refine tn_tableIn (tgt := 369) (off := 301) dX7_step_68 (x := v60) ⟨by omega, by omega⟩ (by omega) (by omega) (by rw [h114]; rfl) (by decide) ?_
            refine tn_aload_n dX7_step_369 rfl 3 rfl ?_
            refine tn_iload_n dX7_step_370 rfl 2 rfl ?_
            refine tn_iload_n dX7_step_371 rfl 1 rfl ?_
            obtain ⟨hk153, hl154⟩ : AR T xa 15 9 9 := ar_of (wf_59 hw ha) hxa
            have hk153i : IA T xa := by unfold IA; omega
            obtain ⟨hk157, hl158⟩ : AR T xb 1 9 9 := ar_of (wf_60 hw ha) hxb
            have hk157i : IA T xb := by unfold IA; omega
            obtain ⟨hl162, hk161a, hk161b⟩ := ex_at (wf_61 hw ha) hxc
            have hk161 : (T xc).1 = 1 := hk161b (by omega)
            clear hk161a hk161b
            have hk161i : IA T xc := by unfold IA; omega
            obtain ⟨hk165, hl166⟩ : AR T xd 1 108 108 := ar_of (wf_62 hw ha) hxd
            have hk165i : IA T xd := by unfold IA; omega
            obtain ⟨hk169, hl170⟩ : AR T xe 1 1728 1728 := ar_of (wf_63 hw ha) hxe
            have hk169i : IA T xe := by unfold IA; omega
            obtain ⟨hk173, hl174⟩ : AR T xf 1 200 200 := ar_of (wf_64 hw ha) hxf
            have hk173i : IA T xf := by unfold IA; omega
            refine tn_callV (M := m_X7_step) (pc := 372) (ix := 129) (ci := 7) (M' := m_X7_reckonAt) (As := [.int (iI v6), .int (iI v60)]) (rest := []) dX7_step_372 ok_X7_reckonAt im_X7_reckonAt se_X7_reckonAt ml7_129 np_X7_reckonAt rfl rfl ha rfl (Nat.le_of_ble_eq_true rfl) (Nat.le_of_ble_eq_true rfl) rfl (k_X7_reckonAt_h (d + 1) (T := T) (σ := (sA 67 a (z65) σ)) (a := a) (k := v6) (e := v60) (xa := xa) (xb := xb) (xc := xc) (xd := xd) (xe := xe) (xf := xf) ha (by omega) (by omega) (hw.put (by decide) (by decide) (fo_67 (by omega))) (rc_o (by decide) (hxa)) (rc_o (by decide) (hxb)) (rc_o (by decide) (hxc)) (rc_o (by decide) (hxd)) (rc_o (by decide) (hxe)) (rc_o (by decide) (hxf)) (by rw [show (sA 67 a (z65) σ).2.1 69 a = _ from rc_o (by decide) (hx7)]; omega)) (fun r175 T177 σ176 gt178 hp => ?_)
            obtain ⟨rfl, rfl, w181, F182, f179⟩ := hp
            clear gt178
            show Tn _ _ 375 T σ176 [(3, .int (iI z67)), (2, .int (iI v60)), (1, .int (iI v6)), (0, .ref a)] [] _
            refine tn_aload_n dX7_step_375 rfl 3 rfl ?_
            refine tn_getR (ci := 7) (i := 5) (n := 60) (x := xb) dX7_step_376 rfl lay_7 (by decide) fl7_15 ha rfl rfl (rc_F F182 (Or.inl (by decide)) (by decide) (rc_o (by decide) (hxb))) ?_
            refine tn_aload_n dX7_step_379 rfl 3 rfl ?_
            refine tn_getI (ci := 7) (i := 2) (n := 57) (t := σ.2.1 57 a) dX7_step_380 rfl lay_7 (by decide) fl7_65 ha rfl rfl (rc_F F182 (Or.inl (by decide)) (by decide) (rc_o (by decide) (rfl))) ?_
            have g183 : ((0 : Int) ≤ σ.2.1 57 a ∧ σ.2.1 57 a ≤ 11184800) ∧ ((T a).1 = 57 → σ.2.1 57 a ≤ 8) := wf_57 hw ha
            have g183x := g183.2
            replace g183 := g183.1
            clear g183x
            refine tn_iload_n dX7_step_383 rfl 0 rfl ?_
            refine tn_callSN (M := m_X7_step) (pc := 384) (ix := 61) (M' := m_X11_put) (As := [.ref xb, .int (iI (σ.2.1 57 a)), .int (iI z67)]) (rest := []) dX7_step_384 ok_X11_put stt_X11_put nl7_61 np_X11_put rfl (Nat.le_of_ble_eq_true rfl) (Nat.le_of_ble_eq_true rfl) rfl (k_X11_put_x (d + 3) (T := T) (σ := σ176) (x := xb) (i := σ.2.1 57 a) (y := z67) hk157i (by omega) (by omega) (by omega) w181 (nh_k hk157 (by unfold HT; omega)) (vok_1 (by have q9 := hk157; omega) (by omega))) (fun r184 T186 σ185 gt187 hp => ?_)
            obtain ⟨rfl, rfl, w191, F192, f188, f189⟩ := hp
            clear gt187
            show Tn _ _ 387 T σ185 [(3, .int (iI z67)), (2, .int (iI v60)), (1, .int (iI v6)), (0, .ref a)] [] _
            refine tn_iload_n dX7_step_387 rfl 1 rfl ?_
            refine tn_bipush dX7_step_388 (by decide) ?_
            refine tn_icmp_ne (tgt := 397) dX7_step_390 (by decide) ⟨by omega, by omega⟩ ⟨by decide, by decide⟩ (fun h193 => ?_) (fun h193 => absurd h193 (by omega))
            refine tn_iconst dX7_step_397 ?_
            have q194 : σ185.2.1 57 a = σ.2.1 57 a := rc_F F192 (Or.inl (by decide)) (by decide) (rc_F F182 (Or.inl (by decide)) (by decide) (rc_o (by decide) (rfl)))
            exact tn_zret (v := 0) rfl (by decide) dX7_step_398 ⟨_, rfl, rfl, w191, (((FrC.rfl.put (by decide) (by decide)).trans (FrC.sub F182 (by decide))).trans (FrC.sub F192 (by decide))), by omega, (((CHX.rfl.fld (by simp) (by decide)).trans (CHX.sub f179 (by simp) (by simp) (by simp))).trans (CHX.sub f188 (by simp) (by simp) (by simp))), by omega, (((FA.rfl.put).trans (FA.of F182 (by decide))).trans (FA.of F192 (by decide)))⟩
          · refine tn_tableIn (tgt := 369) (off := 301) dX7_step_68 (x := v60) ⟨by omega, by omega⟩ (by omega) (by omega) (by rw [h114]; rfl) (by decide) ?_
            refine tn_aload_n dX7_step_369 rfl 3 rfl ?_
            refine tn_iload_n dX7_step_370 rfl 2 rfl ?_
            refine tn_iload_n dX7_step_371 rfl 1 rfl ?_
            obtain ⟨hk197, hl198⟩ : AR T xa 15 9 9 := ar_of (wf_59 hw ha) hxa
            have hk197i : IA T xa := by unfold IA; omega
            obtain ⟨hk201, hl202⟩ : AR T xb 1 9 9 := ar_of (wf_60 hw ha) hxb
            have hk201i : IA T xb := by unfold IA; omega
            obtain ⟨hl206, hk205a, hk205b⟩ := ex_at (wf_61 hw ha) hxc
            have hk205 : (T xc).1 = 1 := hk205b (by omega)
            clear hk205a hk205b
            have hk205i : IA T xc := by unfold IA; omega
            obtain ⟨hk209, hl210⟩ : AR T xd 1 108 108 := ar_of (wf_62 hw ha) hxd
            have hk209i : IA T xd := by unfold IA; omega
            obtain ⟨hk213, hl214⟩ : AR T xe 1 1728 1728 := ar_of (wf_63 hw ha) hxe
            have hk213i : IA T xe := by unfold IA; omega
            obtain ⟨hk217, hl218⟩ : AR T xf 1 200 200 := ar_of (wf_64 hw ha) hxf
            have hk217i : IA T xf := by unfold IA; omega
            refine tn_callV (M := m_X7_step) (pc := 372) (ix := 129) (ci := 7) (M' := m_X7_reckonAt) (As := [.int (iI v6), .int (iI v60)]) (rest := []) dX7_step_372 ok_X7_reckonAt im_X7_reckonAt se_X7_reckonAt ml7_129 np_X7_reckonAt rfl rfl ha rfl (Nat.le_of_ble_eq_true rfl) (Nat.le_of_ble_eq_true rfl) rfl (k_X7_reckonAt_h (d + 1) (T := T) (σ := (sA 67 a (z65) σ)) (a := a) (k := v6) (e := v60) (xa := xa) (xb := xb) (xc := xc) (xd := xd) (xe := xe) (xf := xf) ha (by omega) (by omega) (hw.put (by decide) (by decide) (fo_67 (by omega))) (rc_o (by decide) (hxa)) (rc_o (by decide) (hxb)) (rc_o (by decide) (hxc)) (rc_o (by decide) (hxd)) (rc_o (by decide) (hxe)) (rc_o (by decide) (hxf)) (by rw [show (sA 67 a (z65) σ).2.1 69 a = _ from rc_o (by decide) (hx7)]; omega)) (fun r219 T221 σ220 gt222 hp => ?_)
            obtain ⟨rfl, rfl, w225, F226, f223⟩ := hp
            clear gt222
            show Tn _ _ 375 T σ220 [(3, .int (iI z67)), (2, .int (iI v60)), (1, .int (iI v6)), (0, .ref a)] [] _
            refine tn_aload_n dX7_step_375 rfl 3 rfl ?_
            refine tn_getR (ci := 7) (i := 5) (n := 60) (x := xb) dX7_step_376 rfl lay_7 (by decide) fl7_15 ha rfl rfl (rc_F F226 (Or.inl (by decide)) (by decide) (rc_o (by decide) (hxb))) ?_
            refine tn_aload_n dX7_step_379 rfl 3 rfl ?_
            refine tn_getI (ci := 7) (i := 2) (n := 57) (t := σ.2.1 57 a) dX7_step_380 rfl lay_7 (by decide) fl7_65 ha rfl rfl (rc_F F226 (Or.inl (by decide)) (by decide) (rc_o (by decide) (rfl))) ?_
            have g227 : ((0 : Int) ≤ σ.2.1 57 a ∧ σ.2.1 57 a ≤ 11184800) ∧ ((T a).1 = 57 → σ.2.1 57 a ≤ 8) := wf_57 hw ha
            have g227x := g227.2
            replace g227 := g227.1
            clear g227x
            refine tn_iload_n dX7_step_383 rfl 0 rfl ?_
            refine tn_callSN (M := m_X7_step) (pc := 384) (ix := 61) (M' := m_X11_put) (As := [.ref xb, .int (iI (σ.2.1 57 a)), .int (iI z67)]) (rest := []) dX7_step_384 ok_X11_put stt_X11_put nl7_61 np_X11_put rfl (Nat.le_of_ble_eq_true rfl) (Nat.le_of_ble_eq_true rfl) rfl (k_X11_put_x (d + 3) (T := T) (σ := σ220) (x := xb) (i := σ.2.1 57 a) (y := z67) hk201i (by omega) (by omega) (by omega) w225 (nh_k hk201 (by unfold HT; omega)) (vok_1 (by have q9 := hk201; omega) (by omega))) (fun r228 T230 σ229 gt231 hp => ?_)
            obtain ⟨rfl, rfl, w235, F236, f232, f233⟩ := hp
            clear gt231
            show Tn _ _ 387 T σ229 [(3, .int (iI z67)), (2, .int (iI v60)), (1, .int (iI v6)), (0, .ref a)] [] _
            refine tn_iload_n dX7_step_387 rfl 1 rfl ?_
            refine tn_bipush dX7_step_388 (by decide) ?_
            refine tn_icmp_ne (tgt := 397) dX7_step_390 (by decide) ⟨by omega, by omega⟩ ⟨by decide, by decide⟩ (fun h237 => ?_) (fun h237 => absurd h237 (by omega))
            refine tn_iconst dX7_step_397 ?_
            have q238 : σ229.2.1 57 a = σ.2.1 57 a := rc_F F236 (Or.inl (by decide)) (by decide) (rc_F F226 (Or.inl (by decide)) (by decide) (rc_o (by decide) (rfl)))
            exact tn_zret (v := 0) rfl (by decide) dX7_step_398 ⟨_, rfl, rfl, w235, (((FrC.rfl.put (by decide) (by decide)).trans (FrC.sub F226 (by decide))).trans (FrC.sub F236 (by decide))), by omega, (((CHX.rfl.fld (by simp) (by decide)).trans (CHX.sub f223 (by simp) (by simp) (by simp))).trans (CHX.sub f232 (by simp) (by simp) (by simp))), by omega, (((FA.rfl.put).trans (FA.of F226 (by decide))).trans (FA.of F236 (by decide)))⟩
          · refine tn_tableIn (tgt := 369) (off := 301) dX7_step_68 (x := v60) ⟨by omega, by omega⟩ (by omega) (by omega) (by rw [h114]; rfl) (by decide) ?_
            refine tn_aload_n dX7_step_369 rfl 3 rfl ?_
            refine tn_iload_n dX7_step_370 rfl 2 rfl ?_
            refine tn_iload_n dX7_step_371 rfl 1 rfl ?_
            obtain ⟨hk241, hl242⟩ : AR T xa 15 9 9 := ar_of (wf_59 hw ha) hxa
            have hk241i : IA T xa := by unfold IA; omega
            obtain ⟨hk245, hl246⟩ : AR T xb 1 9 9 := ar_of (wf_60 hw ha) hxb
            have hk245i : IA T xb := by unfold IA; omega
            obtain ⟨hl250, hk249a, hk249b⟩ := ex_at (wf_61 hw ha) hxc
            have hk249 : (T xc).1 = 1 := hk249b (by omega)
            clear hk249a hk249b
            have hk249i : IA T xc := by unfold IA; omega
            obtain ⟨hk253, hl254⟩ : AR T xd 1 108 108 := ar_of (wf_62 hw ha) hxd
            have hk253i : IA T xd := by unfold IA; omega
            obtain ⟨hk257, hl258⟩ : AR T xe 1 1728 1728 := ar_of (wf_63 hw ha) hxe
            have hk257i : IA T xe := by unfold IA; omega
            obtain ⟨hk261, hl262⟩ : AR T xf 1 200 200 := ar_of (wf_64 hw ha) hxf
            have hk261i : IA T xf := by unfold IA; omega
            refine tn_callV (M := m_X7_step) (pc := 372) (ix := 129) (ci := 7) (M' := m_X7_reckonAt) (As := [.int (iI v6), .int (iI v60)]) (rest := []) dX7_step_372 ok_X7_reckonAt im_X7_reckonAt se_X7_reckonAt ml7_129 np_X7_reckonAt rfl rfl ha rfl (Nat.le_of_ble_eq_true rfl) (Nat.le_of_ble_eq_true rfl) rfl (k_X7_reckonAt_h (d + 1) (T := T) (σ := (sA 67 a (z65) σ)) (a := a) (k := v6) (e := v60) (xa := xa) (xb := xb) (xc := xc) (xd := xd) (xe := xe) (xf := xf) ha (by omega) (by omega) (hw.put (by decide) (by decide) (fo_67 (by omega))) (rc_o (by decide) (hxa)) (rc_o (by decide) (hxb)) (rc_o (by decide) (hxc)) (rc_o (by decide) (hxd)) (rc_o (by decide) (hxe)) (rc_o (by decide) (hxf)) (by rw [show (sA 67 a (z65) σ).2.1 69 a = _ from rc_o (by decide) (hx7)]; omega)) (fun r263 T265 σ264 gt266 hp => ?_)
            obtain ⟨rfl, rfl, w269, F270, f267⟩ := hp
            clear gt266
            show Tn _ _ 375 T σ264 [(3, .int (iI z67)), (2, .int (iI v60)), (1, .int (iI v6)), (0, .ref a)] [] _
            refine tn_aload_n dX7_step_375 rfl 3 rfl ?_
            refine tn_getR (ci := 7) (i := 5) (n := 60) (x := xb) dX7_step_376 rfl lay_7 (by decide) fl7_15 ha rfl rfl (rc_F F270 (Or.inl (by decide)) (by decide) (rc_o (by decide) (hxb))) ?_
            refine tn_aload_n dX7_step_379 rfl 3 rfl ?_
            refine tn_getI (ci := 7) (i := 2) (n := 57) (t := σ.2.1 57 a) dX7_step_380 rfl lay_7 (by decide) fl7_65 ha rfl rfl (rc_F F270 (Or.inl (by decide)) (by decide) (rc_o (by decide) (rfl))) ?_
            have g271 : ((0 : Int) ≤ σ.2.1 57 a ∧ σ.2.1 57 a ≤ 11184800) ∧ ((T a).1 = 57 → σ.2.1 57 a ≤ 8) := wf_57 hw ha
            have g271x := g271.2
            replace g271 := g271.1
            clear g271x
            refine tn_iload_n dX7_step_383 rfl 0 rfl ?_
            refine tn_callSN (M := m_X7_step) (pc := 384) (ix := 61) (M' := m_X11_put) (As := [.ref xb, .int (iI (σ.2.1 57 a)), .int (iI z67)]) (rest := []) dX7_step_384 ok_X11_put stt_X11_put nl7_61 np_X11_put rfl (Nat.le_of_ble_eq_true rfl) (Nat.le_of_ble_eq_true rfl) rfl (k_X11_put_x (d + 3) (T := T) (σ := σ264) (x := xb) (i := σ.2.1 57 a) (y := z67) hk245i (by omega) (by omega) (by omega) w269 (nh_k hk245 (by unfold HT; omega)) (vok_1 (by have q9 := hk245; omega) (by omega))) (fun r272 T274 σ273 gt275 hp => ?_)
            obtain ⟨rfl, rfl, w279, F280, f276, f277⟩ := hp
            clear gt275
            show Tn _ _ 387 T σ273 [(3, .int (iI z67)), (2, .int (iI v60)), (1, .int (iI v6)), (0, .ref a)] [] _
            refine tn_iload_n dX7_step_387 rfl 1 rfl ?_
            refine tn_bipush dX7_step_388 (by decide) ?_
            refine tn_icmp_ne (tgt := 397) dX7_step_390 (by decide) ⟨by omega, by omega⟩ ⟨by decide, by decide⟩ (fun h281 => ?_) (fun h281 => absurd h281 (by omega))
            refine tn_iconst dX7_step_397 ?_
            have q282 : σ273.2.1 57 a = σ.2.1 57 a := rc_F F280 (Or.inl (by decide)) (by decide) (rc_F F270 (Or.inl (by decide)) (by decide) (rc_o (by decide) (rfl)))
            exact tn_zret (v := 0) rfl (by decide) dX7_step_398 ⟨_, rfl, rfl, w279, (((FrC.rfl.put (by decide) (by decide)).trans (FrC.sub F270 (by decide))).trans (FrC.sub F280 (by decide))), by omega, (((CHX.rfl.fld (by simp) (by decide)).trans (CHX.sub f267 (by simp) (by simp) (by simp))).trans (CHX.sub f276 (by simp) (by simp) (by simp))), by omega, (((FA.rfl.put).trans (FA.of F270 (by decide))).trans (FA.of F280 (by decide)))⟩
          · refine tn_tableIn (tgt := 369) (off := 301) dX7_step_68 (x := v60) ⟨by omega, by omega⟩ (by omega) (by omega) (by rw [h114]; rfl) (by decide) ?_
            refine tn_aload_n dX7_step_369 rfl 3 rfl ?_
            refine tn_iload_n dX7_step_370 rfl 2 rfl ?_
            refine tn_iload_n dX7_step_371 rfl 1 rfl ?_
            obtain ⟨hk285, hl286⟩ : AR T xa 15 9 9 := ar_of (wf_59 hw ha) hxa
            have hk285i : IA T xa := by unfold IA; omega
            obtain ⟨hk289, hl290⟩ : AR T xb 1 9 9 := ar_of (wf_60 hw ha) hxb
            have hk289i : IA T xb := by unfold IA; omega
            obtain ⟨hl294, hk293a, hk293b⟩ := ex_at (wf_61 hw ha) hxc
            have hk293 : (T xc).1 = 1 := hk293b (by omega)
            clear hk293a hk293b
            have hk293i : IA T xc := by unfold IA; omega
            obtain ⟨hk297, hl298⟩ : AR T xd 1 108 108 := ar_of (wf_62 hw ha) hxd
            have hk297i : IA T xd := by unfold IA; omega
            obtain ⟨hk301, hl302⟩ : AR T xe 1 1728 1728 := ar_of (wf_63 hw ha) hxe
            have hk301i : IA T xe := by unfold IA; omega
            obtain ⟨hk305, hl306⟩ : AR T xf 1 200 200 := ar_of (wf_64 hw ha) hxf
            have hk305i : IA T xf := by unfold IA; omega
            refine tn_callV (M := m_X7_step) (pc := 372) (ix := 129) (ci := 7) (M' := m_X7_reckonAt) (As := [.int (iI v6), .int (iI v60)]) (rest := []) dX7_step_372 ok_X7_reckonAt im_X7_reckonAt se_X7_reckonAt ml7_129 np_X7_reckonAt rfl rfl ha rfl (Nat.le_of_ble_eq_true rfl) (Nat.le_of_ble_eq_true rfl) rfl (k_X7_reckonAt_h (d + 1) (T := T) (σ := (sA 67 a (z65) σ)) (a := a) (k := v6) (e := v60) (xa := xa) (xb := xb) (xc := xc) (xd := xd) (xe := xe) (xf := xf) ha (by omega) (by omega) (hw.put (by decide) (by decide) (fo_67 (by omega))) (rc_o (by decide) (hxa)) (rc_o (by decide) (hxb)) (rc_o (by decide) (hxc)) (rc_o (by decide) (hxd)) (rc_o (by decide) (hxe)) (rc_o (by decide) (hxf)) (by rw [show (sA 67 a (z65) σ).2.1 69 a = _ from rc_o (by decide) (hx7)]; omega)) (fun r307 T309 σ308 gt310 hp => ?_)
            obtain ⟨rfl, rfl, w313, F314, f311⟩ := hp
            clear gt310
            show Tn _ _ 375 T σ308 [(3, .int (iI z67)), (2, .int (iI v60)), (1, .int (iI v6)), (0, .ref a)] [] _
            refine tn_aload_n dX7_step_375 rfl 3 rfl ?_
            refine tn_getR (ci := 7) (i := 5) (n := 60) (x := xb) dX7_step_376 rfl lay_7 (by decide) fl7_15 ha rfl rfl (rc_F F314 (Or.inl (by decide)) (by decide) (rc_o (by decide) (hxb))) ?_
            refine tn_aload_n dX7_step_379 rfl 3 rfl ?_
            refine tn_getI (ci := 7) (i := 2) (n := 57) (t := σ.2.1 57 a) dX7_step_380 rfl lay_7 (by decide) fl7_65 ha rfl rfl (rc_F F314 (Or.inl (by decide)) (by decide) (rc_o (by decide) (rfl))) ?_
            have g315 : ((0 : Int) ≤ σ.2.1 57 a ∧ σ.2.1 57 a ≤ 11184800) ∧ ((T a).1 = 57 → σ.2.1 57 a ≤ 8) := wf_57 hw ha
            have g315x := g315.2
            replace g315 := g315.1
            clear g315x
            refine tn_iload_n dX7_step_383 rfl 0 rfl ?_
            refine tn_callSN (M := m_X7_step) (pc := 384) (ix := 61) (M' := m_X11_put) (As := [.ref xb, .int (iI (σ.2.1 57 a)), .int (iI z67)]) (rest := []) dX7_step_384 ok_X11_put stt_X11_put nl7_61 np_X11_put rfl (Nat.le_of_ble_eq_true rfl) (Nat.le_of_ble_eq_true rfl) rfl (k_X11_put_x (d + 3) (T := T) (σ := σ308) (x := xb) (i := σ.2.1 57 a) (y := z67) hk289i (by omega) (by omega) (by omega) w313 (nh_k hk289 (by unfold HT; omega)) (vok_1 (by have q9 := hk289; omega) (by omega))) (fun r316 T318 σ317 gt319 hp => ?_)
            obtain ⟨rfl, rfl, w323, F324, f320, f321⟩ := hp
            clear gt319
            show Tn _ _ 387 T σ317 [(3, .int (iI z67)), (2, .int (iI v60)), (1, .int (iI v6)), (0, .ref a)] [] _
            refine tn_iload_n dX7_step_387 rfl 1 rfl ?_
            refine tn_bipush dX7_step_388 (by decide) ?_
            refine tn_icmp_ne (tgt := 397) dX7_step_390 (by decide) ⟨by omega, by omega⟩ ⟨by decide, by decide⟩ (fun h325 => ?_) (fun h325 => absurd h325 (by omega))
            refine tn_iconst dX7_step_397 ?_
            have q326 : σ317.2.1 57 a = σ.2.1 57 a := rc_F F324 (Or.inl (by decide)) (by decide) (rc_F F314 (Or.inl (by decide)) (by decide) (rc_o (by decide) (rfl)))
            exact tn_zret (v := 0) rfl (by decide) dX7_step_398 ⟨_, rfl, rfl, w323, (((FrC.rfl.put (by decide) (by decide)).trans (FrC.sub F314 (by decide))).trans (FrC.sub F324 (by decide))), by omega, (((CHX.rfl.fld (by simp) (by decide)).trans (CHX.sub f311 (by simp) (by simp) (by simp))).trans (CHX.sub f320 (by simp) (by simp) (by simp))), by omega, (((FA.rfl.put).trans (FA.of F314 (by decide))).trans (FA.of F324 (by decide)))⟩
          · refine tn_tableIn (tgt := 369) (off := 301) dX7_step_68 (x := v60) ⟨by omega, by omega⟩ (by omega) (by omega) (by rw [h114]; rfl) (by decide) ?_
            refine tn_aload_n dX7_step_369 rfl 3 rfl ?_
            refine tn_iload_n dX7_step_370 rfl 2 rfl ?_
            refine tn_iload_n dX7_step_371 rfl 1 rfl ?_
            obtain ⟨hk329, hl330⟩ : AR T xa 15 9 9 := ar_of (wf_59 hw ha) hxa
            have hk329i : IA T xa := by unfold IA; omega
            obtain ⟨hk333, hl334⟩ : AR T xb 1 9 9 := ar_of (wf_60 hw ha) hxb
            have hk333i : IA T xb := by unfold IA; omega
            obtain ⟨hl338, hk337a, hk337b⟩ := ex_at (wf_61 hw ha) hxc
            have hk337 : (T xc).1 = 1 := hk337b (by omega)
            clear hk337a hk337b
            have hk337i : IA T xc := by unfold IA; omega
            obtain ⟨hk341, hl342⟩ : AR T xd 1 108 108 := ar_of (wf_62 hw ha) hxd
            have hk341i : IA T xd := by unfold IA; omega
            obtain ⟨hk345, hl346⟩ : AR T xe 1 1728 1728 := ar_of (wf_63 hw ha) hxe
            have hk345i : IA T xe := by unfold IA; omega
            obtain ⟨hk349, hl350⟩ : AR T xf 1 200 200 := ar_of (wf_64 hw ha) hxf
            have hk349i : IA T xf := by unfold IA; omega
            refine tn_callV (M := m_X7_step) (pc := 372) (ix := 129) (ci := 7) (M' := m_X7_reckonAt) (As := [.int (iI v6), .int (iI v60)]) (rest := []) dX7_step_372 ok_X7_reckonAt im_X7_reckonAt se_X7_reckonAt ml7_129 np_X7_reckonAt rfl rfl ha rfl (Nat.le_of_ble_eq_true rfl) (Nat.le_of_ble_eq_true rfl) rfl (k_X7_reckonAt_h (d + 1) (T := T) (σ := (sA 67 a (z65) σ)) (a := a) (k := v6) (e := v60) (xa := xa) (xb := xb) (xc := xc) (xd := xd) (xe := xe) (xf := xf) ha (by omega) (by omega) (hw.put (by decide) (by decide) (fo_67 (by omega))) (rc_o (by decide) (hxa)) (rc_o (by decide) (hxb)) (rc_o (by decide) (hxc)) (rc_o (by decide) (hxd)) (rc_o (by decide) (hxe)) (rc_o (by decide) (hxf)) (by rw [show (sA 67 a (z65) σ).2.1 69 a = _ from rc_o (by decide) (hx7)]; omega)) (fun r351 T353 σ352 gt354 hp => ?_)
            obtain ⟨rfl, rfl, w357, F358, f355⟩ := hp
            clear gt354
            show Tn _ _ 375 T σ352 [(3, .int (iI z67)), (2, .int (iI v60)), (1, .int (iI v6)), (0, .ref a)] [] _
            refine tn_aload_n dX7_step_375 rfl 3 rfl ?_
            refine tn_getR (ci := 7) (i := 5) (n := 60) (x := xb) dX7_step_376 rfl lay_7 (by decide) fl7_15 ha rfl rfl (rc_F F358 (Or.inl (by decide)) (by decide) (rc_o (by decide) (hxb))) ?_
            refine tn_aload_n dX7_step_379 rfl 3 rfl ?_
            refine tn_getI (ci := 7) (i := 2) (n := 57) (t := σ.2.1 57 a) dX7_step_380 rfl lay_7 (by decide) fl7_65 ha rfl rfl (rc_F F358 (Or.inl (by decide)) (by decide) (rc_o (by decide) (rfl))) ?_
            have g359 : ((0 : Int) ≤ σ.2.1 57 a ∧ σ.2.1 57 a ≤ 11184800) ∧ ((T a).1 = 57 → σ.2.1 57 a ≤ 8) := wf_57 hw ha
            have g359x := g359.2
            replace g359 := g359.1
            clear g359x
            refine tn_iload_n dX7_step_383 rfl 0 rfl ?_
            refine tn_callSN (M := m_X7_step) (pc := 384) (ix := 61) (M' := m_X11_put) (As := [.ref xb, .int (iI (σ.2.1 57 a)), .int (iI z67)]) (rest := []) dX7_step_384 ok_X11_put stt_X11_put nl7_61 np_X11_put rfl (Nat.le_of_ble_eq_true rfl) (Nat.le_of_ble_eq_true rfl) rfl (k_X11_put_x (d + 3) (T := T) (σ := σ352) (x := xb) (i := σ.2.1 57 a) (y := z67) hk333i (by omega) (by omega) (by omega) w357 (nh_k hk333 (by unfold HT; omega)) (vok_1 (by have q9 := hk333; omega) (by omega))) (fun r360 T362 σ361 gt363 hp => ?_)
            obtain ⟨rfl, rfl, w367, F368, f364, f365⟩ := hp
            clear gt363
            show Tn _ _ 387 T σ361 [(3, .int (iI z67)), (2, .int (iI v60)), (1, .int (iI v6)), (0, .ref a)] [] _
            refine tn_iload_n dX7_step_387 rfl 1 rfl ?_
            refine tn_bipush dX7_step_388 (by decide) ?_
            refine tn_icmp_ne (tgt := 397) dX7_step_390 (by decide) ⟨by omega, by omega⟩ ⟨by decide, by decide⟩ (fun h369 => ?_) (fun h369 => absurd h369 (by omega))
            refine tn_iconst dX7_step_397 ?_
            have q370 : σ361.2.1 57 a = σ.2.1 57 a := rc_F F368 (Or.inl (by decide)) (by decide) (rc_F F358 (Or.inl (by decide)) (by decide) (rc_o (by decide) (rfl)))
            exact tn_zret (v := 0) rfl (by decide) dX7_step_398 ⟨_, rfl, rfl, w367, (((FrC.rfl.put (by decide) (by decide)).trans (FrC.sub F358 (by decide))).trans (FrC.sub F368 (by decide))), by omega, (((CHX.rfl.fld (by simp) (by decide)).trans (CHX.sub f355 (by simp) (by simp) (by simp))).trans (CHX.sub f364 (by simp) (by simp) (by simp))), by omega, (((FA.rfl.put).trans (FA.of F358 (by decide))).trans (FA.of F368 (by decide)))⟩
          · refine tn_tableIn (tgt := 369) (off := 301) dX7_step_68 (x := v60) ⟨by omega, by omega⟩ (by omega) (by omega) (by rw [h114]; rfl) (by decide) ?_
            refine tn_aload_n dX7_step_369 rfl 3 rfl ?_
            refine tn_iload_n dX7_step_370 rfl 2 rfl ?_
            refine tn_iload_n dX7_step_371 rfl 1 rfl ?_
            obtain ⟨hk373, hl374⟩ : AR T xa 15 9 9 := ar_of (wf_59 hw ha) hxa
            have hk373i : IA T xa := by unfold IA; omega
            obtain ⟨hk377, hl378⟩ : AR T xb 1 9 9 := ar_of (wf_60 hw ha) hxb
            have hk377i : IA T xb := by unfold IA; omega
            obtain ⟨hl382, hk381a, hk381b⟩ := ex_at (wf_61 hw ha) hxc
            have hk381 : (T xc).1 = 1 := hk381b (by omega)
            clear hk381a hk381b
            have hk381i : IA T xc := by unfold IA; omega
            obtain ⟨hk385, hl386⟩ : AR T xd 1 108 108 := ar_of (wf_62 hw ha) hxd
            have hk385i : IA T xd := by unfold IA; omega
            obtain ⟨hk389, hl390⟩ : AR T xe 1 1728 1728 := ar_of (wf_63 hw ha) hxe
            have hk389i : IA T xe := by unfold IA; omega
            obtain ⟨hk393, hl394⟩ : AR T xf 1 200 200 := ar_of (wf_64 hw ha) hxf
            have hk393i : IA T xf := by unfold IA; omega
            refine tn_callV (M := m_X7_step) (pc := 372) (ix := 129) (ci := 7) (M' := m_X7_reckonAt) (As := [.int (iI v6), .int (iI v60)]) (rest := []) dX7_step_372 ok_X7_reckonAt im_X7_reckonAt se_X7_reckonAt ml7_129 np_X7_reckonAt rfl rfl ha rfl (Nat.le_of_ble_eq_true rfl) (Nat.le_of_ble_eq_true rfl) rfl (k_X7_reckonAt_h (d + 1) (T := T) (σ := (sA 67 a (z65) σ)) (a := a) (k := v6) (e := v60) (xa := xa) (xb := xb) (xc := xc) (xd := xd) (xe := xe) (xf := xf) ha (by omega) (by omega) (hw.put (by decide) (by decide) (fo_67 (by omega))) (rc_o (by decide) (hxa)) (rc_o (by decide) (hxb)) (rc_o (by decide) (hxc)) (rc_o (by decide) (hxd)) (rc_o (by decide) (hxe)) (rc_o (by decide) (hxf)) (by rw [show (sA 67 a (z65) σ).2.1 69 a = _ from rc_o (by decide) (hx7)]; omega)) (fun r395 T397 σ396 gt398 hp => ?_)
            obtain ⟨rfl, rfl, w401, F402, f399⟩ := hp
            clear gt398
            show Tn _ _ 375 T σ396 [(3, .int (iI z67)), (2, .int (iI v60)), (1, .int (iI v6)), (0, .ref a)] [] _
            refine tn_aload_n dX7_step_375 rfl 3 rfl ?_
            refine tn_getR (ci := 7) (i := 5) (n := 60) (x := xb) dX7_step_376 rfl lay_7 (by decide) fl7_15 ha rfl rfl (rc_F F402 (Or.inl (by decide)) (by decide) (rc_o (by decide) (hxb))) ?_
            refine tn_aload_n dX7_step_379 rfl 3 rfl ?_
            refine tn_getI (ci := 7) (i := 2) (n := 57) (t := σ.2.1 57 a) dX7_step_380 rfl lay_7 (by decide) fl7_65 ha rfl rfl (rc_F F402 (Or.inl (by decide)) (by decide) (rc_o (by decide) (rfl))) ?_
            have g403 : ((0 : Int) ≤ σ.2.1 57 a ∧ σ.2.1 57 a ≤ 11184800) ∧ ((T a).1 = 57 → σ.2.1 57 a ≤ 8) := wf_57 hw ha
            have g403x := g403.2
            replace g403 := g403.1
            clear g403x
            refine tn_iload_n dX7_step_383 rfl 0 rfl ?_
            refine tn_callSN (M := m_X7_step) (pc := 384) (ix := 61) (M' := m_X11_put) (As := [.ref xb, .int (iI (σ.2.1 57 a)), .int (iI z67)]) (rest := []) dX7_step_384 ok_X11_put stt_X11_put nl7_61 np_X11_put rfl (Nat.le_of_ble_eq_true rfl) (Nat.le_of_ble_eq_true rfl) rfl (k_X11_put_x (d + 3) (T := T) (σ := σ396) (x := xb) (i := σ.2.1 57 a) (y := z67) hk377i (by omega) (by omega) (by omega) w401 (nh_k hk377 (by unfold HT; omega)) (vok_1 (by have q9 := hk377; omega) (by omega))) (fun r404 T406 σ405 gt407 hp => ?_)
            obtain ⟨rfl, rfl, w411, F412, f408, f409⟩ := hp
            clear gt407
            show Tn _ _ 387 T σ405 [(3, .int (iI z67)), (2, .int (iI v60)), (1, .int (iI v6)), (0, .ref a)] [] _
            refine tn_iload_n dX7_step_387 rfl 1 rfl ?_
            refine tn_bipush dX7_step_388 (by decide) ?_
            refine tn_icmp_ne (tgt := 397) dX7_step_390 (by decide) ⟨by omega, by omega⟩ ⟨by decide, by decide⟩ (fun h413 => ?_) (fun h413 => absurd h413 (by omega))
            refine tn_iconst dX7_step_397 ?_
            have q414 : σ405.2.1 57 a = σ.2.1 57 a := rc_F F412 (Or.inl (by decide)) (by decide) (rc_F F402 (Or.inl (by decide)) (by decide) (rc_o (by decide) (rfl)))
            exact tn_zret (v := 0) rfl (by decide) dX7_step_398 ⟨_, rfl, rfl, w411, (((FrC.rfl.put (by decide) (by decide)).trans (FrC.sub F402 (by decide))).trans (FrC.sub F412 (by decide))), by omega, (((CHX.rfl.fld (by simp) (by decide)).trans (CHX.sub f399 (by simp) (by simp) (by simp))).trans (CHX.sub f408 (by simp) (by simp) (by simp))), by omega, (((FA.rfl.put).trans (FA.of F402 (by decide))).trans (FA.of F412 (by decide)))⟩
          · refine tn_tableIn (tgt := 152) (off := 84) dX7_step_68 (x := v60) ⟨by omega, by omega⟩ (by omega) (by omega) (by rw [h114]; rfl) (by decide) ?_
            refine tn_aload_n dX7_step_152 rfl 3 rfl ?_
            refine tn_aload_n dX7_step_153 rfl 3 rfl ?_
            refine tn_iload_n dX7_step_154 rfl 2 rfl ?_
            refine tn_iconst dX7_step_155 ?_
            refine tn_callV (M := m_X7_step) (pc := 156) (ix := 110) (ci := 7) (M' := m_X7_operand) (As := [.int (iI v6), .int (iI 3)]) (rest := [.ref a]) dX7_step_156 ok_X7_operand im_X7_operand se_X7_operand ml7_110 np_X7_operand rfl rfl ha rfl (Nat.le_of_ble_eq_true rfl) (Nat.le_of_ble_eq_true rfl) rfl (k_X7_operand (d + 2) (T := T) (σ := (sA 67 a (z65) σ)) (a := a) (k := v6) (c := 3) ha (by omega) (by decide) (hw.put (by decide) (by decide) (fo_67 (by omega))) (by rw [show (sA 67 a (z65) σ).2.1 69 a = _ from rc_o (by decide) (hx7)]; omega) (by omega)) (fun r415 T417 σ416 gt418 hp => ?_)
            obtain ⟨v420, rfl, rfl, rfl, f419⟩ := hp
            clear gt418
            show Tn _ _ 159 T (sA 67 a (z65) σ) [(3, .int (iI z67)), (2, .int (iI v60)), (1, .int (iI v6)), (0, .ref a)] [.int (iI v420), .ref a] _
            obtain ⟨hk423, hl424⟩ : AR T xa 15 9 9 := ar_of (wf_59 hw ha) hxa
            have hk423i : IA T xa := by unfold IA; omega
            obtain ⟨hk427, hl428⟩ : AR T xb 1 9 9 := ar_of (wf_60 hw ha) hxb
            have hk427i : IA T xb := by unfold IA; omega
            obtain ⟨hl432, hk431a, hk431b⟩ := ex_at (wf_61 hw ha) hxc
            have hk431 : (T xc).1 = 1 := hk431b (by omega)
            clear hk431a hk431b
            have hk431i : IA T xc := by unfold IA; omega
            obtain ⟨hk435, hl436⟩ : AR T xd 1 108 108 := ar_of (wf_62 hw ha) hxd
            have hk435i : IA T xd := by unfold IA; omega
            obtain ⟨hk439, hl440⟩ : AR T xe 1 1728 1728 := ar_of (wf_63 hw ha) hxe
            have hk439i : IA T xe := by unfold IA; omega
            obtain ⟨hk443, hl444⟩ : AR T xf 1 200 200 := ar_of (wf_64 hw ha) hxf
            have hk443i : IA T xf := by unfold IA; omega
            refine tn_callV (M := m_X7_step) (pc := 159) (ix := 113) (ci := 7) (M' := m_X7_emit) (As := [.int (iI v420)]) (rest := []) dX7_step_159 ok_X7_emit im_X7_emit se_X7_emit ml7_113 np_X7_emit rfl rfl ha rfl (Nat.le_of_ble_eq_true rfl) (Nat.le_of_ble_eq_true rfl) rfl (k_X7_emit_h (d + 2) (T := T) (σ := (sA 67 a (z65) σ)) (a := a) (p1 := v420) (xa := xa) (xb := xb) (xc := xc) (xd := xd) (xe := xe) (xf := xf) ha (by omega) (hw.put (by decide) (by decide) (fo_67 (by omega))) (rc_o (by decide) (hxa)) (rc_o (by decide) (hxb)) (rc_o (by decide) (hxc)) (rc_o (by decide) (hxd)) (rc_o (by decide) (hxe)) (rc_o (by decide) (hxf))) (fun r445 T447 σ446 gt448 hp => ?_)
            obtain ⟨rfl, rfl, w452, F453, f449, f450⟩ := hp
            clear gt448
            show Tn _ _ 162 T σ446 [(3, .int (iI z67)), (2, .int (iI v60)), (1, .int (iI v6)), (0, .ref a)] [] _
            refine tn_goto (tgt := 375) dX7_step_162 (by decide) ?_
            refine tn_aload_n dX7_step_375 rfl 3 rfl ?_
            refine tn_getR (ci := 7) (i := 5) (n := 60) (x := xb) dX7_step_376 rfl lay_7 (by decide) fl7_15 ha rfl rfl (rc_F F453 (Or.inl (by decide)) (by decide) (rc_o (by decide) (hxb))) ?_
            refine tn_aload_n dX7_step_379 rfl 3 rfl ?_
            refine tn_getI (ci := 7) (i := 2) (n := 57) (t := σ.2.1 57 a) dX7_step_380 rfl lay_7 (by decide) fl7_65 ha rfl rfl (rc_F F453 (Or.inl (by decide)) (by decide) (rc_o (by decide) (rfl))) ?_
            have g454 : ((0 : Int) ≤ σ.2.1 57 a ∧ σ.2.1 57 a ≤ 11184800) ∧ ((T a).1 = 57 → σ.2.1 57 a ≤ 8) := wf_57 hw ha
            have g454x := g454.2
            replace g454 := g454.1
            clear g454x
            refine tn_iload_n dX7_step_383 rfl 0 rfl ?_
            refine tn_callSN (M := m_X7_step) (pc := 384) (ix := 61) (M' := m_X11_put) (As := [.ref xb, .int (iI (σ.2.1 57 a)), .int (iI z67)]) (rest := []) dX7_step_384 ok_X11_put stt_X11_put nl7_61 np_X11_put rfl (Nat.le_of_ble_eq_true rfl) (Nat.le_of_ble_eq_true rfl) rfl (k_X11_put_x (d + 3) (T := T) (σ := σ446) (x := xb) (i := σ.2.1 57 a) (y := z67) hk427i (by omega) (by omega) (by omega) w452 (nh_k hk427 (by unfold HT; omega)) (vok_1 (by have q9 := hk427; omega) (by omega))) (fun r455 T457 σ456 gt458 hp => ?_)
            obtain ⟨rfl, rfl, w462, F463, f459, f460⟩ := hp
            clear gt458
            show Tn _ _ 387 T σ456 [(3, .int (iI z67)), (2, .int (iI v60)), (1, .int (iI v6)), (0, .ref a)] [] _
            refine tn_iload_n dX7_step_387 rfl 1 rfl ?_
            refine tn_bipush dX7_step_388 (by decide) ?_
            refine tn_icmp_ne (tgt := 397) dX7_step_390 (by decide) ⟨by omega, by omega⟩ ⟨by decide, by decide⟩ (fun h464 => ?_) (fun h464 => absurd h464 (by omega))
            refine tn_iconst dX7_step_397 ?_
            have q465 : σ456.2.1 57 a = σ.2.1 57 a := rc_F F463 (Or.inl (by decide)) (by decide) (rc_F F453 (Or.inl (by decide)) (by decide) (rc_o (by decide) (rfl)))
            exact tn_zret (v := 0) rfl (by decide) dX7_step_398 ⟨_, rfl, rfl, w462, (((FrC.rfl.put (by decide) (by decide)).trans (FrC.sub F453 (by decide))).trans (FrC.sub F463 (by decide))), by omega, (((CHX.rfl.fld (by simp) (by decide)).trans (CHX.sub f449 (by simp) (by simp) (by simp))).trans (CHX.sub f459 (by simp) (by simp) (by simp))), by omega, (((FA.rfl.put).trans f450).trans (FA.of F463 (by decide)))⟩
          · refine tn_tableIn (tgt := 213) (off := 145) dX7_step_68 (x := v60) ⟨by omega, by omega⟩ (by omega) (by omega) (by rw [h114]; rfl) (by decide) ?_
            refine tn_aload_n dX7_step_213 rfl 3 rfl ?_
            refine tn_aload_n dX7_step_214 rfl 3 rfl ?_
            refine tn_iload_n dX7_step_215 rfl 2 rfl ?_
            refine tn_iconst dX7_step_216 ?_
            refine tn_callV (M := m_X7_step) (pc := 217) (ix := 110) (ci := 7) (M' := m_X7_operand) (As := [.int (iI v6), .int (iI 3)]) (rest := [.ref a]) dX7_step_217 ok_X7_operand im_X7_operand se_X7_operand ml7_110 np_X7_operand rfl rfl ha rfl (Nat.le_of_ble_eq_true rfl) (Nat.le_of_ble_eq_true rfl) rfl (k_X7_operand (d + 2) (T := T) (σ := (sA 67 a (z65) σ)) (a := a) (k := v6) (c := 3) ha (by omega) (by decide) (hw.put (by decide) (by decide) (fo_67 (by omega))) (by rw [show (sA 67 a (z65) σ).2.1 69 a = _ from rc_o (by decide) (hx7)]; omega) (by omega)) (fun r466 T468 σ467 gt469 hp => ?_)
            obtain ⟨v471, rfl, rfl, rfl, f470⟩ := hp
            clear gt469
            show Tn _ _ 220 T (sA 67 a (z65) σ) [(3, .int (iI z67)), (2, .int (iI v60)), (1, .int (iI v6)), (0, .ref a)] [.int (iI v471), .ref a] _
            obtain ⟨hk474, hl475⟩ : AR T xa 15 9 9 := ar_of (wf_59 hw ha) hxa
            have hk474i : IA T xa := by unfold IA; omega
            obtain ⟨hk478, hl479⟩ : AR T xb 1 9 9 := ar_of (wf_60 hw ha) hxb
            have hk478i : IA T xb := by unfold IA; omega
            obtain ⟨hl483, hk482a, hk482b⟩ := ex_at (wf_61 hw ha) hxc
            have hk482 : (T xc).1 = 1 := hk482b (by omega)
            clear hk482a hk482b
            have hk482i : IA T xc := by unfold IA; omega
            obtain ⟨hk486, hl487⟩ : AR T xd 1 108 108 := ar_of (wf_62 hw ha) hxd
            have hk486i : IA T xd := by unfold IA; omega
            obtain ⟨hk490, hl491⟩ : AR T xe 1 1728 1728 := ar_of (wf_63 hw ha) hxe
            have hk490i : IA T xe := by unfold IA; omega
            obtain ⟨hk494, hl495⟩ : AR T xf 1 200 200 := ar_of (wf_64 hw ha) hxf
            have hk494i : IA T xf := by unfold IA; omega
            have q500 : (sA 67 a (z65) σ).2.1 57 a = σ.2.1 57 a := rc_o (by decide) (rfl)
            refine tn_callV (M := m_X7_step) (pc := 220) (ix := 123) (ci := 7) (M' := m_X7_giveBack) (As := [.int (iI v471)]) (rest := []) dX7_step_220 ok_X7_giveBack im_X7_giveBack se_X7_giveBack ml7_123 np_X7_giveBack rfl rfl ha rfl (Nat.le_of_ble_eq_true rfl) (Nat.le_of_ble_eq_true rfl) rfl (k_X7_giveBack_h (d + 1) (T := T) (σ := (sA 67 a (z65) σ)) (a := a) (n := v471) (xa := xa) (xb := xb) (xc := xc) (xd := xd) (xe := xe) (xf := xf) ha hta (by omega) (hw.put (by decide) (by decide) (fo_67 (by omega))) (rc_o (by decide) (hxa)) (rc_o (by decide) (hxb)) (rc_o (by decide) (hxc)) (rc_o (by decide) (hxd)) (rc_o (by decide) (hxe)) (rc_o (by decide) (hxf))) (fun r496 T498 σ497 gt499 hp => ?_)
            obtain ⟨rfl, rfl, w505, F506, f501, f502, f503⟩ := hp
            clear gt499
            show Tn _ _ 223 T σ497 [(3, .int (iI z67)), (2, .int (iI v60)), (1, .int (iI v6)), (0, .ref a)] [] _
            refine tn_iconst dX7_step_223 ?_
            have q507 : σ497.2.1 57 a = σ497.2.1 57 a := rfl
            exact tn_zret (v := 0) rfl (by decide) dX7_step_224 ⟨_, rfl, rfl, w505, ((FrC.rfl.put (by decide) (by decide)).trans (FrC.sub F506 (by decide))), by omega, ((CHX.rfl.fld (by simp) (by decide)).trans (CHX.sub f501 (by simp) (by simp) (by simp))), by omega, ((FA.rfl.put).trans f503)⟩
          · refine tn_tableIn (tgt := 165) (off := 97) dX7_step_68 (x := v60) ⟨by omega, by omega⟩ (by omega) (by omega) (by rw [h114]; rfl) (by decide) ?_
            refine tn_aload_n dX7_step_165 rfl 3 rfl ?_
            refine tn_getR (ci := 7) (i := 14) (n := 69) (x := xq8) dX7_step_166 rfl lay_7 (by decide) fl7_72 ha rfl rfl (rc_o (by decide) (hx7)) ?_
            refine tn_iload_n dX7_step_169 rfl 2 rfl ?_
            refine tn_bipush dX7_step_170 (by decide) ?_
            refine tn_callV (M := m_X7_step) (pc := 172) (ix := 117) (ci := 1) (M' := m_X1_get) (As := [.int (iI v6), .int (iI 12)]) (rest := []) dX7_step_172 ok_X1_get im_X1_get se_X1_get ml7_117 np_X1_get rfl rfl hk9o rfl (Nat.le_of_ble_eq_true rfl) (Nat.le_of_ble_eq_true rfl) rfl (k_X1_get (d + 3) (T := T) (σ := (sA 67 a (z65) σ)) (a := xq8) (k := v6) (c := 12) hk9o (by omega) (by decide) (hw.put (by decide) (by decide) (fo_67 (by omega))) (by omega)) (fun r508 T510 σ509 gt511 hp => ?_)
            obtain ⟨v513, rfl, rfl, rfl, f512⟩ := hp
            clear gt511
            show Tn _ _ 175 T (sA 67 a (z65) σ) [(3, .int (iI z67)), (2, .int (iI v60)), (1, .int (iI v6)), (0, .ref a)] [.int (iI v513)] _
            refine tn_istore_n (L' := [(3, .int (iI v513)), (2, .int (iI v60)), (1, .int (iI v6)), (0, .ref a)]) dX7_step_175 rfl (by decide) rfl ?_
            refine tn_goto (tgt := 375) dX7_step_176 (by decide) ?_
            refine tn_aload_n dX7_step_375 rfl 3 rfl ?_
            obtain ⟨hk516, hl517⟩ : AR T xb 1 9 9 := ar_of (wf_60 hw ha) hxb
            have hk516i : IA T xb := by unfold IA; omega
            refine tn_getR (ci := 7) (i := 5) (n := 60) (x := xb) dX7_step_376 rfl lay_7 (by decide) fl7_15 ha rfl rfl (rc_o (by decide) (hxb)) ?_
            refine tn_aload_n dX7_step_379 rfl 3 rfl ?_
            refine tn_getI (ci := 7) (i := 2) (n := 57) (t := σ.2.1 57 a) dX7_step_380 rfl lay_7 (by decide) fl7_65 ha rfl rfl (rc_o (by decide) (rfl)) ?_
            have g518 : ((0 : Int) ≤ σ.2.1 57 a ∧ σ.2.1 57 a ≤ 11184800) ∧ ((T a).1 = 57 → σ.2.1 57 a ≤ 8) := wf_57 hw ha
            have g518x := g518.2
            replace g518 := g518.1
            clear g518x
            refine tn_iload_n dX7_step_383 rfl 0 rfl ?_
            refine tn_callSN (M := m_X7_step) (pc := 384) (ix := 61) (M' := m_X11_put) (As := [.ref xb, .int (iI (σ.2.1 57 a)), .int (iI v513)]) (rest := []) dX7_step_384 ok_X11_put stt_X11_put nl7_61 np_X11_put rfl (Nat.le_of_ble_eq_true rfl) (Nat.le_of_ble_eq_true rfl) rfl (k_X11_put_x (d + 3) (T := T) (σ := (sA 67 a (z65) σ)) (x := xb) (i := σ.2.1 57 a) (y := v513) hk516i (by omega) (by omega) (by omega) (hw.put (by decide) (by decide) (fo_67 (by omega))) (nh_k hk516 (by unfold HT; omega)) (vok_1 (by have q9 := hk516; omega) (by omega))) (fun r519 T521 σ520 gt522 hp => ?_)
            obtain ⟨rfl, rfl, w526, F527, f523, f524⟩ := hp
            clear gt522
            show Tn _ _ 387 T σ520 [(3, .int (iI v513)), (2, .int (iI v60)), (1, .int (iI v6)), (0, .ref a)] [] _
            refine tn_iload_n dX7_step_387 rfl 1 rfl ?_
            refine tn_bipush dX7_step_388 (by decide) ?_
            refine tn_icmp_ne (tgt := 397) dX7_step_390 (by decide) ⟨by omega, by omega⟩ ⟨by decide, by decide⟩ (fun h528 => ?_) (fun h528 => absurd h528 (by omega))
            refine tn_iconst dX7_step_397 ?_
            have q529 : σ520.2.1 57 a = σ.2.1 57 a := rc_F F527 (Or.inl (by decide)) (by decide) (rc_o (by decide) (rfl))
            exact tn_zret (v := 0) rfl (by decide) dX7_step_398 ⟨_, rfl, rfl, w526, ((FrC.rfl.put (by decide) (by decide)).trans (FrC.sub F527 (by decide))), by omega, ((CHX.rfl.fld (by simp) (by decide)).trans (CHX.sub f523 (by simp) (by simp) (by simp))), by omega, ((FA.rfl.put).trans (FA.of F527 (by decide)))⟩
          · refine tn_tableIn (tgt := 179) (off := 111) dX7_step_68 (x := v60) ⟨by omega, by omega⟩ (by omega) (by omega) (by rw [h114]; rfl) (by decide) ?_
            refine tn_aload_n dX7_step_179 rfl 3 rfl ?_
            refine tn_iload_n dX7_step_180 rfl 2 rfl ?_
            refine tn_iconst dX7_step_181 ?_
            refine tn_callV (M := m_X7_step) (pc := 182) (ix := 110) (ci := 7) (M' := m_X7_operand) (As := [.int (iI v6), .int (iI 3)]) (rest := []) dX7_step_182 ok_X7_operand im_X7_operand se_X7_operand ml7_110 np_X7_operand rfl rfl ha rfl (Nat.le_of_ble_eq_true rfl) (Nat.le_of_ble_eq_true rfl) rfl (k_X7_operand (d + 2) (T := T) (σ := (sA 67 a (z65) σ)) (a := a) (k := v6) (c := 3) ha (by omega) (by decide) (hw.put (by decide) (by decide) (fo_67 (by omega))) (by rw [show (sA 67 a (z65) σ).2.1 69 a = _ from rc_o (by decide) (hx7)]; omega) (by omega)) (fun r530 T532 σ531 gt533 hp => ?_)
            obtain ⟨v535, rfl, rfl, rfl, f534⟩ := hp
            clear gt533
            show Tn _ _ 185 T (sA 67 a (z65) σ) [(3, .int (iI z67)), (2, .int (iI v60)), (1, .int (iI v6)), (0, .ref a)] [.int (iI v535)] _
            refine tn_if_ne (tgt := 201) dX7_step_185 (by decide) ⟨by omega, by omega⟩ (fun h536 => ?_) (fun h536 => ?_)
            · refine tn_iload_n dX7_step_201 rfl 0 rfl ?_
              refine tn_istore_n (L' := [(3, .int (iI z67)), (2, .int (iI v60)), (1, .int (iI v6)), (0, .ref a)]) dX7_step_202 rfl (by decide) rfl ?_
              refine tn_goto (tgt := 375) dX7_step_203 (by decide) ?_
              refine tn_aload_n dX7_step_375 rfl 3 rfl ?_
              obtain ⟨hk539, hl540⟩ : AR T xb 1 9 9 := ar_of (wf_60 hw ha) hxb
              have hk539i : IA T xb := by unfold IA; omega
              refine tn_getR (ci := 7) (i := 5) (n := 60) (x := xb) dX7_step_376 rfl lay_7 (by decide) fl7_15 ha rfl rfl (rc_o (by decide) (hxb)) ?_
              refine tn_aload_n dX7_step_379 rfl 3 rfl ?_
              refine tn_getI (ci := 7) (i := 2) (n := 57) (t := σ.2.1 57 a) dX7_step_380 rfl lay_7 (by decide) fl7_65 ha rfl rfl (rc_o (by decide) (rfl)) ?_
              have g541 : ((0 : Int) ≤ σ.2.1 57 a ∧ σ.2.1 57 a ≤ 11184800) ∧ ((T a).1 = 57 → σ.2.1 57 a ≤ 8) := wf_57 hw ha
              have g541x := g541.2
              replace g541 := g541.1
              clear g541x
              refine tn_iload_n dX7_step_383 rfl 0 rfl ?_
              refine tn_callSN (M := m_X7_step) (pc := 384) (ix := 61) (M' := m_X11_put) (As := [.ref xb, .int (iI (σ.2.1 57 a)), .int (iI z67)]) (rest := []) dX7_step_384 ok_X11_put stt_X11_put nl7_61 np_X11_put rfl (Nat.le_of_ble_eq_true rfl) (Nat.le_of_ble_eq_true rfl) rfl (k_X11_put_x (d + 3) (T := T) (σ := (sA 67 a (z65) σ)) (x := xb) (i := σ.2.1 57 a) (y := z67) hk539i (by omega) (by omega) (by omega) (hw.put (by decide) (by decide) (fo_67 (by omega))) (nh_k hk539 (by unfold HT; omega)) (vok_1 (by have q9 := hk539; omega) (by omega))) (fun r542 T544 σ543 gt545 hp => ?_)
              obtain ⟨rfl, rfl, w549, F550, f546, f547⟩ := hp
              clear gt545
              show Tn _ _ 387 T σ543 [(3, .int (iI z67)), (2, .int (iI v60)), (1, .int (iI v6)), (0, .ref a)] [] _
              refine tn_iload_n dX7_step_387 rfl 1 rfl ?_
              refine tn_bipush dX7_step_388 (by decide) ?_
              refine tn_icmp_ne (tgt := 397) dX7_step_390 (by decide) ⟨by omega, by omega⟩ ⟨by decide, by decide⟩ (fun h551 => ?_) (fun h551 => absurd h551 (by omega))
              refine tn_iconst dX7_step_397 ?_
              have q552 : σ543.2.1 57 a = σ.2.1 57 a := rc_F F550 (Or.inl (by decide)) (by decide) (rc_o (by decide) (rfl))
              exact tn_zret (v := 0) rfl (by decide) dX7_step_398 ⟨_, rfl, rfl, w549, ((FrC.rfl.put (by decide) (by decide)).trans (FrC.sub F550 (by decide))), by omega, ((CHX.rfl.fld (by simp) (by decide)).trans (CHX.sub f546 (by simp) (by simp) (by simp))), by omega, ((FA.rfl.put).trans (FA.of F550 (by decide)))⟩
            · refine tn_aload_n dX7_step_188 rfl 3 rfl ?_
              refine tn_getR (ci := 7) (i := 14) (n := 69) (x := xq8) dX7_step_189 rfl lay_7 (by decide) fl7_72 ha rfl rfl (rc_o (by decide) (hx7)) ?_
              refine tn_iload_n dX7_step_192 rfl 2 rfl ?_
              refine tn_bipush dX7_step_193 (by decide) ?_
              refine tn_callV (M := m_X7_step) (pc := 195) (ix := 117) (ci := 1) (M' := m_X1_get) (As := [.int (iI v6), .int (iI 12)]) (rest := []) dX7_step_195 ok_X1_get im_X1_get se_X1_get ml7_117 np_X1_get rfl rfl hk9o rfl (Nat.le_of_ble_eq_true rfl) (Nat.le_of_ble_eq_true rfl) rfl (k_X1_get (d + 3) (T := T) (σ := (sA 67 a (z65) σ)) (a := xq8) (k := v6) (c := 12) hk9o (by omega) (by decide) (hw.put (by decide) (by decide) (fo_67 (by omega))) (by omega)) (fun r553 T555 σ554 gt556 hp => ?_)
              obtain ⟨v558, rfl, rfl, rfl, f557⟩ := hp
              clear gt556
              show Tn _ _ 198 T (sA 67 a (z65) σ) [(3, .int (iI z67)), (2, .int (iI v60)), (1, .int (iI v6)), (0, .ref a)] [.int (iI v558)] _
              refine tn_goto (tgt := 202) dX7_step_198 (by decide) ?_
              refine tn_istore_n (L' := [(3, .int (iI v558)), (2, .int (iI v60)), (1, .int (iI v6)), (0, .ref a)]) dX7_step_202 rfl (by decide) rfl ?_
              refine tn_goto (tgt := 375) dX7_step_203 (by decide) ?_
              refine tn_aload_n dX7_step_375 rfl 3 rfl ?_
              obtain ⟨hk561, hl562⟩ : AR T xb 1 9 9 := ar_of (wf_60 hw ha) hxb
              have hk561i : IA T xb := by unfold IA; omega
              refine tn_getR (ci := 7) (i := 5) (n := 60) (x := xb) dX7_step_376 rfl lay_7 (by decide) fl7_15 ha rfl rfl (rc_o (by decide) (hxb)) ?_
              refine tn_aload_n dX7_step_379 rfl 3 rfl ?_
              refine tn_getI (ci := 7) (i := 2) (n := 57) (t := σ.2.1 57 a) dX7_step_380 rfl lay_7 (by decide) fl7_65 ha rfl rfl (rc_o (by decide) (rfl)) ?_
              have g563 : ((0 : Int) ≤ σ.2.1 57 a ∧ σ.2.1 57 a ≤ 11184800) ∧ ((T a).1 = 57 → σ.2.1 57 a ≤ 8) := wf_57 hw ha
              have g563x := g563.2
              replace g563 := g563.1
              clear g563x
              refine tn_iload_n dX7_step_383 rfl 0 rfl ?_
              refine tn_callSN (M := m_X7_step) (pc := 384) (ix := 61) (M' := m_X11_put) (As := [.ref xb, .int (iI (σ.2.1 57 a)), .int (iI v558)]) (rest := []) dX7_step_384 ok_X11_put stt_X11_put nl7_61 np_X11_put rfl (Nat.le_of_ble_eq_true rfl) (Nat.le_of_ble_eq_true rfl) rfl (k_X11_put_x (d + 3) (T := T) (σ := (sA 67 a (z65) σ)) (x := xb) (i := σ.2.1 57 a) (y := v558) hk561i (by omega) (by omega) (by omega) (hw.put (by decide) (by decide) (fo_67 (by omega))) (nh_k hk561 (by unfold HT; omega)) (vok_1 (by have q9 := hk561; omega) (by omega))) (fun r564 T566 σ565 gt567 hp => ?_)
              obtain ⟨rfl, rfl, w571, F572, f568, f569⟩ := hp
              clear gt567
              show Tn _ _ 387 T σ565 [(3, .int (iI v558)), (2, .int (iI v60)), (1, .int (iI v6)), (0, .ref a)] [] _
              refine tn_iload_n dX7_step_387 rfl 1 rfl ?_
              refine tn_bipush dX7_step_388 (by decide) ?_
              refine tn_icmp_ne (tgt := 397) dX7_step_390 (by decide) ⟨by omega, by omega⟩ ⟨by decide, by decide⟩ (fun h573 => ?_) (fun h573 => absurd h573 (by omega))
              refine tn_iconst dX7_step_397 ?_
              have q574 : σ565.2.1 57 a = σ.2.1 57 a := rc_F F572 (Or.inl (by decide)) (by decide) (rc_o (by decide) (rfl))
              exact tn_zret (v := 0) rfl (by decide) dX7_step_398 ⟨_, rfl, rfl, w571, ((FrC.rfl.put (by decide) (by decide)).trans (FrC.sub F572 (by decide))), by omega, ((CHX.rfl.fld (by simp) (by decide)).trans (CHX.sub f568 (by simp) (by simp) (by simp))), by omega, ((FA.rfl.put).trans (FA.of F572 (by decide)))⟩
          · refine tn_tableIn (tgt := 206) (off := 138) dX7_step_68 (x := v60) ⟨by omega, by omega⟩ (by omega) (by omega) (by rw [h114]; rfl) (by decide) ?_
            refine tn_aload_n dX7_step_206 rfl 3 rfl ?_
            refine tn_iload_n dX7_step_207 rfl 2 rfl ?_
            obtain ⟨hk577, hl578⟩ : AR T xa 15 9 9 := ar_of (wf_59 hw ha) hxa
            have hk577i : IA T xa := by unfold IA; omega
            obtain ⟨hk581, hl582⟩ : AR T xb 1 9 9 := ar_of (wf_60 hw ha) hxb
            have hk581i : IA T xb := by unfold IA; omega
            obtain ⟨hl586, hk585a, hk585b⟩ := ex_at (wf_61 hw ha) hxc
            have hk585 : (T xc).1 = 1 := hk585b (by omega)
            clear hk585a hk585b
            have hk585i : IA T xc := by unfold IA; omega
            obtain ⟨hk589, hl590⟩ : AR T xd 1 108 108 := ar_of (wf_62 hw ha) hxd
            have hk589i : IA T xd := by unfold IA; omega
            obtain ⟨hk593, hl594⟩ : AR T xe 1 1728 1728 := ar_of (wf_63 hw ha) hxe
            have hk593i : IA T xe := by unfold IA; omega
            obtain ⟨hk597, hl598⟩ : AR T xf 1 200 200 := ar_of (wf_64 hw ha) hxf
            have hk597i : IA T xf := by unfold IA; omega
            have q603 : (sA 67 a (z65) σ).2.1 57 a = σ.2.1 57 a := rc_o (by decide) (rfl)
            refine tn_callV (M := m_X7_step) (pc := 208) (ix := 120) (ci := 7) (M' := m_X7_callFrom) (As := [.int (iI v6)]) (rest := []) dX7_step_208 ok_X7_callFrom im_X7_callFrom se_X7_callFrom ml7_120 np_X7_callFrom rfl rfl ha rfl (Nat.le_of_ble_eq_true rfl) (Nat.le_of_ble_eq_true rfl) rfl (k_X7_callFrom_h (d) (T := T) (σ := (sA 67 a (z65) σ)) (a := a) (k := v6) (xa := xa) (xb := xb) (xc := xc) (xd := xd) (xe := xe) (xf := xf) ha hta (by omega) (hw.put (by decide) (by decide) (fo_67 (by omega))) (rc_o (by decide) (hxa)) (rc_o (by decide) (hxb)) (rc_o (by decide) (hxc)) (rc_o (by decide) (hxd)) (rc_o (by decide) (hxe)) (rc_o (by decide) (hxf)) (by rw [show (sA 67 a (z65) σ).2.1 69 a = _ from rc_o (by decide) (hx7)]; omega) (by rw [show (sA 67 a (z65) σ).2.1 57 a = σ.2.1 57 a from rc_o (by decide) (rfl)]; omega)) (fun r599 T601 σ600 gt602 hp => ?_)
            obtain ⟨rfl, rfl, w608, F609, f604, f605, f606⟩ := hp
            clear gt602
            show Tn _ _ 211 T σ600 [(3, .int (iI z67)), (2, .int (iI v60)), (1, .int (iI v6)), (0, .ref a)] [] _
            refine tn_iconst dX7_step_211 ?_
            have q610 : σ600.2.1 57 a = σ600.2.1 57 a := rfl
            exact tn_zret (v := 0) rfl (by decide) dX7_step_212 ⟨_, rfl, rfl, w608, ((FrC.rfl.put (by decide) (by decide)).trans (FrC.sub F609 (by decide))), by omega, ((CHX.rfl.fld (by simp) (by decide)).trans (CHX.sub f604 (by simp) (by simp) (by simp))), by omega, ((FA.rfl.put).trans f606)⟩
          · refine tn_tableIn (tgt := 225) (off := 157) dX7_step_68 (x := v60) ⟨by omega, by omega⟩ (by omega) (by omega) (by rw [h114]; rfl) (by decide) ?_
            refine tn_aload_n dX7_step_225 rfl 3 rfl ?_
            obtain ⟨hk613, hl614⟩ : AR T xd 1 108 108 := ar_of (wf_62 hw ha) hxd
            have hk613i : IA T xd := by unfold IA; omega
            refine tn_getR (ci := 7) (i := 7) (n := 62) (x := xd) dX7_step_226 rfl lay_7 (by decide) fl7_21 ha rfl rfl (rc_o (by decide) (hxd)) ?_
            refine tn_aload_n dX7_step_229 rfl 3 rfl ?_
            refine tn_getI (ci := 7) (i := 2) (n := 57) (t := σ.2.1 57 a) dX7_step_230 rfl lay_7 (by decide) fl7_65 ha rfl rfl (rc_o (by decide) (rfl)) ?_
            have g615 : ((0 : Int) ≤ σ.2.1 57 a ∧ σ.2.1 57 a ≤ 11184800) ∧ ((T a).1 = 57 → σ.2.1 57 a ≤ 8) := wf_57 hw ha
            have g615x := g615.2
            replace g615 := g615.1
            clear g615x
            refine tn_bipush dX7_step_233 (by decide) ?_
            refine tn_imul dX7_step_235 ?_
            refine tn_aload_n dX7_step_236 rfl 3 rfl ?_
            refine tn_getR (ci := 7) (i := 14) (n := 69) (x := xq8) dX7_step_237 rfl lay_7 (by decide) fl7_72 ha rfl rfl (rc_o (by decide) (hx7)) ?_
            refine tn_iload_n dX7_step_240 rfl 2 rfl ?_
            refine tn_iconst dX7_step_241 ?_
            refine tn_callV (M := m_X7_step) (pc := 242) (ix := 117) (ci := 1) (M' := m_X1_get) (As := [.int (iI v6), .int (iI 2)]) (rest := [.int (iI ((σ.2.1 57 a) * 12)), .ref xd]) dX7_step_242 ok_X1_get im_X1_get se_X1_get ml7_117 np_X1_get rfl rfl hk9o rfl (Nat.le_of_ble_eq_true rfl) (Nat.le_of_ble_eq_true rfl) rfl (k_X1_get (d + 3) (T := T) (σ := (sA 67 a (z65) σ)) (a := xq8) (k := v6) (c := 2) hk9o (by omega) (by decide) (hw.put (by decide) (by decide) (fo_67 (by omega))) (by omega)) (fun r616 T618 σ617 gt619 hp => ?_)
            obtain ⟨v621, rfl, rfl, rfl, f620⟩ := hp
            clear gt619
            show Tn _ _ 245 T (sA 67 a (z65) σ) [(3, .int (iI z67)), (2, .int (iI v60)), (1, .int (iI v6)), (0, .ref a)] [.int (iI v621), .int (iI ((σ.2.1 57 a) * 12)), .ref xd] _
            refine tn_iadd dX7_step_245 ?_
            refine tn_any (fun z622 g623 => ?_)
            have g623r : -2147483648 ≤ z622 ∧ z622 ≤ 2147483647 := g623
            refine tn_aload_n dX7_step_246 rfl 3 rfl ?_
            refine tn_getR (ci := 7) (i := 14) (n := 69) (x := xq8) dX7_step_247 rfl lay_7 (by decide) fl7_72 ha rfl rfl (rc_o (by decide) (hx7)) ?_
            refine tn_iload_n dX7_step_250 rfl 2 rfl ?_
            refine tn_iconst dX7_step_251 ?_
            refine tn_callV (M := m_X7_step) (pc := 252) (ix := 117) (ci := 1) (M' := m_X1_get) (As := [.int (iI v6), .int (iI 1)]) (rest := [.int (iI z622), .ref xd]) dX7_step_252 ok_X1_get im_X1_get se_X1_get ml7_117 np_X1_get rfl rfl hk9o rfl (Nat.le_of_ble_eq_true rfl) (Nat.le_of_ble_eq_true rfl) rfl (k_X1_get (d + 3) (T := T) (σ := (sA 67 a (z65) σ)) (a := xq8) (k := v6) (c := 1) hk9o (by omega) (by decide) (hw.put (by decide) (by decide) (fo_67 (by omega))) (by omega)) (fun r624 T626 σ625 gt627 hp => ?_)
            obtain ⟨v629, rfl, rfl, rfl, f628⟩ := hp
            clear gt627
            show Tn _ _ 255 T (sA 67 a (z65) σ) [(3, .int (iI z67)), (2, .int (iI v60)), (1, .int (iI v6)), (0, .ref a)] [.int (iI v629), .int (iI z622), .ref xd] _
            refine tn_callSN (M := m_X7_step) (pc := 255) (ix := 61) (M' := m_X11_put) (As := [.ref xd, .int (iI z622), .int (iI v629)]) (rest := []) dX7_step_255 ok_X11_put stt_X11_put nl7_61 np_X11_put rfl (Nat.le_of_ble_eq_true rfl) (Nat.le_of_ble_eq_true rfl) rfl (k_X11_put_x (d + 3) (T := T) (σ := (sA 67 a (z65) σ)) (x := xd) (i := z622) (y := v629) hk613i (by omega) (by omega) (by omega) (hw.put (by decide) (by decide) (fo_67 (by omega))) (nh_k hk613 (by unfold HT; omega)) (vok_1 (by have q9 := hk613; omega) (by omega))) (fun r630 T632 σ631 gt633 hp => ?_)
            obtain ⟨rfl, rfl, w637, F638, f634, f635⟩ := hp
            clear gt633
            show Tn _ _ 258 T σ631 [(3, .int (iI z67)), (2, .int (iI v60)), (1, .int (iI v6)), (0, .ref a)] [] _
            refine tn_goto (tgt := 375) dX7_step_258 (by decide) ?_
            refine tn_aload_n dX7_step_375 rfl 3 rfl ?_
            obtain ⟨hk641, hl642⟩ : AR T xb 1 9 9 := ar_of (wf_60 hw ha) hxb
            have hk641i : IA T xb := by unfold IA; omega
            refine tn_getR (ci := 7) (i := 5) (n := 60) (x := xb) dX7_step_376 rfl lay_7 (by decide) fl7_15 ha rfl rfl (rc_F F638 (Or.inl (by decide)) (by decide) (rc_o (by decide) (hxb))) ?_
            refine tn_aload_n dX7_step_379 rfl 3 rfl ?_
            refine tn_getI (ci := 7) (i := 2) (n := 57) (t := σ.2.1 57 a) dX7_step_380 rfl lay_7 (by decide) fl7_65 ha rfl rfl (rc_F F638 (Or.inl (by decide)) (by decide) (rc_o (by decide) (rfl))) ?_
            refine tn_iload_n dX7_step_383 rfl 0 rfl ?_
            refine tn_callSN (M := m_X7_step) (pc := 384) (ix := 61) (M' := m_X11_put) (As := [.ref xb, .int (iI (σ.2.1 57 a)), .int (iI z67)]) (rest := []) dX7_step_384 ok_X11_put stt_X11_put nl7_61 np_X11_put rfl (Nat.le_of_ble_eq_true rfl) (Nat.le_of_ble_eq_true rfl) rfl (k_X11_put_x (d + 3) (T := T) (σ := σ631) (x := xb) (i := σ.2.1 57 a) (y := z67) hk641i (by omega) (by omega) (by omega) w637 (nh_k hk641 (by unfold HT; omega)) (vok_1 (by have q9 := hk641; omega) (by omega))) (fun r643 T645 σ644 gt646 hp => ?_)
            obtain ⟨rfl, rfl, w650, F651, f647, f648⟩ := hp
            clear gt646
            show Tn _ _ 387 T σ644 [(3, .int (iI z67)), (2, .int (iI v60)), (1, .int (iI v6)), (0, .ref a)] [] _
            refine tn_iload_n dX7_step_387 rfl 1 rfl ?_
            refine tn_bipush dX7_step_388 (by decide) ?_
            refine tn_icmp_ne (tgt := 397) dX7_step_390 (by decide) ⟨by omega, by omega⟩ ⟨by decide, by decide⟩ (fun h652 => absurd h652 (by omega)) (fun h652 => ?_)
            refine tn_iconst dX7_step_393 ?_
            refine tn_goto (tgt := 398) dX7_step_394 (by decide) ?_
            have q653 : σ644.2.1 57 a = σ.2.1 57 a := rc_F F651 (Or.inl (by decide)) (by decide) (rc_F F638 (Or.inl (by decide)) (by decide) (rc_o (by decide) (rfl)))
            exact tn_zret (v := 1) rfl (by decide) dX7_step_398 ⟨_, rfl, rfl, w650, (((FrC.rfl.put (by decide) (by decide)).trans (FrC.sub F638 (by decide))).trans (FrC.sub F651 (by decide))), by omega, (((CHX.rfl.fld (by simp) (by decide)).trans (CHX.sub f634 (by simp) (by simp) (by simp))).trans (CHX.sub f647 (by simp) (by simp) (by simp))), by omega, (((FA.rfl.put).trans (FA.of F638 (by decide))).trans (FA.of F651 (by decide)))⟩
          · refine tn_tableIn (tgt := 369) (off := 301) dX7_step_68 (x := v60) ⟨by omega, by omega⟩ (by omega) (by omega) (by rw [h114]; rfl) (by decide) ?_
            refine tn_aload_n dX7_step_369 rfl 3 rfl ?_
            refine tn_iload_n dX7_step_370 rfl 2 rfl ?_
            refine tn_iload_n dX7_step_371 rfl 1 rfl ?_
            obtain ⟨hk656, hl657⟩ : AR T xa 15 9 9 := ar_of (wf_59 hw ha) hxa
            have hk656i : IA T xa := by unfold IA; omega
            obtain ⟨hk660, hl661⟩ : AR T xb 1 9 9 := ar_of (wf_60 hw ha) hxb
            have hk660i : IA T xb := by unfold IA; omega
            obtain ⟨hl665, hk664a, hk664b⟩ := ex_at (wf_61 hw ha) hxc
            have hk664 : (T xc).1 = 1 := hk664b (by omega)
            clear hk664a hk664b
            have hk664i : IA T xc := by unfold IA; omega
            obtain ⟨hk668, hl669⟩ : AR T xd 1 108 108 := ar_of (wf_62 hw ha) hxd
            have hk668i : IA T xd := by unfold IA; omega
            obtain ⟨hk672, hl673⟩ : AR T xe 1 1728 1728 := ar_of (wf_63 hw ha) hxe
            have hk672i : IA T xe := by unfold IA; omega
            obtain ⟨hk676, hl677⟩ : AR T xf 1 200 200 := ar_of (wf_64 hw ha) hxf
            have hk676i : IA T xf := by unfold IA; omega
            refine tn_callV (M := m_X7_step) (pc := 372) (ix := 129) (ci := 7) (M' := m_X7_reckonAt) (As := [.int (iI v6), .int (iI v60)]) (rest := []) dX7_step_372 ok_X7_reckonAt im_X7_reckonAt se_X7_reckonAt ml7_129 np_X7_reckonAt rfl rfl ha rfl (Nat.le_of_ble_eq_true rfl) (Nat.le_of_ble_eq_true rfl) rfl (k_X7_reckonAt_h (d + 1) (T := T) (σ := (sA 67 a (z65) σ)) (a := a) (k := v6) (e := v60) (xa := xa) (xb := xb) (xc := xc) (xd := xd) (xe := xe) (xf := xf) ha (by omega) (by omega) (hw.put (by decide) (by decide) (fo_67 (by omega))) (rc_o (by decide) (hxa)) (rc_o (by decide) (hxb)) (rc_o (by decide) (hxc)) (rc_o (by decide) (hxd)) (rc_o (by decide) (hxe)) (rc_o (by decide) (hxf)) (by rw [show (sA 67 a (z65) σ).2.1 69 a = _ from rc_o (by decide) (hx7)]; omega)) (fun r678 T680 σ679 gt681 hp => ?_)
            obtain ⟨rfl, rfl, w684, F685, f682⟩ := hp
            clear gt681
            show Tn _ _ 375 T σ679 [(3, .int (iI z67)), (2, .int (iI v60)), (1, .int (iI v6)), (0, .ref a)] [] _
            refine tn_aload_n dX7_step_375 rfl 3 rfl ?_
            refine tn_getR (ci := 7) (i := 5) (n := 60) (x := xb) dX7_step_376 rfl lay_7 (by decide) fl7_15 ha rfl rfl (rc_F F685 (Or.inl (by decide)) (by decide) (rc_o (by decide) (hxb))) ?_
            refine tn_aload_n dX7_step_379 rfl 3 rfl ?_
            refine tn_getI (ci := 7) (i := 2) (n := 57) (t := σ.2.1 57 a) dX7_step_380 rfl lay_7 (by decide) fl7_65 ha rfl rfl (rc_F F685 (Or.inl (by decide)) (by decide) (rc_o (by decide) (rfl))) ?_
            have g686 : ((0 : Int) ≤ σ.2.1 57 a ∧ σ.2.1 57 a ≤ 11184800) ∧ ((T a).1 = 57 → σ.2.1 57 a ≤ 8) := wf_57 hw ha
            have g686x := g686.2
            replace g686 := g686.1
            clear g686x
            refine tn_iload_n dX7_step_383 rfl 0 rfl ?_
            refine tn_callSN (M := m_X7_step) (pc := 384) (ix := 61) (M' := m_X11_put) (As := [.ref xb, .int (iI (σ.2.1 57 a)), .int (iI z67)]) (rest := []) dX7_step_384 ok_X11_put stt_X11_put nl7_61 np_X11_put rfl (Nat.le_of_ble_eq_true rfl) (Nat.le_of_ble_eq_true rfl) rfl (k_X11_put_x (d + 3) (T := T) (σ := σ679) (x := xb) (i := σ.2.1 57 a) (y := z67) hk660i (by omega) (by omega) (by omega) w684 (nh_k hk660 (by unfold HT; omega)) (vok_1 (by have q9 := hk660; omega) (by omega))) (fun r687 T689 σ688 gt690 hp => ?_)
            obtain ⟨rfl, rfl, w694, F695, f691, f692⟩ := hp
            clear gt690
            show Tn _ _ 387 T σ688 [(3, .int (iI z67)), (2, .int (iI v60)), (1, .int (iI v6)), (0, .ref a)] [] _
            refine tn_iload_n dX7_step_387 rfl 1 rfl ?_
            refine tn_bipush dX7_step_388 (by decide) ?_
            refine tn_icmp_ne (tgt := 397) dX7_step_390 (by decide) ⟨by omega, by omega⟩ ⟨by decide, by decide⟩ (fun h696 => ?_) (fun h696 => absurd h696 (by omega))
            refine tn_iconst dX7_step_397 ?_
            have q697 : σ688.2.1 57 a = σ.2.1 57 a := rc_F F695 (Or.inl (by decide)) (by decide) (rc_F F685 (Or.inl (by decide)) (by decide) (rc_o (by decide) (rfl)))
            exact tn_zret (v := 0) rfl (by decide) dX7_step_398 ⟨_, rfl, rfl, w694, (((FrC.rfl.put (by decide) (by decide)).trans (FrC.sub F685 (by decide))).trans (FrC.sub F695 (by decide))), by omega, (((CHX.rfl.fld (by simp) (by decide)).trans (CHX.sub f682 (by simp) (by simp) (by simp))).trans (CHX.sub f691 (by simp) (by simp) (by simp))), by omega, (((FA.rfl.put).trans (FA.of F685 (by decide))).trans (FA.of F695 (by decide)))⟩
          · refine tn_tableIn (tgt := 369) (off := 301) dX7_step_68 (x := v60) ⟨by omega, by omega⟩ (by omega) (by omega) (by rw [h114]; rfl) (by decide) ?_
            refine tn_aload_n dX7_step_369 rfl 3 rfl ?_
            refine tn_iload_n dX7_step_370 rfl 2 rfl ?_
            refine tn_iload_n dX7_step_371 rfl 1 rfl ?_
            obtain ⟨hk700, hl701⟩ : AR T xa 15 9 9 := ar_of (wf_59 hw ha) hxa
            have hk700i : IA T xa := by unfold IA; omega
            obtain ⟨hk704, hl705⟩ : AR T xb 1 9 9 := ar_of (wf_60 hw ha) hxb
            have hk704i : IA T xb := by unfold IA; omega
            obtain ⟨hl709, hk708a, hk708b⟩ := ex_at (wf_61 hw ha) hxc
            have hk708 : (T xc).1 = 1 := hk708b (by omega)
            clear hk708a hk708b
            have hk708i : IA T xc := by unfold IA; omega
            obtain ⟨hk712, hl713⟩ : AR T xd 1 108 108 := ar_of (wf_62 hw ha) hxd
            have hk712i : IA T xd := by unfold IA; omega
            obtain ⟨hk716, hl717⟩ : AR T xe 1 1728 1728 := ar_of (wf_63 hw ha) hxe
            have hk716i : IA T xe := by unfold IA; omega
            obtain ⟨hk720, hl721⟩ : AR T xf 1 200 200 := ar_of (wf_64 hw ha) hxf
            have hk720i : IA T xf := by unfold IA; omega
            refine tn_callV (M := m_X7_step) (pc := 372) (ix := 129) (ci := 7) (M' := m_X7_reckonAt) (As := [.int (iI v6), .int (iI v60)]) (rest := []) dX7_step_372 ok_X7_reckonAt im_X7_reckonAt se_X7_reckonAt ml7_129 np_X7_reckonAt rfl rfl ha rfl (Nat.le_of_ble_eq_true rfl) (Nat.le_of_ble_eq_true rfl) rfl (k_X7_reckonAt_h (d + 1) (T := T) (σ := (sA 67 a (z65) σ)) (a := a) (k := v6) (e := v60) (xa := xa) (xb := xb) (xc := xc) (xd := xd) (xe := xe) (xf := xf) ha (by omega) (by omega) (hw.put (by decide) (by decide) (fo_67 (by omega))) (rc_o (by decide) (hxa)) (rc_o (by decide) (hxb)) (rc_o (by decide) (hxc)) (rc_o (by decide) (hxd)) (rc_o (by decide) (hxe)) (rc_o (by decide) (hxf)) (by rw [show (sA 67 a (z65) σ).2.1 69 a = _ from rc_o (by decide) (hx7)]; omega)) (fun r722 T724 σ723 gt725 hp => ?_)
            obtain ⟨rfl, rfl, w728, F729, f726⟩ := hp
            clear gt725
            show Tn _ _ 375 T σ723 [(3, .int (iI z67)), (2, .int (iI v60)), (1, .int (iI v6)), (0, .ref a)] [] _
            refine tn_aload_n dX7_step_375 rfl 3 rfl ?_
            refine tn_getR (ci := 7) (i := 5) (n := 60) (x := xb) dX7_step_376 rfl lay_7 (by decide) fl7_15 ha rfl rfl (rc_F F729 (Or.inl (by decide)) (by decide) (rc_o (by decide) (hxb))) ?_
            refine tn_aload_n dX7_step_379 rfl 3 rfl ?_
            refine tn_getI (ci := 7) (i := 2) (n := 57) (t := σ.2.1 57 a) dX7_step_380 rfl lay_7 (by decide) fl7_65 ha rfl rfl (rc_F F729 (Or.inl (by decide)) (by decide) (rc_o (by decide) (rfl))) ?_
            have g730 : ((0 : Int) ≤ σ.2.1 57 a ∧ σ.2.1 57 a ≤ 11184800) ∧ ((T a).1 = 57 → σ.2.1 57 a ≤ 8) := wf_57 hw ha
            have g730x := g730.2
            replace g730 := g730.1
            clear g730x
            refine tn_iload_n dX7_step_383 rfl 0 rfl ?_
            refine tn_callSN (M := m_X7_step) (pc := 384) (ix := 61) (M' := m_X11_put) (As := [.ref xb, .int (iI (σ.2.1 57 a)), .int (iI z67)]) (rest := []) dX7_step_384 ok_X11_put stt_X11_put nl7_61 np_X11_put rfl (Nat.le_of_ble_eq_true rfl) (Nat.le_of_ble_eq_true rfl) rfl (k_X11_put_x (d + 3) (T := T) (σ := σ723) (x := xb) (i := σ.2.1 57 a) (y := z67) hk704i (by omega) (by omega) (by omega) w728 (nh_k hk704 (by unfold HT; omega)) (vok_1 (by have q9 := hk704; omega) (by omega))) (fun r731 T733 σ732 gt734 hp => ?_)
            obtain ⟨rfl, rfl, w738, F739, f735, f736⟩ := hp
            clear gt734
            show Tn _ _ 387 T σ732 [(3, .int (iI z67)), (2, .int (iI v60)), (1, .int (iI v6)), (0, .ref a)] [] _
            refine tn_iload_n dX7_step_387 rfl 1 rfl ?_
            refine tn_bipush dX7_step_388 (by decide) ?_
            refine tn_icmp_ne (tgt := 397) dX7_step_390 (by decide) ⟨by omega, by omega⟩ ⟨by decide, by decide⟩ (fun h740 => ?_) (fun h740 => absurd h740 (by omega))
            refine tn_iconst dX7_step_397 ?_
            have q741 : σ732.2.1 57 a = σ.2.1 57 a := rc_F F739 (Or.inl (by decide)) (by decide) (rc_F F729 (Or.inl (by decide)) (by decide) (rc_o (by decide) (rfl)))
            exact tn_zret (v := 0) rfl (by decide) dX7_step_398 ⟨_, rfl, rfl, w738, (((FrC.rfl.put (by decide) (by decide)).trans (FrC.sub F729 (by decide))).trans (FrC.sub F739 (by decide))), by omega, (((CHX.rfl.fld (by simp) (by decide)).trans (CHX.sub f726 (by simp) (by simp) (by simp))).trans (CHX.sub f735 (by simp) (by simp) (by simp))), by omega, (((FA.rfl.put).trans (FA.of F729 (by decide))).trans (FA.of F739 (by decide)))⟩
          · refine tn_tableIn (tgt := 261) (off := 193) dX7_step_68 (x := v60) ⟨by omega, by omega⟩ (by omega) (by omega) (by rw [h114]; rfl) (by decide) ?_
            refine tn_aload_n dX7_step_261 rfl 3 rfl ?_
            refine tn_dup dX7_step_262 rfl ?_
            refine tn_getI (ci := 7) (i := 3) (n := 58) (t := σ.2.1 58 a) dX7_step_263 rfl lay_7 (by decide) fl7_38 ha rfl rfl (rc_o (by decide) (rfl)) ?_
            refine tn_iconst dX7_step_266 ?_
            refine tn_iadd dX7_step_267 ?_
            refine tn_putV (ci := 7) (i := 3) (n := 58) (r := false) (v := (σ.2.1 58 a) + 1) tyX7 tyX7_ok nmX7 dX7_step_268 rfl lay_7 (by decide) fl7_38 rfl (tyX7_ok 3 (by decide)) rfl rfl rfl ha rfl rfl ?_
            refine tn_aload_n dX7_step_271 rfl 3 rfl ?_
            obtain ⟨hl745, hk744a, hk744b⟩ := ex_at (wf_61 hw ha) hxc
            have hk744 : (T xc).1 = 1 := hk744b (by omega)
            clear hk744a hk744b
            have hk744i : IA T xc := by unfold IA; omega
            refine tn_getR (ci := 7) (i := 6) (n := 61) (x := xc) dX7_step_272 rfl lay_7 (by decide) fl7_18 ha rfl rfl (rc_o (by decide) (rc_o (by decide) (hxc))) ?_
            refine tn_aload_n dX7_step_275 rfl 3 rfl ?_
            refine tn_getI (ci := 7) (i := 2) (n := 57) (t := σ.2.1 57 a) dX7_step_276 rfl lay_7 (by decide) fl7_65 ha rfl rfl (rc_o (by decide) (rc_o (by decide) (rfl))) ?_
            have g746 : ((0 : Int) ≤ σ.2.1 57 a ∧ σ.2.1 57 a ≤ 11184800) ∧ ((T a).1 = 57 → σ.2.1 57 a ≤ 8) := wf_57 hw ha
            have g746x := g746.2
            replace g746 := g746.1
            clear g746x
            refine tn_aload_n dX7_step_279 rfl 3 rfl ?_
            refine tn_getR (ci := 7) (i := 14) (n := 69) (x := xq8) dX7_step_280 rfl lay_7 (by decide) fl7_72 ha rfl rfl (rc_o (by decide) (rc_o (by decide) (hx7))) ?_
            refine tn_iload_n dX7_step_283 rfl 2 rfl ?_
            refine tn_iconst dX7_step_284 ?_
            refine tn_callV (M := m_X7_step) (pc := 285) (ix := 117) (ci := 1) (M' := m_X1_get) (As := [.int (iI v6), .int (iI 1)]) (rest := [.int (iI (σ.2.1 57 a)), .ref xc]) dX7_step_285 ok_X1_get im_X1_get se_X1_get ml7_117 np_X1_get rfl rfl hk9o rfl (Nat.le_of_ble_eq_true rfl) (Nat.le_of_ble_eq_true rfl) rfl (k_X1_get (d + 3) (T := T) (σ := (sA 58 a ((σ.2.1 58 a) + 1) (sA 67 a (z65) σ))) (a := xq8) (k := v6) (c := 1) hk9o (by omega) (by decide) ((hw.put (by decide) (by decide) (fo_67 (by omega))).put (by decide) (by decide) (fo_58 (by omega))) (by omega)) (fun r747 T749 σ748 gt750 hp => ?_)
            obtain ⟨v752, rfl, rfl, rfl, f751⟩ := hp
            clear gt750
            show Tn _ _ 288 T (sA 58 a ((σ.2.1 58 a) + 1) (sA 67 a (z65) σ)) [(3, .int (iI z67)), (2, .int (iI v60)), (1, .int (iI v6)), (0, .ref a)] [.int (iI v752), .int (iI (σ.2.1 57 a)), .ref xc] _
            refine tn_callSN (M := m_X7_step) (pc := 288) (ix := 61) (M' := m_X11_put) (As := [.ref xc, .int (iI (σ.2.1 57 a)), .int (iI v752)]) (rest := []) dX7_step_288 ok_X11_put stt_X11_put nl7_61 np_X11_put rfl (Nat.le_of_ble_eq_true rfl) (Nat.le_of_ble_eq_true rfl) rfl (k_X11_put_x (d + 3) (T := T) (σ := (sA 58 a ((σ.2.1 58 a) + 1) (sA 67 a (z65) σ))) (x := xc) (i := σ.2.1 57 a) (y := v752) hk744i (by omega) (by omega) (by omega) ((hw.put (by decide) (by decide) (fo_67 (by omega))).put (by decide) (by decide) (fo_58 (by omega))) (nh_k hk744 (by unfold HT; omega)) (vok_1 (by have q9 := hk744; omega) (by omega))) (fun r753 T755 σ754 gt756 hp => ?_)
            obtain ⟨rfl, rfl, w760, F761, f757, f758⟩ := hp
            clear gt756
            show Tn _ _ 291 T σ754 [(3, .int (iI z67)), (2, .int (iI v60)), (1, .int (iI v6)), (0, .ref a)] [] _
            refine tn_aload_n dX7_step_291 rfl 3 rfl ?_
            obtain ⟨hk764, hl765⟩ : AR T xd 1 108 108 := ar_of (wf_62 hw ha) hxd
            have hk764i : IA T xd := by unfold IA; omega
            refine tn_getR (ci := 7) (i := 7) (n := 62) (x := xd) dX7_step_292 rfl lay_7 (by decide) fl7_21 ha rfl rfl (rc_F F761 (Or.inl (by decide)) (by decide) (rc_o (by decide) (rc_o (by decide) (hxd)))) ?_
            refine tn_aload_n dX7_step_295 rfl 3 rfl ?_
            refine tn_getI (ci := 7) (i := 2) (n := 57) (t := σ.2.1 57 a) dX7_step_296 rfl lay_7 (by decide) fl7_65 ha rfl rfl (rc_F F761 (Or.inl (by decide)) (by decide) (rc_o (by decide) (rc_o (by decide) (rfl)))) ?_
            refine tn_bipush dX7_step_299 (by decide) ?_
            refine tn_imul dX7_step_301 ?_
            refine tn_aload_n dX7_step_302 rfl 3 rfl ?_
            refine tn_getR (ci := 7) (i := 14) (n := 69) (x := xq8) dX7_step_303 rfl lay_7 (by decide) fl7_72 ha rfl rfl (rc_F F761 (Or.inl (by decide)) (by decide) (rc_o (by decide) (rc_o (by decide) (hx7)))) ?_
            refine tn_iload_n dX7_step_306 rfl 2 rfl ?_
            refine tn_iconst dX7_step_307 ?_
            refine tn_callV (M := m_X7_step) (pc := 308) (ix := 117) (ci := 1) (M' := m_X1_get) (As := [.int (iI v6), .int (iI 1)]) (rest := [.int (iI ((σ.2.1 57 a) * 12)), .ref xd]) dX7_step_308 ok_X1_get im_X1_get se_X1_get ml7_117 np_X1_get rfl rfl hk9o rfl (Nat.le_of_ble_eq_true rfl) (Nat.le_of_ble_eq_true rfl) rfl (k_X1_get (d + 3) (T := T) (σ := σ754) (a := xq8) (k := v6) (c := 1) hk9o (by omega) (by decide) w760 (by omega)) (fun r766 T768 σ767 gt769 hp => ?_)
            obtain ⟨v771, rfl, rfl, rfl, f770⟩ := hp
            clear gt769
            show Tn _ _ 311 T σ754 [(3, .int (iI z67)), (2, .int (iI v60)), (1, .int (iI v6)), (0, .ref a)] [.int (iI v771), .int (iI ((σ.2.1 57 a) * 12)), .ref xd] _
            refine tn_iadd dX7_step_311 ?_
            refine tn_any (fun z772 g773 => ?_)
            have g773r : -2147483648 ≤ z772 ∧ z772 ≤ 2147483647 := g773
            refine tn_iconst dX7_step_312 ?_
            refine tn_callSN (M := m_X7_step) (pc := 313) (ix := 61) (M' := m_X11_put) (As := [.ref xd, .int (iI z772), .int (iI 0)]) (rest := []) dX7_step_313 ok_X11_put stt_X11_put nl7_61 np_X11_put rfl (Nat.le_of_ble_eq_true rfl) (Nat.le_of_ble_eq_true rfl) rfl (k_X11_put_x (d + 3) (T := T) (σ := σ754) (x := xd) (i := z772) (y := 0) hk764i (by omega) (by omega) (by decide) w760 (nh_k hk764 (by unfold HT; omega)) vok_0) (fun r774 T776 σ775 gt777 hp => ?_)
            obtain ⟨rfl, rfl, w781, F782, f778, f779⟩ := hp
            clear gt777
            show Tn _ _ 316 T σ775 [(3, .int (iI z67)), (2, .int (iI v60)), (1, .int (iI v6)), (0, .ref a)] [] _
            refine tn_goto (tgt := 375) dX7_step_316 (by decide) ?_
            refine tn_aload_n dX7_step_375 rfl 3 rfl ?_
            obtain ⟨hk785, hl786⟩ : AR T xb 1 9 9 := ar_of (wf_60 hw ha) hxb
            have hk785i : IA T xb := by unfold IA; omega
            refine tn_getR (ci := 7) (i := 5) (n := 60) (x := xb) dX7_step_376 rfl lay_7 (by decide) fl7_15 ha rfl rfl (rc_F F782 (Or.inl (by decide)) (by decide) (rc_F F761 (Or.inl (by decide)) (by decide) (rc_o (by decide) (rc_o (by decide) (hxb))))) ?_
            refine tn_aload_n dX7_step_379 rfl 3 rfl ?_
            refine tn_getI (ci := 7) (i := 2) (n := 57) (t := σ.2.1 57 a) dX7_step_380 rfl lay_7 (by decide) fl7_65 ha rfl rfl (rc_F F782 (Or.inl (by decide)) (by decide) (rc_F F761 (Or.inl (by decide)) (by decide) (rc_o (by decide) (rc_o (by decide) (rfl))))) ?_
            refine tn_iload_n dX7_step_383 rfl 0 rfl ?_
            refine tn_callSN (M := m_X7_step) (pc := 384) (ix := 61) (M' := m_X11_put) (As := [.ref xb, .int (iI (σ.2.1 57 a)), .int (iI z67)]) (rest := []) dX7_step_384 ok_X11_put stt_X11_put nl7_61 np_X11_put rfl (Nat.le_of_ble_eq_true rfl) (Nat.le_of_ble_eq_true rfl) rfl (k_X11_put_x (d + 3) (T := T) (σ := σ775) (x := xb) (i := σ.2.1 57 a) (y := z67) hk785i (by omega) (by omega) (by omega) w781 (nh_k hk785 (by unfold HT; omega)) (vok_1 (by have q9 := hk785; omega) (by omega))) (fun r787 T789 σ788 gt790 hp => ?_)
            obtain ⟨rfl, rfl, w794, F795, f791, f792⟩ := hp
            clear gt790
            show Tn _ _ 387 T σ788 [(3, .int (iI z67)), (2, .int (iI v60)), (1, .int (iI v6)), (0, .ref a)] [] _
            refine tn_iload_n dX7_step_387 rfl 1 rfl ?_
            refine tn_bipush dX7_step_388 (by decide) ?_
            refine tn_icmp_ne (tgt := 397) dX7_step_390 (by decide) ⟨by omega, by omega⟩ ⟨by decide, by decide⟩ (fun h796 => ?_) (fun h796 => absurd h796 (by omega))
            refine tn_iconst dX7_step_397 ?_
            have q797 : σ788.2.1 57 a = σ.2.1 57 a := rc_F F795 (Or.inl (by decide)) (by decide) (rc_F F782 (Or.inl (by decide)) (by decide) (rc_F F761 (Or.inl (by decide)) (by decide) (rc_o (by decide) (rc_o (by decide) (rfl)))))
            exact tn_zret (v := 0) rfl (by decide) dX7_step_398 ⟨_, rfl, rfl, w794, (((((FrC.rfl.put (by decide) (by decide)).put (by decide) (by decide)).trans (FrC.sub F761 (by decide))).trans (FrC.sub F782 (by decide))).trans (FrC.sub F795 (by decide))), by omega, (((((CHX.rfl.fld (by simp) (by decide)).fld (by simp) (by decide)).trans (CHX.sub f757 (by simp) (by simp) (by simp))).trans (CHX.sub f778 (by simp) (by simp) (by simp))).trans (CHX.sub f791 (by simp) (by simp) (by simp))), by omega, (((((FA.rfl.put).put).trans (FA.of F761 (by decide))).trans (FA.of F782 (by decide))).trans (FA.of F795 (by decide)))⟩
          · refine tn_tableIn (tgt := 319) (off := 251) dX7_step_68 (x := v60) ⟨by omega, by omega⟩ (by omega) (by omega) (by rw [h114]; rfl) (by decide) ?_
            refine tn_aload_n dX7_step_319 rfl 3 rfl ?_
            refine tn_dup dX7_step_320 rfl ?_
            refine tn_getI (ci := 7) (i := 3) (n := 58) (t := σ.2.1 58 a) dX7_step_321 rfl lay_7 (by decide) fl7_38 ha rfl rfl (rc_o (by decide) (rfl)) ?_
            refine tn_iconst dX7_step_324 ?_
            refine tn_isub dX7_step_325 ?_
            refine tn_any (fun z798 g799 => ?_)
            have g799r : -2147483648 ≤ z798 ∧ z798 ≤ 2147483647 := g799
            refine tn_putV (ci := 7) (i := 3) (n := 58) (r := false) (v := z798) tyX7 tyX7_ok nmX7 dX7_step_326 rfl lay_7 (by decide) fl7_38 rfl (tyX7_ok 3 (by decide)) rfl rfl rfl ha rfl rfl ?_
            refine tn_aload_n dX7_step_329 rfl 3 rfl ?_
            obtain ⟨hl803, hk802a, hk802b⟩ := ex_at (wf_61 hw ha) hxc
            have hk802 : (T xc).1 = 1 := hk802b (by omega)
            clear hk802a hk802b
            have hk802i : IA T xc := by unfold IA; omega
            refine tn_getR (ci := 7) (i := 6) (n := 61) (x := xc) dX7_step_330 rfl lay_7 (by decide) fl7_18 ha rfl rfl (rc_o (by decide) (rc_o (by decide) (hxc))) ?_
            refine tn_aload_n dX7_step_333 rfl 3 rfl ?_
            refine tn_getI (ci := 7) (i := 2) (n := 57) (t := σ.2.1 57 a) dX7_step_334 rfl lay_7 (by decide) fl7_65 ha rfl rfl (rc_o (by decide) (rc_o (by decide) (rfl))) ?_
            have g804 : ((0 : Int) ≤ σ.2.1 57 a ∧ σ.2.1 57 a ≤ 11184800) ∧ ((T a).1 = 57 → σ.2.1 57 a ≤ 8) := wf_57 hw ha
            have g804x := g804.2
            replace g804 := g804.1
            clear g804x
            refine tn_aload_n dX7_step_337 rfl 3 rfl ?_
            refine tn_getR (ci := 7) (i := 14) (n := 69) (x := xq8) dX7_step_338 rfl lay_7 (by decide) fl7_72 ha rfl rfl (rc_o (by decide) (rc_o (by decide) (hx7))) ?_
            obtain ⟨xq805, hx806, hk807, hl808⟩ : ∃ x : Nat, σ.2.1 12 xq8 = (x : Int) ∧ AR T x 1 12 12 := wf_12 hw hk9o
            have hk807i : IA T xq805 := by unfold IA; omega
            refine tn_getR (ci := 1) (i := 7) (n := 12) (x := xq805) dX7_step_341 rfl lay_1 (by decide) fl7_126 hk9o rfl rfl (rc_o (by decide) (rc_o (by decide) (hx806))) ?_
            refine tn_aload_n dX7_step_344 rfl 3 rfl ?_
            refine tn_getR (ci := 7) (i := 14) (n := 69) (x := xq8) dX7_step_345 rfl lay_7 (by decide) fl7_72 ha rfl rfl (rc_o (by decide) (rc_o (by decide) (hx7))) ?_
            refine tn_iload_n dX7_step_348 rfl 2 rfl ?_
            refine tn_iconst dX7_step_349 ?_
            refine tn_callV (M := m_X7_step) (pc := 350) (ix := 117) (ci := 1) (M' := m_X1_get) (As := [.int (iI v6), .int (iI 1)]) (rest := [.ref xq805, .int (iI (σ.2.1 57 a)), .ref xc]) dX7_step_350 ok_X1_get im_X1_get se_X1_get ml7_117 np_X1_get rfl rfl hk9o rfl (Nat.le_of_ble_eq_true rfl) (Nat.le_of_ble_eq_true rfl) rfl (k_X1_get (d + 3) (T := T) (σ := (sA 58 a (z798) (sA 67 a (z65) σ))) (a := xq8) (k := v6) (c := 1) hk9o (by omega) (by decide) ((hw.put (by decide) (by decide) (fo_67 (by omega))).put (by decide) (by decide) (fo_58 (by omega))) (by omega)) (fun r809 T811 σ810 gt812 hp => ?_)
            obtain ⟨v814, rfl, rfl, rfl, f813⟩ := hp
            clear gt812
            show Tn _ _ 353 T (sA 58 a (z798) (sA 67 a (z65) σ)) [(3, .int (iI z67)), (2, .int (iI v60)), (1, .int (iI v6)), (0, .ref a)] [.int (iI v814), .ref xq805, .int (iI (σ.2.1 57 a)), .ref xc] _
            refine tn_callSN (M := m_X7_step) (pc := 353) (ix := 91) (M' := m_X11_at) (As := [.ref xq805, .int (iI v814)]) (rest := [.int (iI (σ.2.1 57 a)), .ref xc]) dX7_step_353 ok_X11_at stt_X11_at nl7_91 np_X11_at rfl (Nat.le_of_ble_eq_true rfl) (Nat.le_of_ble_eq_true rfl) rfl (k_X11_at (d + 3) (T := T) (σ := (sA 58 a (z798) (sA 67 a (z65) σ))) (x := xq805) (i := v814) hk807i (by omega) (by omega) ((hw.put (by decide) (by decide) (fo_67 (by omega))).put (by decide) (by decide) (fo_58 (by omega))) ) (fun r815 T817 σ816 gt818 hp => ?_)
            obtain ⟨v822, rfl, rfl, rfl, f819, f820, f821⟩ := hp
            clear gt818
            clear f820
            show Tn _ _ 356 T (sA 58 a (z798) (sA 67 a (z65) σ)) [(3, .int (iI z67)), (2, .int (iI v60)), (1, .int (iI v6)), (0, .ref a)] [.int (iI v822), .int (iI (σ.2.1 57 a)), .ref xc] _
            refine tn_callSN (M := m_X7_step) (pc := 356) (ix := 61) (M' := m_X11_put) (As := [.ref xc, .int (iI (σ.2.1 57 a)), .int (iI v822)]) (rest := []) dX7_step_356 ok_X11_put stt_X11_put nl7_61 np_X11_put rfl (Nat.le_of_ble_eq_true rfl) (Nat.le_of_ble_eq_true rfl) rfl (k_X11_put_x (d + 3) (T := T) (σ := (sA 58 a (z798) (sA 67 a (z65) σ))) (x := xc) (i := σ.2.1 57 a) (y := v822) hk802i (by omega) (by omega) (by omega) ((hw.put (by decide) (by decide) (fo_67 (by omega))).put (by decide) (by decide) (fo_58 (by omega))) (nh_k hk802 (by unfold HT; omega)) (vok_1 (by have q9 := hk802; omega) (by omega))) (fun r823 T825 σ824 gt826 hp => ?_)
            obtain ⟨rfl, rfl, w830, F831, f827, f828⟩ := hp
            clear gt826
            show Tn _ _ 359 T σ824 [(3, .int (iI z67)), (2, .int (iI v60)), (1, .int (iI v6)), (0, .ref a)] [] _
            refine tn_goto (tgt := 375) dX7_step_359 (by decide) ?_
            refine tn_aload_n dX7_step_375 rfl 3 rfl ?_
            obtain ⟨hk834, hl835⟩ : AR T xb 1 9 9 := ar_of (wf_60 hw ha) hxb
            have hk834i : IA T xb := by unfold IA; omega
            refine tn_getR (ci := 7) (i := 5) (n := 60) (x := xb) dX7_step_376 rfl lay_7 (by decide) fl7_15 ha rfl rfl (rc_F F831 (Or.inl (by decide)) (by decide) (rc_o (by decide) (rc_o (by decide) (hxb)))) ?_
            refine tn_aload_n dX7_step_379 rfl 3 rfl ?_
            refine tn_getI (ci := 7) (i := 2) (n := 57) (t := σ.2.1 57 a) dX7_step_380 rfl lay_7 (by decide) fl7_65 ha rfl rfl (rc_F F831 (Or.inl (by decide)) (by decide) (rc_o (by decide) (rc_o (by decide) (rfl)))) ?_
            refine tn_iload_n dX7_step_383 rfl 0 rfl ?_
            refine tn_callSN (M := m_X7_step) (pc := 384) (ix := 61) (M' := m_X11_put) (As := [.ref xb, .int (iI (σ.2.1 57 a)), .int (iI z67)]) (rest := []) dX7_step_384 ok_X11_put stt_X11_put nl7_61 np_X11_put rfl (Nat.le_of_ble_eq_true rfl) (Nat.le_of_ble_eq_true rfl) rfl (k_X11_put_x (d + 3) (T := T) (σ := σ824) (x := xb) (i := σ.2.1 57 a) (y := z67) hk834i (by omega) (by omega) (by omega) w830 (nh_k hk834 (by unfold HT; omega)) (vok_1 (by have q9 := hk834; omega) (by omega))) (fun r836 T838 σ837 gt839 hp => ?_)
            obtain ⟨rfl, rfl, w843, F844, f840, f841⟩ := hp
            clear gt839
            show Tn _ _ 387 T σ837 [(3, .int (iI z67)), (2, .int (iI v60)), (1, .int (iI v6)), (0, .ref a)] [] _
            refine tn_iload_n dX7_step_387 rfl 1 rfl ?_
            refine tn_bipush dX7_step_388 (by decide) ?_
            refine tn_icmp_ne (tgt := 397) dX7_step_390 (by decide) ⟨by omega, by omega⟩ ⟨by decide, by decide⟩ (fun h845 => ?_) (fun h845 => absurd h845 (by omega))
            refine tn_iconst dX7_step_397 ?_
            have q846 : σ837.2.1 57 a = σ.2.1 57 a := rc_F F844 (Or.inl (by decide)) (by decide) (rc_F F831 (Or.inl (by decide)) (by decide) (rc_o (by decide) (rc_o (by decide) (rfl))))
            exact tn_zret (v := 0) rfl (by decide) dX7_step_398 ⟨_, rfl, rfl, w843, ((((FrC.rfl.put (by decide) (by decide)).put (by decide) (by decide)).trans (FrC.sub F831 (by decide))).trans (FrC.sub F844 (by decide))), by omega, ((((CHX.rfl.fld (by simp) (by decide)).fld (by simp) (by decide)).trans (CHX.sub f827 (by simp) (by simp) (by simp))).trans (CHX.sub f840 (by simp) (by simp) (by simp))), by omega, ((((FA.rfl.put).put).trans (FA.of F831 (by decide))).trans (FA.of F844 (by decide)))⟩
      · refine tn_aload_n dX7_step_46 rfl 2 rfl ?_
        refine tn_iconst dX7_step_47 ?_
        refine tn_putV (ci := 7) (i := 1) (n := 56) (r := false) (v := 3) tyX7 tyX7_ok nmX7 dX7_step_48 rfl lay_7 (by decide) fl7_34 rfl (tyX7_ok 1 (by decide)) rfl rfl rfl ha rfl rfl ?_
        refine tn_iconst dX7_step_51 ?_
        have q847 : (sA 56 a (3) σ).2.1 57 a = σ.2.1 57 a := rc_o (by decide) (rfl)
        exact tn_zret (v := 0) rfl (by decide) dX7_step_52 ⟨_, rfl, rfl, (hw.put (by decide) (by decide) (fo_56 (by omega))), (FrC.rfl.put (by decide) (by decide)), by omega, (CHX.rfl.fld (by simp) (by decide)), by omega, (FA.rfl.put)⟩
    · refine tn_iload_n dX7_step_31 rfl 0 rfl ?_
      refine tn_bipush dX7_step_32 (by decide) ?_
      refine tn_icmp_ne (tgt := 53) dX7_step_34 (by decide) ⟨by omega, by omega⟩ ⟨by decide, by decide⟩ (fun h848 => ?_) (fun h848 => ?_)
      · refine tn_aload_n dX7_step_53 rfl 2 rfl ?_
        refine tn_dup dX7_step_54 rfl ?_
        refine tn_getI (ci := 7) (i := 12) (n := 67) (t := σ.2.1 67 a) dX7_step_55 rfl lay_7 (by decide) fl7_47 ha rfl rfl (rfl) ?_
        have g849 : ((-2147483648 : Int) ≤ σ.2.1 67 a ∧ σ.2.1 67 a ≤ 2147483647) := wf_67 hw ha
        refine tn_iconst dX7_step_58 ?_
        refine tn_iadd dX7_step_59 ?_
        refine tn_any (fun z850 g851 => ?_)
        have g851r : -2147483648 ≤ z850 ∧ z850 ≤ 2147483647 := g851
        refine tn_putV (ci := 7) (i := 12) (n := 67) (r := false) (v := z850) tyX7 tyX7_ok nmX7 dX7_step_60 rfl lay_7 (by decide) fl7_47 rfl (tyX7_ok 12 (by decide)) rfl rfl rfl ha rfl rfl ?_
        refine tn_iload_n dX7_step_63 rfl 1 rfl ?_
        refine tn_iconst dX7_step_64 ?_
        refine tn_iadd dX7_step_65 ?_
        refine tn_any (fun z852 g853 => ?_)
        have g853r : -2147483648 ≤ z852 ∧ z852 ≤ 2147483647 := g853
        refine tn_istore_n (L' := [(3, .int (iI z852)), (2, .int (iI v60)), (1, .int (iI v6)), (0, .ref a)]) dX7_step_66 rfl (by decide) rfl ?_
        refine tn_iload_n dX7_step_67 rfl 1 rfl ?_
        by_cases h854 : v60 < -1 ∨ 15 < v60
        · refine tn_tableOut (tgt := 369) dX7_step_68 (x := v60) ⟨by omega, by omega⟩ h854 (by decide) ?_
          refine tn_aload_n dX7_step_369 rfl 3 rfl ?_
          refine tn_iload_n dX7_step_370 rfl 2 rfl ?_
          refine tn_iload_n dX7_step_371 rfl 1 rfl ?_
          obtain ⟨hk857, hl858⟩ : AR T xa 15 9 9 := ar_of (wf_59 hw ha) hxa
          have hk857i : IA T xa := by unfold IA; omega
          obtain ⟨hk861, hl862⟩ : AR T xb 1 9 9 := ar_of (wf_60 hw ha) hxb
          have hk861i : IA T xb := by unfold IA; omega
          obtain ⟨hl866, hk865a, hk865b⟩ := ex_at (wf_61 hw ha) hxc
          have hk865 : (T xc).1 = 1 := hk865b (by omega)
          clear hk865a hk865b
          have hk865i : IA T xc := by unfold IA; omega
          obtain ⟨hk869, hl870⟩ : AR T xd 1 108 108 := ar_of (wf_62 hw ha) hxd
          have hk869i : IA T xd := by unfold IA; omega
          obtain ⟨hk873, hl874⟩ : AR T xe 1 1728 1728 := ar_of (wf_63 hw ha) hxe
          have hk873i : IA T xe := by unfold IA; omega
          obtain ⟨hk877, hl878⟩ : AR T xf 1 200 200 := ar_of (wf_64 hw ha) hxf
          have hk877i : IA T xf := by unfold IA; omega
          refine tn_callV (M := m_X7_step) (pc := 372) (ix := 129) (ci := 7) (M' := m_X7_reckonAt) (As := [.int (iI v6), .int (iI v60)]) (rest := []) dX7_step_372 ok_X7_reckonAt im_X7_reckonAt se_X7_reckonAt ml7_129 np_X7_reckonAt rfl rfl ha rfl (Nat.le_of_ble_eq_true rfl) (Nat.le_of_ble_eq_true rfl) rfl (k_X7_reckonAt_h (d + 1) (T := T) (σ := (sA 67 a (z850) σ)) (a := a) (k := v6) (e := v60) (xa := xa) (xb := xb) (xc := xc) (xd := xd) (xe := xe) (xf := xf) ha (by omega) (by omega) (hw.put (by decide) (by decide) (fo_67 (by omega))) (rc_o (by decide) (hxa)) (rc_o (by decide) (hxb)) (rc_o (by decide) (hxc)) (rc_o (by decide) (hxd)) (rc_o (by decide) (hxe)) (rc_o (by decide) (hxf)) (by rw [show (sA 67 a (z850) σ).2.1 69 a = _ from rc_o (by decide) (hx7)]; omega)) (fun r879 T881 σ880 gt882 hp => ?_)
          obtain ⟨rfl, rfl, w885, F886, f883⟩ := hp
          clear gt882
          show Tn _ _ 375 T σ880 [(3, .int (iI z852)), (2, .int (iI v60)), (1, .int (iI v6)), (0, .ref a)] [] _
          refine tn_aload_n dX7_step_375 rfl 3 rfl ?_
          refine tn_getR (ci := 7) (i := 5) (n := 60) (x := xb) dX7_step_376 rfl lay_7 (by decide) fl7_15 ha rfl rfl (rc_F F886 (Or.inl (by decide)) (by decide) (rc_o (by decide) (hxb))) ?_
          refine tn_aload_n dX7_step_379 rfl 3 rfl ?_
          refine tn_getI (ci := 7) (i := 2) (n := 57) (t := σ.2.1 57 a) dX7_step_380 rfl lay_7 (by decide) fl7_65 ha rfl rfl (rc_F F886 (Or.inl (by decide)) (by decide) (rc_o (by decide) (rfl))) ?_
          have g887 : ((0 : Int) ≤ σ.2.1 57 a ∧ σ.2.1 57 a ≤ 11184800) ∧ ((T a).1 = 57 → σ.2.1 57 a ≤ 8) := wf_57 hw ha
          have g887x := g887.2
          replace g887 := g887.1
          clear g887x
          refine tn_iload_n dX7_step_383 rfl 0 rfl ?_
          refine tn_callSN (M := m_X7_step) (pc := 384) (ix := 61) (M' := m_X11_put) (As := [.ref xb, .int (iI (σ.2.1 57 a)), .int (iI z852)]) (rest := []) dX7_step_384 ok_X11_put stt_X11_put nl7_61 np_X11_put rfl (Nat.le_of_ble_eq_true rfl) (Nat.le_of_ble_eq_true rfl) rfl (k_X11_put_x (d + 3) (T := T) (σ := σ880) (x := xb) (i := σ.2.1 57 a) (y := z852) hk861i (by omega) (by omega) (by omega) w885 (nh_k hk861 (by unfold HT; omega)) (vok_1 (by have q9 := hk861; omega) (by omega))) (fun r888 T890 σ889 gt891 hp => ?_)
          obtain ⟨rfl, rfl, w895, F896, f892, f893⟩ := hp
          clear gt891
          show Tn _ _ 387 T σ889 [(3, .int (iI z852)), (2, .int (iI v60)), (1, .int (iI v6)), (0, .ref a)] [] _
          refine tn_iload_n dX7_step_387 rfl 1 rfl ?_
          refine tn_bipush dX7_step_388 (by decide) ?_
          refine tn_icmp_ne (tgt := 397) dX7_step_390 (by decide) ⟨by omega, by omega⟩ ⟨by decide, by decide⟩ (fun h897 => ?_) (fun h897 => ?_)
          · refine tn_iconst dX7_step_397 ?_
            have q898 : σ889.2.1 57 a = σ.2.1 57 a := rc_F F896 (Or.inl (by decide)) (by decide) (rc_F F886 (Or.inl (by decide)) (by decide) (rc_o (by decide) (rfl)))
            exact tn_zret (v := 0) rfl (by decide) dX7_step_398 ⟨_, rfl, rfl, w895, (((FrC.rfl.put (by decide) (by decide)).trans (FrC.sub F886 (by decide))).trans (FrC.sub F896 (by decide))), by omega, (((CHX.rfl.fld (by simp) (by decide)).trans (CHX.sub f883 (by simp) (by simp) (by simp))).trans (CHX.sub f892 (by simp) (by simp) (by simp))), by omega, (((FA.rfl.put).trans (FA.of F886 (by decide))).trans (FA.of F896 (by decide)))⟩
          · refine tn_iconst dX7_step_393 ?_
            refine tn_goto (tgt := 398) dX7_step_394 (by decide) ?_
            have q899 : σ889.2.1 57 a = σ.2.1 57 a := rc_F F896 (Or.inl (by decide)) (by decide) (rc_F F886 (Or.inl (by decide)) (by decide) (rc_o (by decide) (rfl)))
            exact tn_zret (v := 1) rfl (by decide) dX7_step_398 ⟨_, rfl, rfl, w895, (((FrC.rfl.put (by decide) (by decide)).trans (FrC.sub F886 (by decide))).trans (FrC.sub F896 (by decide))), by omega, (((CHX.rfl.fld (by simp) (by decide)).trans (CHX.sub f883 (by simp) (by simp) (by simp))).trans (CHX.sub f892 (by simp) (by simp) (by simp))), by omega, (((FA.rfl.put).trans (FA.of F886 (by decide))).trans (FA.of F896 (by decide)))⟩
        · have h900 : v60 = -1 ∨ v60 = 0 ∨ v60 = 1 ∨ v60 = 2 ∨ v60 = 3 ∨ v60 = 4 ∨ v60 = 5 ∨ v60 = 6 ∨ v60 = 7 ∨ v60 = 8 ∨ v60 = 9 ∨ v60 = 10 ∨ v60 = 11 ∨ v60 = 12 ∨ v60 = 13 ∨ v60 = 14 ∨ v60 = 15 := by omega
          rcases h900 with h900 | h900 | h900 | h900 | h900 | h900 | h900 | h900 | h900 | h900 | h900 | h900 | h900 | h900 | h900 | h900 | h900
          · refine tn_tableIn (tgt := 362) (off := 294) dX7_step_68 (x := v60) ⟨by omega, by omega⟩ (by omega) (by omega) (by rw [h900]; rfl) (by decide) ?_
            refine tn_aload_n dX7_step_362 rfl 3 rfl ?_
            refine tn_iconst dX7_step_363 ?_
            obtain ⟨hk903, hl904⟩ : AR T xa 15 9 9 := ar_of (wf_59 hw ha) hxa
            have hk903i : IA T xa := by unfold IA; omega
            obtain ⟨hk907, hl908⟩ : AR T xb 1 9 9 := ar_of (wf_60 hw ha) hxb
            have hk907i : IA T xb := by unfold IA; omega
            obtain ⟨hl912, hk911a, hk911b⟩ := ex_at (wf_61 hw ha) hxc
            have hk911 : (T xc).1 = 1 := hk911b (by omega)
            clear hk911a hk911b
            have hk911i : IA T xc := by unfold IA; omega
            obtain ⟨hk915, hl916⟩ : AR T xd 1 108 108 := ar_of (wf_62 hw ha) hxd
            have hk915i : IA T xd := by unfold IA; omega
            obtain ⟨hk919, hl920⟩ : AR T xe 1 1728 1728 := ar_of (wf_63 hw ha) hxe
            have hk919i : IA T xe := by unfold IA; omega
            obtain ⟨hk923, hl924⟩ : AR T xf 1 200 200 := ar_of (wf_64 hw ha) hxf
            have hk923i : IA T xf := by unfold IA; omega
            have q929 : (sA 67 a (z850) σ).2.1 57 a = σ.2.1 57 a := rc_o (by decide) (rfl)
            refine tn_callV (M := m_X7_step) (pc := 364) (ix := 123) (ci := 7) (M' := m_X7_giveBack) (As := [.int (iI 0)]) (rest := []) dX7_step_364 ok_X7_giveBack im_X7_giveBack se_X7_giveBack ml7_123 np_X7_giveBack rfl rfl ha rfl (Nat.le_of_ble_eq_true rfl) (Nat.le_of_ble_eq_true rfl) rfl (k_X7_giveBack_h (d + 1) (T := T) (σ := (sA 67 a (z850) σ)) (a := a) (n := 0) (xa := xa) (xb := xb) (xc := xc) (xd := xd) (xe := xe) (xf := xf) ha hta (by decide) (hw.put (by decide) (by decide) (fo_67 (by omega))) (rc_o (by decide) (hxa)) (rc_o (by decide) (hxb)) (rc_o (by decide) (hxc)) (rc_o (by decide) (hxd)) (rc_o (by decide) (hxe)) (rc_o (by decide) (hxf))) (fun r925 T927 σ926 gt928 hp => ?_)
            obtain ⟨rfl, rfl, w934, F935, f930, f931, f932⟩ := hp
            clear gt928
            show Tn _ _ 367 T σ926 [(3, .int (iI z852)), (2, .int (iI v60)), (1, .int (iI v6)), (0, .ref a)] [] _
            refine tn_iconst dX7_step_367 ?_
            have q936 : σ926.2.1 57 a = σ926.2.1 57 a := rfl
            exact tn_zret (v := 0) rfl (by decide) dX7_step_368 ⟨_, rfl, rfl, w934, ((FrC.rfl.put (by decide) (by decide)).trans (FrC.sub F935 (by decide))), by omega, ((CHX.rfl.fld (by simp) (by decide)).trans (CHX.sub f930 (by simp) (by simp) (by simp))), by omega, ((FA.rfl.put).trans f932)⟩
          · refine tn_tableIn (tgt := 369) (off := 301) dX7_step_68 (x := v60) ⟨by omega, by omega⟩ (by omega) (by omega) (by rw [h900]; rfl) (by decide) ?_
            refine tn_aload_n dX7_step_369 rfl 3 rfl ?_
            refine tn_iload_n dX7_step_370 rfl 2 rfl ?_
            refine tn_iload_n dX7_step_371 rfl 1 rfl ?_
            obtain ⟨hk939, hl940⟩ : AR T xa 15 9 9 := ar_of (wf_59 hw ha) hxa
            have hk939i : IA T xa := by unfold IA; omega
            obtain ⟨hk943, hl944⟩ : AR T xb 1 9 9 := ar_of (wf_60 hw ha) hxb
            have hk943i : IA T xb := by unfold IA; omega
            obtain ⟨hl948, hk947a, hk947b⟩ := ex_at (wf_61 hw ha) hxc
            have hk947 : (T xc).1 = 1 := hk947b (by omega)
            clear hk947a hk947b
            have hk947i : IA T xc := by unfold IA; omega
            obtain ⟨hk951, hl952⟩ : AR T xd 1 108 108 := ar_of (wf_62 hw ha) hxd
            have hk951i : IA T xd := by unfold IA; omega
            obtain ⟨hk955, hl956⟩ : AR T xe 1 1728 1728 := ar_of (wf_63 hw ha) hxe
            have hk955i : IA T xe := by unfold IA; omega
            obtain ⟨hk959, hl960⟩ : AR T xf 1 200 200 := ar_of (wf_64 hw ha) hxf
            have hk959i : IA T xf := by unfold IA; omega
            refine tn_callV (M := m_X7_step) (pc := 372) (ix := 129) (ci := 7) (M' := m_X7_reckonAt) (As := [.int (iI v6), .int (iI v60)]) (rest := []) dX7_step_372 ok_X7_reckonAt im_X7_reckonAt se_X7_reckonAt ml7_129 np_X7_reckonAt rfl rfl ha rfl (Nat.le_of_ble_eq_true rfl) (Nat.le_of_ble_eq_true rfl) rfl (k_X7_reckonAt_h (d + 1) (T := T) (σ := (sA 67 a (z850) σ)) (a := a) (k := v6) (e := v60) (xa := xa) (xb := xb) (xc := xc) (xd := xd) (xe := xe) (xf := xf) ha (by omega) (by omega) (hw.put (by decide) (by decide) (fo_67 (by omega))) (rc_o (by decide) (hxa)) (rc_o (by decide) (hxb)) (rc_o (by decide) (hxc)) (rc_o (by decide) (hxd)) (rc_o (by decide) (hxe)) (rc_o (by decide) (hxf)) (by rw [show (sA 67 a (z850) σ).2.1 69 a = _ from rc_o (by decide) (hx7)]; omega)) (fun r961 T963 σ962 gt964 hp => ?_)
            obtain ⟨rfl, rfl, w967, F968, f965⟩ := hp
            clear gt964
            show Tn _ _ 375 T σ962 [(3, .int (iI z852)), (2, .int (iI v60)), (1, .int (iI v6)), (0, .ref a)] [] _
            refine tn_aload_n dX7_step_375 rfl 3 rfl ?_
            refine tn_getR (ci := 7) (i := 5) (n := 60) (x := xb) dX7_step_376 rfl lay_7 (by decide) fl7_15 ha rfl rfl (rc_F F968 (Or.inl (by decide)) (by decide) (rc_o (by decide) (hxb))) ?_
            refine tn_aload_n dX7_step_379 rfl 3 rfl ?_
            refine tn_getI (ci := 7) (i := 2) (n := 57) (t := σ.2.1 57 a) dX7_step_380 rfl lay_7 (by decide) fl7_65 ha rfl rfl (rc_F F968 (Or.inl (by decide)) (by decide) (rc_o (by decide) (rfl))) ?_
            have g969 : ((0 : Int) ≤ σ.2.1 57 a ∧ σ.2.1 57 a ≤ 11184800) ∧ ((T a).1 = 57 → σ.2.1 57 a ≤ 8) := wf_57 hw ha
            have g969x := g969.2
            replace g969 := g969.1
            clear g969x
            refine tn_iload_n dX7_step_383 rfl 0 rfl ?_
            refine tn_callSN (M := m_X7_step) (pc := 384) (ix := 61) (M' := m_X11_put) (As := [.ref xb, .int (iI (σ.2.1 57 a)), .int (iI z852)]) (rest := []) dX7_step_384 ok_X11_put stt_X11_put nl7_61 np_X11_put rfl (Nat.le_of_ble_eq_true rfl) (Nat.le_of_ble_eq_true rfl) rfl (k_X11_put_x (d + 3) (T := T) (σ := σ962) (x := xb) (i := σ.2.1 57 a) (y := z852) hk943i (by omega) (by omega) (by omega) w967 (nh_k hk943 (by unfold HT; omega)) (vok_1 (by have q9 := hk943; omega) (by omega))) (fun r970 T972 σ971 gt973 hp => ?_)
            obtain ⟨rfl, rfl, w977, F978, f974, f975⟩ := hp
            clear gt973
            show Tn _ _ 387 T σ971 [(3, .int (iI z852)), (2, .int (iI v60)), (1, .int (iI v6)), (0, .ref a)] [] _
            refine tn_iload_n dX7_step_387 rfl 1 rfl ?_
            refine tn_bipush dX7_step_388 (by decide) ?_
            refine tn_icmp_ne (tgt := 397) dX7_step_390 (by decide) ⟨by omega, by omega⟩ ⟨by decide, by decide⟩ (fun h979 => ?_) (fun h979 => absurd h979 (by omega))
            refine tn_iconst dX7_step_397 ?_
            have q980 : σ971.2.1 57 a = σ.2.1 57 a := rc_F F978 (Or.inl (by decide)) (by decide) (rc_F F968 (Or.inl (by decide)) (by decide) (rc_o (by decide) (rfl)))
            exact tn_zret (v := 0) rfl (by decide) dX7_step_398 ⟨_, rfl, rfl, w977, (((FrC.rfl.put (by decide) (by decide)).trans (FrC.sub F968 (by decide))).trans (FrC.sub F978 (by decide))), by omega, (((CHX.rfl.fld (by simp) (by decide)).trans (CHX.sub f965 (by simp) (by simp) (by simp))).trans (CHX.sub f974 (by simp) (by simp) (by simp))), by omega, (((FA.rfl.put).trans (FA.of F968 (by decide))).trans (FA.of F978 (by decide)))⟩
          · refine tn_tableIn (tgt := 369) (off := 301) dX7_step_68 (x := v60) ⟨by omega, by omega⟩ (by omega) (by omega) (by rw [h900]; rfl) (by decide) ?_
            refine tn_aload_n dX7_step_369 rfl 3 rfl ?_
            refine tn_iload_n dX7_step_370 rfl 2 rfl ?_
            refine tn_iload_n dX7_step_371 rfl 1 rfl ?_
            obtain ⟨hk983, hl984⟩ : AR T xa 15 9 9 := ar_of (wf_59 hw ha) hxa
            have hk983i : IA T xa := by unfold IA; omega
            obtain ⟨hk987, hl988⟩ : AR T xb 1 9 9 := ar_of (wf_60 hw ha) hxb
            have hk987i : IA T xb := by unfold IA; omega
            obtain ⟨hl992, hk991a, hk991b⟩ := ex_at (wf_61 hw ha) hxc
            have hk991 : (T xc).1 = 1 := hk991b (by omega)
            clear hk991a hk991b
            have hk991i : IA T xc := by unfold IA; omega
            obtain ⟨hk995, hl996⟩ : AR T xd 1 108 108 := ar_of (wf_62 hw ha) hxd
            have hk995i : IA T xd := by unfold IA; omega
            obtain ⟨hk999, hl1000⟩ : AR T xe 1 1728 1728 := ar_of (wf_63 hw ha) hxe
            have hk999i : IA T xe := by unfold IA; omega
            obtain ⟨hk1003, hl1004⟩ : AR T xf 1 200 200 := ar_of (wf_64 hw ha) hxf
            have hk1003i : IA T xf := by unfold IA; omega
            refine tn_callV (M := m_X7_step) (pc := 372) (ix := 129) (ci := 7) (M' := m_X7_reckonAt) (As := [.int (iI v6), .int (iI v60)]) (rest := []) dX7_step_372 ok_X7_reckonAt im_X7_reckonAt se_X7_reckonAt ml7_129 np_X7_reckonAt rfl rfl ha rfl (Nat.le_of_ble_eq_true rfl) (Nat.le_of_ble_eq_true rfl) rfl (k_X7_reckonAt_h (d + 1) (T := T) (σ := (sA 67 a (z850) σ)) (a := a) (k := v6) (e := v60) (xa := xa) (xb := xb) (xc := xc) (xd := xd) (xe := xe) (xf := xf) ha (by omega) (by omega) (hw.put (by decide) (by decide) (fo_67 (by omega))) (rc_o (by decide) (hxa)) (rc_o (by decide) (hxb)) (rc_o (by decide) (hxc)) (rc_o (by decide) (hxd)) (rc_o (by decide) (hxe)) (rc_o (by decide) (hxf)) (by rw [show (sA 67 a (z850) σ).2.1 69 a = _ from rc_o (by decide) (hx7)]; omega)) (fun r1005 T1007 σ1006 gt1008 hp => ?_)
            obtain ⟨rfl, rfl, w1011, F1012, f1009⟩ := hp
            clear gt1008
            show Tn _ _ 375 T σ1006 [(3, .int (iI z852)), (2, .int (iI v60)), (1, .int (iI v6)), (0, .ref a)] [] _
            refine tn_aload_n dX7_step_375 rfl 3 rfl ?_
            refine tn_getR (ci := 7) (i := 5) (n := 60) (x := xb) dX7_step_376 rfl lay_7 (by decide) fl7_15 ha rfl rfl (rc_F F1012 (Or.inl (by decide)) (by decide) (rc_o (by decide) (hxb))) ?_
            refine tn_aload_n dX7_step_379 rfl 3 rfl ?_
            refine tn_getI (ci := 7) (i := 2) (n := 57) (t := σ.2.1 57 a) dX7_step_380 rfl lay_7 (by decide) fl7_65 ha rfl rfl (rc_F F1012 (Or.inl (by decide)) (by decide) (rc_o (by decide) (rfl))) ?_
            have g1013 : ((0 : Int) ≤ σ.2.1 57 a ∧ σ.2.1 57 a ≤ 11184800) ∧ ((T a).1 = 57 → σ.2.1 57 a ≤ 8) := wf_57 hw ha
            have g1013x := g1013.2
            replace g1013 := g1013.1
            clear g1013x
            refine tn_iload_n dX7_step_383 rfl 0 rfl ?_
            refine tn_callSN (M := m_X7_step) (pc := 384) (ix := 61) (M' := m_X11_put) (As := [.ref xb, .int (iI (σ.2.1 57 a)), .int (iI z852)]) (rest := []) dX7_step_384 ok_X11_put stt_X11_put nl7_61 np_X11_put rfl (Nat.le_of_ble_eq_true rfl) (Nat.le_of_ble_eq_true rfl) rfl (k_X11_put_x (d + 3) (T := T) (σ := σ1006) (x := xb) (i := σ.2.1 57 a) (y := z852) hk987i (by omega) (by omega) (by omega) w1011 (nh_k hk987 (by unfold HT; omega)) (vok_1 (by have q9 := hk987; omega) (by omega))) (fun r1014 T1016 σ1015 gt1017 hp => ?_)
            obtain ⟨rfl, rfl, w1021, F1022, f1018, f1019⟩ := hp
            clear gt1017
            show Tn _ _ 387 T σ1015 [(3, .int (iI z852)), (2, .int (iI v60)), (1, .int (iI v6)), (0, .ref a)] [] _
            refine tn_iload_n dX7_step_387 rfl 1 rfl ?_
            refine tn_bipush dX7_step_388 (by decide) ?_
            refine tn_icmp_ne (tgt := 397) dX7_step_390 (by decide) ⟨by omega, by omega⟩ ⟨by decide, by decide⟩ (fun h1023 => ?_) (fun h1023 => absurd h1023 (by omega))
            refine tn_iconst dX7_step_397 ?_
            have q1024 : σ1015.2.1 57 a = σ.2.1 57 a := rc_F F1022 (Or.inl (by decide)) (by decide) (rc_F F1012 (Or.inl (by decide)) (by decide) (rc_o (by decide) (rfl)))
            exact tn_zret (v := 0) rfl (by decide) dX7_step_398 ⟨_, rfl, rfl, w1021, (((FrC.rfl.put (by decide) (by decide)).trans (FrC.sub F1012 (by decide))).trans (FrC.sub F1022 (by decide))), by omega, (((CHX.rfl.fld (by simp) (by decide)).trans (CHX.sub f1009 (by simp) (by simp) (by simp))).trans (CHX.sub f1018 (by simp) (by simp) (by simp))), by omega, (((FA.rfl.put).trans (FA.of F1012 (by decide))).trans (FA.of F1022 (by decide)))⟩
          · refine tn_tableIn (tgt := 369) (off := 301) dX7_step_68 (x := v60) ⟨by omega, by omega⟩ (by omega) (by omega) (by rw [h900]; rfl) (by decide) ?_
            refine tn_aload_n dX7_step_369 rfl 3 rfl ?_
            refine tn_iload_n dX7_step_370 rfl 2 rfl ?_
            refine tn_iload_n dX7_step_371 rfl 1 rfl ?_
            obtain ⟨hk1027, hl1028⟩ : AR T xa 15 9 9 := ar_of (wf_59 hw ha) hxa
            have hk1027i : IA T xa := by unfold IA; omega
            obtain ⟨hk1031, hl1032⟩ : AR T xb 1 9 9 := ar_of (wf_60 hw ha) hxb
            have hk1031i : IA T xb := by unfold IA; omega
            obtain ⟨hl1036, hk1035a, hk1035b⟩ := ex_at (wf_61 hw ha) hxc
            have hk1035 : (T xc).1 = 1 := hk1035b (by omega)
            clear hk1035a hk1035b
            have hk1035i : IA T xc := by unfold IA; omega
            obtain ⟨hk1039, hl1040⟩ : AR T xd 1 108 108 := ar_of (wf_62 hw ha) hxd
            have hk1039i : IA T xd := by unfold IA; omega
            obtain ⟨hk1043, hl1044⟩ : AR T xe 1 1728 1728 := ar_of (wf_63 hw ha) hxe
            have hk1043i : IA T xe := by unfold IA; omega
            obtain ⟨hk1047, hl1048⟩ : AR T xf 1 200 200 := ar_of (wf_64 hw ha) hxf
            have hk1047i : IA T xf := by unfold IA; omega
            refine tn_callV (M := m_X7_step) (pc := 372) (ix := 129) (ci := 7) (M' := m_X7_reckonAt) (As := [.int (iI v6), .int (iI v60)]) (rest := []) dX7_step_372 ok_X7_reckonAt im_X7_reckonAt se_X7_reckonAt ml7_129 np_X7_reckonAt rfl rfl ha rfl (Nat.le_of_ble_eq_true rfl) (Nat.le_of_ble_eq_true rfl) rfl (k_X7_reckonAt_h (d + 1) (T := T) (σ := (sA 67 a (z850) σ)) (a := a) (k := v6) (e := v60) (xa := xa) (xb := xb) (xc := xc) (xd := xd) (xe := xe) (xf := xf) ha (by omega) (by omega) (hw.put (by decide) (by decide) (fo_67 (by omega))) (rc_o (by decide) (hxa)) (rc_o (by decide) (hxb)) (rc_o (by decide) (hxc)) (rc_o (by decide) (hxd)) (rc_o (by decide) (hxe)) (rc_o (by decide) (hxf)) (by rw [show (sA 67 a (z850) σ).2.1 69 a = _ from rc_o (by decide) (hx7)]; omega)) (fun r1049 T1051 σ1050 gt1052 hp => ?_)
            obtain ⟨rfl, rfl, w1055, F1056, f1053⟩ := hp
            clear gt1052
            show Tn _ _ 375 T σ1050 [(3, .int (iI z852)), (2, .int (iI v60)), (1, .int (iI v6)), (0, .ref a)] [] _
            refine tn_aload_n dX7_step_375 rfl 3 rfl ?_
            refine tn_getR (ci := 7) (i := 5) (n := 60) (x := xb) dX7_step_376 rfl lay_7 (by decide) fl7_15 ha rfl rfl (rc_F F1056 (Or.inl (by decide)) (by decide) (rc_o (by decide) (hxb))) ?_
            refine tn_aload_n dX7_step_379 rfl 3 rfl ?_
            refine tn_getI (ci := 7) (i := 2) (n := 57) (t := σ.2.1 57 a) dX7_step_380 rfl lay_7 (by decide) fl7_65 ha rfl rfl (rc_F F1056 (Or.inl (by decide)) (by decide) (rc_o (by decide) (rfl))) ?_
            have g1057 : ((0 : Int) ≤ σ.2.1 57 a ∧ σ.2.1 57 a ≤ 11184800) ∧ ((T a).1 = 57 → σ.2.1 57 a ≤ 8) := wf_57 hw ha
            have g1057x := g1057.2
            replace g1057 := g1057.1
            clear g1057x
            refine tn_iload_n dX7_step_383 rfl 0 rfl ?_
            refine tn_callSN (M := m_X7_step) (pc := 384) (ix := 61) (M' := m_X11_put) (As := [.ref xb, .int (iI (σ.2.1 57 a)), .int (iI z852)]) (rest := []) dX7_step_384 ok_X11_put stt_X11_put nl7_61 np_X11_put rfl (Nat.le_of_ble_eq_true rfl) (Nat.le_of_ble_eq_true rfl) rfl (k_X11_put_x (d + 3) (T := T) (σ := σ1050) (x := xb) (i := σ.2.1 57 a) (y := z852) hk1031i (by omega) (by omega) (by omega) w1055 (nh_k hk1031 (by unfold HT; omega)) (vok_1 (by have q9 := hk1031; omega) (by omega))) (fun r1058 T1060 σ1059 gt1061 hp => ?_)
            obtain ⟨rfl, rfl, w1065, F1066, f1062, f1063⟩ := hp
            clear gt1061
            show Tn _ _ 387 T σ1059 [(3, .int (iI z852)), (2, .int (iI v60)), (1, .int (iI v6)), (0, .ref a)] [] _
            refine tn_iload_n dX7_step_387 rfl 1 rfl ?_
            refine tn_bipush dX7_step_388 (by decide) ?_
            refine tn_icmp_ne (tgt := 397) dX7_step_390 (by decide) ⟨by omega, by omega⟩ ⟨by decide, by decide⟩ (fun h1067 => ?_) (fun h1067 => absurd h1067 (by omega))
            refine tn_iconst dX7_step_397 ?_
            have q1068 : σ1059.2.1 57 a = σ.2.1 57 a := rc_F F1066 (Or.inl (by decide)) (by decide) (rc_F F1056 (Or.inl (by decide)) (by decide) (rc_o (by decide) (rfl)))
            exact tn_zret (v := 0) rfl (by decide) dX7_step_398 ⟨_, rfl, rfl, w1065, (((FrC.rfl.put (by decide) (by decide)).trans (FrC.sub F1056 (by decide))).trans (FrC.sub F1066 (by decide))), by omega, (((CHX.rfl.fld (by simp) (by decide)).trans (CHX.sub f1053 (by simp) (by simp) (by simp))).trans (CHX.sub f1062 (by simp) (by simp) (by simp))), by omega, (((FA.rfl.put).trans (FA.of F1056 (by decide))).trans (FA.of F1066 (by decide)))⟩
          · refine tn_tableIn (tgt := 369) (off := 301) dX7_step_68 (x := v60) ⟨by omega, by omega⟩ (by omega) (by omega) (by rw [h900]; rfl) (by decide) ?_
            refine tn_aload_n dX7_step_369 rfl 3 rfl ?_
            refine tn_iload_n dX7_step_370 rfl 2 rfl ?_
            refine tn_iload_n dX7_step_371 rfl 1 rfl ?_
            obtain ⟨hk1071, hl1072⟩ : AR T xa 15 9 9 := ar_of (wf_59 hw ha) hxa
            have hk1071i : IA T xa := by unfold IA; omega
            obtain ⟨hk1075, hl1076⟩ : AR T xb 1 9 9 := ar_of (wf_60 hw ha) hxb
            have hk1075i : IA T xb := by unfold IA; omega
            obtain ⟨hl1080, hk1079a, hk1079b⟩ := ex_at (wf_61 hw ha) hxc
            have hk1079 : (T xc).1 = 1 := hk1079b (by omega)
            clear hk1079a hk1079b
            have hk1079i : IA T xc := by unfold IA; omega
            obtain ⟨hk1083, hl1084⟩ : AR T xd 1 108 108 := ar_of (wf_62 hw ha) hxd
            have hk1083i : IA T xd := by unfold IA; omega
            obtain ⟨hk1087, hl1088⟩ : AR T xe 1 1728 1728 := ar_of (wf_63 hw ha) hxe
            have hk1087i : IA T xe := by unfold IA; omega
            obtain ⟨hk1091, hl1092⟩ : AR T xf 1 200 200 := ar_of (wf_64 hw ha) hxf
            have hk1091i : IA T xf := by unfold IA; omega
            refine tn_callV (M := m_X7_step) (pc := 372) (ix := 129) (ci := 7) (M' := m_X7_reckonAt) (As := [.int (iI v6), .int (iI v60)]) (rest := []) dX7_step_372 ok_X7_reckonAt im_X7_reckonAt se_X7_reckonAt ml7_129 np_X7_reckonAt rfl rfl ha rfl (Nat.le_of_ble_eq_true rfl) (Nat.le_of_ble_eq_true rfl) rfl (k_X7_reckonAt_h (d + 1) (T := T) (σ := (sA 67 a (z850) σ)) (a := a) (k := v6) (e := v60) (xa := xa) (xb := xb) (xc := xc) (xd := xd) (xe := xe) (xf := xf) ha (by omega) (by omega) (hw.put (by decide) (by decide) (fo_67 (by omega))) (rc_o (by decide) (hxa)) (rc_o (by decide) (hxb)) (rc_o (by decide) (hxc)) (rc_o (by decide) (hxd)) (rc_o (by decide) (hxe)) (rc_o (by decide) (hxf)) (by rw [show (sA 67 a (z850) σ).2.1 69 a = _ from rc_o (by decide) (hx7)]; omega)) (fun r1093 T1095 σ1094 gt1096 hp => ?_)
            obtain ⟨rfl, rfl, w1099, F1100, f1097⟩ := hp
            clear gt1096
            show Tn _ _ 375 T σ1094 [(3, .int (iI z852)), (2, .int (iI v60)), (1, .int (iI v6)), (0, .ref a)] [] _
            refine tn_aload_n dX7_step_375 rfl 3 rfl ?_
            refine tn_getR (ci := 7) (i := 5) (n := 60) (x := xb) dX7_step_376 rfl lay_7 (by decide) fl7_15 ha rfl rfl (rc_F F1100 (Or.inl (by decide)) (by decide) (rc_o (by decide) (hxb))) ?_
            refine tn_aload_n dX7_step_379 rfl 3 rfl ?_
            refine tn_getI (ci := 7) (i := 2) (n := 57) (t := σ.2.1 57 a) dX7_step_380 rfl lay_7 (by decide) fl7_65 ha rfl rfl (rc_F F1100 (Or.inl (by decide)) (by decide) (rc_o (by decide) (rfl))) ?_
            have g1101 : ((0 : Int) ≤ σ.2.1 57 a ∧ σ.2.1 57 a ≤ 11184800) ∧ ((T a).1 = 57 → σ.2.1 57 a ≤ 8) := wf_57 hw ha
            have g1101x := g1101.2
            replace g1101 := g1101.1
            clear g1101x
            refine tn_iload_n dX7_step_383 rfl 0 rfl ?_
            refine tn_callSN (M := m_X7_step) (pc := 384) (ix := 61) (M' := m_X11_put) (As := [.ref xb, .int (iI (σ.2.1 57 a)), .int (iI z852)]) (rest := []) dX7_step_384 ok_X11_put stt_X11_put nl7_61 np_X11_put rfl (Nat.le_of_ble_eq_true rfl) (Nat.le_of_ble_eq_true rfl) rfl (k_X11_put_x (d + 3) (T := T) (σ := σ1094) (x := xb) (i := σ.2.1 57 a) (y := z852) hk1075i (by omega) (by omega) (by omega) w1099 (nh_k hk1075 (by unfold HT; omega)) (vok_1 (by have q9 := hk1075; omega) (by omega))) (fun r1102 T1104 σ1103 gt1105 hp => ?_)
            obtain ⟨rfl, rfl, w1109, F1110, f1106, f1107⟩ := hp
            clear gt1105
            show Tn _ _ 387 T σ1103 [(3, .int (iI z852)), (2, .int (iI v60)), (1, .int (iI v6)), (0, .ref a)] [] _
            refine tn_iload_n dX7_step_387 rfl 1 rfl ?_
            refine tn_bipush dX7_step_388 (by decide) ?_
            refine tn_icmp_ne (tgt := 397) dX7_step_390 (by decide) ⟨by omega, by omega⟩ ⟨by decide, by decide⟩ (fun h1111 => ?_) (fun h1111 => absurd h1111 (by omega))
            refine tn_iconst dX7_step_397 ?_
            have q1112 : σ1103.2.1 57 a = σ.2.1 57 a := rc_F F1110 (Or.inl (by decide)) (by decide) (rc_F F1100 (Or.inl (by decide)) (by decide) (rc_o (by decide) (rfl)))
            exact tn_zret (v := 0) rfl (by decide) dX7_step_398 ⟨_, rfl, rfl, w1109, (((FrC.rfl.put (by decide) (by decide)).trans (FrC.sub F1100 (by decide))).trans (FrC.sub F1110 (by decide))), by omega, (((CHX.rfl.fld (by simp) (by decide)).trans (CHX.sub f1097 (by simp) (by simp) (by simp))).trans (CHX.sub f1106 (by simp) (by simp) (by simp))), by omega, (((FA.rfl.put).trans (FA.of F1100 (by decide))).trans (FA.of F1110 (by decide)))⟩
          · refine tn_tableIn (tgt := 369) (off := 301) dX7_step_68 (x := v60) ⟨by omega, by omega⟩ (by omega) (by omega) (by rw [h900]; rfl) (by decide) ?_
            refine tn_aload_n dX7_step_369 rfl 3 rfl ?_
            refine tn_iload_n dX7_step_370 rfl 2 rfl ?_
            refine tn_iload_n dX7_step_371 rfl 1 rfl ?_
            obtain ⟨hk1115, hl1116⟩ : AR T xa 15 9 9 := ar_of (wf_59 hw ha) hxa
            have hk1115i : IA T xa := by unfold IA; omega
            obtain ⟨hk1119, hl1120⟩ : AR T xb 1 9 9 := ar_of (wf_60 hw ha) hxb
            have hk1119i : IA T xb := by unfold IA; omega
            obtain ⟨hl1124, hk1123a, hk1123b⟩ := ex_at (wf_61 hw ha) hxc
            have hk1123 : (T xc).1 = 1 := hk1123b (by omega)
            clear hk1123a hk1123b
            have hk1123i : IA T xc := by unfold IA; omega
            obtain ⟨hk1127, hl1128⟩ : AR T xd 1 108 108 := ar_of (wf_62 hw ha) hxd
            have hk1127i : IA T xd := by unfold IA; omega
            obtain ⟨hk1131, hl1132⟩ : AR T xe 1 1728 1728 := ar_of (wf_63 hw ha) hxe
            have hk1131i : IA T xe := by unfold IA; omega
            obtain ⟨hk1135, hl1136⟩ : AR T xf 1 200 200 := ar_of (wf_64 hw ha) hxf
            have hk1135i : IA T xf := by unfold IA; omega
            refine tn_callV (M := m_X7_step) (pc := 372) (ix := 129) (ci := 7) (M' := m_X7_reckonAt) (As := [.int (iI v6), .int (iI v60)]) (rest := []) dX7_step_372 ok_X7_reckonAt im_X7_reckonAt se_X7_reckonAt ml7_129 np_X7_reckonAt rfl rfl ha rfl (Nat.le_of_ble_eq_true rfl) (Nat.le_of_ble_eq_true rfl) rfl (k_X7_reckonAt_h (d + 1) (T := T) (σ := (sA 67 a (z850) σ)) (a := a) (k := v6) (e := v60) (xa := xa) (xb := xb) (xc := xc) (xd := xd) (xe := xe) (xf := xf) ha (by omega) (by omega) (hw.put (by decide) (by decide) (fo_67 (by omega))) (rc_o (by decide) (hxa)) (rc_o (by decide) (hxb)) (rc_o (by decide) (hxc)) (rc_o (by decide) (hxd)) (rc_o (by decide) (hxe)) (rc_o (by decide) (hxf)) (by rw [show (sA 67 a (z850) σ).2.1 69 a = _ from rc_o (by decide) (hx7)]; omega)) (fun r1137 T1139 σ1138 gt1140 hp => ?_)
            obtain ⟨rfl, rfl, w1143, F1144, f1141⟩ := hp
            clear gt1140
            show Tn _ _ 375 T σ1138 [(3, .int (iI z852)), (2, .int (iI v60)), (1, .int (iI v6)), (0, .ref a)] [] _
            refine tn_aload_n dX7_step_375 rfl 3 rfl ?_
            refine tn_getR (ci := 7) (i := 5) (n := 60) (x := xb) dX7_step_376 rfl lay_7 (by decide) fl7_15 ha rfl rfl (rc_F F1144 (Or.inl (by decide)) (by decide) (rc_o (by decide) (hxb))) ?_
            refine tn_aload_n dX7_step_379 rfl 3 rfl ?_
            refine tn_getI (ci := 7) (i := 2) (n := 57) (t := σ.2.1 57 a) dX7_step_380 rfl lay_7 (by decide) fl7_65 ha rfl rfl (rc_F F1144 (Or.inl (by decide)) (by decide) (rc_o (by decide) (rfl))) ?_
            have g1145 : ((0 : Int) ≤ σ.2.1 57 a ∧ σ.2.1 57 a ≤ 11184800) ∧ ((T a).1 = 57 → σ.2.1 57 a ≤ 8) := wf_57 hw ha
            have g1145x := g1145.2
            replace g1145 := g1145.1
            clear g1145x
            refine tn_iload_n dX7_step_383 rfl 0 rfl ?_
            refine tn_callSN (M := m_X7_step) (pc := 384) (ix := 61) (M' := m_X11_put) (As := [.ref xb, .int (iI (σ.2.1 57 a)), .int (iI z852)]) (rest := []) dX7_step_384 ok_X11_put stt_X11_put nl7_61 np_X11_put rfl (Nat.le_of_ble_eq_true rfl) (Nat.le_of_ble_eq_true rfl) rfl (k_X11_put_x (d + 3) (T := T) (σ := σ1138) (x := xb) (i := σ.2.1 57 a) (y := z852) hk1119i (by omega) (by omega) (by omega) w1143 (nh_k hk1119 (by unfold HT; omega)) (vok_1 (by have q9 := hk1119; omega) (by omega))) (fun r1146 T1148 σ1147 gt1149 hp => ?_)
            obtain ⟨rfl, rfl, w1153, F1154, f1150, f1151⟩ := hp
            clear gt1149
            show Tn _ _ 387 T σ1147 [(3, .int (iI z852)), (2, .int (iI v60)), (1, .int (iI v6)), (0, .ref a)] [] _
            refine tn_iload_n dX7_step_387 rfl 1 rfl ?_
            refine tn_bipush dX7_step_388 (by decide) ?_
            refine tn_icmp_ne (tgt := 397) dX7_step_390 (by decide) ⟨by omega, by omega⟩ ⟨by decide, by decide⟩ (fun h1155 => ?_) (fun h1155 => absurd h1155 (by omega))
            refine tn_iconst dX7_step_397 ?_
            have q1156 : σ1147.2.1 57 a = σ.2.1 57 a := rc_F F1154 (Or.inl (by decide)) (by decide) (rc_F F1144 (Or.inl (by decide)) (by decide) (rc_o (by decide) (rfl)))
            exact tn_zret (v := 0) rfl (by decide) dX7_step_398 ⟨_, rfl, rfl, w1153, (((FrC.rfl.put (by decide) (by decide)).trans (FrC.sub F1144 (by decide))).trans (FrC.sub F1154 (by decide))), by omega, (((CHX.rfl.fld (by simp) (by decide)).trans (CHX.sub f1141 (by simp) (by simp) (by simp))).trans (CHX.sub f1150 (by simp) (by simp) (by simp))), by omega, (((FA.rfl.put).trans (FA.of F1144 (by decide))).trans (FA.of F1154 (by decide)))⟩
          · refine tn_tableIn (tgt := 369) (off := 301) dX7_step_68 (x := v60) ⟨by omega, by omega⟩ (by omega) (by omega) (by rw [h900]; rfl) (by decide) ?_
            refine tn_aload_n dX7_step_369 rfl 3 rfl ?_
            refine tn_iload_n dX7_step_370 rfl 2 rfl ?_
            refine tn_iload_n dX7_step_371 rfl 1 rfl ?_
            obtain ⟨hk1159, hl1160⟩ : AR T xa 15 9 9 := ar_of (wf_59 hw ha) hxa
            have hk1159i : IA T xa := by unfold IA; omega
            obtain ⟨hk1163, hl1164⟩ : AR T xb 1 9 9 := ar_of (wf_60 hw ha) hxb
            have hk1163i : IA T xb := by unfold IA; omega
            obtain ⟨hl1168, hk1167a, hk1167b⟩ := ex_at (wf_61 hw ha) hxc
            have hk1167 : (T xc).1 = 1 := hk1167b (by omega)
            clear hk1167a hk1167b
            have hk1167i : IA T xc := by unfold IA; omega
            obtain ⟨hk1171, hl1172⟩ : AR T xd 1 108 108 := ar_of (wf_62 hw ha) hxd
            have hk1171i : IA T xd := by unfold IA; omega
            obtain ⟨hk1175, hl1176⟩ : AR T xe 1 1728 1728 := ar_of (wf_63 hw ha) hxe
            have hk1175i : IA T xe := by unfold IA; omega
            obtain ⟨hk1179, hl1180⟩ : AR T xf 1 200 200 := ar_of (wf_64 hw ha) hxf
            have hk1179i : IA T xf := by unfold IA; omega
            refine tn_callV (M := m_X7_step) (pc := 372) (ix := 129) (ci := 7) (M' := m_X7_reckonAt) (As := [.int (iI v6), .int (iI v60)]) (rest := []) dX7_step_372 ok_X7_reckonAt im_X7_reckonAt se_X7_reckonAt ml7_129 np_X7_reckonAt rfl rfl ha rfl (Nat.le_of_ble_eq_true rfl) (Nat.le_of_ble_eq_true rfl) rfl (k_X7_reckonAt_h (d + 1) (T := T) (σ := (sA 67 a (z850) σ)) (a := a) (k := v6) (e := v60) (xa := xa) (xb := xb) (xc := xc) (xd := xd) (xe := xe) (xf := xf) ha (by omega) (by omega) (hw.put (by decide) (by decide) (fo_67 (by omega))) (rc_o (by decide) (hxa)) (rc_o (by decide) (hxb)) (rc_o (by decide) (hxc)) (rc_o (by decide) (hxd)) (rc_o (by decide) (hxe)) (rc_o (by decide) (hxf)) (by rw [show (sA 67 a (z850) σ).2.1 69 a = _ from rc_o (by decide) (hx7)]; omega)) (fun r1181 T1183 σ1182 gt1184 hp => ?_)
            obtain ⟨rfl, rfl, w1187, F1188, f1185⟩ := hp
            clear gt1184
            show Tn _ _ 375 T σ1182 [(3, .int (iI z852)), (2, .int (iI v60)), (1, .int (iI v6)), (0, .ref a)] [] _
            refine tn_aload_n dX7_step_375 rfl 3 rfl ?_
            refine tn_getR (ci := 7) (i := 5) (n := 60) (x := xb) dX7_step_376 rfl lay_7 (by decide) fl7_15 ha rfl rfl (rc_F F1188 (Or.inl (by decide)) (by decide) (rc_o (by decide) (hxb))) ?_
            refine tn_aload_n dX7_step_379 rfl 3 rfl ?_
            refine tn_getI (ci := 7) (i := 2) (n := 57) (t := σ.2.1 57 a) dX7_step_380 rfl lay_7 (by decide) fl7_65 ha rfl rfl (rc_F F1188 (Or.inl (by decide)) (by decide) (rc_o (by decide) (rfl))) ?_
            have g1189 : ((0 : Int) ≤ σ.2.1 57 a ∧ σ.2.1 57 a ≤ 11184800) ∧ ((T a).1 = 57 → σ.2.1 57 a ≤ 8) := wf_57 hw ha
            have g1189x := g1189.2
            replace g1189 := g1189.1
            clear g1189x
            refine tn_iload_n dX7_step_383 rfl 0 rfl ?_
            refine tn_callSN (M := m_X7_step) (pc := 384) (ix := 61) (M' := m_X11_put) (As := [.ref xb, .int (iI (σ.2.1 57 a)), .int (iI z852)]) (rest := []) dX7_step_384 ok_X11_put stt_X11_put nl7_61 np_X11_put rfl (Nat.le_of_ble_eq_true rfl) (Nat.le_of_ble_eq_true rfl) rfl (k_X11_put_x (d + 3) (T := T) (σ := σ1182) (x := xb) (i := σ.2.1 57 a) (y := z852) hk1163i (by omega) (by omega) (by omega) w1187 (nh_k hk1163 (by unfold HT; omega)) (vok_1 (by have q9 := hk1163; omega) (by omega))) (fun r1190 T1192 σ1191 gt1193 hp => ?_)
            obtain ⟨rfl, rfl, w1197, F1198, f1194, f1195⟩ := hp
            clear gt1193
            show Tn _ _ 387 T σ1191 [(3, .int (iI z852)), (2, .int (iI v60)), (1, .int (iI v6)), (0, .ref a)] [] _
            refine tn_iload_n dX7_step_387 rfl 1 rfl ?_
            refine tn_bipush dX7_step_388 (by decide) ?_
            refine tn_icmp_ne (tgt := 397) dX7_step_390 (by decide) ⟨by omega, by omega⟩ ⟨by decide, by decide⟩ (fun h1199 => ?_) (fun h1199 => absurd h1199 (by omega))
            refine tn_iconst dX7_step_397 ?_
            have q1200 : σ1191.2.1 57 a = σ.2.1 57 a := rc_F F1198 (Or.inl (by decide)) (by decide) (rc_F F1188 (Or.inl (by decide)) (by decide) (rc_o (by decide) (rfl)))
            exact tn_zret (v := 0) rfl (by decide) dX7_step_398 ⟨_, rfl, rfl, w1197, (((FrC.rfl.put (by decide) (by decide)).trans (FrC.sub F1188 (by decide))).trans (FrC.sub F1198 (by decide))), by omega, (((CHX.rfl.fld (by simp) (by decide)).trans (CHX.sub f1185 (by simp) (by simp) (by simp))).trans (CHX.sub f1194 (by simp) (by simp) (by simp))), by omega, (((FA.rfl.put).trans (FA.of F1188 (by decide))).trans (FA.of F1198 (by decide)))⟩
          · refine tn_tableIn (tgt := 152) (off := 84) dX7_step_68 (x := v60) ⟨by omega, by omega⟩ (by omega) (by omega) (by rw [h900]; rfl) (by decide) ?_
            refine tn_aload_n dX7_step_152 rfl 3 rfl ?_
            refine tn_aload_n dX7_step_153 rfl 3 rfl ?_
            refine tn_iload_n dX7_step_154 rfl 2 rfl ?_
            refine tn_iconst dX7_step_155 ?_
            refine tn_callV (M := m_X7_step) (pc := 156) (ix := 110) (ci := 7) (M' := m_X7_operand) (As := [.int (iI v6), .int (iI 3)]) (rest := [.ref a]) dX7_step_156 ok_X7_operand im_X7_operand se_X7_operand ml7_110 np_X7_operand rfl rfl ha rfl (Nat.le_of_ble_eq_true rfl) (Nat.le_of_ble_eq_true rfl) rfl (k_X7_operand (d + 2) (T := T) (σ := (sA 67 a (z850) σ)) (a := a) (k := v6) (c := 3) ha (by omega) (by decide) (hw.put (by decide) (by decide) (fo_67 (by omega))) (by rw [show (sA 67 a (z850) σ).2.1 69 a = _ from rc_o (by decide) (hx7)]; omega) (by omega)) (fun r1201 T1203 σ1202 gt1204 hp => ?_)
            obtain ⟨v1206, rfl, rfl, rfl, f1205⟩ := hp
            clear gt1204
            show Tn _ _ 159 T (sA 67 a (z850) σ) [(3, .int (iI z852)), (2, .int (iI v60)), (1, .int (iI v6)), (0, .ref a)] [.int (iI v1206), .ref a] _
            obtain ⟨hk1209, hl1210⟩ : AR T xa 15 9 9 := ar_of (wf_59 hw ha) hxa
            have hk1209i : IA T xa := by unfold IA; omega
            obtain ⟨hk1213, hl1214⟩ : AR T xb 1 9 9 := ar_of (wf_60 hw ha) hxb
            have hk1213i : IA T xb := by unfold IA; omega
            obtain ⟨hl1218, hk1217a, hk1217b⟩ := ex_at (wf_61 hw ha) hxc
            have hk1217 : (T xc).1 = 1 := hk1217b (by omega)
            clear hk1217a hk1217b
            have hk1217i : IA T xc := by unfold IA; omega
            obtain ⟨hk1221, hl1222⟩ : AR T xd 1 108 108 := ar_of (wf_62 hw ha) hxd
            have hk1221i : IA T xd := by unfold IA; omega
            obtain ⟨hk1225, hl1226⟩ : AR T xe 1 1728 1728 := ar_of (wf_63 hw ha) hxe
            have hk1225i : IA T xe := by unfold IA; omega
            obtain ⟨hk1229, hl1230⟩ : AR T xf 1 200 200 := ar_of (wf_64 hw ha) hxf
            have hk1229i : IA T xf := by unfold IA; omega
            refine tn_callV (M := m_X7_step) (pc := 159) (ix := 113) (ci := 7) (M' := m_X7_emit) (As := [.int (iI v1206)]) (rest := []) dX7_step_159 ok_X7_emit im_X7_emit se_X7_emit ml7_113 np_X7_emit rfl rfl ha rfl (Nat.le_of_ble_eq_true rfl) (Nat.le_of_ble_eq_true rfl) rfl (k_X7_emit_h (d + 2) (T := T) (σ := (sA 67 a (z850) σ)) (a := a) (p1 := v1206) (xa := xa) (xb := xb) (xc := xc) (xd := xd) (xe := xe) (xf := xf) ha (by omega) (hw.put (by decide) (by decide) (fo_67 (by omega))) (rc_o (by decide) (hxa)) (rc_o (by decide) (hxb)) (rc_o (by decide) (hxc)) (rc_o (by decide) (hxd)) (rc_o (by decide) (hxe)) (rc_o (by decide) (hxf))) (fun r1231 T1233 σ1232 gt1234 hp => ?_)
            obtain ⟨rfl, rfl, w1238, F1239, f1235, f1236⟩ := hp
            clear gt1234
            show Tn _ _ 162 T σ1232 [(3, .int (iI z852)), (2, .int (iI v60)), (1, .int (iI v6)), (0, .ref a)] [] _
            refine tn_goto (tgt := 375) dX7_step_162 (by decide) ?_
            refine tn_aload_n dX7_step_375 rfl 3 rfl ?_
            refine tn_getR (ci := 7) (i := 5) (n := 60) (x := xb) dX7_step_376 rfl lay_7 (by decide) fl7_15 ha rfl rfl (rc_F F1239 (Or.inl (by decide)) (by decide) (rc_o (by decide) (hxb))) ?_
            refine tn_aload_n dX7_step_379 rfl 3 rfl ?_
            refine tn_getI (ci := 7) (i := 2) (n := 57) (t := σ.2.1 57 a) dX7_step_380 rfl lay_7 (by decide) fl7_65 ha rfl rfl (rc_F F1239 (Or.inl (by decide)) (by decide) (rc_o (by decide) (rfl))) ?_
            have g1240 : ((0 : Int) ≤ σ.2.1 57 a ∧ σ.2.1 57 a ≤ 11184800) ∧ ((T a).1 = 57 → σ.2.1 57 a ≤ 8) := wf_57 hw ha
            have g1240x := g1240.2
            replace g1240 := g1240.1
            clear g1240x
            refine tn_iload_n dX7_step_383 rfl 0 rfl ?_
            refine tn_callSN (M := m_X7_step) (pc := 384) (ix := 61) (M' := m_X11_put) (As := [.ref xb, .int (iI (σ.2.1 57 a)), .int (iI z852)]) (rest := []) dX7_step_384 ok_X11_put stt_X11_put nl7_61 np_X11_put rfl (Nat.le_of_ble_eq_true rfl) (Nat.le_of_ble_eq_true rfl) rfl (k_X11_put_x (d + 3) (T := T) (σ := σ1232) (x := xb) (i := σ.2.1 57 a) (y := z852) hk1213i (by omega) (by omega) (by omega) w1238 (nh_k hk1213 (by unfold HT; omega)) (vok_1 (by have q9 := hk1213; omega) (by omega))) (fun r1241 T1243 σ1242 gt1244 hp => ?_)
            obtain ⟨rfl, rfl, w1248, F1249, f1245, f1246⟩ := hp
            clear gt1244
            show Tn _ _ 387 T σ1242 [(3, .int (iI z852)), (2, .int (iI v60)), (1, .int (iI v6)), (0, .ref a)] [] _
            refine tn_iload_n dX7_step_387 rfl 1 rfl ?_
            refine tn_bipush dX7_step_388 (by decide) ?_
            refine tn_icmp_ne (tgt := 397) dX7_step_390 (by decide) ⟨by omega, by omega⟩ ⟨by decide, by decide⟩ (fun h1250 => ?_) (fun h1250 => absurd h1250 (by omega))
            refine tn_iconst dX7_step_397 ?_
            have q1251 : σ1242.2.1 57 a = σ.2.1 57 a := rc_F F1249 (Or.inl (by decide)) (by decide) (rc_F F1239 (Or.inl (by decide)) (by decide) (rc_o (by decide) (rfl)))
            exact tn_zret (v := 0) rfl (by decide) dX7_step_398 ⟨_, rfl, rfl, w1248, (((FrC.rfl.put (by decide) (by decide)).trans (FrC.sub F1239 (by decide))).trans (FrC.sub F1249 (by decide))), by omega, (((CHX.rfl.fld (by simp) (by decide)).trans (CHX.sub f1235 (by simp) (by simp) (by simp))).trans (CHX.sub f1245 (by simp) (by simp) (by simp))), by omega, (((FA.rfl.put).trans f1236).trans (FA.of F1249 (by decide)))⟩
          · refine tn_tableIn (tgt := 213) (off := 145) dX7_step_68 (x := v60) ⟨by omega, by omega⟩ (by omega) (by omega) (by rw [h900]; rfl) (by decide) ?_
            refine tn_aload_n dX7_step_213 rfl 3 rfl ?_
            refine tn_aload_n dX7_step_214 rfl 3 rfl ?_
            refine tn_iload_n dX7_step_215 rfl 2 rfl ?_
            refine tn_iconst dX7_step_216 ?_
            refine tn_callV (M := m_X7_step) (pc := 217) (ix := 110) (ci := 7) (M' := m_X7_operand) (As := [.int (iI v6), .int (iI 3)]) (rest := [.ref a]) dX7_step_217 ok_X7_operand im_X7_operand se_X7_operand ml7_110 np_X7_operand rfl rfl ha rfl (Nat.le_of_ble_eq_true rfl) (Nat.le_of_ble_eq_true rfl) rfl (k_X7_operand (d + 2) (T := T) (σ := (sA 67 a (z850) σ)) (a := a) (k := v6) (c := 3) ha (by omega) (by decide) (hw.put (by decide) (by decide) (fo_67 (by omega))) (by rw [show (sA 67 a (z850) σ).2.1 69 a = _ from rc_o (by decide) (hx7)]; omega) (by omega)) (fun r1252 T1254 σ1253 gt1255 hp => ?_)
            obtain ⟨v1257, rfl, rfl, rfl, f1256⟩ := hp
            clear gt1255
            show Tn _ _ 220 T (sA 67 a (z850) σ) [(3, .int (iI z852)), (2, .int (iI v60)), (1, .int (iI v6)), (0, .ref a)] [.int (iI v1257), .ref a] _
            obtain ⟨hk1260, hl1261⟩ : AR T xa 15 9 9 := ar_of (wf_59 hw ha) hxa
            have hk1260i : IA T xa := by unfold IA; omega
            obtain ⟨hk1264, hl1265⟩ : AR T xb 1 9 9 := ar_of (wf_60 hw ha) hxb
            have hk1264i : IA T xb := by unfold IA; omega
            obtain ⟨hl1269, hk1268a, hk1268b⟩ := ex_at (wf_61 hw ha) hxc
            have hk1268 : (T xc).1 = 1 := hk1268b (by omega)
            clear hk1268a hk1268b
            have hk1268i : IA T xc := by unfold IA; omega
            obtain ⟨hk1272, hl1273⟩ : AR T xd 1 108 108 := ar_of (wf_62 hw ha) hxd
            have hk1272i : IA T xd := by unfold IA; omega
            obtain ⟨hk1276, hl1277⟩ : AR T xe 1 1728 1728 := ar_of (wf_63 hw ha) hxe
            have hk1276i : IA T xe := by unfold IA; omega
            obtain ⟨hk1280, hl1281⟩ : AR T xf 1 200 200 := ar_of (wf_64 hw ha) hxf
            have hk1280i : IA T xf := by unfold IA; omega
            have q1286 : (sA 67 a (z850) σ).2.1 57 a = σ.2.1 57 a := rc_o (by decide) (rfl)
            refine tn_callV (M := m_X7_step) (pc := 220) (ix := 123) (ci := 7) (M' := m_X7_giveBack) (As := [.int (iI v1257)]) (rest := []) dX7_step_220 ok_X7_giveBack im_X7_giveBack se_X7_giveBack ml7_123 np_X7_giveBack rfl rfl ha rfl (Nat.le_of_ble_eq_true rfl) (Nat.le_of_ble_eq_true rfl) rfl (k_X7_giveBack_h (d + 1) (T := T) (σ := (sA 67 a (z850) σ)) (a := a) (n := v1257) (xa := xa) (xb := xb) (xc := xc) (xd := xd) (xe := xe) (xf := xf) ha hta (by omega) (hw.put (by decide) (by decide) (fo_67 (by omega))) (rc_o (by decide) (hxa)) (rc_o (by decide) (hxb)) (rc_o (by decide) (hxc)) (rc_o (by decide) (hxd)) (rc_o (by decide) (hxe)) (rc_o (by decide) (hxf))) (fun r1282 T1284 σ1283 gt1285 hp => ?_)
            obtain ⟨rfl, rfl, w1291, F1292, f1287, f1288, f1289⟩ := hp
            clear gt1285
            show Tn _ _ 223 T σ1283 [(3, .int (iI z852)), (2, .int (iI v60)), (1, .int (iI v6)), (0, .ref a)] [] _
            refine tn_iconst dX7_step_223 ?_
            have q1293 : σ1283.2.1 57 a = σ1283.2.1 57 a := rfl
            exact tn_zret (v := 0) rfl (by decide) dX7_step_224 ⟨_, rfl, rfl, w1291, ((FrC.rfl.put (by decide) (by decide)).trans (FrC.sub F1292 (by decide))), by omega, ((CHX.rfl.fld (by simp) (by decide)).trans (CHX.sub f1287 (by simp) (by simp) (by simp))), by omega, ((FA.rfl.put).trans f1289)⟩
          · refine tn_tableIn (tgt := 165) (off := 97) dX7_step_68 (x := v60) ⟨by omega, by omega⟩ (by omega) (by omega) (by rw [h900]; rfl) (by decide) ?_
            refine tn_aload_n dX7_step_165 rfl 3 rfl ?_
            refine tn_getR (ci := 7) (i := 14) (n := 69) (x := xq8) dX7_step_166 rfl lay_7 (by decide) fl7_72 ha rfl rfl (rc_o (by decide) (hx7)) ?_
            refine tn_iload_n dX7_step_169 rfl 2 rfl ?_
            refine tn_bipush dX7_step_170 (by decide) ?_
            refine tn_callV (M := m_X7_step) (pc := 172) (ix := 117) (ci := 1) (M' := m_X1_get) (As := [.int (iI v6), .int (iI 12)]) (rest := []) dX7_step_172 ok_X1_get im_X1_get se_X1_get ml7_117 np_X1_get rfl rfl hk9o rfl (Nat.le_of_ble_eq_true rfl) (Nat.le_of_ble_eq_true rfl) rfl (k_X1_get (d + 3) (T := T) (σ := (sA 67 a (z850) σ)) (a := xq8) (k := v6) (c := 12) hk9o (by omega) (by decide) (hw.put (by decide) (by decide) (fo_67 (by omega))) (by omega)) (fun r1294 T1296 σ1295 gt1297 hp => ?_)
            obtain ⟨v1299, rfl, rfl, rfl, f1298⟩ := hp
            clear gt1297
            show Tn _ _ 175 T (sA 67 a (z850) σ) [(3, .int (iI z852)), (2, .int (iI v60)), (1, .int (iI v6)), (0, .ref a)] [.int (iI v1299)] _
            refine tn_istore_n (L' := [(3, .int (iI v1299)), (2, .int (iI v60)), (1, .int (iI v6)), (0, .ref a)]) dX7_step_175 rfl (by decide) rfl ?_
            refine tn_goto (tgt := 375) dX7_step_176 (by decide) ?_
            refine tn_aload_n dX7_step_375 rfl 3 rfl ?_
            obtain ⟨hk1302, hl1303⟩ : AR T xb 1 9 9 := ar_of (wf_60 hw ha) hxb
            have hk1302i : IA T xb := by unfold IA; omega
            refine tn_getR (ci := 7) (i := 5) (n := 60) (x := xb) dX7_step_376 rfl lay_7 (by decide) fl7_15 ha rfl rfl (rc_o (by decide) (hxb)) ?_
            refine tn_aload_n dX7_step_379 rfl 3 rfl ?_
            refine tn_getI (ci := 7) (i := 2) (n := 57) (t := σ.2.1 57 a) dX7_step_380 rfl lay_7 (by decide) fl7_65 ha rfl rfl (rc_o (by decide) (rfl)) ?_
            have g1304 : ((0 : Int) ≤ σ.2.1 57 a ∧ σ.2.1 57 a ≤ 11184800) ∧ ((T a).1 = 57 → σ.2.1 57 a ≤ 8) := wf_57 hw ha
            have g1304x := g1304.2
            replace g1304 := g1304.1
            clear g1304x
            refine tn_iload_n dX7_step_383 rfl 0 rfl ?_
            refine tn_callSN (M := m_X7_step) (pc := 384) (ix := 61) (M' := m_X11_put) (As := [.ref xb, .int (iI (σ.2.1 57 a)), .int (iI v1299)]) (rest := []) dX7_step_384 ok_X11_put stt_X11_put nl7_61 np_X11_put rfl (Nat.le_of_ble_eq_true rfl) (Nat.le_of_ble_eq_true rfl) rfl (k_X11_put_x (d + 3) (T := T) (σ := (sA 67 a (z850) σ)) (x := xb) (i := σ.2.1 57 a) (y := v1299) hk1302i (by omega) (by omega) (by omega) (hw.put (by decide) (by decide) (fo_67 (by omega))) (nh_k hk1302 (by unfold HT; omega)) (vok_1 (by have q9 := hk1302; omega) (by omega))) (fun r1305 T1307 σ1306 gt1308 hp => ?_)
            obtain ⟨rfl, rfl, w1312, F1313, f1309, f1310⟩ := hp
            clear gt1308
            show Tn _ _ 387 T σ1306 [(3, .int (iI v1299)), (2, .int (iI v60)), (1, .int (iI v6)), (0, .ref a)] [] _
            refine tn_iload_n dX7_step_387 rfl 1 rfl ?_
            refine tn_bipush dX7_step_388 (by decide) ?_
            refine tn_icmp_ne (tgt := 397) dX7_step_390 (by decide) ⟨by omega, by omega⟩ ⟨by decide, by decide⟩ (fun h1314 => ?_) (fun h1314 => absurd h1314 (by omega))
            refine tn_iconst dX7_step_397 ?_
            have q1315 : σ1306.2.1 57 a = σ.2.1 57 a := rc_F F1313 (Or.inl (by decide)) (by decide) (rc_o (by decide) (rfl))
            exact tn_zret (v := 0) rfl (by decide) dX7_step_398 ⟨_, rfl, rfl, w1312, ((FrC.rfl.put (by decide) (by decide)).trans (FrC.sub F1313 (by decide))), by omega, ((CHX.rfl.fld (by simp) (by decide)).trans (CHX.sub f1309 (by simp) (by simp) (by simp))), by omega, ((FA.rfl.put).trans (FA.of F1313 (by decide)))⟩
          · refine tn_tableIn (tgt := 179) (off := 111) dX7_step_68 (x := v60) ⟨by omega, by omega⟩ (by omega) (by omega) (by rw [h900]; rfl) (by decide) ?_
            refine tn_aload_n dX7_step_179 rfl 3 rfl ?_
            refine tn_iload_n dX7_step_180 rfl 2 rfl ?_
            refine tn_iconst dX7_step_181 ?_
            refine tn_callV (M := m_X7_step) (pc := 182) (ix := 110) (ci := 7) (M' := m_X7_operand) (As := [.int (iI v6), .int (iI 3)]) (rest := []) dX7_step_182 ok_X7_operand im_X7_operand se_X7_operand ml7_110 np_X7_operand rfl rfl ha rfl (Nat.le_of_ble_eq_true rfl) (Nat.le_of_ble_eq_true rfl) rfl (k_X7_operand (d + 2) (T := T) (σ := (sA 67 a (z850) σ)) (a := a) (k := v6) (c := 3) ha (by omega) (by decide) (hw.put (by decide) (by decide) (fo_67 (by omega))) (by rw [show (sA 67 a (z850) σ).2.1 69 a = _ from rc_o (by decide) (hx7)]; omega) (by omega)) (fun r1316 T1318 σ1317 gt1319 hp => ?_)
            obtain ⟨v1321, rfl, rfl, rfl, f1320⟩ := hp
            clear gt1319
            show Tn _ _ 185 T (sA 67 a (z850) σ) [(3, .int (iI z852)), (2, .int (iI v60)), (1, .int (iI v6)), (0, .ref a)] [.int (iI v1321)] _
            refine tn_if_ne (tgt := 201) dX7_step_185 (by decide) ⟨by omega, by omega⟩ (fun h1322 => ?_) (fun h1322 => ?_)
            · refine tn_iload_n dX7_step_201 rfl 0 rfl ?_
              refine tn_istore_n (L' := [(3, .int (iI z852)), (2, .int (iI v60)), (1, .int (iI v6)), (0, .ref a)]) dX7_step_202 rfl (by decide) rfl ?_
              refine tn_goto (tgt := 375) dX7_step_203 (by decide) ?_
              refine tn_aload_n dX7_step_375 rfl 3 rfl ?_
              obtain ⟨hk1325, hl1326⟩ : AR T xb 1 9 9 := ar_of (wf_60 hw ha) hxb
              have hk1325i : IA T xb := by unfold IA; omega
              refine tn_getR (ci := 7) (i := 5) (n := 60) (x := xb) dX7_step_376 rfl lay_7 (by decide) fl7_15 ha rfl rfl (rc_o (by decide) (hxb)) ?_
              refine tn_aload_n dX7_step_379 rfl 3 rfl ?_
              refine tn_getI (ci := 7) (i := 2) (n := 57) (t := σ.2.1 57 a) dX7_step_380 rfl lay_7 (by decide) fl7_65 ha rfl rfl (rc_o (by decide) (rfl)) ?_
              have g1327 : ((0 : Int) ≤ σ.2.1 57 a ∧ σ.2.1 57 a ≤ 11184800) ∧ ((T a).1 = 57 → σ.2.1 57 a ≤ 8) := wf_57 hw ha
              have g1327x := g1327.2
              replace g1327 := g1327.1
              clear g1327x
              refine tn_iload_n dX7_step_383 rfl 0 rfl ?_
              refine tn_callSN (M := m_X7_step) (pc := 384) (ix := 61) (M' := m_X11_put) (As := [.ref xb, .int (iI (σ.2.1 57 a)), .int (iI z852)]) (rest := []) dX7_step_384 ok_X11_put stt_X11_put nl7_61 np_X11_put rfl (Nat.le_of_ble_eq_true rfl) (Nat.le_of_ble_eq_true rfl) rfl (k_X11_put_x (d + 3) (T := T) (σ := (sA 67 a (z850) σ)) (x := xb) (i := σ.2.1 57 a) (y := z852) hk1325i (by omega) (by omega) (by omega) (hw.put (by decide) (by decide) (fo_67 (by omega))) (nh_k hk1325 (by unfold HT; omega)) (vok_1 (by have q9 := hk1325; omega) (by omega))) (fun r1328 T1330 σ1329 gt1331 hp => ?_)
              obtain ⟨rfl, rfl, w1335, F1336, f1332, f1333⟩ := hp
              clear gt1331
              show Tn _ _ 387 T σ1329 [(3, .int (iI z852)), (2, .int (iI v60)), (1, .int (iI v6)), (0, .ref a)] [] _
              refine tn_iload_n dX7_step_387 rfl 1 rfl ?_
              refine tn_bipush dX7_step_388 (by decide) ?_
              refine tn_icmp_ne (tgt := 397) dX7_step_390 (by decide) ⟨by omega, by omega⟩ ⟨by decide, by decide⟩ (fun h1337 => ?_) (fun h1337 => absurd h1337 (by omega))
              refine tn_iconst dX7_step_397 ?_
              have q1338 : σ1329.2.1 57 a = σ.2.1 57 a := rc_F F1336 (Or.inl (by decide)) (by decide) (rc_o (by decide) (rfl))
              exact tn_zret (v := 0) rfl (by decide) dX7_step_398 ⟨_, rfl, rfl, w1335, ((FrC.rfl.put (by decide) (by decide)).trans (FrC.sub F1336 (by decide))), by omega, ((CHX.rfl.fld (by simp) (by decide)).trans (CHX.sub f1332 (by simp) (by simp) (by simp))), by omega, ((FA.rfl.put).trans (FA.of F1336 (by decide)))⟩
            · refine tn_aload_n dX7_step_188 rfl 3 rfl ?_
              refine tn_getR (ci := 7) (i := 14) (n := 69) (x := xq8) dX7_step_189 rfl lay_7 (by decide) fl7_72 ha rfl rfl (rc_o (by decide) (hx7)) ?_
              refine tn_iload_n dX7_step_192 rfl 2 rfl ?_
              refine tn_bipush dX7_step_193 (by decide) ?_
              refine tn_callV (M := m_X7_step) (pc := 195) (ix := 117) (ci := 1) (M' := m_X1_get) (As := [.int (iI v6), .int (iI 12)]) (rest := []) dX7_step_195 ok_X1_get im_X1_get se_X1_get ml7_117 np_X1_get rfl rfl hk9o rfl (Nat.le_of_ble_eq_true rfl) (Nat.le_of_ble_eq_true rfl) rfl (k_X1_get (d + 3) (T := T) (σ := (sA 67 a (z850) σ)) (a := xq8) (k := v6) (c := 12) hk9o (by omega) (by decide) (hw.put (by decide) (by decide) (fo_67 (by omega))) (by omega)) (fun r1339 T1341 σ1340 gt1342 hp => ?_)
              obtain ⟨v1344, rfl, rfl, rfl, f1343⟩ := hp
              clear gt1342
              show Tn _ _ 198 T (sA 67 a (z850) σ) [(3, .int (iI z852)), (2, .int (iI v60)), (1, .int (iI v6)), (0, .ref a)] [.int (iI v1344)] _
              refine tn_goto (tgt := 202) dX7_step_198 (by decide) ?_
              refine tn_istore_n (L' := [(3, .int (iI v1344)), (2, .int (iI v60)), (1, .int (iI v6)), (0, .ref a)]) dX7_step_202 rfl (by decide) rfl ?_
              refine tn_goto (tgt := 375) dX7_step_203 (by decide) ?_
              refine tn_aload_n dX7_step_375 rfl 3 rfl ?_
              obtain ⟨hk1347, hl1348⟩ : AR T xb 1 9 9 := ar_of (wf_60 hw ha) hxb
              have hk1347i : IA T xb := by unfold IA; omega
              refine tn_getR (ci := 7) (i := 5) (n := 60) (x := xb) dX7_step_376 rfl lay_7 (by decide) fl7_15 ha rfl rfl (rc_o (by decide) (hxb)) ?_
              refine tn_aload_n dX7_step_379 rfl 3 rfl ?_
              refine tn_getI (ci := 7) (i := 2) (n := 57) (t := σ.2.1 57 a) dX7_step_380 rfl lay_7 (by decide) fl7_65 ha rfl rfl (rc_o (by decide) (rfl)) ?_
              have g1349 : ((0 : Int) ≤ σ.2.1 57 a ∧ σ.2.1 57 a ≤ 11184800) ∧ ((T a).1 = 57 → σ.2.1 57 a ≤ 8) := wf_57 hw ha
              have g1349x := g1349.2
              replace g1349 := g1349.1
              clear g1349x
              refine tn_iload_n dX7_step_383 rfl 0 rfl ?_
              refine tn_callSN (M := m_X7_step) (pc := 384) (ix := 61) (M' := m_X11_put) (As := [.ref xb, .int (iI (σ.2.1 57 a)), .int (iI v1344)]) (rest := []) dX7_step_384 ok_X11_put stt_X11_put nl7_61 np_X11_put rfl (Nat.le_of_ble_eq_true rfl) (Nat.le_of_ble_eq_true rfl) rfl (k_X11_put_x (d + 3) (T := T) (σ := (sA 67 a (z850) σ)) (x := xb) (i := σ.2.1 57 a) (y := v1344) hk1347i (by omega) (by omega) (by omega) (hw.put (by decide) (by decide) (fo_67 (by omega))) (nh_k hk1347 (by unfold HT; omega)) (vok_1 (by have q9 := hk1347; omega) (by omega))) (fun r1350 T1352 σ1351 gt1353 hp => ?_)
              obtain ⟨rfl, rfl, w1357, F1358, f1354, f1355⟩ := hp
              clear gt1353
              show Tn _ _ 387 T σ1351 [(3, .int (iI v1344)), (2, .int (iI v60)), (1, .int (iI v6)), (0, .ref a)] [] _
              refine tn_iload_n dX7_step_387 rfl 1 rfl ?_
              refine tn_bipush dX7_step_388 (by decide) ?_
              refine tn_icmp_ne (tgt := 397) dX7_step_390 (by decide) ⟨by omega, by omega⟩ ⟨by decide, by decide⟩ (fun h1359 => ?_) (fun h1359 => absurd h1359 (by omega))
              refine tn_iconst dX7_step_397 ?_
              have q1360 : σ1351.2.1 57 a = σ.2.1 57 a := rc_F F1358 (Or.inl (by decide)) (by decide) (rc_o (by decide) (rfl))
              exact tn_zret (v := 0) rfl (by decide) dX7_step_398 ⟨_, rfl, rfl, w1357, ((FrC.rfl.put (by decide) (by decide)).trans (FrC.sub F1358 (by decide))), by omega, ((CHX.rfl.fld (by simp) (by decide)).trans (CHX.sub f1354 (by simp) (by simp) (by simp))), by omega, ((FA.rfl.put).trans (FA.of F1358 (by decide)))⟩
          · refine tn_tableIn (tgt := 206) (off := 138) dX7_step_68 (x := v60) ⟨by omega, by omega⟩ (by omega) (by omega) (by rw [h900]; rfl) (by decide) ?_
            refine tn_aload_n dX7_step_206 rfl 3 rfl ?_
            refine tn_iload_n dX7_step_207 rfl 2 rfl ?_
            obtain ⟨hk1363, hl1364⟩ : AR T xa 15 9 9 := ar_of (wf_59 hw ha) hxa
            have hk1363i : IA T xa := by unfold IA; omega
            obtain ⟨hk1367, hl1368⟩ : AR T xb 1 9 9 := ar_of (wf_60 hw ha) hxb
            have hk1367i : IA T xb := by unfold IA; omega
            obtain ⟨hl1372, hk1371a, hk1371b⟩ := ex_at (wf_61 hw ha) hxc
            have hk1371 : (T xc).1 = 1 := hk1371b (by omega)
            clear hk1371a hk1371b
            have hk1371i : IA T xc := by unfold IA; omega
            obtain ⟨hk1375, hl1376⟩ : AR T xd 1 108 108 := ar_of (wf_62 hw ha) hxd
            have hk1375i : IA T xd := by unfold IA; omega
            obtain ⟨hk1379, hl1380⟩ : AR T xe 1 1728 1728 := ar_of (wf_63 hw ha) hxe
            have hk1379i : IA T xe := by unfold IA; omega
            obtain ⟨hk1383, hl1384⟩ : AR T xf 1 200 200 := ar_of (wf_64 hw ha) hxf
            have hk1383i : IA T xf := by unfold IA; omega
            have q1389 : (sA 67 a (z850) σ).2.1 57 a = σ.2.1 57 a := rc_o (by decide) (rfl)
            refine tn_callV (M := m_X7_step) (pc := 208) (ix := 120) (ci := 7) (M' := m_X7_callFrom) (As := [.int (iI v6)]) (rest := []) dX7_step_208 ok_X7_callFrom im_X7_callFrom se_X7_callFrom ml7_120 np_X7_callFrom rfl rfl ha rfl (Nat.le_of_ble_eq_true rfl) (Nat.le_of_ble_eq_true rfl) rfl (k_X7_callFrom_h (d) (T := T) (σ := (sA 67 a (z850) σ)) (a := a) (k := v6) (xa := xa) (xb := xb) (xc := xc) (xd := xd) (xe := xe) (xf := xf) ha hta (by omega) (hw.put (by decide) (by decide) (fo_67 (by omega))) (rc_o (by decide) (hxa)) (rc_o (by decide) (hxb)) (rc_o (by decide) (hxc)) (rc_o (by decide) (hxd)) (rc_o (by decide) (hxe)) (rc_o (by decide) (hxf)) (by rw [show (sA 67 a (z850) σ).2.1 69 a = _ from rc_o (by decide) (hx7)]; omega) (by rw [show (sA 67 a (z850) σ).2.1 57 a = σ.2.1 57 a from rc_o (by decide) (rfl)]; omega)) (fun r1385 T1387 σ1386 gt1388 hp => ?_)
            obtain ⟨rfl, rfl, w1394, F1395, f1390, f1391, f1392⟩ := hp
            clear gt1388
            show Tn _ _ 211 T σ1386 [(3, .int (iI z852)), (2, .int (iI v60)), (1, .int (iI v6)), (0, .ref a)] [] _
            refine tn_iconst dX7_step_211 ?_
            have q1396 : σ1386.2.1 57 a = σ1386.2.1 57 a := rfl
            exact tn_zret (v := 0) rfl (by decide) dX7_step_212 ⟨_, rfl, rfl, w1394, ((FrC.rfl.put (by decide) (by decide)).trans (FrC.sub F1395 (by decide))), by omega, ((CHX.rfl.fld (by simp) (by decide)).trans (CHX.sub f1390 (by simp) (by simp) (by simp))), by omega, ((FA.rfl.put).trans f1392)⟩
          · refine tn_tableIn (tgt := 225) (off := 157) dX7_step_68 (x := v60) ⟨by omega, by omega⟩ (by omega) (by omega) (by rw [h900]; rfl) (by decide) ?_
            refine tn_aload_n dX7_step_225 rfl 3 rfl ?_
            obtain ⟨hk1399, hl1400⟩ : AR T xd 1 108 108 := ar_of (wf_62 hw ha) hxd
            have hk1399i : IA T xd := by unfold IA; omega
            refine tn_getR (ci := 7) (i := 7) (n := 62) (x := xd) dX7_step_226 rfl lay_7 (by decide) fl7_21 ha rfl rfl (rc_o (by decide) (hxd)) ?_
            refine tn_aload_n dX7_step_229 rfl 3 rfl ?_
            refine tn_getI (ci := 7) (i := 2) (n := 57) (t := σ.2.1 57 a) dX7_step_230 rfl lay_7 (by decide) fl7_65 ha rfl rfl (rc_o (by decide) (rfl)) ?_
            have g1401 : ((0 : Int) ≤ σ.2.1 57 a ∧ σ.2.1 57 a ≤ 11184800) ∧ ((T a).1 = 57 → σ.2.1 57 a ≤ 8) := wf_57 hw ha
            have g1401x := g1401.2
            replace g1401 := g1401.1
            clear g1401x
            refine tn_bipush dX7_step_233 (by decide) ?_
            refine tn_imul dX7_step_235 ?_
            refine tn_aload_n dX7_step_236 rfl 3 rfl ?_
            refine tn_getR (ci := 7) (i := 14) (n := 69) (x := xq8) dX7_step_237 rfl lay_7 (by decide) fl7_72 ha rfl rfl (rc_o (by decide) (hx7)) ?_
            refine tn_iload_n dX7_step_240 rfl 2 rfl ?_
            refine tn_iconst dX7_step_241 ?_
            refine tn_callV (M := m_X7_step) (pc := 242) (ix := 117) (ci := 1) (M' := m_X1_get) (As := [.int (iI v6), .int (iI 2)]) (rest := [.int (iI ((σ.2.1 57 a) * 12)), .ref xd]) dX7_step_242 ok_X1_get im_X1_get se_X1_get ml7_117 np_X1_get rfl rfl hk9o rfl (Nat.le_of_ble_eq_true rfl) (Nat.le_of_ble_eq_true rfl) rfl (k_X1_get (d + 3) (T := T) (σ := (sA 67 a (z850) σ)) (a := xq8) (k := v6) (c := 2) hk9o (by omega) (by decide) (hw.put (by decide) (by decide) (fo_67 (by omega))) (by omega)) (fun r1402 T1404 σ1403 gt1405 hp => ?_)
            obtain ⟨v1407, rfl, rfl, rfl, f1406⟩ := hp
            clear gt1405
            show Tn _ _ 245 T (sA 67 a (z850) σ) [(3, .int (iI z852)), (2, .int (iI v60)), (1, .int (iI v6)), (0, .ref a)] [.int (iI v1407), .int (iI ((σ.2.1 57 a) * 12)), .ref xd] _
            refine tn_iadd dX7_step_245 ?_
            refine tn_any (fun z1408 g1409 => ?_)
            have g1409r : -2147483648 ≤ z1408 ∧ z1408 ≤ 2147483647 := g1409
            refine tn_aload_n dX7_step_246 rfl 3 rfl ?_
            refine tn_getR (ci := 7) (i := 14) (n := 69) (x := xq8) dX7_step_247 rfl lay_7 (by decide) fl7_72 ha rfl rfl (rc_o (by decide) (hx7)) ?_
            refine tn_iload_n dX7_step_250 rfl 2 rfl ?_
            refine tn_iconst dX7_step_251 ?_
            refine tn_callV (M := m_X7_step) (pc := 252) (ix := 117) (ci := 1) (M' := m_X1_get) (As := [.int (iI v6), .int (iI 1)]) (rest := [.int (iI z1408), .ref xd]) dX7_step_252 ok_X1_get im_X1_get se_X1_get ml7_117 np_X1_get rfl rfl hk9o rfl (Nat.le_of_ble_eq_true rfl) (Nat.le_of_ble_eq_true rfl) rfl (k_X1_get (d + 3) (T := T) (σ := (sA 67 a (z850) σ)) (a := xq8) (k := v6) (c := 1) hk9o (by omega) (by decide) (hw.put (by decide) (by decide) (fo_67 (by omega))) (by omega)) (fun r1410 T1412 σ1411 gt1413 hp => ?_)
            obtain ⟨v1415, rfl, rfl, rfl, f1414⟩ := hp
            clear gt1413
            show Tn _ _ 255 T (sA 67 a (z850) σ) [(3, .int (iI z852)), (2, .int (iI v60)), (1, .int (iI v6)), (0, .ref a)] [.int (iI v1415), .int (iI z1408), .ref xd] _
            refine tn_callSN (M := m_X7_step) (pc := 255) (ix := 61) (M' := m_X11_put) (As := [.ref xd, .int (iI z1408), .int (iI v1415)]) (rest := []) dX7_step_255 ok_X11_put stt_X11_put nl7_61 np_X11_put rfl (Nat.le_of_ble_eq_true rfl) (Nat.le_of_ble_eq_true rfl) rfl (k_X11_put_x (d + 3) (T := T) (σ := (sA 67 a (z850) σ)) (x := xd) (i := z1408) (y := v1415) hk1399i (by omega) (by omega) (by omega) (hw.put (by decide) (by decide) (fo_67 (by omega))) (nh_k hk1399 (by unfold HT; omega)) (vok_1 (by have q9 := hk1399; omega) (by omega))) (fun r1416 T1418 σ1417 gt1419 hp => ?_)
            obtain ⟨rfl, rfl, w1423, F1424, f1420, f1421⟩ := hp
            clear gt1419
            show Tn _ _ 258 T σ1417 [(3, .int (iI z852)), (2, .int (iI v60)), (1, .int (iI v6)), (0, .ref a)] [] _
            refine tn_goto (tgt := 375) dX7_step_258 (by decide) ?_
            refine tn_aload_n dX7_step_375 rfl 3 rfl ?_
            obtain ⟨hk1427, hl1428⟩ : AR T xb 1 9 9 := ar_of (wf_60 hw ha) hxb
            have hk1427i : IA T xb := by unfold IA; omega
            refine tn_getR (ci := 7) (i := 5) (n := 60) (x := xb) dX7_step_376 rfl lay_7 (by decide) fl7_15 ha rfl rfl (rc_F F1424 (Or.inl (by decide)) (by decide) (rc_o (by decide) (hxb))) ?_
            refine tn_aload_n dX7_step_379 rfl 3 rfl ?_
            refine tn_getI (ci := 7) (i := 2) (n := 57) (t := σ.2.1 57 a) dX7_step_380 rfl lay_7 (by decide) fl7_65 ha rfl rfl (rc_F F1424 (Or.inl (by decide)) (by decide) (rc_o (by decide) (rfl))) ?_
            refine tn_iload_n dX7_step_383 rfl 0 rfl ?_
            refine tn_callSN (M := m_X7_step) (pc := 384) (ix := 61) (M' := m_X11_put) (As := [.ref xb, .int (iI (σ.2.1 57 a)), .int (iI z852)]) (rest := []) dX7_step_384 ok_X11_put stt_X11_put nl7_61 np_X11_put rfl (Nat.le_of_ble_eq_true rfl) (Nat.le_of_ble_eq_true rfl) rfl (k_X11_put_x (d + 3) (T := T) (σ := σ1417) (x := xb) (i := σ.2.1 57 a) (y := z852) hk1427i (by omega) (by omega) (by omega) w1423 (nh_k hk1427 (by unfold HT; omega)) (vok_1 (by have q9 := hk1427; omega) (by omega))) (fun r1429 T1431 σ1430 gt1432 hp => ?_)
            obtain ⟨rfl, rfl, w1436, F1437, f1433, f1434⟩ := hp
            clear gt1432
            show Tn _ _ 387 T σ1430 [(3, .int (iI z852)), (2, .int (iI v60)), (1, .int (iI v6)), (0, .ref a)] [] _
            refine tn_iload_n dX7_step_387 rfl 1 rfl ?_
            refine tn_bipush dX7_step_388 (by decide) ?_
            refine tn_icmp_ne (tgt := 397) dX7_step_390 (by decide) ⟨by omega, by omega⟩ ⟨by decide, by decide⟩ (fun h1438 => absurd h1438 (by omega)) (fun h1438 => ?_)
            refine tn_iconst dX7_step_393 ?_
            refine tn_goto (tgt := 398) dX7_step_394 (by decide) ?_
            have q1439 : σ1430.2.1 57 a = σ.2.1 57 a := rc_F F1437 (Or.inl (by decide)) (by decide) (rc_F F1424 (Or.inl (by decide)) (by decide) (rc_o (by decide) (rfl)))
            exact tn_zret (v := 1) rfl (by decide) dX7_step_398 ⟨_, rfl, rfl, w1436, (((FrC.rfl.put (by decide) (by decide)).trans (FrC.sub F1424 (by decide))).trans (FrC.sub F1437 (by decide))), by omega, (((CHX.rfl.fld (by simp) (by decide)).trans (CHX.sub f1420 (by simp) (by simp) (by simp))).trans (CHX.sub f1433 (by simp) (by simp) (by simp))), by omega, (((FA.rfl.put).trans (FA.of F1424 (by decide))).trans (FA.of F1437 (by decide)))⟩
          · refine tn_tableIn (tgt := 369) (off := 301) dX7_step_68 (x := v60) ⟨by omega, by omega⟩ (by omega) (by omega) (by rw [h900]; rfl) (by decide) ?_
            refine tn_aload_n dX7_step_369 rfl 3 rfl ?_
            refine tn_iload_n dX7_step_370 rfl 2 rfl ?_
            refine tn_iload_n dX7_step_371 rfl 1 rfl ?_
            obtain ⟨hk1442, hl1443⟩ : AR T xa 15 9 9 := ar_of (wf_59 hw ha) hxa
            have hk1442i : IA T xa := by unfold IA; omega
            obtain ⟨hk1446, hl1447⟩ : AR T xb 1 9 9 := ar_of (wf_60 hw ha) hxb
            have hk1446i : IA T xb := by unfold IA; omega
            obtain ⟨hl1451, hk1450a, hk1450b⟩ := ex_at (wf_61 hw ha) hxc
            have hk1450 : (T xc).1 = 1 := hk1450b (by omega)
            clear hk1450a hk1450b
            have hk1450i : IA T xc := by unfold IA; omega
            obtain ⟨hk1454, hl1455⟩ : AR T xd 1 108 108 := ar_of (wf_62 hw ha) hxd
            have hk1454i : IA T xd := by unfold IA; omega
            obtain ⟨hk1458, hl1459⟩ : AR T xe 1 1728 1728 := ar_of (wf_63 hw ha) hxe
            have hk1458i : IA T xe := by unfold IA; omega
            obtain ⟨hk1462, hl1463⟩ : AR T xf 1 200 200 := ar_of (wf_64 hw ha) hxf
            have hk1462i : IA T xf := by unfold IA; omega
            refine tn_callV (M := m_X7_step) (pc := 372) (ix := 129) (ci := 7) (M' := m_X7_reckonAt) (As := [.int (iI v6), .int (iI v60)]) (rest := []) dX7_step_372 ok_X7_reckonAt im_X7_reckonAt se_X7_reckonAt ml7_129 np_X7_reckonAt rfl rfl ha rfl (Nat.le_of_ble_eq_true rfl) (Nat.le_of_ble_eq_true rfl) rfl (k_X7_reckonAt_h (d + 1) (T := T) (σ := (sA 67 a (z850) σ)) (a := a) (k := v6) (e := v60) (xa := xa) (xb := xb) (xc := xc) (xd := xd) (xe := xe) (xf := xf) ha (by omega) (by omega) (hw.put (by decide) (by decide) (fo_67 (by omega))) (rc_o (by decide) (hxa)) (rc_o (by decide) (hxb)) (rc_o (by decide) (hxc)) (rc_o (by decide) (hxd)) (rc_o (by decide) (hxe)) (rc_o (by decide) (hxf)) (by rw [show (sA 67 a (z850) σ).2.1 69 a = _ from rc_o (by decide) (hx7)]; omega)) (fun r1464 T1466 σ1465 gt1467 hp => ?_)
            obtain ⟨rfl, rfl, w1470, F1471, f1468⟩ := hp
            clear gt1467
            show Tn _ _ 375 T σ1465 [(3, .int (iI z852)), (2, .int (iI v60)), (1, .int (iI v6)), (0, .ref a)] [] _
            refine tn_aload_n dX7_step_375 rfl 3 rfl ?_
            refine tn_getR (ci := 7) (i := 5) (n := 60) (x := xb) dX7_step_376 rfl lay_7 (by decide) fl7_15 ha rfl rfl (rc_F F1471 (Or.inl (by decide)) (by decide) (rc_o (by decide) (hxb))) ?_
            refine tn_aload_n dX7_step_379 rfl 3 rfl ?_
            refine tn_getI (ci := 7) (i := 2) (n := 57) (t := σ.2.1 57 a) dX7_step_380 rfl lay_7 (by decide) fl7_65 ha rfl rfl (rc_F F1471 (Or.inl (by decide)) (by decide) (rc_o (by decide) (rfl))) ?_
            have g1472 : ((0 : Int) ≤ σ.2.1 57 a ∧ σ.2.1 57 a ≤ 11184800) ∧ ((T a).1 = 57 → σ.2.1 57 a ≤ 8) := wf_57 hw ha
            have g1472x := g1472.2
            replace g1472 := g1472.1
            clear g1472x
            refine tn_iload_n dX7_step_383 rfl 0 rfl ?_
            refine tn_callSN (M := m_X7_step) (pc := 384) (ix := 61) (M' := m_X11_put) (As := [.ref xb, .int (iI (σ.2.1 57 a)), .int (iI z852)]) (rest := []) dX7_step_384 ok_X11_put stt_X11_put nl7_61 np_X11_put rfl (Nat.le_of_ble_eq_true rfl) (Nat.le_of_ble_eq_true rfl) rfl (k_X11_put_x (d + 3) (T := T) (σ := σ1465) (x := xb) (i := σ.2.1 57 a) (y := z852) hk1446i (by omega) (by omega) (by omega) w1470 (nh_k hk1446 (by unfold HT; omega)) (vok_1 (by have q9 := hk1446; omega) (by omega))) (fun r1473 T1475 σ1474 gt1476 hp => ?_)
            obtain ⟨rfl, rfl, w1480, F1481, f1477, f1478⟩ := hp
            clear gt1476
            show Tn _ _ 387 T σ1474 [(3, .int (iI z852)), (2, .int (iI v60)), (1, .int (iI v6)), (0, .ref a)] [] _
            refine tn_iload_n dX7_step_387 rfl 1 rfl ?_
            refine tn_bipush dX7_step_388 (by decide) ?_
            refine tn_icmp_ne (tgt := 397) dX7_step_390 (by decide) ⟨by omega, by omega⟩ ⟨by decide, by decide⟩ (fun h1482 => ?_) (fun h1482 => absurd h1482 (by omega))
            refine tn_iconst dX7_step_397 ?_
            have q1483 : σ1474.2.1 57 a = σ.2.1 57 a := rc_F F1481 (Or.inl (by decide)) (by decide) (rc_F F1471 (Or.inl (by decide)) (by decide) (rc_o (by decide) (rfl)))
            exact tn_zret (v := 0) rfl (by decide) dX7_step_398 ⟨_, rfl, rfl, w1480, (((FrC.rfl.put (by decide) (by decide)).trans (FrC.sub F1471 (by decide))).trans (FrC.sub F1481 (by decide))), by omega, (((CHX.rfl.fld (by simp) (by decide)).trans (CHX.sub f1468 (by simp) (by simp) (by simp))).trans (CHX.sub f1477 (by simp) (by simp) (by simp))), by omega, (((FA.rfl.put).trans (FA.of F1471 (by decide))).trans (FA.of F1481 (by decide)))⟩
          · refine tn_tableIn (tgt := 369) (off := 301) dX7_step_68 (x := v60) ⟨by omega, by omega⟩ (by omega) (by omega) (by rw [h900]; rfl) (by decide) ?_
            refine tn_aload_n dX7_step_369 rfl 3 rfl ?_
            refine tn_iload_n dX7_step_370 rfl 2 rfl ?_
            refine tn_iload_n dX7_step_371 rfl 1 rfl ?_
            obtain ⟨hk1486, hl1487⟩ : AR T xa 15 9 9 := ar_of (wf_59 hw ha) hxa
            have hk1486i : IA T xa := by unfold IA; omega
            obtain ⟨hk1490, hl1491⟩ : AR T xb 1 9 9 := ar_of (wf_60 hw ha) hxb
            have hk1490i : IA T xb := by unfold IA; omega
            obtain ⟨hl1495, hk1494a, hk1494b⟩ := ex_at (wf_61 hw ha) hxc
            have hk1494 : (T xc).1 = 1 := hk1494b (by omega)
            clear hk1494a hk1494b
            have hk1494i : IA T xc := by unfold IA; omega
            obtain ⟨hk1498, hl1499⟩ : AR T xd 1 108 108 := ar_of (wf_62 hw ha) hxd
            have hk1498i : IA T xd := by unfold IA; omega
            obtain ⟨hk1502, hl1503⟩ : AR T xe 1 1728 1728 := ar_of (wf_63 hw ha) hxe
            have hk1502i : IA T xe := by unfold IA; omega
            obtain ⟨hk1506, hl1507⟩ : AR T xf 1 200 200 := ar_of (wf_64 hw ha) hxf
            have hk1506i : IA T xf := by unfold IA; omega
            refine tn_callV (M := m_X7_step) (pc := 372) (ix := 129) (ci := 7) (M' := m_X7_reckonAt) (As := [.int (iI v6), .int (iI v60)]) (rest := []) dX7_step_372 ok_X7_reckonAt im_X7_reckonAt se_X7_reckonAt ml7_129 np_X7_reckonAt rfl rfl ha rfl (Nat.le_of_ble_eq_true rfl) (Nat.le_of_ble_eq_true rfl) rfl (k_X7_reckonAt_h (d + 1) (T := T) (σ := (sA 67 a (z850) σ)) (a := a) (k := v6) (e := v60) (xa := xa) (xb := xb) (xc := xc) (xd := xd) (xe := xe) (xf := xf) ha (by omega) (by omega) (hw.put (by decide) (by decide) (fo_67 (by omega))) (rc_o (by decide) (hxa)) (rc_o (by decide) (hxb)) (rc_o (by decide) (hxc)) (rc_o (by decide) (hxd)) (rc_o (by decide) (hxe)) (rc_o (by decide) (hxf)) (by rw [show (sA 67 a (z850) σ).2.1 69 a = _ from rc_o (by decide) (hx7)]; omega)) (fun r1508 T1510 σ1509 gt1511 hp => ?_)
            obtain ⟨rfl, rfl, w1514, F1515, f1512⟩ := hp
            clear gt1511
            show Tn _ _ 375 T σ1509 [(3, .int (iI z852)), (2, .int (iI v60)), (1, .int (iI v6)), (0, .ref a)] [] _
            refine tn_aload_n dX7_step_375 rfl 3 rfl ?_
            refine tn_getR (ci := 7) (i := 5) (n := 60) (x := xb) dX7_step_376 rfl lay_7 (by decide) fl7_15 ha rfl rfl (rc_F F1515 (Or.inl (by decide)) (by decide) (rc_o (by decide) (hxb))) ?_
            refine tn_aload_n dX7_step_379 rfl 3 rfl ?_
            refine tn_getI (ci := 7) (i := 2) (n := 57) (t := σ.2.1 57 a) dX7_step_380 rfl lay_7 (by decide) fl7_65 ha rfl rfl (rc_F F1515 (Or.inl (by decide)) (by decide) (rc_o (by decide) (rfl))) ?_
            have g1516 : ((0 : Int) ≤ σ.2.1 57 a ∧ σ.2.1 57 a ≤ 11184800) ∧ ((T a).1 = 57 → σ.2.1 57 a ≤ 8) := wf_57 hw ha
            have g1516x := g1516.2
            replace g1516 := g1516.1
            clear g1516x
            refine tn_iload_n dX7_step_383 rfl 0 rfl ?_
            refine tn_callSN (M := m_X7_step) (pc := 384) (ix := 61) (M' := m_X11_put) (As := [.ref xb, .int (iI (σ.2.1 57 a)), .int (iI z852)]) (rest := []) dX7_step_384 ok_X11_put stt_X11_put nl7_61 np_X11_put rfl (Nat.le_of_ble_eq_true rfl) (Nat.le_of_ble_eq_true rfl) rfl (k_X11_put_x (d + 3) (T := T) (σ := σ1509) (x := xb) (i := σ.2.1 57 a) (y := z852) hk1490i (by omega) (by omega) (by omega) w1514 (nh_k hk1490 (by unfold HT; omega)) (vok_1 (by have q9 := hk1490; omega) (by omega))) (fun r1517 T1519 σ1518 gt1520 hp => ?_)
            obtain ⟨rfl, rfl, w1524, F1525, f1521, f1522⟩ := hp
            clear gt1520
            show Tn _ _ 387 T σ1518 [(3, .int (iI z852)), (2, .int (iI v60)), (1, .int (iI v6)), (0, .ref a)] [] _
            refine tn_iload_n dX7_step_387 rfl 1 rfl ?_
            refine tn_bipush dX7_step_388 (by decide) ?_
            refine tn_icmp_ne (tgt := 397) dX7_step_390 (by decide) ⟨by omega, by omega⟩ ⟨by decide, by decide⟩ (fun h1526 => ?_) (fun h1526 => absurd h1526 (by omega))
            refine tn_iconst dX7_step_397 ?_
            have q1527 : σ1518.2.1 57 a = σ.2.1 57 a := rc_F F1525 (Or.inl (by decide)) (by decide) (rc_F F1515 (Or.inl (by decide)) (by decide) (rc_o (by decide) (rfl)))
            exact tn_zret (v := 0) rfl (by decide) dX7_step_398 ⟨_, rfl, rfl, w1524, (((FrC.rfl.put (by decide) (by decide)).trans (FrC.sub F1515 (by decide))).trans (FrC.sub F1525 (by decide))), by omega, (((CHX.rfl.fld (by simp) (by decide)).trans (CHX.sub f1512 (by simp) (by simp) (by simp))).trans (CHX.sub f1521 (by simp) (by simp) (by simp))), by omega, (((FA.rfl.put).trans (FA.of F1515 (by decide))).trans (FA.of F1525 (by decide)))⟩
          · refine tn_tableIn (tgt := 261) (off := 193) dX7_step_68 (x := v60) ⟨by omega, by omega⟩ (by omega) (by omega) (by rw [h900]; rfl) (by decide) ?_
            refine tn_aload_n dX7_step_261 rfl 3 rfl ?_
            refine tn_dup dX7_step_262 rfl ?_
            refine tn_getI (ci := 7) (i := 3) (n := 58) (t := σ.2.1 58 a) dX7_step_263 rfl lay_7 (by decide) fl7_38 ha rfl rfl (rc_o (by decide) (rfl)) ?_
            have g1528 : ((-2147483648 : Int) ≤ σ.2.1 58 a ∧ σ.2.1 58 a ≤ 2147483647) := wf_58 hw ha
            refine tn_iconst dX7_step_266 ?_
            refine tn_iadd dX7_step_267 ?_
            refine tn_any (fun z1529 g1530 => ?_)
            have g1530r : -2147483648 ≤ z1529 ∧ z1529 ≤ 2147483647 := g1530
            refine tn_putV (ci := 7) (i := 3) (n := 58) (r := false) (v := z1529) tyX7 tyX7_ok nmX7 dX7_step_268 rfl lay_7 (by decide) fl7_38 rfl (tyX7_ok 3 (by decide)) rfl rfl rfl ha rfl rfl ?_
            refine tn_aload_n dX7_step_271 rfl 3 rfl ?_
            obtain ⟨hl1534, hk1533a, hk1533b⟩ := ex_at (wf_61 hw ha) hxc
            have hk1533 : (T xc).1 = 1 := hk1533b (by omega)
            clear hk1533a hk1533b
            have hk1533i : IA T xc := by unfold IA; omega
            refine tn_getR (ci := 7) (i := 6) (n := 61) (x := xc) dX7_step_272 rfl lay_7 (by decide) fl7_18 ha rfl rfl (rc_o (by decide) (rc_o (by decide) (hxc))) ?_
            refine tn_aload_n dX7_step_275 rfl 3 rfl ?_
            refine tn_getI (ci := 7) (i := 2) (n := 57) (t := σ.2.1 57 a) dX7_step_276 rfl lay_7 (by decide) fl7_65 ha rfl rfl (rc_o (by decide) (rc_o (by decide) (rfl))) ?_
            have g1535 : ((0 : Int) ≤ σ.2.1 57 a ∧ σ.2.1 57 a ≤ 11184800) ∧ ((T a).1 = 57 → σ.2.1 57 a ≤ 8) := wf_57 hw ha
            have g1535x := g1535.2
            replace g1535 := g1535.1
            clear g1535x
            refine tn_aload_n dX7_step_279 rfl 3 rfl ?_
            refine tn_getR (ci := 7) (i := 14) (n := 69) (x := xq8) dX7_step_280 rfl lay_7 (by decide) fl7_72 ha rfl rfl (rc_o (by decide) (rc_o (by decide) (hx7))) ?_
            refine tn_iload_n dX7_step_283 rfl 2 rfl ?_
            refine tn_iconst dX7_step_284 ?_
            refine tn_callV (M := m_X7_step) (pc := 285) (ix := 117) (ci := 1) (M' := m_X1_get) (As := [.int (iI v6), .int (iI 1)]) (rest := [.int (iI (σ.2.1 57 a)), .ref xc]) dX7_step_285 ok_X1_get im_X1_get se_X1_get ml7_117 np_X1_get rfl rfl hk9o rfl (Nat.le_of_ble_eq_true rfl) (Nat.le_of_ble_eq_true rfl) rfl (k_X1_get (d + 3) (T := T) (σ := (sA 58 a (z1529) (sA 67 a (z850) σ))) (a := xq8) (k := v6) (c := 1) hk9o (by omega) (by decide) ((hw.put (by decide) (by decide) (fo_67 (by omega))).put (by decide) (by decide) (fo_58 (by omega))) (by omega)) (fun r1536 T1538 σ1537 gt1539 hp => ?_)
            obtain ⟨v1541, rfl, rfl, rfl, f1540⟩ := hp
            clear gt1539
            show Tn _ _ 288 T (sA 58 a (z1529) (sA 67 a (z850) σ)) [(3, .int (iI z852)), (2, .int (iI v60)), (1, .int (iI v6)), (0, .ref a)] [.int (iI v1541), .int (iI (σ.2.1 57 a)), .ref xc] _
            refine tn_callSN (M := m_X7_step) (pc := 288) (ix := 61) (M' := m_X11_put) (As := [.ref xc, .int (iI (σ.2.1 57 a)), .int (iI v1541)]) (rest := []) dX7_step_288 ok_X11_put stt_X11_put nl7_61 np_X11_put rfl (Nat.le_of_ble_eq_true rfl) (Nat.le_of_ble_eq_true rfl) rfl (k_X11_put_x (d + 3) (T := T) (σ := (sA 58 a (z1529) (sA 67 a (z850) σ))) (x := xc) (i := σ.2.1 57 a) (y := v1541) hk1533i (by omega) (by omega) (by omega) ((hw.put (by decide) (by decide) (fo_67 (by omega))).put (by decide) (by decide) (fo_58 (by omega))) (nh_k hk1533 (by unfold HT; omega)) (vok_1 (by have q9 := hk1533; omega) (by omega))) (fun r1542 T1544 σ1543 gt1545 hp => ?_)
            obtain ⟨rfl, rfl, w1549, F1550, f1546, f1547⟩ := hp
            clear gt1545
            show Tn _ _ 291 T σ1543 [(3, .int (iI z852)), (2, .int (iI v60)), (1, .int (iI v6)), (0, .ref a)] [] _
            refine tn_aload_n dX7_step_291 rfl 3 rfl ?_
            obtain ⟨hk1553, hl1554⟩ : AR T xd 1 108 108 := ar_of (wf_62 hw ha) hxd
            have hk1553i : IA T xd := by unfold IA; omega
            refine tn_getR (ci := 7) (i := 7) (n := 62) (x := xd) dX7_step_292 rfl lay_7 (by decide) fl7_21 ha rfl rfl (rc_F F1550 (Or.inl (by decide)) (by decide) (rc_o (by decide) (rc_o (by decide) (hxd)))) ?_
            refine tn_aload_n dX7_step_295 rfl 3 rfl ?_
            refine tn_getI (ci := 7) (i := 2) (n := 57) (t := σ.2.1 57 a) dX7_step_296 rfl lay_7 (by decide) fl7_65 ha rfl rfl (rc_F F1550 (Or.inl (by decide)) (by decide) (rc_o (by decide) (rc_o (by decide) (rfl)))) ?_
            refine tn_bipush dX7_step_299 (by decide) ?_
            refine tn_imul dX7_step_301 ?_
            refine tn_aload_n dX7_step_302 rfl 3 rfl ?_
            refine tn_getR (ci := 7) (i := 14) (n := 69) (x := xq8) dX7_step_303 rfl lay_7 (by decide) fl7_72 ha rfl rfl (rc_F F1550 (Or.inl (by decide)) (by decide) (rc_o (by decide) (rc_o (by decide) (hx7)))) ?_
            refine tn_iload_n dX7_step_306 rfl 2 rfl ?_
            refine tn_iconst dX7_step_307 ?_
            refine tn_callV (M := m_X7_step) (pc := 308) (ix := 117) (ci := 1) (M' := m_X1_get) (As := [.int (iI v6), .int (iI 1)]) (rest := [.int (iI ((σ.2.1 57 a) * 12)), .ref xd]) dX7_step_308 ok_X1_get im_X1_get se_X1_get ml7_117 np_X1_get rfl rfl hk9o rfl (Nat.le_of_ble_eq_true rfl) (Nat.le_of_ble_eq_true rfl) rfl (k_X1_get (d + 3) (T := T) (σ := σ1543) (a := xq8) (k := v6) (c := 1) hk9o (by omega) (by decide) w1549 (by omega)) (fun r1555 T1557 σ1556 gt1558 hp => ?_)
            obtain ⟨v1560, rfl, rfl, rfl, f1559⟩ := hp
            clear gt1558
            show Tn _ _ 311 T σ1543 [(3, .int (iI z852)), (2, .int (iI v60)), (1, .int (iI v6)), (0, .ref a)] [.int (iI v1560), .int (iI ((σ.2.1 57 a) * 12)), .ref xd] _
            refine tn_iadd dX7_step_311 ?_
            refine tn_any (fun z1561 g1562 => ?_)
            have g1562r : -2147483648 ≤ z1561 ∧ z1561 ≤ 2147483647 := g1562
            refine tn_iconst dX7_step_312 ?_
            refine tn_callSN (M := m_X7_step) (pc := 313) (ix := 61) (M' := m_X11_put) (As := [.ref xd, .int (iI z1561), .int (iI 0)]) (rest := []) dX7_step_313 ok_X11_put stt_X11_put nl7_61 np_X11_put rfl (Nat.le_of_ble_eq_true rfl) (Nat.le_of_ble_eq_true rfl) rfl (k_X11_put_x (d + 3) (T := T) (σ := σ1543) (x := xd) (i := z1561) (y := 0) hk1553i (by omega) (by omega) (by decide) w1549 (nh_k hk1553 (by unfold HT; omega)) vok_0) (fun r1563 T1565 σ1564 gt1566 hp => ?_)
            obtain ⟨rfl, rfl, w1570, F1571, f1567, f1568⟩ := hp
            clear gt1566
            show Tn _ _ 316 T σ1564 [(3, .int (iI z852)), (2, .int (iI v60)), (1, .int (iI v6)), (0, .ref a)] [] _
            refine tn_goto (tgt := 375) dX7_step_316 (by decide) ?_
            refine tn_aload_n dX7_step_375 rfl 3 rfl ?_
            obtain ⟨hk1574, hl1575⟩ : AR T xb 1 9 9 := ar_of (wf_60 hw ha) hxb
            have hk1574i : IA T xb := by unfold IA; omega
            refine tn_getR (ci := 7) (i := 5) (n := 60) (x := xb) dX7_step_376 rfl lay_7 (by decide) fl7_15 ha rfl rfl (rc_F F1571 (Or.inl (by decide)) (by decide) (rc_F F1550 (Or.inl (by decide)) (by decide) (rc_o (by decide) (rc_o (by decide) (hxb))))) ?_
            refine tn_aload_n dX7_step_379 rfl 3 rfl ?_
            refine tn_getI (ci := 7) (i := 2) (n := 57) (t := σ.2.1 57 a) dX7_step_380 rfl lay_7 (by decide) fl7_65 ha rfl rfl (rc_F F1571 (Or.inl (by decide)) (by decide) (rc_F F1550 (Or.inl (by decide)) (by decide) (rc_o (by decide) (rc_o (by decide) (rfl))))) ?_
            refine tn_iload_n dX7_step_383 rfl 0 rfl ?_
            refine tn_callSN (M := m_X7_step) (pc := 384) (ix := 61) (M' := m_X11_put) (As := [.ref xb, .int (iI (σ.2.1 57 a)), .int (iI z852)]) (rest := []) dX7_step_384 ok_X11_put stt_X11_put nl7_61 np_X11_put rfl (Nat.le_of_ble_eq_true rfl) (Nat.le_of_ble_eq_true rfl) rfl (k_X11_put_x (d + 3) (T := T) (σ := σ1564) (x := xb) (i := σ.2.1 57 a) (y := z852) hk1574i (by omega) (by omega) (by omega) w1570 (nh_k hk1574 (by unfold HT; omega)) (vok_1 (by have q9 := hk1574; omega) (by omega))) (fun r1576 T1578 σ1577 gt1579 hp => ?_)
            obtain ⟨rfl, rfl, w1583, F1584, f1580, f1581⟩ := hp
            clear gt1579
            show Tn _ _ 387 T σ1577 [(3, .int (iI z852)), (2, .int (iI v60)), (1, .int (iI v6)), (0, .ref a)] [] _
            refine tn_iload_n dX7_step_387 rfl 1 rfl ?_
            refine tn_bipush dX7_step_388 (by decide) ?_
            refine tn_icmp_ne (tgt := 397) dX7_step_390 (by decide) ⟨by omega, by omega⟩ ⟨by decide, by decide⟩ (fun h1585 => ?_) (fun h1585 => absurd h1585 (by omega))
            refine tn_iconst dX7_step_397 ?_
            have q1586 : σ1577.2.1 57 a = σ.2.1 57 a := rc_F F1584 (Or.inl (by decide)) (by decide) (rc_F F1571 (Or.inl (by decide)) (by decide) (rc_F F1550 (Or.inl (by decide)) (by decide) (rc_o (by decide) (rc_o (by decide) (rfl)))))
            exact tn_zret (v := 0) rfl (by decide) dX7_step_398 ⟨_, rfl, rfl, w1583, (((((FrC.rfl.put (by decide) (by decide)).put (by decide) (by decide)).trans (FrC.sub F1550 (by decide))).trans (FrC.sub F1571 (by decide))).trans (FrC.sub F1584 (by decide))), by omega, (((((CHX.rfl.fld (by simp) (by decide)).fld (by simp) (by decide)).trans (CHX.sub f1546 (by simp) (by simp) (by simp))).trans (CHX.sub f1567 (by simp) (by simp) (by simp))).trans (CHX.sub f1580 (by simp) (by simp) (by simp))), by omega, (((((FA.rfl.put).put).trans (FA.of F1550 (by decide))).trans (FA.of F1571 (by decide))).trans (FA.of F1584 (by decide)))⟩
          · refine tn_tableIn (tgt := 319) (off := 251) dX7_step_68 (x := v60) ⟨by omega, by omega⟩ (by omega) (by omega) (by rw [h900]; rfl) (by decide) ?_
            refine tn_aload_n dX7_step_319 rfl 3 rfl ?_
            refine tn_dup dX7_step_320 rfl ?_
            refine tn_getI (ci := 7) (i := 3) (n := 58) (t := σ.2.1 58 a) dX7_step_321 rfl lay_7 (by decide) fl7_38 ha rfl rfl (rc_o (by decide) (rfl)) ?_
            have g1587 : ((-2147483648 : Int) ≤ σ.2.1 58 a ∧ σ.2.1 58 a ≤ 2147483647) := wf_58 hw ha
            refine tn_iconst dX7_step_324 ?_
            refine tn_isub dX7_step_325 ?_
            refine tn_any (fun z1588 g1589 => ?_)
            have g1589r : -2147483648 ≤ z1588 ∧ z1588 ≤ 2147483647 := g1589
            refine tn_putV (ci := 7) (i := 3) (n := 58) (r := false) (v := z1588) tyX7 tyX7_ok nmX7 dX7_step_326 rfl lay_7 (by decide) fl7_38 rfl (tyX7_ok 3 (by decide)) rfl rfl rfl ha rfl rfl ?_
            refine tn_aload_n dX7_step_329 rfl 3 rfl ?_
            obtain ⟨hl1593, hk1592a, hk1592b⟩ := ex_at (wf_61 hw ha) hxc
            have hk1592 : (T xc).1 = 1 := hk1592b (by omega)
            clear hk1592a hk1592b
            have hk1592i : IA T xc := by unfold IA; omega
            refine tn_getR (ci := 7) (i := 6) (n := 61) (x := xc) dX7_step_330 rfl lay_7 (by decide) fl7_18 ha rfl rfl (rc_o (by decide) (rc_o (by decide) (hxc))) ?_
            refine tn_aload_n dX7_step_333 rfl 3 rfl ?_
            refine tn_getI (ci := 7) (i := 2) (n := 57) (t := σ.2.1 57 a) dX7_step_334 rfl lay_7 (by decide) fl7_65 ha rfl rfl (rc_o (by decide) (rc_o (by decide) (rfl))) ?_
            have g1594 : ((0 : Int) ≤ σ.2.1 57 a ∧ σ.2.1 57 a ≤ 11184800) ∧ ((T a).1 = 57 → σ.2.1 57 a ≤ 8) := wf_57 hw ha
            have g1594x := g1594.2
            replace g1594 := g1594.1
            clear g1594x
            refine tn_aload_n dX7_step_337 rfl 3 rfl ?_
            refine tn_getR (ci := 7) (i := 14) (n := 69) (x := xq8) dX7_step_338 rfl lay_7 (by decide) fl7_72 ha rfl rfl (rc_o (by decide) (rc_o (by decide) (hx7))) ?_
            obtain ⟨xq1595, hx1596, hk1597, hl1598⟩ : ∃ x : Nat, σ.2.1 12 xq8 = (x : Int) ∧ AR T x 1 12 12 := wf_12 hw hk9o
            have hk1597i : IA T xq1595 := by unfold IA; omega
            refine tn_getR (ci := 1) (i := 7) (n := 12) (x := xq1595) dX7_step_341 rfl lay_1 (by decide) fl7_126 hk9o rfl rfl (rc_o (by decide) (rc_o (by decide) (hx1596))) ?_
            refine tn_aload_n dX7_step_344 rfl 3 rfl ?_
            refine tn_getR (ci := 7) (i := 14) (n := 69) (x := xq8) dX7_step_345 rfl lay_7 (by decide) fl7_72 ha rfl rfl (rc_o (by decide) (rc_o (by decide) (hx7))) ?_
            refine tn_iload_n dX7_step_348 rfl 2 rfl ?_
            refine tn_iconst dX7_step_349 ?_
            refine tn_callV (M := m_X7_step) (pc := 350) (ix := 117) (ci := 1) (M' := m_X1_get) (As := [.int (iI v6), .int (iI 1)]) (rest := [.ref xq1595, .int (iI (σ.2.1 57 a)), .ref xc]) dX7_step_350 ok_X1_get im_X1_get se_X1_get ml7_117 np_X1_get rfl rfl hk9o rfl (Nat.le_of_ble_eq_true rfl) (Nat.le_of_ble_eq_true rfl) rfl (k_X1_get (d + 3) (T := T) (σ := (sA 58 a (z1588) (sA 67 a (z850) σ))) (a := xq8) (k := v6) (c := 1) hk9o (by omega) (by decide) ((hw.put (by decide) (by decide) (fo_67 (by omega))).put (by decide) (by decide) (fo_58 (by omega))) (by omega)) (fun r1599 T1601 σ1600 gt1602 hp => ?_)
            obtain ⟨v1604, rfl, rfl, rfl, f1603⟩ := hp
            clear gt1602
            show Tn _ _ 353 T (sA 58 a (z1588) (sA 67 a (z850) σ)) [(3, .int (iI z852)), (2, .int (iI v60)), (1, .int (iI v6)), (0, .ref a)] [.int (iI v1604), .ref xq1595, .int (iI (σ.2.1 57 a)), .ref xc] _
            refine tn_callSN (M := m_X7_step) (pc := 353) (ix := 91) (M' := m_X11_at) (As := [.ref xq1595, .int (iI v1604)]) (rest := [.int (iI (σ.2.1 57 a)), .ref xc]) dX7_step_353 ok_X11_at stt_X11_at nl7_91 np_X11_at rfl (Nat.le_of_ble_eq_true rfl) (Nat.le_of_ble_eq_true rfl) rfl (k_X11_at (d + 3) (T := T) (σ := (sA 58 a (z1588) (sA 67 a (z850) σ))) (x := xq1595) (i := v1604) hk1597i (by omega) (by omega) ((hw.put (by decide) (by decide) (fo_67 (by omega))).put (by decide) (by decide) (fo_58 (by omega))) ) (fun r1605 T1607 σ1606 gt1608 hp => ?_)
            obtain ⟨v1612, rfl, rfl, rfl, f1609, f1610, f1611⟩ := hp
            clear gt1608
            clear f1610
            show Tn _ _ 356 T (sA 58 a (z1588) (sA 67 a (z850) σ)) [(3, .int (iI z852)), (2, .int (iI v60)), (1, .int (iI v6)), (0, .ref a)] [.int (iI v1612), .int (iI (σ.2.1 57 a)), .ref xc] _
            refine tn_callSN (M := m_X7_step) (pc := 356) (ix := 61) (M' := m_X11_put) (As := [.ref xc, .int (iI (σ.2.1 57 a)), .int (iI v1612)]) (rest := []) dX7_step_356 ok_X11_put stt_X11_put nl7_61 np_X11_put rfl (Nat.le_of_ble_eq_true rfl) (Nat.le_of_ble_eq_true rfl) rfl (k_X11_put_x (d + 3) (T := T) (σ := (sA 58 a (z1588) (sA 67 a (z850) σ))) (x := xc) (i := σ.2.1 57 a) (y := v1612) hk1592i (by omega) (by omega) (by omega) ((hw.put (by decide) (by decide) (fo_67 (by omega))).put (by decide) (by decide) (fo_58 (by omega))) (nh_k hk1592 (by unfold HT; omega)) (vok_1 (by have q9 := hk1592; omega) (by omega))) (fun r1613 T1615 σ1614 gt1616 hp => ?_)
            obtain ⟨rfl, rfl, w1620, F1621, f1617, f1618⟩ := hp
            clear gt1616
            show Tn _ _ 359 T σ1614 [(3, .int (iI z852)), (2, .int (iI v60)), (1, .int (iI v6)), (0, .ref a)] [] _
            refine tn_goto (tgt := 375) dX7_step_359 (by decide) ?_
            refine tn_aload_n dX7_step_375 rfl 3 rfl ?_
            obtain ⟨hk1624, hl1625⟩ : AR T xb 1 9 9 := ar_of (wf_60 hw ha) hxb
            have hk1624i : IA T xb := by unfold IA; omega
            refine tn_getR (ci := 7) (i := 5) (n := 60) (x := xb) dX7_step_376 rfl lay_7 (by decide) fl7_15 ha rfl rfl (rc_F F1621 (Or.inl (by decide)) (by decide) (rc_o (by decide) (rc_o (by decide) (hxb)))) ?_
            refine tn_aload_n dX7_step_379 rfl 3 rfl ?_
            refine tn_getI (ci := 7) (i := 2) (n := 57) (t := σ.2.1 57 a) dX7_step_380 rfl lay_7 (by decide) fl7_65 ha rfl rfl (rc_F F1621 (Or.inl (by decide)) (by decide) (rc_o (by decide) (rc_o (by decide) (rfl)))) ?_
            refine tn_iload_n dX7_step_383 rfl 0 rfl ?_
            refine tn_callSN (M := m_X7_step) (pc := 384) (ix := 61) (M' := m_X11_put) (As := [.ref xb, .int (iI (σ.2.1 57 a)), .int (iI z852)]) (rest := []) dX7_step_384 ok_X11_put stt_X11_put nl7_61 np_X11_put rfl (Nat.le_of_ble_eq_true rfl) (Nat.le_of_ble_eq_true rfl) rfl (k_X11_put_x (d + 3) (T := T) (σ := σ1614) (x := xb) (i := σ.2.1 57 a) (y := z852) hk1624i (by omega) (by omega) (by omega) w1620 (nh_k hk1624 (by unfold HT; omega)) (vok_1 (by have q9 := hk1624; omega) (by omega))) (fun r1626 T1628 σ1627 gt1629 hp => ?_)
            obtain ⟨rfl, rfl, w1633, F1634, f1630, f1631⟩ := hp
            clear gt1629
            show Tn _ _ 387 T σ1627 [(3, .int (iI z852)), (2, .int (iI v60)), (1, .int (iI v6)), (0, .ref a)] [] _
            refine tn_iload_n dX7_step_387 rfl 1 rfl ?_
            refine tn_bipush dX7_step_388 (by decide) ?_
            refine tn_icmp_ne (tgt := 397) dX7_step_390 (by decide) ⟨by omega, by omega⟩ ⟨by decide, by decide⟩ (fun h1635 => ?_) (fun h1635 => absurd h1635 (by omega))
            refine tn_iconst dX7_step_397 ?_
            have q1636 : σ1627.2.1 57 a = σ.2.1 57 a := rc_F F1634 (Or.inl (by decide)) (by decide) (rc_F F1621 (Or.inl (by decide)) (by decide) (rc_o (by decide) (rc_o (by decide) (rfl))))
            exact tn_zret (v := 0) rfl (by decide) dX7_step_398 ⟨_, rfl, rfl, w1633, ((((FrC.rfl.put (by decide) (by decide)).put (by decide) (by decide)).trans (FrC.sub F1621 (by decide))).trans (FrC.sub F1634 (by decide))), by omega, ((((CHX.rfl.fld (by simp) (by decide)).fld (by simp) (by decide)).trans (CHX.sub f1617 (by simp) (by simp) (by simp))).trans (CHX.sub f1630 (by simp) (by simp) (by simp))), by omega, ((((FA.rfl.put).put).trans (FA.of F1621 (by decide))).trans (FA.of F1634 (by decide)))⟩
      · refine tn_aload_n dX7_step_37 rfl 2 rfl ?_
        refine tn_getI (ci := 7) (i := 3) (n := 58) (t := σ.2.1 58 a) dX7_step_38 rfl lay_7 (by decide) fl7_38 ha rfl rfl (rfl) ?_
        have g1637 : ((-2147483648 : Int) ≤ σ.2.1 58 a ∧ σ.2.1 58 a ≤ 2147483647) := wf_58 hw ha
        refine tn_bipush dX7_step_41 (by decide) ?_
        refine tn_icmp_le (tgt := 53) dX7_step_43 (by decide) ⟨by omega, by omega⟩ ⟨by decide, by decide⟩ (fun h1638 => ?_) (fun h1638 => ?_)
        · refine tn_aload_n dX7_step_53 rfl 2 rfl ?_
          refine tn_dup dX7_step_54 rfl ?_
          refine tn_getI (ci := 7) (i := 12) (n := 67) (t := σ.2.1 67 a) dX7_step_55 rfl lay_7 (by decide) fl7_47 ha rfl rfl (rfl) ?_
          have g1639 : ((-2147483648 : Int) ≤ σ.2.1 67 a ∧ σ.2.1 67 a ≤ 2147483647) := wf_67 hw ha
          refine tn_iconst dX7_step_58 ?_
          refine tn_iadd dX7_step_59 ?_
          refine tn_any (fun z1640 g1641 => ?_)
          have g1641r : -2147483648 ≤ z1640 ∧ z1640 ≤ 2147483647 := g1641
          refine tn_putV (ci := 7) (i := 12) (n := 67) (r := false) (v := z1640) tyX7 tyX7_ok nmX7 dX7_step_60 rfl lay_7 (by decide) fl7_47 rfl (tyX7_ok 12 (by decide)) rfl rfl rfl ha rfl rfl ?_
          refine tn_iload_n dX7_step_63 rfl 1 rfl ?_
          refine tn_iconst dX7_step_64 ?_
          refine tn_iadd dX7_step_65 ?_
          refine tn_any (fun z1642 g1643 => ?_)
          have g1643r : -2147483648 ≤ z1642 ∧ z1642 ≤ 2147483647 := g1643
          refine tn_istore_n (L' := [(3, .int (iI z1642)), (2, .int (iI v60)), (1, .int (iI v6)), (0, .ref a)]) dX7_step_66 rfl (by decide) rfl ?_
          refine tn_iload_n dX7_step_67 rfl 1 rfl ?_
          by_cases h1644 : v60 < -1 ∨ 15 < v60
          · refine tn_tableOut (tgt := 369) dX7_step_68 (x := v60) ⟨by omega, by omega⟩ h1644 (by decide) ?_
            refine tn_aload_n dX7_step_369 rfl 3 rfl ?_
            refine tn_iload_n dX7_step_370 rfl 2 rfl ?_
            refine tn_iload_n dX7_step_371 rfl 1 rfl ?_
            obtain ⟨hk1647, hl1648⟩ : AR T xa 15 9 9 := ar_of (wf_59 hw ha) hxa
            have hk1647i : IA T xa := by unfold IA; omega
            obtain ⟨hk1651, hl1652⟩ : AR T xb 1 9 9 := ar_of (wf_60 hw ha) hxb
            have hk1651i : IA T xb := by unfold IA; omega
            obtain ⟨hl1656, hk1655a, hk1655b⟩ := ex_at (wf_61 hw ha) hxc
            have hk1655 : (T xc).1 = 1 := hk1655b (by omega)
            clear hk1655a hk1655b
            have hk1655i : IA T xc := by unfold IA; omega
            obtain ⟨hk1659, hl1660⟩ : AR T xd 1 108 108 := ar_of (wf_62 hw ha) hxd
            have hk1659i : IA T xd := by unfold IA; omega
            obtain ⟨hk1663, hl1664⟩ : AR T xe 1 1728 1728 := ar_of (wf_63 hw ha) hxe
            have hk1663i : IA T xe := by unfold IA; omega
            obtain ⟨hk1667, hl1668⟩ : AR T xf 1 200 200 := ar_of (wf_64 hw ha) hxf
            have hk1667i : IA T xf := by unfold IA; omega
            refine tn_callV (M := m_X7_step) (pc := 372) (ix := 129) (ci := 7) (M' := m_X7_reckonAt) (As := [.int (iI v6), .int (iI v60)]) (rest := []) dX7_step_372 ok_X7_reckonAt im_X7_reckonAt se_X7_reckonAt ml7_129 np_X7_reckonAt rfl rfl ha rfl (Nat.le_of_ble_eq_true rfl) (Nat.le_of_ble_eq_true rfl) rfl (k_X7_reckonAt_h (d + 1) (T := T) (σ := (sA 67 a (z1640) σ)) (a := a) (k := v6) (e := v60) (xa := xa) (xb := xb) (xc := xc) (xd := xd) (xe := xe) (xf := xf) ha (by omega) (by omega) (hw.put (by decide) (by decide) (fo_67 (by omega))) (rc_o (by decide) (hxa)) (rc_o (by decide) (hxb)) (rc_o (by decide) (hxc)) (rc_o (by decide) (hxd)) (rc_o (by decide) (hxe)) (rc_o (by decide) (hxf)) (by rw [show (sA 67 a (z1640) σ).2.1 69 a = _ from rc_o (by decide) (hx7)]; omega)) (fun r1669 T1671 σ1670 gt1672 hp => ?_)
            obtain ⟨rfl, rfl, w1675, F1676, f1673⟩ := hp
            clear gt1672
            show Tn _ _ 375 T σ1670 [(3, .int (iI z1642)), (2, .int (iI v60)), (1, .int (iI v6)), (0, .ref a)] [] _
            refine tn_aload_n dX7_step_375 rfl 3 rfl ?_
            refine tn_getR (ci := 7) (i := 5) (n := 60) (x := xb) dX7_step_376 rfl lay_7 (by decide) fl7_15 ha rfl rfl (rc_F F1676 (Or.inl (by decide)) (by decide) (rc_o (by decide) (hxb))) ?_
            refine tn_aload_n dX7_step_379 rfl 3 rfl ?_
            refine tn_getI (ci := 7) (i := 2) (n := 57) (t := σ.2.1 57 a) dX7_step_380 rfl lay_7 (by decide) fl7_65 ha rfl rfl (rc_F F1676 (Or.inl (by decide)) (by decide) (rc_o (by decide) (rfl))) ?_
            have g1677 : ((0 : Int) ≤ σ.2.1 57 a ∧ σ.2.1 57 a ≤ 11184800) ∧ ((T a).1 = 57 → σ.2.1 57 a ≤ 8) := wf_57 hw ha
            have g1677x := g1677.2
            replace g1677 := g1677.1
            clear g1677x
            refine tn_iload_n dX7_step_383 rfl 0 rfl ?_
            refine tn_callSN (M := m_X7_step) (pc := 384) (ix := 61) (M' := m_X11_put) (As := [.ref xb, .int (iI (σ.2.1 57 a)), .int (iI z1642)]) (rest := []) dX7_step_384 ok_X11_put stt_X11_put nl7_61 np_X11_put rfl (Nat.le_of_ble_eq_true rfl) (Nat.le_of_ble_eq_true rfl) rfl (k_X11_put_x (d + 3) (T := T) (σ := σ1670) (x := xb) (i := σ.2.1 57 a) (y := z1642) hk1651i (by omega) (by omega) (by omega) w1675 (nh_k hk1651 (by unfold HT; omega)) (vok_1 (by have q9 := hk1651; omega) (by omega))) (fun r1678 T1680 σ1679 gt1681 hp => ?_)
            obtain ⟨rfl, rfl, w1685, F1686, f1682, f1683⟩ := hp
            clear gt1681
            show Tn _ _ 387 T σ1679 [(3, .int (iI z1642)), (2, .int (iI v60)), (1, .int (iI v6)), (0, .ref a)] [] _
            refine tn_iload_n dX7_step_387 rfl 1 rfl ?_
            refine tn_bipush dX7_step_388 (by decide) ?_
            refine tn_icmp_ne (tgt := 397) dX7_step_390 (by decide) ⟨by omega, by omega⟩ ⟨by decide, by decide⟩ (fun h1687 => ?_) (fun h1687 => absurd h1687 (by omega))
            refine tn_iconst dX7_step_397 ?_
            have q1688 : σ1679.2.1 57 a = σ.2.1 57 a := rc_F F1686 (Or.inl (by decide)) (by decide) (rc_F F1676 (Or.inl (by decide)) (by decide) (rc_o (by decide) (rfl)))
            exact tn_zret (v := 0) rfl (by decide) dX7_step_398 ⟨_, rfl, rfl, w1685, (((FrC.rfl.put (by decide) (by decide)).trans (FrC.sub F1676 (by decide))).trans (FrC.sub F1686 (by decide))), by omega, (((CHX.rfl.fld (by simp) (by decide)).trans (CHX.sub f1673 (by simp) (by simp) (by simp))).trans (CHX.sub f1682 (by simp) (by simp) (by simp))), by omega, (((FA.rfl.put).trans (FA.of F1676 (by decide))).trans (FA.of F1686 (by decide)))⟩
          · have h1689 : v60 = -1 ∨ v60 = 0 ∨ v60 = 1 ∨ v60 = 2 ∨ v60 = 3 ∨ v60 = 4 ∨ v60 = 5 ∨ v60 = 6 ∨ v60 = 7 ∨ v60 = 8 ∨ v60 = 9 ∨ v60 = 10 ∨ v60 = 11 ∨ v60 = 12 ∨ v60 = 13 ∨ v60 = 14 ∨ v60 = 15 := by omega
            rcases h1689 with h1689 | h1689 | h1689 | h1689 | h1689 | h1689 | h1689 | h1689 | h1689 | h1689 | h1689 | h1689 | h1689 | h1689 | h1689 | h1689 | h1689
            · refine tn_tableIn (tgt := 362) (off := 294) dX7_step_68 (x := v60) ⟨by omega, by omega⟩ (by omega) (by omega) (by rw [h1689]; rfl) (by decide) ?_
              refine tn_aload_n dX7_step_362 rfl 3 rfl ?_
              refine tn_iconst dX7_step_363 ?_
              obtain ⟨hk1692, hl1693⟩ : AR T xa 15 9 9 := ar_of (wf_59 hw ha) hxa
              have hk1692i : IA T xa := by unfold IA; omega
              obtain ⟨hk1696, hl1697⟩ : AR T xb 1 9 9 := ar_of (wf_60 hw ha) hxb
              have hk1696i : IA T xb := by unfold IA; omega
              obtain ⟨hl1701, hk1700a, hk1700b⟩ := ex_at (wf_61 hw ha) hxc
              have hk1700 : (T xc).1 = 1 := hk1700b (by omega)
              clear hk1700a hk1700b
              have hk1700i : IA T xc := by unfold IA; omega
              obtain ⟨hk1704, hl1705⟩ : AR T xd 1 108 108 := ar_of (wf_62 hw ha) hxd
              have hk1704i : IA T xd := by unfold IA; omega
              obtain ⟨hk1708, hl1709⟩ : AR T xe 1 1728 1728 := ar_of (wf_63 hw ha) hxe
              have hk1708i : IA T xe := by unfold IA; omega
              obtain ⟨hk1712, hl1713⟩ : AR T xf 1 200 200 := ar_of (wf_64 hw ha) hxf
              have hk1712i : IA T xf := by unfold IA; omega
              have q1718 : (sA 67 a (z1640) σ).2.1 57 a = σ.2.1 57 a := rc_o (by decide) (rfl)
              refine tn_callV (M := m_X7_step) (pc := 364) (ix := 123) (ci := 7) (M' := m_X7_giveBack) (As := [.int (iI 0)]) (rest := []) dX7_step_364 ok_X7_giveBack im_X7_giveBack se_X7_giveBack ml7_123 np_X7_giveBack rfl rfl ha rfl (Nat.le_of_ble_eq_true rfl) (Nat.le_of_ble_eq_true rfl) rfl (k_X7_giveBack_h (d + 1) (T := T) (σ := (sA 67 a (z1640) σ)) (a := a) (n := 0) (xa := xa) (xb := xb) (xc := xc) (xd := xd) (xe := xe) (xf := xf) ha hta (by decide) (hw.put (by decide) (by decide) (fo_67 (by omega))) (rc_o (by decide) (hxa)) (rc_o (by decide) (hxb)) (rc_o (by decide) (hxc)) (rc_o (by decide) (hxd)) (rc_o (by decide) (hxe)) (rc_o (by decide) (hxf))) (fun r1714 T1716 σ1715 gt1717 hp => ?_)
              obtain ⟨rfl, rfl, w1723, F1724, f1719, f1720, f1721⟩ := hp
              clear gt1717
              show Tn _ _ 367 T σ1715 [(3, .int (iI z1642)), (2, .int (iI v60)), (1, .int (iI v6)), (0, .ref a)] [] _
              refine tn_iconst dX7_step_367 ?_
              have q1725 : σ1715.2.1 57 a = σ1715.2.1 57 a := rfl
              exact tn_zret (v := 0) rfl (by decide) dX7_step_368 ⟨_, rfl, rfl, w1723, ((FrC.rfl.put (by decide) (by decide)).trans (FrC.sub F1724 (by decide))), by omega, ((CHX.rfl.fld (by simp) (by decide)).trans (CHX.sub f1719 (by simp) (by simp) (by simp))), by omega, ((FA.rfl.put).trans f1721)⟩
            · refine tn_tableIn (tgt := 369) (off := 301) dX7_step_68 (x := v60) ⟨by omega, by omega⟩ (by omega) (by omega) (by rw [h1689]; rfl) (by decide) ?_
              refine tn_aload_n dX7_step_369 rfl 3 rfl ?_
              refine tn_iload_n dX7_step_370 rfl 2 rfl ?_
              refine tn_iload_n dX7_step_371 rfl 1 rfl ?_
              obtain ⟨hk1728, hl1729⟩ : AR T xa 15 9 9 := ar_of (wf_59 hw ha) hxa
              have hk1728i : IA T xa := by unfold IA; omega
              obtain ⟨hk1732, hl1733⟩ : AR T xb 1 9 9 := ar_of (wf_60 hw ha) hxb
              have hk1732i : IA T xb := by unfold IA; omega
              obtain ⟨hl1737, hk1736a, hk1736b⟩ := ex_at (wf_61 hw ha) hxc
              have hk1736 : (T xc).1 = 1 := hk1736b (by omega)
              clear hk1736a hk1736b
              have hk1736i : IA T xc := by unfold IA; omega
              obtain ⟨hk1740, hl1741⟩ : AR T xd 1 108 108 := ar_of (wf_62 hw ha) hxd
              have hk1740i : IA T xd := by unfold IA; omega
              obtain ⟨hk1744, hl1745⟩ : AR T xe 1 1728 1728 := ar_of (wf_63 hw ha) hxe
              have hk1744i : IA T xe := by unfold IA; omega
              obtain ⟨hk1748, hl1749⟩ : AR T xf 1 200 200 := ar_of (wf_64 hw ha) hxf
              have hk1748i : IA T xf := by unfold IA; omega
              refine tn_callV (M := m_X7_step) (pc := 372) (ix := 129) (ci := 7) (M' := m_X7_reckonAt) (As := [.int (iI v6), .int (iI v60)]) (rest := []) dX7_step_372 ok_X7_reckonAt im_X7_reckonAt se_X7_reckonAt ml7_129 np_X7_reckonAt rfl rfl ha rfl (Nat.le_of_ble_eq_true rfl) (Nat.le_of_ble_eq_true rfl) rfl (k_X7_reckonAt_h (d + 1) (T := T) (σ := (sA 67 a (z1640) σ)) (a := a) (k := v6) (e := v60) (xa := xa) (xb := xb) (xc := xc) (xd := xd) (xe := xe) (xf := xf) ha (by omega) (by omega) (hw.put (by decide) (by decide) (fo_67 (by omega))) (rc_o (by decide) (hxa)) (rc_o (by decide) (hxb)) (rc_o (by decide) (hxc)) (rc_o (by decide) (hxd)) (rc_o (by decide) (hxe)) (rc_o (by decide) (hxf)) (by rw [show (sA 67 a (z1640) σ).2.1 69 a = _ from rc_o (by decide) (hx7)]; omega)) (fun r1750 T1752 σ1751 gt1753 hp => ?_)
              obtain ⟨rfl, rfl, w1756, F1757, f1754⟩ := hp
              clear gt1753
              show Tn _ _ 375 T σ1751 [(3, .int (iI z1642)), (2, .int (iI v60)), (1, .int (iI v6)), (0, .ref a)] [] _
              refine tn_aload_n dX7_step_375 rfl 3 rfl ?_
              refine tn_getR (ci := 7) (i := 5) (n := 60) (x := xb) dX7_step_376 rfl lay_7 (by decide) fl7_15 ha rfl rfl (rc_F F1757 (Or.inl (by decide)) (by decide) (rc_o (by decide) (hxb))) ?_
              refine tn_aload_n dX7_step_379 rfl 3 rfl ?_
              refine tn_getI (ci := 7) (i := 2) (n := 57) (t := σ.2.1 57 a) dX7_step_380 rfl lay_7 (by decide) fl7_65 ha rfl rfl (rc_F F1757 (Or.inl (by decide)) (by decide) (rc_o (by decide) (rfl))) ?_
              have g1758 : ((0 : Int) ≤ σ.2.1 57 a ∧ σ.2.1 57 a ≤ 11184800) ∧ ((T a).1 = 57 → σ.2.1 57 a ≤ 8) := wf_57 hw ha
              have g1758x := g1758.2
              replace g1758 := g1758.1
              clear g1758x
              refine tn_iload_n dX7_step_383 rfl 0 rfl ?_
              refine tn_callSN (M := m_X7_step) (pc := 384) (ix := 61) (M' := m_X11_put) (As := [.ref xb, .int (iI (σ.2.1 57 a)), .int (iI z1642)]) (rest := []) dX7_step_384 ok_X11_put stt_X11_put nl7_61 np_X11_put rfl (Nat.le_of_ble_eq_true rfl) (Nat.le_of_ble_eq_true rfl) rfl (k_X11_put_x (d + 3) (T := T) (σ := σ1751) (x := xb) (i := σ.2.1 57 a) (y := z1642) hk1732i (by omega) (by omega) (by omega) w1756 (nh_k hk1732 (by unfold HT; omega)) (vok_1 (by have q9 := hk1732; omega) (by omega))) (fun r1759 T1761 σ1760 gt1762 hp => ?_)
              obtain ⟨rfl, rfl, w1766, F1767, f1763, f1764⟩ := hp
              clear gt1762
              show Tn _ _ 387 T σ1760 [(3, .int (iI z1642)), (2, .int (iI v60)), (1, .int (iI v6)), (0, .ref a)] [] _
              refine tn_iload_n dX7_step_387 rfl 1 rfl ?_
              refine tn_bipush dX7_step_388 (by decide) ?_
              refine tn_icmp_ne (tgt := 397) dX7_step_390 (by decide) ⟨by omega, by omega⟩ ⟨by decide, by decide⟩ (fun h1768 => ?_) (fun h1768 => absurd h1768 (by omega))
              refine tn_iconst dX7_step_397 ?_
              have q1769 : σ1760.2.1 57 a = σ.2.1 57 a := rc_F F1767 (Or.inl (by decide)) (by decide) (rc_F F1757 (Or.inl (by decide)) (by decide) (rc_o (by decide) (rfl)))
              exact tn_zret (v := 0) rfl (by decide) dX7_step_398 ⟨_, rfl, rfl, w1766, (((FrC.rfl.put (by decide) (by decide)).trans (FrC.sub F1757 (by decide))).trans (FrC.sub F1767 (by decide))), by omega, (((CHX.rfl.fld (by simp) (by decide)).trans (CHX.sub f1754 (by simp) (by simp) (by simp))).trans (CHX.sub f1763 (by simp) (by simp) (by simp))), by omega, (((FA.rfl.put).trans (FA.of F1757 (by decide))).trans (FA.of F1767 (by decide)))⟩
            · refine tn_tableIn (tgt := 369) (off := 301) dX7_step_68 (x := v60) ⟨by omega, by omega⟩ (by omega) (by omega) (by rw [h1689]; rfl) (by decide) ?_
              refine tn_aload_n dX7_step_369 rfl 3 rfl ?_
              refine tn_iload_n dX7_step_370 rfl 2 rfl ?_
              refine tn_iload_n dX7_step_371 rfl 1 rfl ?_
              obtain ⟨hk1772, hl1773⟩ : AR T xa 15 9 9 := ar_of (wf_59 hw ha) hxa
              have hk1772i : IA T xa := by unfold IA; omega
              obtain ⟨hk1776, hl1777⟩ : AR T xb 1 9 9 := ar_of (wf_60 hw ha) hxb
              have hk1776i : IA T xb := by unfold IA; omega
              obtain ⟨hl1781, hk1780a, hk1780b⟩ := ex_at (wf_61 hw ha) hxc
              have hk1780 : (T xc).1 = 1 := hk1780b (by omega)
              clear hk1780a hk1780b
              have hk1780i : IA T xc := by unfold IA; omega
              obtain ⟨hk1784, hl1785⟩ : AR T xd 1 108 108 := ar_of (wf_62 hw ha) hxd
              have hk1784i : IA T xd := by unfold IA; omega
              obtain ⟨hk1788, hl1789⟩ : AR T xe 1 1728 1728 := ar_of (wf_63 hw ha) hxe
              have hk1788i : IA T xe := by unfold IA; omega
              obtain ⟨hk1792, hl1793⟩ : AR T xf 1 200 200 := ar_of (wf_64 hw ha) hxf
              have hk1792i : IA T xf := by unfold IA; omega
              refine tn_callV (M := m_X7_step) (pc := 372) (ix := 129) (ci := 7) (M' := m_X7_reckonAt) (As := [.int (iI v6), .int (iI v60)]) (rest := []) dX7_step_372 ok_X7_reckonAt im_X7_reckonAt se_X7_reckonAt ml7_129 np_X7_reckonAt rfl rfl ha rfl (Nat.le_of_ble_eq_true rfl) (Nat.le_of_ble_eq_true rfl) rfl (k_X7_reckonAt_h (d + 1) (T := T) (σ := (sA 67 a (z1640) σ)) (a := a) (k := v6) (e := v60) (xa := xa) (xb := xb) (xc := xc) (xd := xd) (xe := xe) (xf := xf) ha (by omega) (by omega) (hw.put (by decide) (by decide) (fo_67 (by omega))) (rc_o (by decide) (hxa)) (rc_o (by decide) (hxb)) (rc_o (by decide) (hxc)) (rc_o (by decide) (hxd)) (rc_o (by decide) (hxe)) (rc_o (by decide) (hxf)) (by rw [show (sA 67 a (z1640) σ).2.1 69 a = _ from rc_o (by decide) (hx7)]; omega)) (fun r1794 T1796 σ1795 gt1797 hp => ?_)
              obtain ⟨rfl, rfl, w1800, F1801, f1798⟩ := hp
              clear gt1797
              show Tn _ _ 375 T σ1795 [(3, .int (iI z1642)), (2, .int (iI v60)), (1, .int (iI v6)), (0, .ref a)] [] _
              refine tn_aload_n dX7_step_375 rfl 3 rfl ?_
              refine tn_getR (ci := 7) (i := 5) (n := 60) (x := xb) dX7_step_376 rfl lay_7 (by decide) fl7_15 ha rfl rfl (rc_F F1801 (Or.inl (by decide)) (by decide) (rc_o (by decide) (hxb))) ?_
              refine tn_aload_n dX7_step_379 rfl 3 rfl ?_
              refine tn_getI (ci := 7) (i := 2) (n := 57) (t := σ.2.1 57 a) dX7_step_380 rfl lay_7 (by decide) fl7_65 ha rfl rfl (rc_F F1801 (Or.inl (by decide)) (by decide) (rc_o (by decide) (rfl))) ?_
              have g1802 : ((0 : Int) ≤ σ.2.1 57 a ∧ σ.2.1 57 a ≤ 11184800) ∧ ((T a).1 = 57 → σ.2.1 57 a ≤ 8) := wf_57 hw ha
              have g1802x := g1802.2
              replace g1802 := g1802.1
              clear g1802x
              refine tn_iload_n dX7_step_383 rfl 0 rfl ?_
              refine tn_callSN (M := m_X7_step) (pc := 384) (ix := 61) (M' := m_X11_put) (As := [.ref xb, .int (iI (σ.2.1 57 a)), .int (iI z1642)]) (rest := []) dX7_step_384 ok_X11_put stt_X11_put nl7_61 np_X11_put rfl (Nat.le_of_ble_eq_true rfl) (Nat.le_of_ble_eq_true rfl) rfl (k_X11_put_x (d + 3) (T := T) (σ := σ1795) (x := xb) (i := σ.2.1 57 a) (y := z1642) hk1776i (by omega) (by omega) (by omega) w1800 (nh_k hk1776 (by unfold HT; omega)) (vok_1 (by have q9 := hk1776; omega) (by omega))) (fun r1803 T1805 σ1804 gt1806 hp => ?_)
              obtain ⟨rfl, rfl, w1810, F1811, f1807, f1808⟩ := hp
              clear gt1806
              show Tn _ _ 387 T σ1804 [(3, .int (iI z1642)), (2, .int (iI v60)), (1, .int (iI v6)), (0, .ref a)] [] _
              refine tn_iload_n dX7_step_387 rfl 1 rfl ?_
              refine tn_bipush dX7_step_388 (by decide) ?_
              refine tn_icmp_ne (tgt := 397) dX7_step_390 (by decide) ⟨by omega, by omega⟩ ⟨by decide, by decide⟩ (fun h1812 => ?_) (fun h1812 => absurd h1812 (by omega))
              refine tn_iconst dX7_step_397 ?_
              have q1813 : σ1804.2.1 57 a = σ.2.1 57 a := rc_F F1811 (Or.inl (by decide)) (by decide) (rc_F F1801 (Or.inl (by decide)) (by decide) (rc_o (by decide) (rfl)))
              exact tn_zret (v := 0) rfl (by decide) dX7_step_398 ⟨_, rfl, rfl, w1810, (((FrC.rfl.put (by decide) (by decide)).trans (FrC.sub F1801 (by decide))).trans (FrC.sub F1811 (by decide))), by omega, (((CHX.rfl.fld (by simp) (by decide)).trans (CHX.sub f1798 (by simp) (by simp) (by simp))).trans (CHX.sub f1807 (by simp) (by simp) (by simp))), by omega, (((FA.rfl.put).trans (FA.of F1801 (by decide))).trans (FA.of F1811 (by decide)))⟩
            · refine tn_tableIn (tgt := 369) (off := 301) dX7_step_68 (x := v60) ⟨by omega, by omega⟩ (by omega) (by omega) (by rw [h1689]; rfl) (by decide) ?_
              refine tn_aload_n dX7_step_369 rfl 3 rfl ?_
              refine tn_iload_n dX7_step_370 rfl 2 rfl ?_
              refine tn_iload_n dX7_step_371 rfl 1 rfl ?_
              obtain ⟨hk1816, hl1817⟩ : AR T xa 15 9 9 := ar_of (wf_59 hw ha) hxa
              have hk1816i : IA T xa := by unfold IA; omega
              obtain ⟨hk1820, hl1821⟩ : AR T xb 1 9 9 := ar_of (wf_60 hw ha) hxb
              have hk1820i : IA T xb := by unfold IA; omega
              obtain ⟨hl1825, hk1824a, hk1824b⟩ := ex_at (wf_61 hw ha) hxc
              have hk1824 : (T xc).1 = 1 := hk1824b (by omega)
              clear hk1824a hk1824b
              have hk1824i : IA T xc := by unfold IA; omega
              obtain ⟨hk1828, hl1829⟩ : AR T xd 1 108 108 := ar_of (wf_62 hw ha) hxd
              have hk1828i : IA T xd := by unfold IA; omega
              obtain ⟨hk1832, hl1833⟩ : AR T xe 1 1728 1728 := ar_of (wf_63 hw ha) hxe
              have hk1832i : IA T xe := by unfold IA; omega
              obtain ⟨hk1836, hl1837⟩ : AR T xf 1 200 200 := ar_of (wf_64 hw ha) hxf
              have hk1836i : IA T xf := by unfold IA; omega
              refine tn_callV (M := m_X7_step) (pc := 372) (ix := 129) (ci := 7) (M' := m_X7_reckonAt) (As := [.int (iI v6), .int (iI v60)]) (rest := []) dX7_step_372 ok_X7_reckonAt im_X7_reckonAt se_X7_reckonAt ml7_129 np_X7_reckonAt rfl rfl ha rfl (Nat.le_of_ble_eq_true rfl) (Nat.le_of_ble_eq_true rfl) rfl (k_X7_reckonAt_h (d + 1) (T := T) (σ := (sA 67 a (z1640) σ)) (a := a) (k := v6) (e := v60) (xa := xa) (xb := xb) (xc := xc) (xd := xd) (xe := xe) (xf := xf) ha (by omega) (by omega) (hw.put (by decide) (by decide) (fo_67 (by omega))) (rc_o (by decide) (hxa)) (rc_o (by decide) (hxb)) (rc_o (by decide) (hxc)) (rc_o (by decide) (hxd)) (rc_o (by decide) (hxe)) (rc_o (by decide) (hxf)) (by rw [show (sA 67 a (z1640) σ).2.1 69 a = _ from rc_o (by decide) (hx7)]; omega)) (fun r1838 T1840 σ1839 gt1841 hp => ?_)
              obtain ⟨rfl, rfl, w1844, F1845, f1842⟩ := hp
              clear gt1841
              show Tn _ _ 375 T σ1839 [(3, .int (iI z1642)), (2, .int (iI v60)), (1, .int (iI v6)), (0, .ref a)] [] _
              refine tn_aload_n dX7_step_375 rfl 3 rfl ?_
              refine tn_getR (ci := 7) (i := 5) (n := 60) (x := xb) dX7_step_376 rfl lay_7 (by decide) fl7_15 ha rfl rfl (rc_F F1845 (Or.inl (by decide)) (by decide) (rc_o (by decide) (hxb))) ?_
              refine tn_aload_n dX7_step_379 rfl 3 rfl ?_
              refine tn_getI (ci := 7) (i := 2) (n := 57) (t := σ.2.1 57 a) dX7_step_380 rfl lay_7 (by decide) fl7_65 ha rfl rfl (rc_F F1845 (Or.inl (by decide)) (by decide) (rc_o (by decide) (rfl))) ?_
              have g1846 : ((0 : Int) ≤ σ.2.1 57 a ∧ σ.2.1 57 a ≤ 11184800) ∧ ((T a).1 = 57 → σ.2.1 57 a ≤ 8) := wf_57 hw ha
              have g1846x := g1846.2
              replace g1846 := g1846.1
              clear g1846x
              refine tn_iload_n dX7_step_383 rfl 0 rfl ?_
              refine tn_callSN (M := m_X7_step) (pc := 384) (ix := 61) (M' := m_X11_put) (As := [.ref xb, .int (iI (σ.2.1 57 a)), .int (iI z1642)]) (rest := []) dX7_step_384 ok_X11_put stt_X11_put nl7_61 np_X11_put rfl (Nat.le_of_ble_eq_true rfl) (Nat.le_of_ble_eq_true rfl) rfl (k_X11_put_x (d + 3) (T := T) (σ := σ1839) (x := xb) (i := σ.2.1 57 a) (y := z1642) hk1820i (by omega) (by omega) (by omega) w1844 (nh_k hk1820 (by unfold HT; omega)) (vok_1 (by have q9 := hk1820; omega) (by omega))) (fun r1847 T1849 σ1848 gt1850 hp => ?_)
              obtain ⟨rfl, rfl, w1854, F1855, f1851, f1852⟩ := hp
              clear gt1850
              show Tn _ _ 387 T σ1848 [(3, .int (iI z1642)), (2, .int (iI v60)), (1, .int (iI v6)), (0, .ref a)] [] _
              refine tn_iload_n dX7_step_387 rfl 1 rfl ?_
              refine tn_bipush dX7_step_388 (by decide) ?_
              refine tn_icmp_ne (tgt := 397) dX7_step_390 (by decide) ⟨by omega, by omega⟩ ⟨by decide, by decide⟩ (fun h1856 => ?_) (fun h1856 => absurd h1856 (by omega))
              refine tn_iconst dX7_step_397 ?_
              have q1857 : σ1848.2.1 57 a = σ.2.1 57 a := rc_F F1855 (Or.inl (by decide)) (by decide) (rc_F F1845 (Or.inl (by decide)) (by decide) (rc_o (by decide) (rfl)))
              exact tn_zret (v := 0) rfl (by decide) dX7_step_398 ⟨_, rfl, rfl, w1854, (((FrC.rfl.put (by decide) (by decide)).trans (FrC.sub F1845 (by decide))).trans (FrC.sub F1855 (by decide))), by omega, (((CHX.rfl.fld (by simp) (by decide)).trans (CHX.sub f1842 (by simp) (by simp) (by simp))).trans (CHX.sub f1851 (by simp) (by simp) (by simp))), by omega, (((FA.rfl.put).trans (FA.of F1845 (by decide))).trans (FA.of F1855 (by decide)))⟩
            · refine tn_tableIn (tgt := 369) (off := 301) dX7_step_68 (x := v60) ⟨by omega, by omega⟩ (by omega) (by omega) (by rw [h1689]; rfl) (by decide) ?_
              refine tn_aload_n dX7_step_369 rfl 3 rfl ?_
              refine tn_iload_n dX7_step_370 rfl 2 rfl ?_
              refine tn_iload_n dX7_step_371 rfl 1 rfl ?_
              obtain ⟨hk1860, hl1861⟩ : AR T xa 15 9 9 := ar_of (wf_59 hw ha) hxa
              have hk1860i : IA T xa := by unfold IA; omega
              obtain ⟨hk1864, hl1865⟩ : AR T xb 1 9 9 := ar_of (wf_60 hw ha) hxb
              have hk1864i : IA T xb := by unfold IA; omega
              obtain ⟨hl1869, hk1868a, hk1868b⟩ := ex_at (wf_61 hw ha) hxc
              have hk1868 : (T xc).1 = 1 := hk1868b (by omega)
              clear hk1868a hk1868b
              have hk1868i : IA T xc := by unfold IA; omega
              obtain ⟨hk1872, hl1873⟩ : AR T xd 1 108 108 := ar_of (wf_62 hw ha) hxd
              have hk1872i : IA T xd := by unfold IA; omega
              obtain ⟨hk1876, hl1877⟩ : AR T xe 1 1728 1728 := ar_of (wf_63 hw ha) hxe
              have hk1876i : IA T xe := by unfold IA; omega
              obtain ⟨hk1880, hl1881⟩ : AR T xf 1 200 200 := ar_of (wf_64 hw ha) hxf
              have hk1880i : IA T xf := by unfold IA; omega
              refine tn_callV (M := m_X7_step) (pc := 372) (ix := 129) (ci := 7) (M' := m_X7_reckonAt) (As := [.int (iI v6), .int (iI v60)]) (rest := []) dX7_step_372 ok_X7_reckonAt im_X7_reckonAt se_X7_reckonAt ml7_129 np_X7_reckonAt rfl rfl ha rfl (Nat.le_of_ble_eq_true rfl) (Nat.le_of_ble_eq_true rfl) rfl (k_X7_reckonAt_h (d + 1) (T := T) (σ := (sA 67 a (z1640) σ)) (a := a) (k := v6) (e := v60) (xa := xa) (xb := xb) (xc := xc) (xd := xd) (xe := xe) (xf := xf) ha (by omega) (by omega) (hw.put (by decide) (by decide) (fo_67 (by omega))) (rc_o (by decide) (hxa)) (rc_o (by decide) (hxb)) (rc_o (by decide) (hxc)) (rc_o (by decide) (hxd)) (rc_o (by decide) (hxe)) (rc_o (by decide) (hxf)) (by rw [show (sA 67 a (z1640) σ).2.1 69 a = _ from rc_o (by decide) (hx7)]; omega)) (fun r1882 T1884 σ1883 gt1885 hp => ?_)
              obtain ⟨rfl, rfl, w1888, F1889, f1886⟩ := hp
              clear gt1885
              show Tn _ _ 375 T σ1883 [(3, .int (iI z1642)), (2, .int (iI v60)), (1, .int (iI v6)), (0, .ref a)] [] _
              refine tn_aload_n dX7_step_375 rfl 3 rfl ?_
              refine tn_getR (ci := 7) (i := 5) (n := 60) (x := xb) dX7_step_376 rfl lay_7 (by decide) fl7_15 ha rfl rfl (rc_F F1889 (Or.inl (by decide)) (by decide) (rc_o (by decide) (hxb))) ?_
              refine tn_aload_n dX7_step_379 rfl 3 rfl ?_
              refine tn_getI (ci := 7) (i := 2) (n := 57) (t := σ.2.1 57 a) dX7_step_380 rfl lay_7 (by decide) fl7_65 ha rfl rfl (rc_F F1889 (Or.inl (by decide)) (by decide) (rc_o (by decide) (rfl))) ?_
              have g1890 : ((0 : Int) ≤ σ.2.1 57 a ∧ σ.2.1 57 a ≤ 11184800) ∧ ((T a).1 = 57 → σ.2.1 57 a ≤ 8) := wf_57 hw ha
              have g1890x := g1890.2
              replace g1890 := g1890.1
              clear g1890x
              refine tn_iload_n dX7_step_383 rfl 0 rfl ?_
              refine tn_callSN (M := m_X7_step) (pc := 384) (ix := 61) (M' := m_X11_put) (As := [.ref xb, .int (iI (σ.2.1 57 a)), .int (iI z1642)]) (rest := []) dX7_step_384 ok_X11_put stt_X11_put nl7_61 np_X11_put rfl (Nat.le_of_ble_eq_true rfl) (Nat.le_of_ble_eq_true rfl) rfl (k_X11_put_x (d + 3) (T := T) (σ := σ1883) (x := xb) (i := σ.2.1 57 a) (y := z1642) hk1864i (by omega) (by omega) (by omega) w1888 (nh_k hk1864 (by unfold HT; omega)) (vok_1 (by have q9 := hk1864; omega) (by omega))) (fun r1891 T1893 σ1892 gt1894 hp => ?_)
              obtain ⟨rfl, rfl, w1898, F1899, f1895, f1896⟩ := hp
              clear gt1894
              show Tn _ _ 387 T σ1892 [(3, .int (iI z1642)), (2, .int (iI v60)), (1, .int (iI v6)), (0, .ref a)] [] _
              refine tn_iload_n dX7_step_387 rfl 1 rfl ?_
              refine tn_bipush dX7_step_388 (by decide) ?_
              refine tn_icmp_ne (tgt := 397) dX7_step_390 (by decide) ⟨by omega, by omega⟩ ⟨by decide, by decide⟩ (fun h1900 => ?_) (fun h1900 => absurd h1900 (by omega))
              refine tn_iconst dX7_step_397 ?_
              have q1901 : σ1892.2.1 57 a = σ.2.1 57 a := rc_F F1899 (Or.inl (by decide)) (by decide) (rc_F F1889 (Or.inl (by decide)) (by decide) (rc_o (by decide) (rfl)))
              exact tn_zret (v := 0) rfl (by decide) dX7_step_398 ⟨_, rfl, rfl, w1898, (((FrC.rfl.put (by decide) (by decide)).trans (FrC.sub F1889 (by decide))).trans (FrC.sub F1899 (by decide))), by omega, (((CHX.rfl.fld (by simp) (by decide)).trans (CHX.sub f1886 (by simp) (by simp) (by simp))).trans (CHX.sub f1895 (by simp) (by simp) (by simp))), by omega, (((FA.rfl.put).trans (FA.of F1889 (by decide))).trans (FA.of F1899 (by decide)))⟩
            · refine tn_tableIn (tgt := 369) (off := 301) dX7_step_68 (x := v60) ⟨by omega, by omega⟩ (by omega) (by omega) (by rw [h1689]; rfl) (by decide) ?_
              refine tn_aload_n dX7_step_369 rfl 3 rfl ?_
              refine tn_iload_n dX7_step_370 rfl 2 rfl ?_
              refine tn_iload_n dX7_step_371 rfl 1 rfl ?_
              obtain ⟨hk1904, hl1905⟩ : AR T xa 15 9 9 := ar_of (wf_59 hw ha) hxa
              have hk1904i : IA T xa := by unfold IA; omega
              obtain ⟨hk1908, hl1909⟩ : AR T xb 1 9 9 := ar_of (wf_60 hw ha) hxb
              have hk1908i : IA T xb := by unfold IA; omega
              obtain ⟨hl1913, hk1912a, hk1912b⟩ := ex_at (wf_61 hw ha) hxc
              have hk1912 : (T xc).1 = 1 := hk1912b (by omega)
              clear hk1912a hk1912b
              have hk1912i : IA T xc := by unfold IA; omega
              obtain ⟨hk1916, hl1917⟩ : AR T xd 1 108 108 := ar_of (wf_62 hw ha) hxd
              have hk1916i : IA T xd := by unfold IA; omega
              obtain ⟨hk1920, hl1921⟩ : AR T xe 1 1728 1728 := ar_of (wf_63 hw ha) hxe
              have hk1920i : IA T xe := by unfold IA; omega
              obtain ⟨hk1924, hl1925⟩ : AR T xf 1 200 200 := ar_of (wf_64 hw ha) hxf
              have hk1924i : IA T xf := by unfold IA; omega
              refine tn_callV (M := m_X7_step) (pc := 372) (ix := 129) (ci := 7) (M' := m_X7_reckonAt) (As := [.int (iI v6), .int (iI v60)]) (rest := []) dX7_step_372 ok_X7_reckonAt im_X7_reckonAt se_X7_reckonAt ml7_129 np_X7_reckonAt rfl rfl ha rfl (Nat.le_of_ble_eq_true rfl) (Nat.le_of_ble_eq_true rfl) rfl (k_X7_reckonAt_h (d + 1) (T := T) (σ := (sA 67 a (z1640) σ)) (a := a) (k := v6) (e := v60) (xa := xa) (xb := xb) (xc := xc) (xd := xd) (xe := xe) (xf := xf) ha (by omega) (by omega) (hw.put (by decide) (by decide) (fo_67 (by omega))) (rc_o (by decide) (hxa)) (rc_o (by decide) (hxb)) (rc_o (by decide) (hxc)) (rc_o (by decide) (hxd)) (rc_o (by decide) (hxe)) (rc_o (by decide) (hxf)) (by rw [show (sA 67 a (z1640) σ).2.1 69 a = _ from rc_o (by decide) (hx7)]; omega)) (fun r1926 T1928 σ1927 gt1929 hp => ?_)
              obtain ⟨rfl, rfl, w1932, F1933, f1930⟩ := hp
              clear gt1929
              show Tn _ _ 375 T σ1927 [(3, .int (iI z1642)), (2, .int (iI v60)), (1, .int (iI v6)), (0, .ref a)] [] _
              refine tn_aload_n dX7_step_375 rfl 3 rfl ?_
              refine tn_getR (ci := 7) (i := 5) (n := 60) (x := xb) dX7_step_376 rfl lay_7 (by decide) fl7_15 ha rfl rfl (rc_F F1933 (Or.inl (by decide)) (by decide) (rc_o (by decide) (hxb))) ?_
              refine tn_aload_n dX7_step_379 rfl 3 rfl ?_
              refine tn_getI (ci := 7) (i := 2) (n := 57) (t := σ.2.1 57 a) dX7_step_380 rfl lay_7 (by decide) fl7_65 ha rfl rfl (rc_F F1933 (Or.inl (by decide)) (by decide) (rc_o (by decide) (rfl))) ?_
              have g1934 : ((0 : Int) ≤ σ.2.1 57 a ∧ σ.2.1 57 a ≤ 11184800) ∧ ((T a).1 = 57 → σ.2.1 57 a ≤ 8) := wf_57 hw ha
              have g1934x := g1934.2
              replace g1934 := g1934.1
              clear g1934x
              refine tn_iload_n dX7_step_383 rfl 0 rfl ?_
              refine tn_callSN (M := m_X7_step) (pc := 384) (ix := 61) (M' := m_X11_put) (As := [.ref xb, .int (iI (σ.2.1 57 a)), .int (iI z1642)]) (rest := []) dX7_step_384 ok_X11_put stt_X11_put nl7_61 np_X11_put rfl (Nat.le_of_ble_eq_true rfl) (Nat.le_of_ble_eq_true rfl) rfl (k_X11_put_x (d + 3) (T := T) (σ := σ1927) (x := xb) (i := σ.2.1 57 a) (y := z1642) hk1908i (by omega) (by omega) (by omega) w1932 (nh_k hk1908 (by unfold HT; omega)) (vok_1 (by have q9 := hk1908; omega) (by omega))) (fun r1935 T1937 σ1936 gt1938 hp => ?_)
              obtain ⟨rfl, rfl, w1942, F1943, f1939, f1940⟩ := hp
              clear gt1938
              show Tn _ _ 387 T σ1936 [(3, .int (iI z1642)), (2, .int (iI v60)), (1, .int (iI v6)), (0, .ref a)] [] _
              refine tn_iload_n dX7_step_387 rfl 1 rfl ?_
              refine tn_bipush dX7_step_388 (by decide) ?_
              refine tn_icmp_ne (tgt := 397) dX7_step_390 (by decide) ⟨by omega, by omega⟩ ⟨by decide, by decide⟩ (fun h1944 => ?_) (fun h1944 => absurd h1944 (by omega))
              refine tn_iconst dX7_step_397 ?_
              have q1945 : σ1936.2.1 57 a = σ.2.1 57 a := rc_F F1943 (Or.inl (by decide)) (by decide) (rc_F F1933 (Or.inl (by decide)) (by decide) (rc_o (by decide) (rfl)))
              exact tn_zret (v := 0) rfl (by decide) dX7_step_398 ⟨_, rfl, rfl, w1942, (((FrC.rfl.put (by decide) (by decide)).trans (FrC.sub F1933 (by decide))).trans (FrC.sub F1943 (by decide))), by omega, (((CHX.rfl.fld (by simp) (by decide)).trans (CHX.sub f1930 (by simp) (by simp) (by simp))).trans (CHX.sub f1939 (by simp) (by simp) (by simp))), by omega, (((FA.rfl.put).trans (FA.of F1933 (by decide))).trans (FA.of F1943 (by decide)))⟩
            · refine tn_tableIn (tgt := 369) (off := 301) dX7_step_68 (x := v60) ⟨by omega, by omega⟩ (by omega) (by omega) (by rw [h1689]; rfl) (by decide) ?_
              refine tn_aload_n dX7_step_369 rfl 3 rfl ?_
              refine tn_iload_n dX7_step_370 rfl 2 rfl ?_
              refine tn_iload_n dX7_step_371 rfl 1 rfl ?_
              obtain ⟨hk1948, hl1949⟩ : AR T xa 15 9 9 := ar_of (wf_59 hw ha) hxa
              have hk1948i : IA T xa := by unfold IA; omega
              obtain ⟨hk1952, hl1953⟩ : AR T xb 1 9 9 := ar_of (wf_60 hw ha) hxb
              have hk1952i : IA T xb := by unfold IA; omega
              obtain ⟨hl1957, hk1956a, hk1956b⟩ := ex_at (wf_61 hw ha) hxc
              have hk1956 : (T xc).1 = 1 := hk1956b (by omega)
              clear hk1956a hk1956b
              have hk1956i : IA T xc := by unfold IA; omega
              obtain ⟨hk1960, hl1961⟩ : AR T xd 1 108 108 := ar_of (wf_62 hw ha) hxd
              have hk1960i : IA T xd := by unfold IA; omega
              obtain ⟨hk1964, hl1965⟩ : AR T xe 1 1728 1728 := ar_of (wf_63 hw ha) hxe
              have hk1964i : IA T xe := by unfold IA; omega
              obtain ⟨hk1968, hl1969⟩ : AR T xf 1 200 200 := ar_of (wf_64 hw ha) hxf
              have hk1968i : IA T xf := by unfold IA; omega
              refine tn_callV (M := m_X7_step) (pc := 372) (ix := 129) (ci := 7) (M' := m_X7_reckonAt) (As := [.int (iI v6), .int (iI v60)]) (rest := []) dX7_step_372 ok_X7_reckonAt im_X7_reckonAt se_X7_reckonAt ml7_129 np_X7_reckonAt rfl rfl ha rfl (Nat.le_of_ble_eq_true rfl) (Nat.le_of_ble_eq_true rfl) rfl (k_X7_reckonAt_h (d + 1) (T := T) (σ := (sA 67 a (z1640) σ)) (a := a) (k := v6) (e := v60) (xa := xa) (xb := xb) (xc := xc) (xd := xd) (xe := xe) (xf := xf) ha (by omega) (by omega) (hw.put (by decide) (by decide) (fo_67 (by omega))) (rc_o (by decide) (hxa)) (rc_o (by decide) (hxb)) (rc_o (by decide) (hxc)) (rc_o (by decide) (hxd)) (rc_o (by decide) (hxe)) (rc_o (by decide) (hxf)) (by rw [show (sA 67 a (z1640) σ).2.1 69 a = _ from rc_o (by decide) (hx7)]; omega)) (fun r1970 T1972 σ1971 gt1973 hp => ?_)
              obtain ⟨rfl, rfl, w1976, F1977, f1974⟩ := hp
              clear gt1973
              show Tn _ _ 375 T σ1971 [(3, .int (iI z1642)), (2, .int (iI v60)), (1, .int (iI v6)), (0, .ref a)] [] _
              refine tn_aload_n dX7_step_375 rfl 3 rfl ?_
              refine tn_getR (ci := 7) (i := 5) (n := 60) (x := xb) dX7_step_376 rfl lay_7 (by decide) fl7_15 ha rfl rfl (rc_F F1977 (Or.inl (by decide)) (by decide) (rc_o (by decide) (hxb))) ?_
              refine tn_aload_n dX7_step_379 rfl 3 rfl ?_
              refine tn_getI (ci := 7) (i := 2) (n := 57) (t := σ.2.1 57 a) dX7_step_380 rfl lay_7 (by decide) fl7_65 ha rfl rfl (rc_F F1977 (Or.inl (by decide)) (by decide) (rc_o (by decide) (rfl))) ?_
              have g1978 : ((0 : Int) ≤ σ.2.1 57 a ∧ σ.2.1 57 a ≤ 11184800) ∧ ((T a).1 = 57 → σ.2.1 57 a ≤ 8) := wf_57 hw ha
              have g1978x := g1978.2
              replace g1978 := g1978.1
              clear g1978x
              refine tn_iload_n dX7_step_383 rfl 0 rfl ?_
              refine tn_callSN (M := m_X7_step) (pc := 384) (ix := 61) (M' := m_X11_put) (As := [.ref xb, .int (iI (σ.2.1 57 a)), .int (iI z1642)]) (rest := []) dX7_step_384 ok_X11_put stt_X11_put nl7_61 np_X11_put rfl (Nat.le_of_ble_eq_true rfl) (Nat.le_of_ble_eq_true rfl) rfl (k_X11_put_x (d + 3) (T := T) (σ := σ1971) (x := xb) (i := σ.2.1 57 a) (y := z1642) hk1952i (by omega) (by omega) (by omega) w1976 (nh_k hk1952 (by unfold HT; omega)) (vok_1 (by have q9 := hk1952; omega) (by omega))) (fun r1979 T1981 σ1980 gt1982 hp => ?_)
              obtain ⟨rfl, rfl, w1986, F1987, f1983, f1984⟩ := hp
              clear gt1982
              show Tn _ _ 387 T σ1980 [(3, .int (iI z1642)), (2, .int (iI v60)), (1, .int (iI v6)), (0, .ref a)] [] _
              refine tn_iload_n dX7_step_387 rfl 1 rfl ?_
              refine tn_bipush dX7_step_388 (by decide) ?_
              refine tn_icmp_ne (tgt := 397) dX7_step_390 (by decide) ⟨by omega, by omega⟩ ⟨by decide, by decide⟩ (fun h1988 => ?_) (fun h1988 => absurd h1988 (by omega))
              refine tn_iconst dX7_step_397 ?_
              have q1989 : σ1980.2.1 57 a = σ.2.1 57 a := rc_F F1987 (Or.inl (by decide)) (by decide) (rc_F F1977 (Or.inl (by decide)) (by decide) (rc_o (by decide) (rfl)))
              exact tn_zret (v := 0) rfl (by decide) dX7_step_398 ⟨_, rfl, rfl, w1986, (((FrC.rfl.put (by decide) (by decide)).trans (FrC.sub F1977 (by decide))).trans (FrC.sub F1987 (by decide))), by omega, (((CHX.rfl.fld (by simp) (by decide)).trans (CHX.sub f1974 (by simp) (by simp) (by simp))).trans (CHX.sub f1983 (by simp) (by simp) (by simp))), by omega, (((FA.rfl.put).trans (FA.of F1977 (by decide))).trans (FA.of F1987 (by decide)))⟩
            · refine tn_tableIn (tgt := 152) (off := 84) dX7_step_68 (x := v60) ⟨by omega, by omega⟩ (by omega) (by omega) (by rw [h1689]; rfl) (by decide) ?_
              refine tn_aload_n dX7_step_152 rfl 3 rfl ?_
              refine tn_aload_n dX7_step_153 rfl 3 rfl ?_
              refine tn_iload_n dX7_step_154 rfl 2 rfl ?_
              refine tn_iconst dX7_step_155 ?_
              refine tn_callV (M := m_X7_step) (pc := 156) (ix := 110) (ci := 7) (M' := m_X7_operand) (As := [.int (iI v6), .int (iI 3)]) (rest := [.ref a]) dX7_step_156 ok_X7_operand im_X7_operand se_X7_operand ml7_110 np_X7_operand rfl rfl ha rfl (Nat.le_of_ble_eq_true rfl) (Nat.le_of_ble_eq_true rfl) rfl (k_X7_operand (d + 2) (T := T) (σ := (sA 67 a (z1640) σ)) (a := a) (k := v6) (c := 3) ha (by omega) (by decide) (hw.put (by decide) (by decide) (fo_67 (by omega))) (by rw [show (sA 67 a (z1640) σ).2.1 69 a = _ from rc_o (by decide) (hx7)]; omega) (by omega)) (fun r1990 T1992 σ1991 gt1993 hp => ?_)
              obtain ⟨v1995, rfl, rfl, rfl, f1994⟩ := hp
              clear gt1993
              show Tn _ _ 159 T (sA 67 a (z1640) σ) [(3, .int (iI z1642)), (2, .int (iI v60)), (1, .int (iI v6)), (0, .ref a)] [.int (iI v1995), .ref a] _
              obtain ⟨hk1998, hl1999⟩ : AR T xa 15 9 9 := ar_of (wf_59 hw ha) hxa
              have hk1998i : IA T xa := by unfold IA; omega
              obtain ⟨hk2002, hl2003⟩ : AR T xb 1 9 9 := ar_of (wf_60 hw ha) hxb
              have hk2002i : IA T xb := by unfold IA; omega
              obtain ⟨hl2007, hk2006a, hk2006b⟩ := ex_at (wf_61 hw ha) hxc
              have hk2006 : (T xc).1 = 1 := hk2006b (by omega)
              clear hk2006a hk2006b
              have hk2006i : IA T xc := by unfold IA; omega
              obtain ⟨hk2010, hl2011⟩ : AR T xd 1 108 108 := ar_of (wf_62 hw ha) hxd
              have hk2010i : IA T xd := by unfold IA; omega
              obtain ⟨hk2014, hl2015⟩ : AR T xe 1 1728 1728 := ar_of (wf_63 hw ha) hxe
              have hk2014i : IA T xe := by unfold IA; omega
              obtain ⟨hk2018, hl2019⟩ : AR T xf 1 200 200 := ar_of (wf_64 hw ha) hxf
              have hk2018i : IA T xf := by unfold IA; omega
              refine tn_callV (M := m_X7_step) (pc := 159) (ix := 113) (ci := 7) (M' := m_X7_emit) (As := [.int (iI v1995)]) (rest := []) dX7_step_159 ok_X7_emit im_X7_emit se_X7_emit ml7_113 np_X7_emit rfl rfl ha rfl (Nat.le_of_ble_eq_true rfl) (Nat.le_of_ble_eq_true rfl) rfl (k_X7_emit_h (d + 2) (T := T) (σ := (sA 67 a (z1640) σ)) (a := a) (p1 := v1995) (xa := xa) (xb := xb) (xc := xc) (xd := xd) (xe := xe) (xf := xf) ha (by omega) (hw.put (by decide) (by decide) (fo_67 (by omega))) (rc_o (by decide) (hxa)) (rc_o (by decide) (hxb)) (rc_o (by decide) (hxc)) (rc_o (by decide) (hxd)) (rc_o (by decide) (hxe)) (rc_o (by decide) (hxf))) (fun r2020 T2022 σ2021 gt2023 hp => ?_)
              obtain ⟨rfl, rfl, w2027, F2028, f2024, f2025⟩ := hp
              clear gt2023
              show Tn _ _ 162 T σ2021 [(3, .int (iI z1642)), (2, .int (iI v60)), (1, .int (iI v6)), (0, .ref a)] [] _
              refine tn_goto (tgt := 375) dX7_step_162 (by decide) ?_
              refine tn_aload_n dX7_step_375 rfl 3 rfl ?_
              refine tn_getR (ci := 7) (i := 5) (n := 60) (x := xb) dX7_step_376 rfl lay_7 (by decide) fl7_15 ha rfl rfl (rc_F F2028 (Or.inl (by decide)) (by decide) (rc_o (by decide) (hxb))) ?_
              refine tn_aload_n dX7_step_379 rfl 3 rfl ?_
              refine tn_getI (ci := 7) (i := 2) (n := 57) (t := σ.2.1 57 a) dX7_step_380 rfl lay_7 (by decide) fl7_65 ha rfl rfl (rc_F F2028 (Or.inl (by decide)) (by decide) (rc_o (by decide) (rfl))) ?_
              have g2029 : ((0 : Int) ≤ σ.2.1 57 a ∧ σ.2.1 57 a ≤ 11184800) ∧ ((T a).1 = 57 → σ.2.1 57 a ≤ 8) := wf_57 hw ha
              have g2029x := g2029.2
              replace g2029 := g2029.1
              clear g2029x
              refine tn_iload_n dX7_step_383 rfl 0 rfl ?_
              refine tn_callSN (M := m_X7_step) (pc := 384) (ix := 61) (M' := m_X11_put) (As := [.ref xb, .int (iI (σ.2.1 57 a)), .int (iI z1642)]) (rest := []) dX7_step_384 ok_X11_put stt_X11_put nl7_61 np_X11_put rfl (Nat.le_of_ble_eq_true rfl) (Nat.le_of_ble_eq_true rfl) rfl (k_X11_put_x (d + 3) (T := T) (σ := σ2021) (x := xb) (i := σ.2.1 57 a) (y := z1642) hk2002i (by omega) (by omega) (by omega) w2027 (nh_k hk2002 (by unfold HT; omega)) (vok_1 (by have q9 := hk2002; omega) (by omega))) (fun r2030 T2032 σ2031 gt2033 hp => ?_)
              obtain ⟨rfl, rfl, w2037, F2038, f2034, f2035⟩ := hp
              clear gt2033
              show Tn _ _ 387 T σ2031 [(3, .int (iI z1642)), (2, .int (iI v60)), (1, .int (iI v6)), (0, .ref a)] [] _
              refine tn_iload_n dX7_step_387 rfl 1 rfl ?_
              refine tn_bipush dX7_step_388 (by decide) ?_
              refine tn_icmp_ne (tgt := 397) dX7_step_390 (by decide) ⟨by omega, by omega⟩ ⟨by decide, by decide⟩ (fun h2039 => ?_) (fun h2039 => absurd h2039 (by omega))
              refine tn_iconst dX7_step_397 ?_
              have q2040 : σ2031.2.1 57 a = σ.2.1 57 a := rc_F F2038 (Or.inl (by decide)) (by decide) (rc_F F2028 (Or.inl (by decide)) (by decide) (rc_o (by decide) (rfl)))
              exact tn_zret (v := 0) rfl (by decide) dX7_step_398 ⟨_, rfl, rfl, w2037, (((FrC.rfl.put (by decide) (by decide)).trans (FrC.sub F2028 (by decide))).trans (FrC.sub F2038 (by decide))), by omega, (((CHX.rfl.fld (by simp) (by decide)).trans (CHX.sub f2024 (by simp) (by simp) (by simp))).trans (CHX.sub f2034 (by simp) (by simp) (by simp))), by omega, (((FA.rfl.put).trans f2025).trans (FA.of F2038 (by decide)))⟩
            · refine tn_tableIn (tgt := 213) (off := 145) dX7_step_68 (x := v60) ⟨by omega, by omega⟩ (by omega) (by omega) (by rw [h1689]; rfl) (by decide) ?_
              refine tn_aload_n dX7_step_213 rfl 3 rfl ?_
              refine tn_aload_n dX7_step_214 rfl 3 rfl ?_
              refine tn_iload_n dX7_step_215 rfl 2 rfl ?_
              refine tn_iconst dX7_step_216 ?_
              refine tn_callV (M := m_X7_step) (pc := 217) (ix := 110) (ci := 7) (M' := m_X7_operand) (As := [.int (iI v6), .int (iI 3)]) (rest := [.ref a]) dX7_step_217 ok_X7_operand im_X7_operand se_X7_operand ml7_110 np_X7_operand rfl rfl ha rfl (Nat.le_of_ble_eq_true rfl) (Nat.le_of_ble_eq_true rfl) rfl (k_X7_operand (d + 2) (T := T) (σ := (sA 67 a (z1640) σ)) (a := a) (k := v6) (c := 3) ha (by omega) (by decide) (hw.put (by decide) (by decide) (fo_67 (by omega))) (by rw [show (sA 67 a (z1640) σ).2.1 69 a = _ from rc_o (by decide) (hx7)]; omega) (by omega)) (fun r2041 T2043 σ2042 gt2044 hp => ?_)
              obtain ⟨v2046, rfl, rfl, rfl, f2045⟩ := hp
              clear gt2044
              show Tn _ _ 220 T (sA 67 a (z1640) σ) [(3, .int (iI z1642)), (2, .int (iI v60)), (1, .int (iI v6)), (0, .ref a)] [.int (iI v2046), .ref a] _
              obtain ⟨hk2049, hl2050⟩ : AR T xa 15 9 9 := ar_of (wf_59 hw ha) hxa
              have hk2049i : IA T xa := by unfold IA; omega
              obtain ⟨hk2053, hl2054⟩ : AR T xb 1 9 9 := ar_of (wf_60 hw ha) hxb
              have hk2053i : IA T xb := by unfold IA; omega
              obtain ⟨hl2058, hk2057a, hk2057b⟩ := ex_at (wf_61 hw ha) hxc
              have hk2057 : (T xc).1 = 1 := hk2057b (by omega)
              clear hk2057a hk2057b
              have hk2057i : IA T xc := by unfold IA; omega
              obtain ⟨hk2061, hl2062⟩ : AR T xd 1 108 108 := ar_of (wf_62 hw ha) hxd
              have hk2061i : IA T xd := by unfold IA; omega
              obtain ⟨hk2065, hl2066⟩ : AR T xe 1 1728 1728 := ar_of (wf_63 hw ha) hxe
              have hk2065i : IA T xe := by unfold IA; omega
              obtain ⟨hk2069, hl2070⟩ : AR T xf 1 200 200 := ar_of (wf_64 hw ha) hxf
              have hk2069i : IA T xf := by unfold IA; omega
              have q2075 : (sA 67 a (z1640) σ).2.1 57 a = σ.2.1 57 a := rc_o (by decide) (rfl)
              refine tn_callV (M := m_X7_step) (pc := 220) (ix := 123) (ci := 7) (M' := m_X7_giveBack) (As := [.int (iI v2046)]) (rest := []) dX7_step_220 ok_X7_giveBack im_X7_giveBack se_X7_giveBack ml7_123 np_X7_giveBack rfl rfl ha rfl (Nat.le_of_ble_eq_true rfl) (Nat.le_of_ble_eq_true rfl) rfl (k_X7_giveBack_h (d + 1) (T := T) (σ := (sA 67 a (z1640) σ)) (a := a) (n := v2046) (xa := xa) (xb := xb) (xc := xc) (xd := xd) (xe := xe) (xf := xf) ha hta (by omega) (hw.put (by decide) (by decide) (fo_67 (by omega))) (rc_o (by decide) (hxa)) (rc_o (by decide) (hxb)) (rc_o (by decide) (hxc)) (rc_o (by decide) (hxd)) (rc_o (by decide) (hxe)) (rc_o (by decide) (hxf))) (fun r2071 T2073 σ2072 gt2074 hp => ?_)
              obtain ⟨rfl, rfl, w2080, F2081, f2076, f2077, f2078⟩ := hp
              clear gt2074
              show Tn _ _ 223 T σ2072 [(3, .int (iI z1642)), (2, .int (iI v60)), (1, .int (iI v6)), (0, .ref a)] [] _
              refine tn_iconst dX7_step_223 ?_
              have q2082 : σ2072.2.1 57 a = σ2072.2.1 57 a := rfl
              exact tn_zret (v := 0) rfl (by decide) dX7_step_224 ⟨_, rfl, rfl, w2080, ((FrC.rfl.put (by decide) (by decide)).trans (FrC.sub F2081 (by decide))), by omega, ((CHX.rfl.fld (by simp) (by decide)).trans (CHX.sub f2076 (by simp) (by simp) (by simp))), by omega, ((FA.rfl.put).trans f2078)⟩
            · refine tn_tableIn (tgt := 165) (off := 97) dX7_step_68 (x := v60) ⟨by omega, by omega⟩ (by omega) (by omega) (by rw [h1689]; rfl) (by decide) ?_
              refine tn_aload_n dX7_step_165 rfl 3 rfl ?_
              refine tn_getR (ci := 7) (i := 14) (n := 69) (x := xq8) dX7_step_166 rfl lay_7 (by decide) fl7_72 ha rfl rfl (rc_o (by decide) (hx7)) ?_
              refine tn_iload_n dX7_step_169 rfl 2 rfl ?_
              refine tn_bipush dX7_step_170 (by decide) ?_
              refine tn_callV (M := m_X7_step) (pc := 172) (ix := 117) (ci := 1) (M' := m_X1_get) (As := [.int (iI v6), .int (iI 12)]) (rest := []) dX7_step_172 ok_X1_get im_X1_get se_X1_get ml7_117 np_X1_get rfl rfl hk9o rfl (Nat.le_of_ble_eq_true rfl) (Nat.le_of_ble_eq_true rfl) rfl (k_X1_get (d + 3) (T := T) (σ := (sA 67 a (z1640) σ)) (a := xq8) (k := v6) (c := 12) hk9o (by omega) (by decide) (hw.put (by decide) (by decide) (fo_67 (by omega))) (by omega)) (fun r2083 T2085 σ2084 gt2086 hp => ?_)
              obtain ⟨v2088, rfl, rfl, rfl, f2087⟩ := hp
              clear gt2086
              show Tn _ _ 175 T (sA 67 a (z1640) σ) [(3, .int (iI z1642)), (2, .int (iI v60)), (1, .int (iI v6)), (0, .ref a)] [.int (iI v2088)] _
              refine tn_istore_n (L' := [(3, .int (iI v2088)), (2, .int (iI v60)), (1, .int (iI v6)), (0, .ref a)]) dX7_step_175 rfl (by decide) rfl ?_
              refine tn_goto (tgt := 375) dX7_step_176 (by decide) ?_
              refine tn_aload_n dX7_step_375 rfl 3 rfl ?_
              obtain ⟨hk2091, hl2092⟩ : AR T xb 1 9 9 := ar_of (wf_60 hw ha) hxb
              have hk2091i : IA T xb := by unfold IA; omega
              refine tn_getR (ci := 7) (i := 5) (n := 60) (x := xb) dX7_step_376 rfl lay_7 (by decide) fl7_15 ha rfl rfl (rc_o (by decide) (hxb)) ?_
              refine tn_aload_n dX7_step_379 rfl 3 rfl ?_
              refine tn_getI (ci := 7) (i := 2) (n := 57) (t := σ.2.1 57 a) dX7_step_380 rfl lay_7 (by decide) fl7_65 ha rfl rfl (rc_o (by decide) (rfl)) ?_
              have g2093 : ((0 : Int) ≤ σ.2.1 57 a ∧ σ.2.1 57 a ≤ 11184800) ∧ ((T a).1 = 57 → σ.2.1 57 a ≤ 8) := wf_57 hw ha
              have g2093x := g2093.2
              replace g2093 := g2093.1
              clear g2093x
              refine tn_iload_n dX7_step_383 rfl 0 rfl ?_
              refine tn_callSN (M := m_X7_step) (pc := 384) (ix := 61) (M' := m_X11_put) (As := [.ref xb, .int (iI (σ.2.1 57 a)), .int (iI v2088)]) (rest := []) dX7_step_384 ok_X11_put stt_X11_put nl7_61 np_X11_put rfl (Nat.le_of_ble_eq_true rfl) (Nat.le_of_ble_eq_true rfl) rfl (k_X11_put_x (d + 3) (T := T) (σ := (sA 67 a (z1640) σ)) (x := xb) (i := σ.2.1 57 a) (y := v2088) hk2091i (by omega) (by omega) (by omega) (hw.put (by decide) (by decide) (fo_67 (by omega))) (nh_k hk2091 (by unfold HT; omega)) (vok_1 (by have q9 := hk2091; omega) (by omega))) (fun r2094 T2096 σ2095 gt2097 hp => ?_)
              obtain ⟨rfl, rfl, w2101, F2102, f2098, f2099⟩ := hp
              clear gt2097
              show Tn _ _ 387 T σ2095 [(3, .int (iI v2088)), (2, .int (iI v60)), (1, .int (iI v6)), (0, .ref a)] [] _
              refine tn_iload_n dX7_step_387 rfl 1 rfl ?_
              refine tn_bipush dX7_step_388 (by decide) ?_
              refine tn_icmp_ne (tgt := 397) dX7_step_390 (by decide) ⟨by omega, by omega⟩ ⟨by decide, by decide⟩ (fun h2103 => ?_) (fun h2103 => absurd h2103 (by omega))
              refine tn_iconst dX7_step_397 ?_
              have q2104 : σ2095.2.1 57 a = σ.2.1 57 a := rc_F F2102 (Or.inl (by decide)) (by decide) (rc_o (by decide) (rfl))
              exact tn_zret (v := 0) rfl (by decide) dX7_step_398 ⟨_, rfl, rfl, w2101, ((FrC.rfl.put (by decide) (by decide)).trans (FrC.sub F2102 (by decide))), by omega, ((CHX.rfl.fld (by simp) (by decide)).trans (CHX.sub f2098 (by simp) (by simp) (by simp))), by omega, ((FA.rfl.put).trans (FA.of F2102 (by decide)))⟩
            · refine tn_tableIn (tgt := 179) (off := 111) dX7_step_68 (x := v60) ⟨by omega, by omega⟩ (by omega) (by omega) (by rw [h1689]; rfl) (by decide) ?_
              refine tn_aload_n dX7_step_179 rfl 3 rfl ?_
              refine tn_iload_n dX7_step_180 rfl 2 rfl ?_
              refine tn_iconst dX7_step_181 ?_
              refine tn_callV (M := m_X7_step) (pc := 182) (ix := 110) (ci := 7) (M' := m_X7_operand) (As := [.int (iI v6), .int (iI 3)]) (rest := []) dX7_step_182 ok_X7_operand im_X7_operand se_X7_operand ml7_110 np_X7_operand rfl rfl ha rfl (Nat.le_of_ble_eq_true rfl) (Nat.le_of_ble_eq_true rfl) rfl (k_X7_operand (d + 2) (T := T) (σ := (sA 67 a (z1640) σ)) (a := a) (k := v6) (c := 3) ha (by omega) (by decide) (hw.put (by decide) (by decide) (fo_67 (by omega))) (by rw [show (sA 67 a (z1640) σ).2.1 69 a = _ from rc_o (by decide) (hx7)]; omega) (by omega)) (fun r2105 T2107 σ2106 gt2108 hp => ?_)
              obtain ⟨v2110, rfl, rfl, rfl, f2109⟩ := hp
              clear gt2108
              show Tn _ _ 185 T (sA 67 a (z1640) σ) [(3, .int (iI z1642)), (2, .int (iI v60)), (1, .int (iI v6)), (0, .ref a)] [.int (iI v2110)] _
              refine tn_if_ne (tgt := 201) dX7_step_185 (by decide) ⟨by omega, by omega⟩ (fun h2111 => ?_) (fun h2111 => ?_)
              · refine tn_iload_n dX7_step_201 rfl 0 rfl ?_
                refine tn_istore_n (L' := [(3, .int (iI z1642)), (2, .int (iI v60)), (1, .int (iI v6)), (0, .ref a)]) dX7_step_202 rfl (by decide) rfl ?_
                refine tn_goto (tgt := 375) dX7_step_203 (by decide) ?_
                refine tn_aload_n dX7_step_375 rfl 3 rfl ?_
                obtain ⟨hk2114, hl2115⟩ : AR T xb 1 9 9 := ar_of (wf_60 hw ha) hxb
                have hk2114i : IA T xb := by unfold IA; omega
                refine tn_getR (ci := 7) (i := 5) (n := 60) (x := xb) dX7_step_376 rfl lay_7 (by decide) fl7_15 ha rfl rfl (rc_o (by decide) (hxb)) ?_
                refine tn_aload_n dX7_step_379 rfl 3 rfl ?_
                refine tn_getI (ci := 7) (i := 2) (n := 57) (t := σ.2.1 57 a) dX7_step_380 rfl lay_7 (by decide) fl7_65 ha rfl rfl (rc_o (by decide) (rfl)) ?_
                have g2116 : ((0 : Int) ≤ σ.2.1 57 a ∧ σ.2.1 57 a ≤ 11184800) ∧ ((T a).1 = 57 → σ.2.1 57 a ≤ 8) := wf_57 hw ha
                have g2116x := g2116.2
                replace g2116 := g2116.1
                clear g2116x
                refine tn_iload_n dX7_step_383 rfl 0 rfl ?_
                refine tn_callSN (M := m_X7_step) (pc := 384) (ix := 61) (M' := m_X11_put) (As := [.ref xb, .int (iI (σ.2.1 57 a)), .int (iI z1642)]) (rest := []) dX7_step_384 ok_X11_put stt_X11_put nl7_61 np_X11_put rfl (Nat.le_of_ble_eq_true rfl) (Nat.le_of_ble_eq_true rfl) rfl (k_X11_put_x (d + 3) (T := T) (σ := (sA 67 a (z1640) σ)) (x := xb) (i := σ.2.1 57 a) (y := z1642) hk2114i (by omega) (by omega) (by omega) (hw.put (by decide) (by decide) (fo_67 (by omega))) (nh_k hk2114 (by unfold HT; omega)) (vok_1 (by have q9 := hk2114; omega) (by omega))) (fun r2117 T2119 σ2118 gt2120 hp => ?_)
                obtain ⟨rfl, rfl, w2124, F2125, f2121, f2122⟩ := hp
                clear gt2120
                show Tn _ _ 387 T σ2118 [(3, .int (iI z1642)), (2, .int (iI v60)), (1, .int (iI v6)), (0, .ref a)] [] _
                refine tn_iload_n dX7_step_387 rfl 1 rfl ?_
                refine tn_bipush dX7_step_388 (by decide) ?_
                refine tn_icmp_ne (tgt := 397) dX7_step_390 (by decide) ⟨by omega, by omega⟩ ⟨by decide, by decide⟩ (fun h2126 => ?_) (fun h2126 => absurd h2126 (by omega))
                refine tn_iconst dX7_step_397 ?_
                have q2127 : σ2118.2.1 57 a = σ.2.1 57 a := rc_F F2125 (Or.inl (by decide)) (by decide) (rc_o (by decide) (rfl))
                exact tn_zret (v := 0) rfl (by decide) dX7_step_398 ⟨_, rfl, rfl, w2124, ((FrC.rfl.put (by decide) (by decide)).trans (FrC.sub F2125 (by decide))), by omega, ((CHX.rfl.fld (by simp) (by decide)).trans (CHX.sub f2121 (by simp) (by simp) (by simp))), by omega, ((FA.rfl.put).trans (FA.of F2125 (by decide)))⟩
              · refine tn_aload_n dX7_step_188 rfl 3 rfl ?_
                refine tn_getR (ci := 7) (i := 14) (n := 69) (x := xq8) dX7_step_189 rfl lay_7 (by decide) fl7_72 ha rfl rfl (rc_o (by decide) (hx7)) ?_
                refine tn_iload_n dX7_step_192 rfl 2 rfl ?_
                refine tn_bipush dX7_step_193 (by decide) ?_
                refine tn_callV (M := m_X7_step) (pc := 195) (ix := 117) (ci := 1) (M' := m_X1_get) (As := [.int (iI v6), .int (iI 12)]) (rest := []) dX7_step_195 ok_X1_get im_X1_get se_X1_get ml7_117 np_X1_get rfl rfl hk9o rfl (Nat.le_of_ble_eq_true rfl) (Nat.le_of_ble_eq_true rfl) rfl (k_X1_get (d + 3) (T := T) (σ := (sA 67 a (z1640) σ)) (a := xq8) (k := v6) (c := 12) hk9o (by omega) (by decide) (hw.put (by decide) (by decide) (fo_67 (by omega))) (by omega)) (fun r2128 T2130 σ2129 gt2131 hp => ?_)
                obtain ⟨v2133, rfl, rfl, rfl, f2132⟩ := hp
                clear gt2131
                show Tn _ _ 198 T (sA 67 a (z1640) σ) [(3, .int (iI z1642)), (2, .int (iI v60)), (1, .int (iI v6)), (0, .ref a)] [.int (iI v2133)] _
                refine tn_goto (tgt := 202) dX7_step_198 (by decide) ?_
                refine tn_istore_n (L' := [(3, .int (iI v2133)), (2, .int (iI v60)), (1, .int (iI v6)), (0, .ref a)]) dX7_step_202 rfl (by decide) rfl ?_
                refine tn_goto (tgt := 375) dX7_step_203 (by decide) ?_
                refine tn_aload_n dX7_step_375 rfl 3 rfl ?_
                obtain ⟨hk2136, hl2137⟩ : AR T xb 1 9 9 := ar_of (wf_60 hw ha) hxb
                have hk2136i : IA T xb := by unfold IA; omega
                refine tn_getR (ci := 7) (i := 5) (n := 60) (x := xb) dX7_step_376 rfl lay_7 (by decide) fl7_15 ha rfl rfl (rc_o (by decide) (hxb)) ?_
                refine tn_aload_n dX7_step_379 rfl 3 rfl ?_
                refine tn_getI (ci := 7) (i := 2) (n := 57) (t := σ.2.1 57 a) dX7_step_380 rfl lay_7 (by decide) fl7_65 ha rfl rfl (rc_o (by decide) (rfl)) ?_
                have g2138 : ((0 : Int) ≤ σ.2.1 57 a ∧ σ.2.1 57 a ≤ 11184800) ∧ ((T a).1 = 57 → σ.2.1 57 a ≤ 8) := wf_57 hw ha
                have g2138x := g2138.2
                replace g2138 := g2138.1
                clear g2138x
                refine tn_iload_n dX7_step_383 rfl 0 rfl ?_
                refine tn_callSN (M := m_X7_step) (pc := 384) (ix := 61) (M' := m_X11_put) (As := [.ref xb, .int (iI (σ.2.1 57 a)), .int (iI v2133)]) (rest := []) dX7_step_384 ok_X11_put stt_X11_put nl7_61 np_X11_put rfl (Nat.le_of_ble_eq_true rfl) (Nat.le_of_ble_eq_true rfl) rfl (k_X11_put_x (d + 3) (T := T) (σ := (sA 67 a (z1640) σ)) (x := xb) (i := σ.2.1 57 a) (y := v2133) hk2136i (by omega) (by omega) (by omega) (hw.put (by decide) (by decide) (fo_67 (by omega))) (nh_k hk2136 (by unfold HT; omega)) (vok_1 (by have q9 := hk2136; omega) (by omega))) (fun r2139 T2141 σ2140 gt2142 hp => ?_)
                obtain ⟨rfl, rfl, w2146, F2147, f2143, f2144⟩ := hp
                clear gt2142
                show Tn _ _ 387 T σ2140 [(3, .int (iI v2133)), (2, .int (iI v60)), (1, .int (iI v6)), (0, .ref a)] [] _
                refine tn_iload_n dX7_step_387 rfl 1 rfl ?_
                refine tn_bipush dX7_step_388 (by decide) ?_
                refine tn_icmp_ne (tgt := 397) dX7_step_390 (by decide) ⟨by omega, by omega⟩ ⟨by decide, by decide⟩ (fun h2148 => ?_) (fun h2148 => absurd h2148 (by omega))
                refine tn_iconst dX7_step_397 ?_
                have q2149 : σ2140.2.1 57 a = σ.2.1 57 a := rc_F F2147 (Or.inl (by decide)) (by decide) (rc_o (by decide) (rfl))
                exact tn_zret (v := 0) rfl (by decide) dX7_step_398 ⟨_, rfl, rfl, w2146, ((FrC.rfl.put (by decide) (by decide)).trans (FrC.sub F2147 (by decide))), by omega, ((CHX.rfl.fld (by simp) (by decide)).trans (CHX.sub f2143 (by simp) (by simp) (by simp))), by omega, ((FA.rfl.put).trans (FA.of F2147 (by decide)))⟩
            · refine tn_tableIn (tgt := 206) (off := 138) dX7_step_68 (x := v60) ⟨by omega, by omega⟩ (by omega) (by omega) (by rw [h1689]; rfl) (by decide) ?_
              refine tn_aload_n dX7_step_206 rfl 3 rfl ?_
              refine tn_iload_n dX7_step_207 rfl 2 rfl ?_
              obtain ⟨hk2152, hl2153⟩ : AR T xa 15 9 9 := ar_of (wf_59 hw ha) hxa
              have hk2152i : IA T xa := by unfold IA; omega
              obtain ⟨hk2156, hl2157⟩ : AR T xb 1 9 9 := ar_of (wf_60 hw ha) hxb
              have hk2156i : IA T xb := by unfold IA; omega
              obtain ⟨hl2161, hk2160a, hk2160b⟩ := ex_at (wf_61 hw ha) hxc
              have hk2160 : (T xc).1 = 1 := hk2160b (by omega)
              clear hk2160a hk2160b
              have hk2160i : IA T xc := by unfold IA; omega
              obtain ⟨hk2164, hl2165⟩ : AR T xd 1 108 108 := ar_of (wf_62 hw ha) hxd
              have hk2164i : IA T xd := by unfold IA; omega
              obtain ⟨hk2168, hl2169⟩ : AR T xe 1 1728 1728 := ar_of (wf_63 hw ha) hxe
              have hk2168i : IA T xe := by unfold IA; omega
              obtain ⟨hk2172, hl2173⟩ : AR T xf 1 200 200 := ar_of (wf_64 hw ha) hxf
              have hk2172i : IA T xf := by unfold IA; omega
              have q2178 : (sA 67 a (z1640) σ).2.1 57 a = σ.2.1 57 a := rc_o (by decide) (rfl)
              refine tn_callV (M := m_X7_step) (pc := 208) (ix := 120) (ci := 7) (M' := m_X7_callFrom) (As := [.int (iI v6)]) (rest := []) dX7_step_208 ok_X7_callFrom im_X7_callFrom se_X7_callFrom ml7_120 np_X7_callFrom rfl rfl ha rfl (Nat.le_of_ble_eq_true rfl) (Nat.le_of_ble_eq_true rfl) rfl (k_X7_callFrom_h (d) (T := T) (σ := (sA 67 a (z1640) σ)) (a := a) (k := v6) (xa := xa) (xb := xb) (xc := xc) (xd := xd) (xe := xe) (xf := xf) ha hta (by omega) (hw.put (by decide) (by decide) (fo_67 (by omega))) (rc_o (by decide) (hxa)) (rc_o (by decide) (hxb)) (rc_o (by decide) (hxc)) (rc_o (by decide) (hxd)) (rc_o (by decide) (hxe)) (rc_o (by decide) (hxf)) (by rw [show (sA 67 a (z1640) σ).2.1 69 a = _ from rc_o (by decide) (hx7)]; omega) (by rw [show (sA 67 a (z1640) σ).2.1 57 a = σ.2.1 57 a from rc_o (by decide) (rfl)]; omega)) (fun r2174 T2176 σ2175 gt2177 hp => ?_)
              obtain ⟨rfl, rfl, w2183, F2184, f2179, f2180, f2181⟩ := hp
              clear gt2177
              show Tn _ _ 211 T σ2175 [(3, .int (iI z1642)), (2, .int (iI v60)), (1, .int (iI v6)), (0, .ref a)] [] _
              refine tn_iconst dX7_step_211 ?_
              have q2185 : σ2175.2.1 57 a = σ2175.2.1 57 a := rfl
              exact tn_zret (v := 0) rfl (by decide) dX7_step_212 ⟨_, rfl, rfl, w2183, ((FrC.rfl.put (by decide) (by decide)).trans (FrC.sub F2184 (by decide))), by omega, ((CHX.rfl.fld (by simp) (by decide)).trans (CHX.sub f2179 (by simp) (by simp) (by simp))), by omega, ((FA.rfl.put).trans f2181)⟩
            · refine tn_tableIn (tgt := 225) (off := 157) dX7_step_68 (x := v60) ⟨by omega, by omega⟩ (by omega) (by omega) (by rw [h1689]; rfl) (by decide) ?_
              refine tn_aload_n dX7_step_225 rfl 3 rfl ?_
              obtain ⟨hk2188, hl2189⟩ : AR T xd 1 108 108 := ar_of (wf_62 hw ha) hxd
              have hk2188i : IA T xd := by unfold IA; omega
              refine tn_getR (ci := 7) (i := 7) (n := 62) (x := xd) dX7_step_226 rfl lay_7 (by decide) fl7_21 ha rfl rfl (rc_o (by decide) (hxd)) ?_
              refine tn_aload_n dX7_step_229 rfl 3 rfl ?_
              refine tn_getI (ci := 7) (i := 2) (n := 57) (t := σ.2.1 57 a) dX7_step_230 rfl lay_7 (by decide) fl7_65 ha rfl rfl (rc_o (by decide) (rfl)) ?_
              have g2190 : ((0 : Int) ≤ σ.2.1 57 a ∧ σ.2.1 57 a ≤ 11184800) ∧ ((T a).1 = 57 → σ.2.1 57 a ≤ 8) := wf_57 hw ha
              have g2190x := g2190.2
              replace g2190 := g2190.1
              clear g2190x
              refine tn_bipush dX7_step_233 (by decide) ?_
              refine tn_imul dX7_step_235 ?_
              refine tn_aload_n dX7_step_236 rfl 3 rfl ?_
              refine tn_getR (ci := 7) (i := 14) (n := 69) (x := xq8) dX7_step_237 rfl lay_7 (by decide) fl7_72 ha rfl rfl (rc_o (by decide) (hx7)) ?_
              refine tn_iload_n dX7_step_240 rfl 2 rfl ?_
              refine tn_iconst dX7_step_241 ?_
              refine tn_callV (M := m_X7_step) (pc := 242) (ix := 117) (ci := 1) (M' := m_X1_get) (As := [.int (iI v6), .int (iI 2)]) (rest := [.int (iI ((σ.2.1 57 a) * 12)), .ref xd]) dX7_step_242 ok_X1_get im_X1_get se_X1_get ml7_117 np_X1_get rfl rfl hk9o rfl (Nat.le_of_ble_eq_true rfl) (Nat.le_of_ble_eq_true rfl) rfl (k_X1_get (d + 3) (T := T) (σ := (sA 67 a (z1640) σ)) (a := xq8) (k := v6) (c := 2) hk9o (by omega) (by decide) (hw.put (by decide) (by decide) (fo_67 (by omega))) (by omega)) (fun r2191 T2193 σ2192 gt2194 hp => ?_)
              obtain ⟨v2196, rfl, rfl, rfl, f2195⟩ := hp
              clear gt2194
              show Tn _ _ 245 T (sA 67 a (z1640) σ) [(3, .int (iI z1642)), (2, .int (iI v60)), (1, .int (iI v6)), (0, .ref a)] [.int (iI v2196), .int (iI ((σ.2.1 57 a) * 12)), .ref xd] _
              refine tn_iadd dX7_step_245 ?_
              refine tn_any (fun z2197 g2198 => ?_)
              have g2198r : -2147483648 ≤ z2197 ∧ z2197 ≤ 2147483647 := g2198
              refine tn_aload_n dX7_step_246 rfl 3 rfl ?_
              refine tn_getR (ci := 7) (i := 14) (n := 69) (x := xq8) dX7_step_247 rfl lay_7 (by decide) fl7_72 ha rfl rfl (rc_o (by decide) (hx7)) ?_
              refine tn_iload_n dX7_step_250 rfl 2 rfl ?_
              refine tn_iconst dX7_step_251 ?_
              refine tn_callV (M := m_X7_step) (pc := 252) (ix := 117) (ci := 1) (M' := m_X1_get) (As := [.int (iI v6), .int (iI 1)]) (rest := [.int (iI z2197), .ref xd]) dX7_step_252 ok_X1_get im_X1_get se_X1_get ml7_117 np_X1_get rfl rfl hk9o rfl (Nat.le_of_ble_eq_true rfl) (Nat.le_of_ble_eq_true rfl) rfl (k_X1_get (d + 3) (T := T) (σ := (sA 67 a (z1640) σ)) (a := xq8) (k := v6) (c := 1) hk9o (by omega) (by decide) (hw.put (by decide) (by decide) (fo_67 (by omega))) (by omega)) (fun r2199 T2201 σ2200 gt2202 hp => ?_)
              obtain ⟨v2204, rfl, rfl, rfl, f2203⟩ := hp
              clear gt2202
              show Tn _ _ 255 T (sA 67 a (z1640) σ) [(3, .int (iI z1642)), (2, .int (iI v60)), (1, .int (iI v6)), (0, .ref a)] [.int (iI v2204), .int (iI z2197), .ref xd] _
              refine tn_callSN (M := m_X7_step) (pc := 255) (ix := 61) (M' := m_X11_put) (As := [.ref xd, .int (iI z2197), .int (iI v2204)]) (rest := []) dX7_step_255 ok_X11_put stt_X11_put nl7_61 np_X11_put rfl (Nat.le_of_ble_eq_true rfl) (Nat.le_of_ble_eq_true rfl) rfl (k_X11_put_x (d + 3) (T := T) (σ := (sA 67 a (z1640) σ)) (x := xd) (i := z2197) (y := v2204) hk2188i (by omega) (by omega) (by omega) (hw.put (by decide) (by decide) (fo_67 (by omega))) (nh_k hk2188 (by unfold HT; omega)) (vok_1 (by have q9 := hk2188; omega) (by omega))) (fun r2205 T2207 σ2206 gt2208 hp => ?_)
              obtain ⟨rfl, rfl, w2212, F2213, f2209, f2210⟩ := hp
              clear gt2208
              show Tn _ _ 258 T σ2206 [(3, .int (iI z1642)), (2, .int (iI v60)), (1, .int (iI v6)), (0, .ref a)] [] _
              refine tn_goto (tgt := 375) dX7_step_258 (by decide) ?_
              refine tn_aload_n dX7_step_375 rfl 3 rfl ?_
              obtain ⟨hk2216, hl2217⟩ : AR T xb 1 9 9 := ar_of (wf_60 hw ha) hxb
              have hk2216i : IA T xb := by unfold IA; omega
              refine tn_getR (ci := 7) (i := 5) (n := 60) (x := xb) dX7_step_376 rfl lay_7 (by decide) fl7_15 ha rfl rfl (rc_F F2213 (Or.inl (by decide)) (by decide) (rc_o (by decide) (hxb))) ?_
              refine tn_aload_n dX7_step_379 rfl 3 rfl ?_
              refine tn_getI (ci := 7) (i := 2) (n := 57) (t := σ.2.1 57 a) dX7_step_380 rfl lay_7 (by decide) fl7_65 ha rfl rfl (rc_F F2213 (Or.inl (by decide)) (by decide) (rc_o (by decide) (rfl))) ?_
              refine tn_iload_n dX7_step_383 rfl 0 rfl ?_
              refine tn_callSN (M := m_X7_step) (pc := 384) (ix := 61) (M' := m_X11_put) (As := [.ref xb, .int (iI (σ.2.1 57 a)), .int (iI z1642)]) (rest := []) dX7_step_384 ok_X11_put stt_X11_put nl7_61 np_X11_put rfl (Nat.le_of_ble_eq_true rfl) (Nat.le_of_ble_eq_true rfl) rfl (k_X11_put_x (d + 3) (T := T) (σ := σ2206) (x := xb) (i := σ.2.1 57 a) (y := z1642) hk2216i (by omega) (by omega) (by omega) w2212 (nh_k hk2216 (by unfold HT; omega)) (vok_1 (by have q9 := hk2216; omega) (by omega))) (fun r2218 T2220 σ2219 gt2221 hp => ?_)
              obtain ⟨rfl, rfl, w2225, F2226, f2222, f2223⟩ := hp
              clear gt2221
              show Tn _ _ 387 T σ2219 [(3, .int (iI z1642)), (2, .int (iI v60)), (1, .int (iI v6)), (0, .ref a)] [] _
              refine tn_iload_n dX7_step_387 rfl 1 rfl ?_
              refine tn_bipush dX7_step_388 (by decide) ?_
              refine tn_icmp_ne (tgt := 397) dX7_step_390 (by decide) ⟨by omega, by omega⟩ ⟨by decide, by decide⟩ (fun h2227 => absurd h2227 (by omega)) (fun h2227 => ?_)
              refine tn_iconst dX7_step_393 ?_
              refine tn_goto (tgt := 398) dX7_step_394 (by decide) ?_
              have q2228 : σ2219.2.1 57 a = σ.2.1 57 a := rc_F F2226 (Or.inl (by decide)) (by decide) (rc_F F2213 (Or.inl (by decide)) (by decide) (rc_o (by decide) (rfl)))
              exact tn_zret (v := 1) rfl (by decide) dX7_step_398 ⟨_, rfl, rfl, w2225, (((FrC.rfl.put (by decide) (by decide)).trans (FrC.sub F2213 (by decide))).trans (FrC.sub F2226 (by decide))), by omega, (((CHX.rfl.fld (by simp) (by decide)).trans (CHX.sub f2209 (by simp) (by simp) (by simp))).trans (CHX.sub f2222 (by simp) (by simp) (by simp))), by omega, (((FA.rfl.put).trans (FA.of F2213 (by decide))).trans (FA.of F2226 (by decide)))⟩
            · refine tn_tableIn (tgt := 369) (off := 301) dX7_step_68 (x := v60) ⟨by omega, by omega⟩ (by omega) (by omega) (by rw [h1689]; rfl) (by decide) ?_
              refine tn_aload_n dX7_step_369 rfl 3 rfl ?_
              refine tn_iload_n dX7_step_370 rfl 2 rfl ?_
              refine tn_iload_n dX7_step_371 rfl 1 rfl ?_
              obtain ⟨hk2231, hl2232⟩ : AR T xa 15 9 9 := ar_of (wf_59 hw ha) hxa
              have hk2231i : IA T xa := by unfold IA; omega
              obtain ⟨hk2235, hl2236⟩ : AR T xb 1 9 9 := ar_of (wf_60 hw ha) hxb
              have hk2235i : IA T xb := by unfold IA; omega
              obtain ⟨hl2240, hk2239a, hk2239b⟩ := ex_at (wf_61 hw ha) hxc
              have hk2239 : (T xc).1 = 1 := hk2239b (by omega)
              clear hk2239a hk2239b
              have hk2239i : IA T xc := by unfold IA; omega
              obtain ⟨hk2243, hl2244⟩ : AR T xd 1 108 108 := ar_of (wf_62 hw ha) hxd
              have hk2243i : IA T xd := by unfold IA; omega
              obtain ⟨hk2247, hl2248⟩ : AR T xe 1 1728 1728 := ar_of (wf_63 hw ha) hxe
              have hk2247i : IA T xe := by unfold IA; omega
              obtain ⟨hk2251, hl2252⟩ : AR T xf 1 200 200 := ar_of (wf_64 hw ha) hxf
              have hk2251i : IA T xf := by unfold IA; omega
              refine tn_callV (M := m_X7_step) (pc := 372) (ix := 129) (ci := 7) (M' := m_X7_reckonAt) (As := [.int (iI v6), .int (iI v60)]) (rest := []) dX7_step_372 ok_X7_reckonAt im_X7_reckonAt se_X7_reckonAt ml7_129 np_X7_reckonAt rfl rfl ha rfl (Nat.le_of_ble_eq_true rfl) (Nat.le_of_ble_eq_true rfl) rfl (k_X7_reckonAt_h (d + 1) (T := T) (σ := (sA 67 a (z1640) σ)) (a := a) (k := v6) (e := v60) (xa := xa) (xb := xb) (xc := xc) (xd := xd) (xe := xe) (xf := xf) ha (by omega) (by omega) (hw.put (by decide) (by decide) (fo_67 (by omega))) (rc_o (by decide) (hxa)) (rc_o (by decide) (hxb)) (rc_o (by decide) (hxc)) (rc_o (by decide) (hxd)) (rc_o (by decide) (hxe)) (rc_o (by decide) (hxf)) (by rw [show (sA 67 a (z1640) σ).2.1 69 a = _ from rc_o (by decide) (hx7)]; omega)) (fun r2253 T2255 σ2254 gt2256 hp => ?_)
              obtain ⟨rfl, rfl, w2259, F2260, f2257⟩ := hp
              clear gt2256
              show Tn _ _ 375 T σ2254 [(3, .int (iI z1642)), (2, .int (iI v60)), (1, .int (iI v6)), (0, .ref a)] [] _
              refine tn_aload_n dX7_step_375 rfl 3 rfl ?_
              refine tn_getR (ci := 7) (i := 5) (n := 60) (x := xb) dX7_step_376 rfl lay_7 (by decide) fl7_15 ha rfl rfl (rc_F F2260 (Or.inl (by decide)) (by decide) (rc_o (by decide) (hxb))) ?_
              refine tn_aload_n dX7_step_379 rfl 3 rfl ?_
              refine tn_getI (ci := 7) (i := 2) (n := 57) (t := σ.2.1 57 a) dX7_step_380 rfl lay_7 (by decide) fl7_65 ha rfl rfl (rc_F F2260 (Or.inl (by decide)) (by decide) (rc_o (by decide) (rfl))) ?_
              have g2261 : ((0 : Int) ≤ σ.2.1 57 a ∧ σ.2.1 57 a ≤ 11184800) ∧ ((T a).1 = 57 → σ.2.1 57 a ≤ 8) := wf_57 hw ha
              have g2261x := g2261.2
              replace g2261 := g2261.1
              clear g2261x
              refine tn_iload_n dX7_step_383 rfl 0 rfl ?_
              refine tn_callSN (M := m_X7_step) (pc := 384) (ix := 61) (M' := m_X11_put) (As := [.ref xb, .int (iI (σ.2.1 57 a)), .int (iI z1642)]) (rest := []) dX7_step_384 ok_X11_put stt_X11_put nl7_61 np_X11_put rfl (Nat.le_of_ble_eq_true rfl) (Nat.le_of_ble_eq_true rfl) rfl (k_X11_put_x (d + 3) (T := T) (σ := σ2254) (x := xb) (i := σ.2.1 57 a) (y := z1642) hk2235i (by omega) (by omega) (by omega) w2259 (nh_k hk2235 (by unfold HT; omega)) (vok_1 (by have q9 := hk2235; omega) (by omega))) (fun r2262 T2264 σ2263 gt2265 hp => ?_)
              obtain ⟨rfl, rfl, w2269, F2270, f2266, f2267⟩ := hp
              clear gt2265
              show Tn _ _ 387 T σ2263 [(3, .int (iI z1642)), (2, .int (iI v60)), (1, .int (iI v6)), (0, .ref a)] [] _
              refine tn_iload_n dX7_step_387 rfl 1 rfl ?_
              refine tn_bipush dX7_step_388 (by decide) ?_
              refine tn_icmp_ne (tgt := 397) dX7_step_390 (by decide) ⟨by omega, by omega⟩ ⟨by decide, by decide⟩ (fun h2271 => ?_) (fun h2271 => absurd h2271 (by omega))
              refine tn_iconst dX7_step_397 ?_
              have q2272 : σ2263.2.1 57 a = σ.2.1 57 a := rc_F F2270 (Or.inl (by decide)) (by decide) (rc_F F2260 (Or.inl (by decide)) (by decide) (rc_o (by decide) (rfl)))
              exact tn_zret (v := 0) rfl (by decide) dX7_step_398 ⟨_, rfl, rfl, w2269, (((FrC.rfl.put (by decide) (by decide)).trans (FrC.sub F2260 (by decide))).trans (FrC.sub F2270 (by decide))), by omega, (((CHX.rfl.fld (by simp) (by decide)).trans (CHX.sub f2257 (by simp) (by simp) (by simp))).trans (CHX.sub f2266 (by simp) (by simp) (by simp))), by omega, (((FA.rfl.put).trans (FA.of F2260 (by decide))).trans (FA.of F2270 (by decide)))⟩
            · refine tn_tableIn (tgt := 369) (off := 301) dX7_step_68 (x := v60) ⟨by omega, by omega⟩ (by omega) (by omega) (by rw [h1689]; rfl) (by decide) ?_
              refine tn_aload_n dX7_step_369 rfl 3 rfl ?_
              refine tn_iload_n dX7_step_370 rfl 2 rfl ?_
              refine tn_iload_n dX7_step_371 rfl 1 rfl ?_
              obtain ⟨hk2275, hl2276⟩ : AR T xa 15 9 9 := ar_of (wf_59 hw ha) hxa
              have hk2275i : IA T xa := by unfold IA; omega
              obtain ⟨hk2279, hl2280⟩ : AR T xb 1 9 9 := ar_of (wf_60 hw ha) hxb
              have hk2279i : IA T xb := by unfold IA; omega
              obtain ⟨hl2284, hk2283a, hk2283b⟩ := ex_at (wf_61 hw ha) hxc
              have hk2283 : (T xc).1 = 1 := hk2283b (by omega)
              clear hk2283a hk2283b
              have hk2283i : IA T xc := by unfold IA; omega
              obtain ⟨hk2287, hl2288⟩ : AR T xd 1 108 108 := ar_of (wf_62 hw ha) hxd
              have hk2287i : IA T xd := by unfold IA; omega
              obtain ⟨hk2291, hl2292⟩ : AR T xe 1 1728 1728 := ar_of (wf_63 hw ha) hxe
              have hk2291i : IA T xe := by unfold IA; omega
              obtain ⟨hk2295, hl2296⟩ : AR T xf 1 200 200 := ar_of (wf_64 hw ha) hxf
              have hk2295i : IA T xf := by unfold IA; omega
              refine tn_callV (M := m_X7_step) (pc := 372) (ix := 129) (ci := 7) (M' := m_X7_reckonAt) (As := [.int (iI v6), .int (iI v60)]) (rest := []) dX7_step_372 ok_X7_reckonAt im_X7_reckonAt se_X7_reckonAt ml7_129 np_X7_reckonAt rfl rfl ha rfl (Nat.le_of_ble_eq_true rfl) (Nat.le_of_ble_eq_true rfl) rfl (k_X7_reckonAt_h (d + 1) (T := T) (σ := (sA 67 a (z1640) σ)) (a := a) (k := v6) (e := v60) (xa := xa) (xb := xb) (xc := xc) (xd := xd) (xe := xe) (xf := xf) ha (by omega) (by omega) (hw.put (by decide) (by decide) (fo_67 (by omega))) (rc_o (by decide) (hxa)) (rc_o (by decide) (hxb)) (rc_o (by decide) (hxc)) (rc_o (by decide) (hxd)) (rc_o (by decide) (hxe)) (rc_o (by decide) (hxf)) (by rw [show (sA 67 a (z1640) σ).2.1 69 a = _ from rc_o (by decide) (hx7)]; omega)) (fun r2297 T2299 σ2298 gt2300 hp => ?_)
              obtain ⟨rfl, rfl, w2303, F2304, f2301⟩ := hp
              clear gt2300
              show Tn _ _ 375 T σ2298 [(3, .int (iI z1642)), (2, .int (iI v60)), (1, .int (iI v6)), (0, .ref a)] [] _
              refine tn_aload_n dX7_step_375 rfl 3 rfl ?_
              refine tn_getR (ci := 7) (i := 5) (n := 60) (x := xb) dX7_step_376 rfl lay_7 (by decide) fl7_15 ha rfl rfl (rc_F F2304 (Or.inl (by decide)) (by decide) (rc_o (by decide) (hxb))) ?_
              refine tn_aload_n dX7_step_379 rfl 3 rfl ?_
              refine tn_getI (ci := 7) (i := 2) (n := 57) (t := σ.2.1 57 a) dX7_step_380 rfl lay_7 (by decide) fl7_65 ha rfl rfl (rc_F F2304 (Or.inl (by decide)) (by decide) (rc_o (by decide) (rfl))) ?_
              have g2305 : ((0 : Int) ≤ σ.2.1 57 a ∧ σ.2.1 57 a ≤ 11184800) ∧ ((T a).1 = 57 → σ.2.1 57 a ≤ 8) := wf_57 hw ha
              have g2305x := g2305.2
              replace g2305 := g2305.1
              clear g2305x
              refine tn_iload_n dX7_step_383 rfl 0 rfl ?_
              refine tn_callSN (M := m_X7_step) (pc := 384) (ix := 61) (M' := m_X11_put) (As := [.ref xb, .int (iI (σ.2.1 57 a)), .int (iI z1642)]) (rest := []) dX7_step_384 ok_X11_put stt_X11_put nl7_61 np_X11_put rfl (Nat.le_of_ble_eq_true rfl) (Nat.le_of_ble_eq_true rfl) rfl (k_X11_put_x (d + 3) (T := T) (σ := σ2298) (x := xb) (i := σ.2.1 57 a) (y := z1642) hk2279i (by omega) (by omega) (by omega) w2303 (nh_k hk2279 (by unfold HT; omega)) (vok_1 (by have q9 := hk2279; omega) (by omega))) (fun r2306 T2308 σ2307 gt2309 hp => ?_)
              obtain ⟨rfl, rfl, w2313, F2314, f2310, f2311⟩ := hp
              clear gt2309
              show Tn _ _ 387 T σ2307 [(3, .int (iI z1642)), (2, .int (iI v60)), (1, .int (iI v6)), (0, .ref a)] [] _
              refine tn_iload_n dX7_step_387 rfl 1 rfl ?_
              refine tn_bipush dX7_step_388 (by decide) ?_
              refine tn_icmp_ne (tgt := 397) dX7_step_390 (by decide) ⟨by omega, by omega⟩ ⟨by decide, by decide⟩ (fun h2315 => ?_) (fun h2315 => absurd h2315 (by omega))
              refine tn_iconst dX7_step_397 ?_
              have q2316 : σ2307.2.1 57 a = σ.2.1 57 a := rc_F F2314 (Or.inl (by decide)) (by decide) (rc_F F2304 (Or.inl (by decide)) (by decide) (rc_o (by decide) (rfl)))
              exact tn_zret (v := 0) rfl (by decide) dX7_step_398 ⟨_, rfl, rfl, w2313, (((FrC.rfl.put (by decide) (by decide)).trans (FrC.sub F2304 (by decide))).trans (FrC.sub F2314 (by decide))), by omega, (((CHX.rfl.fld (by simp) (by decide)).trans (CHX.sub f2301 (by simp) (by simp) (by simp))).trans (CHX.sub f2310 (by simp) (by simp) (by simp))), by omega, (((FA.rfl.put).trans (FA.of F2304 (by decide))).trans (FA.of F2314 (by decide)))⟩
            · refine tn_tableIn (tgt := 261) (off := 193) dX7_step_68 (x := v60) ⟨by omega, by omega⟩ (by omega) (by omega) (by rw [h1689]; rfl) (by decide) ?_
              refine tn_aload_n dX7_step_261 rfl 3 rfl ?_
              refine tn_dup dX7_step_262 rfl ?_
              refine tn_getI (ci := 7) (i := 3) (n := 58) (t := σ.2.1 58 a) dX7_step_263 rfl lay_7 (by decide) fl7_38 ha rfl rfl (rc_o (by decide) (rfl)) ?_
              refine tn_iconst dX7_step_266 ?_
              refine tn_iadd dX7_step_267 ?_
              refine tn_putV (ci := 7) (i := 3) (n := 58) (r := false) (v := (σ.2.1 58 a) + 1) tyX7 tyX7_ok nmX7 dX7_step_268 rfl lay_7 (by decide) fl7_38 rfl (tyX7_ok 3 (by decide)) rfl rfl rfl ha rfl rfl ?_
              refine tn_aload_n dX7_step_271 rfl 3 rfl ?_
              obtain ⟨hl2320, hk2319a, hk2319b⟩ := ex_at (wf_61 hw ha) hxc
              have hk2319 : (T xc).1 = 1 := hk2319b (by omega)
              clear hk2319a hk2319b
              have hk2319i : IA T xc := by unfold IA; omega
              refine tn_getR (ci := 7) (i := 6) (n := 61) (x := xc) dX7_step_272 rfl lay_7 (by decide) fl7_18 ha rfl rfl (rc_o (by decide) (rc_o (by decide) (hxc))) ?_
              refine tn_aload_n dX7_step_275 rfl 3 rfl ?_
              refine tn_getI (ci := 7) (i := 2) (n := 57) (t := σ.2.1 57 a) dX7_step_276 rfl lay_7 (by decide) fl7_65 ha rfl rfl (rc_o (by decide) (rc_o (by decide) (rfl))) ?_
              have g2321 : ((0 : Int) ≤ σ.2.1 57 a ∧ σ.2.1 57 a ≤ 11184800) ∧ ((T a).1 = 57 → σ.2.1 57 a ≤ 8) := wf_57 hw ha
              have g2321x := g2321.2
              replace g2321 := g2321.1
              clear g2321x
              refine tn_aload_n dX7_step_279 rfl 3 rfl ?_
              refine tn_getR (ci := 7) (i := 14) (n := 69) (x := xq8) dX7_step_280 rfl lay_7 (by decide) fl7_72 ha rfl rfl (rc_o (by decide) (rc_o (by decide) (hx7))) ?_
              refine tn_iload_n dX7_step_283 rfl 2 rfl ?_
              refine tn_iconst dX7_step_284 ?_
              refine tn_callV (M := m_X7_step) (pc := 285) (ix := 117) (ci := 1) (M' := m_X1_get) (As := [.int (iI v6), .int (iI 1)]) (rest := [.int (iI (σ.2.1 57 a)), .ref xc]) dX7_step_285 ok_X1_get im_X1_get se_X1_get ml7_117 np_X1_get rfl rfl hk9o rfl (Nat.le_of_ble_eq_true rfl) (Nat.le_of_ble_eq_true rfl) rfl (k_X1_get (d + 3) (T := T) (σ := (sA 58 a ((σ.2.1 58 a) + 1) (sA 67 a (z1640) σ))) (a := xq8) (k := v6) (c := 1) hk9o (by omega) (by decide) ((hw.put (by decide) (by decide) (fo_67 (by omega))).put (by decide) (by decide) (fo_58 (by omega))) (by omega)) (fun r2322 T2324 σ2323 gt2325 hp => ?_)
              obtain ⟨v2327, rfl, rfl, rfl, f2326⟩ := hp
              clear gt2325
              show Tn _ _ 288 T (sA 58 a ((σ.2.1 58 a) + 1) (sA 67 a (z1640) σ)) [(3, .int (iI z1642)), (2, .int (iI v60)), (1, .int (iI v6)), (0, .ref a)] [.int (iI v2327), .int (iI (σ.2.1 57 a)), .ref xc] _
              refine tn_callSN (M := m_X7_step) (pc := 288) (ix := 61) (M' := m_X11_put) (As := [.ref xc, .int (iI (σ.2.1 57 a)), .int (iI v2327)]) (rest := []) dX7_step_288 ok_X11_put stt_X11_put nl7_61 np_X11_put rfl (Nat.le_of_ble_eq_true rfl) (Nat.le_of_ble_eq_true rfl) rfl (k_X11_put_x (d + 3) (T := T) (σ := (sA 58 a ((σ.2.1 58 a) + 1) (sA 67 a (z1640) σ))) (x := xc) (i := σ.2.1 57 a) (y := v2327) hk2319i (by omega) (by omega) (by omega) ((hw.put (by decide) (by decide) (fo_67 (by omega))).put (by decide) (by decide) (fo_58 (by omega))) (nh_k hk2319 (by unfold HT; omega)) (vok_1 (by have q9 := hk2319; omega) (by omega))) (fun r2328 T2330 σ2329 gt2331 hp => ?_)
              obtain ⟨rfl, rfl, w2335, F2336, f2332, f2333⟩ := hp
              clear gt2331
              show Tn _ _ 291 T σ2329 [(3, .int (iI z1642)), (2, .int (iI v60)), (1, .int (iI v6)), (0, .ref a)] [] _
              refine tn_aload_n dX7_step_291 rfl 3 rfl ?_
              obtain ⟨hk2339, hl2340⟩ : AR T xd 1 108 108 := ar_of (wf_62 hw ha) hxd
              have hk2339i : IA T xd := by unfold IA; omega
              refine tn_getR (ci := 7) (i := 7) (n := 62) (x := xd) dX7_step_292 rfl lay_7 (by decide) fl7_21 ha rfl rfl (rc_F F2336 (Or.inl (by decide)) (by decide) (rc_o (by decide) (rc_o (by decide) (hxd)))) ?_
              refine tn_aload_n dX7_step_295 rfl 3 rfl ?_
              refine tn_getI (ci := 7) (i := 2) (n := 57) (t := σ.2.1 57 a) dX7_step_296 rfl lay_7 (by decide) fl7_65 ha rfl rfl (rc_F F2336 (Or.inl (by decide)) (by decide) (rc_o (by decide) (rc_o (by decide) (rfl)))) ?_
              refine tn_bipush dX7_step_299 (by decide) ?_
              refine tn_imul dX7_step_301 ?_
              refine tn_aload_n dX7_step_302 rfl 3 rfl ?_
              refine tn_getR (ci := 7) (i := 14) (n := 69) (x := xq8) dX7_step_303 rfl lay_7 (by decide) fl7_72 ha rfl rfl (rc_F F2336 (Or.inl (by decide)) (by decide) (rc_o (by decide) (rc_o (by decide) (hx7)))) ?_
              refine tn_iload_n dX7_step_306 rfl 2 rfl ?_
              refine tn_iconst dX7_step_307 ?_
              refine tn_callV (M := m_X7_step) (pc := 308) (ix := 117) (ci := 1) (M' := m_X1_get) (As := [.int (iI v6), .int (iI 1)]) (rest := [.int (iI ((σ.2.1 57 a) * 12)), .ref xd]) dX7_step_308 ok_X1_get im_X1_get se_X1_get ml7_117 np_X1_get rfl rfl hk9o rfl (Nat.le_of_ble_eq_true rfl) (Nat.le_of_ble_eq_true rfl) rfl (k_X1_get (d + 3) (T := T) (σ := σ2329) (a := xq8) (k := v6) (c := 1) hk9o (by omega) (by decide) w2335 (by omega)) (fun r2341 T2343 σ2342 gt2344 hp => ?_)
              obtain ⟨v2346, rfl, rfl, rfl, f2345⟩ := hp
              clear gt2344
              show Tn _ _ 311 T σ2329 [(3, .int (iI z1642)), (2, .int (iI v60)), (1, .int (iI v6)), (0, .ref a)] [.int (iI v2346), .int (iI ((σ.2.1 57 a) * 12)), .ref xd] _
              refine tn_iadd dX7_step_311 ?_
              refine tn_any (fun z2347 g2348 => ?_)
              have g2348r : -2147483648 ≤ z2347 ∧ z2347 ≤ 2147483647 := g2348
              refine tn_iconst dX7_step_312 ?_
              refine tn_callSN (M := m_X7_step) (pc := 313) (ix := 61) (M' := m_X11_put) (As := [.ref xd, .int (iI z2347), .int (iI 0)]) (rest := []) dX7_step_313 ok_X11_put stt_X11_put nl7_61 np_X11_put rfl (Nat.le_of_ble_eq_true rfl) (Nat.le_of_ble_eq_true rfl) rfl (k_X11_put_x (d + 3) (T := T) (σ := σ2329) (x := xd) (i := z2347) (y := 0) hk2339i (by omega) (by omega) (by decide) w2335 (nh_k hk2339 (by unfold HT; omega)) vok_0) (fun r2349 T2351 σ2350 gt2352 hp => ?_)
              obtain ⟨rfl, rfl, w2356, F2357, f2353, f2354⟩ := hp
              clear gt2352
              show Tn _ _ 316 T σ2350 [(3, .int (iI z1642)), (2, .int (iI v60)), (1, .int (iI v6)), (0, .ref a)] [] _
              refine tn_goto (tgt := 375) dX7_step_316 (by decide) ?_
              refine tn_aload_n dX7_step_375 rfl 3 rfl ?_
              obtain ⟨hk2360, hl2361⟩ : AR T xb 1 9 9 := ar_of (wf_60 hw ha) hxb
              have hk2360i : IA T xb := by unfold IA; omega
              refine tn_getR (ci := 7) (i := 5) (n := 60) (x := xb) dX7_step_376 rfl lay_7 (by decide) fl7_15 ha rfl rfl (rc_F F2357 (Or.inl (by decide)) (by decide) (rc_F F2336 (Or.inl (by decide)) (by decide) (rc_o (by decide) (rc_o (by decide) (hxb))))) ?_
              refine tn_aload_n dX7_step_379 rfl 3 rfl ?_
              refine tn_getI (ci := 7) (i := 2) (n := 57) (t := σ.2.1 57 a) dX7_step_380 rfl lay_7 (by decide) fl7_65 ha rfl rfl (rc_F F2357 (Or.inl (by decide)) (by decide) (rc_F F2336 (Or.inl (by decide)) (by decide) (rc_o (by decide) (rc_o (by decide) (rfl))))) ?_
              refine tn_iload_n dX7_step_383 rfl 0 rfl ?_
              refine tn_callSN (M := m_X7_step) (pc := 384) (ix := 61) (M' := m_X11_put) (As := [.ref xb, .int (iI (σ.2.1 57 a)), .int (iI z1642)]) (rest := []) dX7_step_384 ok_X11_put stt_X11_put nl7_61 np_X11_put rfl (Nat.le_of_ble_eq_true rfl) (Nat.le_of_ble_eq_true rfl) rfl (k_X11_put_x (d + 3) (T := T) (σ := σ2350) (x := xb) (i := σ.2.1 57 a) (y := z1642) hk2360i (by omega) (by omega) (by omega) w2356 (nh_k hk2360 (by unfold HT; omega)) (vok_1 (by have q9 := hk2360; omega) (by omega))) (fun r2362 T2364 σ2363 gt2365 hp => ?_)
              obtain ⟨rfl, rfl, w2369, F2370, f2366, f2367⟩ := hp
              clear gt2365
              show Tn _ _ 387 T σ2363 [(3, .int (iI z1642)), (2, .int (iI v60)), (1, .int (iI v6)), (0, .ref a)] [] _
              refine tn_iload_n dX7_step_387 rfl 1 rfl ?_
              refine tn_bipush dX7_step_388 (by decide) ?_
              refine tn_icmp_ne (tgt := 397) dX7_step_390 (by decide) ⟨by omega, by omega⟩ ⟨by decide, by decide⟩ (fun h2371 => ?_) (fun h2371 => absurd h2371 (by omega))
              refine tn_iconst dX7_step_397 ?_
              have q2372 : σ2363.2.1 57 a = σ.2.1 57 a := rc_F F2370 (Or.inl (by decide)) (by decide) (rc_F F2357 (Or.inl (by decide)) (by decide) (rc_F F2336 (Or.inl (by decide)) (by decide) (rc_o (by decide) (rc_o (by decide) (rfl)))))
              exact tn_zret (v := 0) rfl (by decide) dX7_step_398 ⟨_, rfl, rfl, w2369, (((((FrC.rfl.put (by decide) (by decide)).put (by decide) (by decide)).trans (FrC.sub F2336 (by decide))).trans (FrC.sub F2357 (by decide))).trans (FrC.sub F2370 (by decide))), by omega, (((((CHX.rfl.fld (by simp) (by decide)).fld (by simp) (by decide)).trans (CHX.sub f2332 (by simp) (by simp) (by simp))).trans (CHX.sub f2353 (by simp) (by simp) (by simp))).trans (CHX.sub f2366 (by simp) (by simp) (by simp))), by omega, (((((FA.rfl.put).put).trans (FA.of F2336 (by decide))).trans (FA.of F2357 (by decide))).trans (FA.of F2370 (by decide)))⟩
            · refine tn_tableIn (tgt := 319) (off := 251) dX7_step_68 (x := v60) ⟨by omega, by omega⟩ (by omega) (by omega) (by rw [h1689]; rfl) (by decide) ?_
              refine tn_aload_n dX7_step_319 rfl 3 rfl ?_
              refine tn_dup dX7_step_320 rfl ?_
              refine tn_getI (ci := 7) (i := 3) (n := 58) (t := σ.2.1 58 a) dX7_step_321 rfl lay_7 (by decide) fl7_38 ha rfl rfl (rc_o (by decide) (rfl)) ?_
              refine tn_iconst dX7_step_324 ?_
              refine tn_isub dX7_step_325 ?_
              refine tn_any (fun z2373 g2374 => ?_)
              have g2374r : -2147483648 ≤ z2373 ∧ z2373 ≤ 2147483647 := g2374
              refine tn_putV (ci := 7) (i := 3) (n := 58) (r := false) (v := z2373) tyX7 tyX7_ok nmX7 dX7_step_326 rfl lay_7 (by decide) fl7_38 rfl (tyX7_ok 3 (by decide)) rfl rfl rfl ha rfl rfl ?_
              refine tn_aload_n dX7_step_329 rfl 3 rfl ?_
              obtain ⟨hl2378, hk2377a, hk2377b⟩ := ex_at (wf_61 hw ha) hxc
              have hk2377 : (T xc).1 = 1 := hk2377b (by omega)
              clear hk2377a hk2377b
              have hk2377i : IA T xc := by unfold IA; omega
              refine tn_getR (ci := 7) (i := 6) (n := 61) (x := xc) dX7_step_330 rfl lay_7 (by decide) fl7_18 ha rfl rfl (rc_o (by decide) (rc_o (by decide) (hxc))) ?_
              refine tn_aload_n dX7_step_333 rfl 3 rfl ?_
              refine tn_getI (ci := 7) (i := 2) (n := 57) (t := σ.2.1 57 a) dX7_step_334 rfl lay_7 (by decide) fl7_65 ha rfl rfl (rc_o (by decide) (rc_o (by decide) (rfl))) ?_
              have g2379 : ((0 : Int) ≤ σ.2.1 57 a ∧ σ.2.1 57 a ≤ 11184800) ∧ ((T a).1 = 57 → σ.2.1 57 a ≤ 8) := wf_57 hw ha
              have g2379x := g2379.2
              replace g2379 := g2379.1
              clear g2379x
              refine tn_aload_n dX7_step_337 rfl 3 rfl ?_
              refine tn_getR (ci := 7) (i := 14) (n := 69) (x := xq8) dX7_step_338 rfl lay_7 (by decide) fl7_72 ha rfl rfl (rc_o (by decide) (rc_o (by decide) (hx7))) ?_
              obtain ⟨xq2380, hx2381, hk2382, hl2383⟩ : ∃ x : Nat, σ.2.1 12 xq8 = (x : Int) ∧ AR T x 1 12 12 := wf_12 hw hk9o
              have hk2382i : IA T xq2380 := by unfold IA; omega
              refine tn_getR (ci := 1) (i := 7) (n := 12) (x := xq2380) dX7_step_341 rfl lay_1 (by decide) fl7_126 hk9o rfl rfl (rc_o (by decide) (rc_o (by decide) (hx2381))) ?_
              refine tn_aload_n dX7_step_344 rfl 3 rfl ?_
              refine tn_getR (ci := 7) (i := 14) (n := 69) (x := xq8) dX7_step_345 rfl lay_7 (by decide) fl7_72 ha rfl rfl (rc_o (by decide) (rc_o (by decide) (hx7))) ?_
              refine tn_iload_n dX7_step_348 rfl 2 rfl ?_
              refine tn_iconst dX7_step_349 ?_
              refine tn_callV (M := m_X7_step) (pc := 350) (ix := 117) (ci := 1) (M' := m_X1_get) (As := [.int (iI v6), .int (iI 1)]) (rest := [.ref xq2380, .int (iI (σ.2.1 57 a)), .ref xc]) dX7_step_350 ok_X1_get im_X1_get se_X1_get ml7_117 np_X1_get rfl rfl hk9o rfl (Nat.le_of_ble_eq_true rfl) (Nat.le_of_ble_eq_true rfl) rfl (k_X1_get (d + 3) (T := T) (σ := (sA 58 a (z2373) (sA 67 a (z1640) σ))) (a := xq8) (k := v6) (c := 1) hk9o (by omega) (by decide) ((hw.put (by decide) (by decide) (fo_67 (by omega))).put (by decide) (by decide) (fo_58 (by omega))) (by omega)) (fun r2384 T2386 σ2385 gt2387 hp => ?_)
              obtain ⟨v2389, rfl, rfl, rfl, f2388⟩ := hp
              clear gt2387
              show Tn _ _ 353 T (sA 58 a (z2373) (sA 67 a (z1640) σ)) [(3, .int (iI z1642)), (2, .int (iI v60)), (1, .int (iI v6)), (0, .ref a)] [.int (iI v2389), .ref xq2380, .int (iI (σ.2.1 57 a)), .ref xc] _
              refine tn_callSN (M := m_X7_step) (pc := 353) (ix := 91) (M' := m_X11_at) (As := [.ref xq2380, .int (iI v2389)]) (rest := [.int (iI (σ.2.1 57 a)), .ref xc]) dX7_step_353 ok_X11_at stt_X11_at nl7_91 np_X11_at rfl (Nat.le_of_ble_eq_true rfl) (Nat.le_of_ble_eq_true rfl) rfl (k_X11_at (d + 3) (T := T) (σ := (sA 58 a (z2373) (sA 67 a (z1640) σ))) (x := xq2380) (i := v2389) hk2382i (by omega) (by omega) ((hw.put (by decide) (by decide) (fo_67 (by omega))).put (by decide) (by decide) (fo_58 (by omega))) ) (fun r2390 T2392 σ2391 gt2393 hp => ?_)
              obtain ⟨v2397, rfl, rfl, rfl, f2394, f2395, f2396⟩ := hp
              clear gt2393
              clear f2395
              show Tn _ _ 356 T (sA 58 a (z2373) (sA 67 a (z1640) σ)) [(3, .int (iI z1642)), (2, .int (iI v60)), (1, .int (iI v6)), (0, .ref a)] [.int (iI v2397), .int (iI (σ.2.1 57 a)), .ref xc] _
              refine tn_callSN (M := m_X7_step) (pc := 356) (ix := 61) (M' := m_X11_put) (As := [.ref xc, .int (iI (σ.2.1 57 a)), .int (iI v2397)]) (rest := []) dX7_step_356 ok_X11_put stt_X11_put nl7_61 np_X11_put rfl (Nat.le_of_ble_eq_true rfl) (Nat.le_of_ble_eq_true rfl) rfl (k_X11_put_x (d + 3) (T := T) (σ := (sA 58 a (z2373) (sA 67 a (z1640) σ))) (x := xc) (i := σ.2.1 57 a) (y := v2397) hk2377i (by omega) (by omega) (by omega) ((hw.put (by decide) (by decide) (fo_67 (by omega))).put (by decide) (by decide) (fo_58 (by omega))) (nh_k hk2377 (by unfold HT; omega)) (vok_1 (by have q9 := hk2377; omega) (by omega))) (fun r2398 T2400 σ2399 gt2401 hp => ?_)
              obtain ⟨rfl, rfl, w2405, F2406, f2402, f2403⟩ := hp
              clear gt2401
              show Tn _ _ 359 T σ2399 [(3, .int (iI z1642)), (2, .int (iI v60)), (1, .int (iI v6)), (0, .ref a)] [] _
              refine tn_goto (tgt := 375) dX7_step_359 (by decide) ?_
              refine tn_aload_n dX7_step_375 rfl 3 rfl ?_
              obtain ⟨hk2409, hl2410⟩ : AR T xb 1 9 9 := ar_of (wf_60 hw ha) hxb
              have hk2409i : IA T xb := by unfold IA; omega
              refine tn_getR (ci := 7) (i := 5) (n := 60) (x := xb) dX7_step_376 rfl lay_7 (by decide) fl7_15 ha rfl rfl (rc_F F2406 (Or.inl (by decide)) (by decide) (rc_o (by decide) (rc_o (by decide) (hxb)))) ?_
              refine tn_aload_n dX7_step_379 rfl 3 rfl ?_
              refine tn_getI (ci := 7) (i := 2) (n := 57) (t := σ.2.1 57 a) dX7_step_380 rfl lay_7 (by decide) fl7_65 ha rfl rfl (rc_F F2406 (Or.inl (by decide)) (by decide) (rc_o (by decide) (rc_o (by decide) (rfl)))) ?_
              refine tn_iload_n dX7_step_383 rfl 0 rfl ?_
              refine tn_callSN (M := m_X7_step) (pc := 384) (ix := 61) (M' := m_X11_put) (As := [.ref xb, .int (iI (σ.2.1 57 a)), .int (iI z1642)]) (rest := []) dX7_step_384 ok_X11_put stt_X11_put nl7_61 np_X11_put rfl (Nat.le_of_ble_eq_true rfl) (Nat.le_of_ble_eq_true rfl) rfl (k_X11_put_x (d + 3) (T := T) (σ := σ2399) (x := xb) (i := σ.2.1 57 a) (y := z1642) hk2409i (by omega) (by omega) (by omega) w2405 (nh_k hk2409 (by unfold HT; omega)) (vok_1 (by have q9 := hk2409; omega) (by omega))) (fun r2411 T2413 σ2412 gt2414 hp => ?_)
              obtain ⟨rfl, rfl, w2418, F2419, f2415, f2416⟩ := hp
              clear gt2414
              show Tn _ _ 387 T σ2412 [(3, .int (iI z1642)), (2, .int (iI v60)), (1, .int (iI v6)), (0, .ref a)] [] _
              refine tn_iload_n dX7_step_387 rfl 1 rfl ?_
              refine tn_bipush dX7_step_388 (by decide) ?_
              refine tn_icmp_ne (tgt := 397) dX7_step_390 (by decide) ⟨by omega, by omega⟩ ⟨by decide, by decide⟩ (fun h2420 => ?_) (fun h2420 => absurd h2420 (by omega))
              refine tn_iconst dX7_step_397 ?_
              have q2421 : σ2412.2.1 57 a = σ.2.1 57 a := rc_F F2419 (Or.inl (by decide)) (by decide) (rc_F F2406 (Or.inl (by decide)) (by decide) (rc_o (by decide) (rc_o (by decide) (rfl))))
              exact tn_zret (v := 0) rfl (by decide) dX7_step_398 ⟨_, rfl, rfl, w2418, ((((FrC.rfl.put (by decide) (by decide)).put (by decide) (by decide)).trans (FrC.sub F2406 (by decide))).trans (FrC.sub F2419 (by decide))), by omega, ((((CHX.rfl.fld (by simp) (by decide)).fld (by simp) (by decide)).trans (CHX.sub f2402 (by simp) (by simp) (by simp))).trans (CHX.sub f2415 (by simp) (by simp) (by simp))), by omega, ((((FA.rfl.put).put).trans (FA.of F2406 (by decide))).trans (FA.of F2419 (by decide)))⟩
        · refine tn_aload_n dX7_step_46 rfl 2 rfl ?_
          refine tn_iconst dX7_step_47 ?_
          refine tn_putV (ci := 7) (i := 1) (n := 56) (r := false) (v := 3) tyX7 tyX7_ok nmX7 dX7_step_48 rfl lay_7 (by decide) fl7_34 rfl (tyX7_ok 1 (by decide)) rfl rfl rfl ha rfl rfl ?_
          refine tn_iconst dX7_step_51 ?_
          have q2422 : (sA 56 a (3) σ).2.1 57 a = σ.2.1 57 a := rc_o (by decide) (rfl)
          exact tn_zret (v := 0) rfl (by decide) dX7_step_52 ⟨_, rfl, rfl, (hw.put (by decide) (by decide) (fo_56 (by omega))), (FrC.rfl.put (by decide) (by decide)), by omega, (CHX.rfl.fld (by simp) (by decide)), by omega, (FA.rfl.put)⟩
end
