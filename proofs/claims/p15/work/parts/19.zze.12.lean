section
set_option maxHeartbeats 1000000 in
set_option maxRecDepth 20000 in
theorem k_X7_step_h57 (d : Nat) {T : CT} {σ : MS} {a : Nat} {xa : Nat} {xb : Nat} {xc : Nat} {xd : Nat} {xe : Nat} {xf : Nat} (ha : OB T a 7) (hta : (T a).1 = 57) (hw : WT T σ) (hxa : σ.2.1 59 a = (xa : Int)) (hxb : σ.2.1 60 a = (xb : Int)) (hxc : σ.2.1 61 a = (xc : Int)) (hxd : σ.2.1 62 a = (xd : Int)) (hxe : σ.2.1 63 a = (xe : Int)) (hxf : σ.2.1 64 a = (xf : Int)) (hp : σ.2.1 58 a = σ.2.1 57 a + 1) : Tn (d + 5) m_X7_step 0 T σ [(0, .ref a)] [] (fun ro T2 σ2 => ∃ v : Int, ro = some (.int (iI v)) ∧ T = T2 ∧ WT T2 σ2 ∧ FrC T [56, 57, 58, 65, 66, 67, 68, 69, 515] σ σ2 ∧ (v = 0 ∨ v = 1) ∧ (CHX [(56, a), (57, a), (58, a), (65, a), (66, a), (67, a), (68, a), (69, a), (70, a), (71, a)] [xa, xb, xc, xd, xe, xf] [] σ σ2) ∧ (PIv σ2 a) ∧ (FA a σ σ2)) := by
  have ht1 := (wf_57 hw ha).1
  have ht2 := (wf_57 hw ha).2 hta
  refine tn_aload_n dX7_step_0 rfl 0 rfl ?_
  refine tn_callV (M := m_X7_step) (pc := 1) (ix := 103) (ci := 7) (M' := m_X7_place) (As := []) (rest := []) dX7_step_1 ok_X7_place im_X7_place se_X7_place ml7_103 np_X7_place rfl rfl ha rfl (Nat.le_of_ble_eq_true rfl) (Nat.le_of_ble_eq_true rfl) rfl (k_X7_place (d + 2) (T := T) (σ := σ) (a := a) ha hw ) (fun r1 T3 σ2 gt4 hp => ?_)
  obtain ⟨v6, rfl, rfl, rfl, f5⟩ := hp
  clear gt4
  show Tn _ _ 4 T σ [(0, .ref a)] [.int (iI v6)] _
  refine tn_istore_n (L' := [(1, .int (iI v6)), (0, .ref a)]) dX7_step_4 rfl (by decide) rfl ?_
  refine tn_aload_n dX7_step_5 rfl 1 rfl ?_
  rcases wf_69 hw ha with hx7 | ⟨xq8, hx7, hk9a, hk9b⟩
  · refine tn_getN (ci := 7) (i := 14) (n := 69) dX7_step_6 rfl lay_7 (by decide) fl7_72 ha rfl rfl (Int.lt_of_le_of_lt (Int.le_of_eq (Eq.refl _)) hx7) ?_
    refine tn_ifnonnullN dX7_step_9 ?_
    refine tn_iconst dX7_step_12 ?_
    refine tn_goto (tgt := 24) dX7_step_13 (by decide) ?_
    refine tn_istore_n (L' := [(2, .int (iI (-1))), (1, .int (iI v6)), (0, .ref a)]) dX7_step_24 rfl (by decide) rfl ?_
    refine tn_iload_n dX7_step_25 rfl 0 rfl ?_
    refine tn_bipush dX7_step_26 (by decide) ?_
    refine tn_icmp_eq (tgt := 37) dX7_step_28 (by decide) ⟨by decide, by decide⟩ ⟨by decide, by decide⟩ (fun h => absurd h (by decide)) (fun _ => ?_)
    refine tn_iload_n dX7_step_31 rfl 0 rfl ?_
    refine tn_bipush dX7_step_32 (by decide) ?_
    refine tn_icmp_ne (tgt := 53) dX7_step_34 (by decide) ⟨by decide, by decide⟩ ⟨by decide, by decide⟩ (fun _ => ?_) (fun h => absurd h (by decide))
    refine tn_aload_n dX7_step_53 rfl 2 rfl ?_
    refine tn_dup dX7_step_54 rfl ?_
    refine tn_getI (ci := 7) (i := 12) (n := 67) (t := σ.2.1 67 a) dX7_step_55 rfl lay_7 (by decide) fl7_47 ha rfl rfl (rfl) ?_
    have g13 : ((-2147483648 : Int) ≤ σ.2.1 67 a ∧ σ.2.1 67 a ≤ 2147483647) := wf_67 hw ha
    refine tn_iconst dX7_step_58 ?_
    refine tn_iadd dX7_step_59 ?_
    refine tn_any (fun z14 g15 => ?_)
    have g15r : -2147483648 ≤ z14 ∧ z14 ≤ 2147483647 := g15
    refine tn_putV (ci := 7) (i := 12) (n := 67) (r := false) (v := z14) tyX7 tyX7_ok nmX7 dX7_step_60 rfl lay_7 (by decide) fl7_47 rfl (tyX7_ok 12 (by decide)) rfl rfl rfl ha rfl rfl ?_
    refine tn_iload_n dX7_step_63 rfl 1 rfl ?_
    refine tn_iconst dX7_step_64 ?_
    refine tn_iadd dX7_step_65 ?_
    refine tn_any (fun z16 g17 => ?_)
    have g17r : -2147483648 ≤ z16 ∧ z16 ≤ 2147483647 := g17
    refine tn_istore_n (L' := [(3, .int (iI z16)), (2, .int (iI (-1))), (1, .int (iI v6)), (0, .ref a)]) dX7_step_66 rfl (by decide) rfl ?_
    refine tn_iload_n dX7_step_67 rfl 1 rfl ?_
    refine tn_tableIn (tgt := 362) dX7_step_68 (x := -1) ⟨by decide, by decide⟩ (by decide) (by decide) rfl (by decide) ?_
    refine tn_aload_n dX7_step_362 rfl 3 rfl ?_
    refine tn_iconst dX7_step_363 ?_
    obtain ⟨hk20, hl21⟩ : AR T xa 15 9 9 := ar_of (wf_59 hw ha) hxa
    have hk20i : IA T xa := by unfold IA; omega
    obtain ⟨hk24, hl25⟩ : AR T xb 1 9 9 := ar_of (wf_60 hw ha) hxb
    have hk24i : IA T xb := by unfold IA; omega
    obtain ⟨hl29, hk28a, hk28b⟩ := ex_at (wf_61 hw ha) hxc
    have hk28 : (T xc).1 = 14 := hk28a (by omega)
    clear hk28a hk28b
    have hk28i : IA T xc := by unfold IA; omega
    obtain ⟨hk32, hl33⟩ : AR T xd 1 108 108 := ar_of (wf_62 hw ha) hxd
    have hk32i : IA T xd := by unfold IA; omega
    obtain ⟨hk36, hl37⟩ : AR T xe 1 1728 1728 := ar_of (wf_63 hw ha) hxe
    have hk36i : IA T xe := by unfold IA; omega
    obtain ⟨hk40, hl41⟩ : AR T xf 1 200 200 := ar_of (wf_64 hw ha) hxf
    have hk40i : IA T xf := by unfold IA; omega
    refine tn_callV (M := m_X7_step) (pc := 364) (ix := 123) (ci := 7) (M' := m_X7_giveBack) (As := [.int (iI 0)]) (rest := []) dX7_step_364 ok_X7_giveBack im_X7_giveBack se_X7_giveBack ml7_123 np_X7_giveBack rfl rfl ha rfl (Nat.le_of_ble_eq_true rfl) (Nat.le_of_ble_eq_true rfl) rfl (k_X7_giveBack_h57 (d + 1) (T := T) (σ := (sA 67 a (z14) σ)) (a := a) (n := 0) (xa := xa) (xb := xb) (xc := xc) (xd := xd) (xe := xe) (xf := xf) ha hta (by decide) (hw.put (by decide) (by decide) (fo_67 (by omega))) (rc_o (by decide) (hxa)) (rc_o (by decide) (hxb)) (rc_o (by decide) (hxc)) (rc_o (by decide) (hxd)) (rc_o (by decide) (hxe)) (rc_o (by decide) (hxf)) (by rw [show (sA 67 a (z14) σ).2.1 58 a = σ.2.1 58 a from rc_o (by decide) (rfl), show (sA 67 a (z14) σ).2.1 57 a = σ.2.1 57 a from rc_o (by decide) (rfl)]; omega)) (fun r42 T44 σ43 gt45 hp => ?_)
    obtain ⟨rfl, rfl, w50, F51, f46, f47, f48⟩ := hp
    clear gt45
    show Tn _ _ 367 T σ43 [(3, .int (iI z16)), (2, .int (iI (-1))), (1, .int (iI v6)), (0, .ref a)] [] _
    refine tn_iconst dX7_step_367 ?_
    have q52 : σ43.2.1 56 a = σ43.2.1 56 a := rfl
    have q53 : σ43.2.1 57 a = σ43.2.1 57 a := rfl
    have q54 : σ43.2.1 58 a = σ43.2.1 58 a := rfl
    exact tn_zret (v := 0) rfl (by decide) dX7_step_368 ⟨_, rfl, rfl, w50, ((FrC.rfl.put (by decide) (by decide)).trans (FrC.sub F51 (by decide))), by omega, ((CHX.rfl.fld (by simp) (by decide)).trans (CHX.sub f46 (by simp) (by simp) (by simp))), by unfold PIv at *; rw [q52, q53, q54]; omega, ((FA.rfl.put).trans f48)⟩
  · have hk9 : (T xq8).1 = 31 := hk9a (by omega)
    have hk9o : OB T xq8 1 := ⟨by omega, by rw [hk9]; rfl, by omega⟩
    refine tn_getR (ci := 7) (i := 14) (n := 69) (x := xq8) dX7_step_6 rfl lay_7 (by decide) fl7_72 ha rfl rfl (hx7) ?_
    refine tn_ifnonnull (tgt := 16) dX7_step_9 (by decide) ?_
    refine tn_aload_n dX7_step_16 rfl 1 rfl ?_
    refine tn_getR (ci := 7) (i := 14) (n := 69) (x := xq8) dX7_step_17 rfl lay_7 (by decide) fl7_72 ha rfl rfl (hx7) ?_
    refine tn_iload_n dX7_step_20 rfl 0 rfl ?_
    refine tn_callV (M := m_X7_step) (pc := 21) (ix := 107) (ci := 1) (M' := m_X1_kindAt) (As := [.int (iI v6)]) (rest := []) dX7_step_21 ok_X1_kindAt im_X1_kindAt se_X1_kindAt ml7_107 np_X1_kindAt rfl rfl hk9o rfl (Nat.le_of_ble_eq_true rfl) (Nat.le_of_ble_eq_true rfl) rfl (k_X1_kindAt (d + 3) (T := T) (σ := σ) (a := xq8) (k := v6) hk9o (by omega) hw ) (fun r55 T57 σ56 gt58 hp => ?_)
    obtain ⟨v61, rfl, rfl, rfl, f59, f60⟩ := hp
    clear gt58
    have f60n := f60 (by omega)
    clear f60
    show Tn _ _ 24 T σ [(1, .int (iI v6)), (0, .ref a)] [.int (iI v61)] _
    refine tn_istore_n (L' := [(2, .int (iI v61)), (1, .int (iI v6)), (0, .ref a)]) dX7_step_24 rfl (by decide) rfl ?_
    refine tn_iload_n dX7_step_25 rfl 0 rfl ?_
    refine tn_bipush dX7_step_26 (by decide) ?_
    refine tn_icmp_eq (tgt := 37) dX7_step_28 (by decide) ⟨by omega, by omega⟩ ⟨by decide, by decide⟩ (fun h62 => ?_) (fun h62 => ?_)
    · refine tn_aload_n dX7_step_37 rfl 2 rfl ?_
      refine tn_getI (ci := 7) (i := 3) (n := 58) (t := σ.2.1 58 a) dX7_step_38 rfl lay_7 (by decide) fl7_38 ha rfl rfl (rfl) ?_
      have g63 : ((-2147483648 : Int) ≤ σ.2.1 58 a ∧ σ.2.1 58 a ≤ 2147483647) := wf_58 hw ha
      refine tn_bipush dX7_step_41 (by decide) ?_
      refine tn_icmp_le (tgt := 53) dX7_step_43 (by decide) ⟨by omega, by omega⟩ ⟨by decide, by decide⟩ (fun h64 => ?_) (fun h64 => ?_)
      · refine tn_aload_n dX7_step_53 rfl 2 rfl ?_
        refine tn_dup dX7_step_54 rfl ?_
        refine tn_getI (ci := 7) (i := 12) (n := 67) (t := σ.2.1 67 a) dX7_step_55 rfl lay_7 (by decide) fl7_47 ha rfl rfl (rfl) ?_
        have g65 : ((-2147483648 : Int) ≤ σ.2.1 67 a ∧ σ.2.1 67 a ≤ 2147483647) := wf_67 hw ha
        refine tn_iconst dX7_step_58 ?_
        refine tn_iadd dX7_step_59 ?_
        refine tn_any (fun z66 g67 => ?_)
        have g67r : -2147483648 ≤ z66 ∧ z66 ≤ 2147483647 := g67
        refine tn_putV (ci := 7) (i := 12) (n := 67) (r := false) (v := z66) tyX7 tyX7_ok nmX7 dX7_step_60 rfl lay_7 (by decide) fl7_47 rfl (tyX7_ok 12 (by decide)) rfl rfl rfl ha rfl rfl ?_
        refine tn_iload_n dX7_step_63 rfl 1 rfl ?_
        refine tn_iconst dX7_step_64 ?_
        refine tn_iadd dX7_step_65 ?_
        refine tn_any (fun z68 g69 => ?_)
        have g69r : -2147483648 ≤ z68 ∧ z68 ≤ 2147483647 := g69
        refine tn_istore_n (L' := [(3, .int (iI z68)), (2, .int (iI v61)), (1, .int (iI v6)), (0, .ref a)]) dX7_step_66 rfl (by decide) rfl ?_
        refine tn_iload_n dX7_step_67 rfl 1 rfl ?_
        by_cases h70 : v61 < -1 ∨ 15 < v61
        · refine tn_tableOut (tgt := 369) dX7_step_68 (x := v61) ⟨by omega, by omega⟩ h70 (by decide) ?_
          refine tn_aload_n dX7_step_369 rfl 3 rfl ?_
          refine tn_iload_n dX7_step_370 rfl 2 rfl ?_
          refine tn_iload_n dX7_step_371 rfl 1 rfl ?_
          obtain ⟨hk73, hl74⟩ : AR T xa 15 9 9 := ar_of (wf_59 hw ha) hxa
          have hk73i : IA T xa := by unfold IA; omega
          obtain ⟨hk77, hl78⟩ : AR T xb 1 9 9 := ar_of (wf_60 hw ha) hxb
          have hk77i : IA T xb := by unfold IA; omega
          obtain ⟨hl82, hk81a, hk81b⟩ := ex_at (wf_61 hw ha) hxc
          have hk81 : (T xc).1 = 14 := hk81a (by omega)
          clear hk81a hk81b
          have hk81i : IA T xc := by unfold IA; omega
          obtain ⟨hk85, hl86⟩ : AR T xd 1 108 108 := ar_of (wf_62 hw ha) hxd
          have hk85i : IA T xd := by unfold IA; omega
          obtain ⟨hk89, hl90⟩ : AR T xe 1 1728 1728 := ar_of (wf_63 hw ha) hxe
          have hk89i : IA T xe := by unfold IA; omega
          obtain ⟨hk93, hl94⟩ : AR T xf 1 200 200 := ar_of (wf_64 hw ha) hxf
          have hk93i : IA T xf := by unfold IA; omega
          refine tn_callV (M := m_X7_step) (pc := 372) (ix := 129) (ci := 7) (M' := m_X7_reckonAt) (As := [.int (iI v6), .int (iI v61)]) (rest := []) dX7_step_372 ok_X7_reckonAt im_X7_reckonAt se_X7_reckonAt ml7_129 np_X7_reckonAt rfl rfl ha rfl (Nat.le_of_ble_eq_true rfl) (Nat.le_of_ble_eq_true rfl) rfl (k_X7_reckonAt_h (d + 1) (T := T) (σ := (sA 67 a (z66) σ)) (a := a) (k := v6) (e := v61) (xa := xa) (xb := xb) (xc := xc) (xd := xd) (xe := xe) (xf := xf) ha (by omega) (by omega) (hw.put (by decide) (by decide) (fo_67 (by omega))) (rc_o (by decide) (hxa)) (rc_o (by decide) (hxb)) (rc_o (by decide) (hxc)) (rc_o (by decide) (hxd)) (rc_o (by decide) (hxe)) (rc_o (by decide) (hxf)) (by rw [show (sA 67 a (z66) σ).2.1 69 a = _ from rc_o (by decide) (hx7)]; omega)) (fun r95 T97 σ96 gt98 hp => ?_)
          obtain ⟨rfl, rfl, w101, F102, f99⟩ := hp
          clear gt98
          show Tn _ _ 375 T σ96 [(3, .int (iI z68)), (2, .int (iI v61)), (1, .int (iI v6)), (0, .ref a)] [] _
          refine tn_aload_n dX7_step_375 rfl 3 rfl ?_
          refine tn_getR (ci := 7) (i := 5) (n := 60) (x := xb) dX7_step_376 rfl lay_7 (by decide) fl7_15 ha rfl rfl (rc_F F102 (Or.inl (by decide)) (by decide) (rc_o (by decide) (hxb))) ?_
          refine tn_aload_n dX7_step_379 rfl 3 rfl ?_
          refine tn_getI (ci := 7) (i := 2) (n := 57) (t := σ.2.1 57 a) dX7_step_380 rfl lay_7 (by decide) fl7_65 ha rfl rfl (rc_F F102 (Or.inl (by decide)) (by decide) (rc_o (by decide) (rfl))) ?_
          have g103 : ((0 : Int) ≤ σ.2.1 57 a ∧ σ.2.1 57 a ≤ 11184800) ∧ ((T a).1 = 57 → σ.2.1 57 a ≤ 8) := wf_57 hw ha
          have g103x := g103.2
          replace g103 := g103.1
          have g103x := g103x hta
          refine tn_iload_n dX7_step_383 rfl 0 rfl ?_
          refine tn_callSN (M := m_X7_step) (pc := 384) (ix := 61) (M' := m_X11_put) (As := [.ref xb, .int (iI (σ.2.1 57 a)), .int (iI z68)]) (rest := []) dX7_step_384 ok_X11_put stt_X11_put nl7_61 np_X11_put rfl (Nat.le_of_ble_eq_true rfl) (Nat.le_of_ble_eq_true rfl) rfl (k_X11_put_x (d + 3) (T := T) (σ := σ96) (x := xb) (i := σ.2.1 57 a) (y := z68) hk77i (by omega) (by omega) (by omega) w101 (nh_k hk77 (by unfold HT; omega)) (vok_1 (by have q9 := hk77; omega) (by omega))) (fun r104 T106 σ105 gt107 hp => ?_)
          obtain ⟨rfl, rfl, w111, F112, f108, f109⟩ := hp
          clear gt107
          show Tn _ _ 387 T σ105 [(3, .int (iI z68)), (2, .int (iI v61)), (1, .int (iI v6)), (0, .ref a)] [] _
          refine tn_iload_n dX7_step_387 rfl 1 rfl ?_
          refine tn_bipush dX7_step_388 (by decide) ?_
          refine tn_icmp_ne (tgt := 397) dX7_step_390 (by decide) ⟨by omega, by omega⟩ ⟨by decide, by decide⟩ (fun h113 => ?_) (fun h113 => absurd h113 (by omega))
          refine tn_iconst dX7_step_397 ?_
          have q114 : σ105.2.1 56 a = σ.2.1 56 a := rc_F F112 (Or.inl (by decide)) (by decide) (rc_F F102 (Or.inl (by decide)) (by decide) (rc_o (by decide) (rfl)))
          have q115 : σ105.2.1 57 a = σ.2.1 57 a := rc_F F112 (Or.inl (by decide)) (by decide) (rc_F F102 (Or.inl (by decide)) (by decide) (rc_o (by decide) (rfl)))
          have q116 : σ105.2.1 58 a = σ.2.1 58 a := rc_F F112 (Or.inl (by decide)) (by decide) (rc_F F102 (Or.inl (by decide)) (by decide) (rc_o (by decide) (rfl)))
          exact tn_zret (v := 0) rfl (by decide) dX7_step_398 ⟨_, rfl, rfl, w111, (((FrC.rfl.put (by decide) (by decide)).trans (FrC.sub F102 (by decide))).trans (FrC.sub F112 (by decide))), by omega, (((CHX.rfl.fld (by simp) (by decide)).trans (CHX.sub f99 (by simp) (by simp) (by simp))).trans (CHX.sub f108 (by simp) (by simp) (by simp))), by unfold PIv at *; rw [q114, q115, q116]; omega, (((FA.rfl.put).trans (FA.of F102 (by decide))).trans (FA.of F112 (by decide)))⟩
        · have h117 : v61 = -1 ∨ v61 = 0 ∨ v61 = 1 ∨ v61 = 2 ∨ v61 = 3 ∨ v61 = 4 ∨ v61 = 5 ∨ v61 = 6 ∨ v61 = 7 ∨ v61 = 8 ∨ v61 = 9 ∨ v61 = 10 ∨ v61 = 11 ∨ v61 = 12 ∨ v61 = 13 ∨ v61 = 14 ∨ v61 = 15 := by omega
          rcases h117 with h117 | h117 | h117 | h117 | h117 | h117 | h117 | h117 | h117 | h117 | h117 | h117 | h117 | h117 | h117 | h117 | h117
          · refine tn_tableIn (tgt := 362) (off := 294) dX7_step_68 (x := v61) ⟨by omega, by omega⟩ (by omega) (by omega) (by rw [h117]; rfl) (by decide) ?_
            refine tn_aload_n dX7_step_362 rfl 3 rfl ?_
            refine tn_iconst dX7_step_363 ?_
            obtain ⟨hk120, hl121⟩ : AR T xa 15 9 9 := ar_of (wf_59 hw ha) hxa
            have hk120i : IA T xa := by unfold IA; omega
            obtain ⟨hk124, hl125⟩ : AR T xb 1 9 9 := ar_of (wf_60 hw ha) hxb
            have hk124i : IA T xb := by unfold IA; omega
            obtain ⟨hl129, hk128a, hk128b⟩ := ex_at (wf_61 hw ha) hxc
            have hk128 : (T xc).1 = 14 := hk128a (by omega)
            clear hk128a hk128b
            have hk128i : IA T xc := by unfold IA; omega
            obtain ⟨hk132, hl133⟩ : AR T xd 1 108 108 := ar_of (wf_62 hw ha) hxd
            have hk132i : IA T xd := by unfold IA; omega
            obtain ⟨hk136, hl137⟩ : AR T xe 1 1728 1728 := ar_of (wf_63 hw ha) hxe
            have hk136i : IA T xe := by unfold IA; omega
            obtain ⟨hk140, hl141⟩ : AR T xf 1 200 200 := ar_of (wf_64 hw ha) hxf
            have hk140i : IA T xf := by unfold IA; omega
            refine tn_callV (M := m_X7_step) (pc := 364) (ix := 123) (ci := 7) (M' := m_X7_giveBack) (As := [.int (iI 0)]) (rest := []) dX7_step_364 ok_X7_giveBack im_X7_giveBack se_X7_giveBack ml7_123 np_X7_giveBack rfl rfl ha rfl (Nat.le_of_ble_eq_true rfl) (Nat.le_of_ble_eq_true rfl) rfl (k_X7_giveBack_h57 (d + 1) (T := T) (σ := (sA 67 a (z66) σ)) (a := a) (n := 0) (xa := xa) (xb := xb) (xc := xc) (xd := xd) (xe := xe) (xf := xf) ha hta (by decide) (hw.put (by decide) (by decide) (fo_67 (by omega))) (rc_o (by decide) (hxa)) (rc_o (by decide) (hxb)) (rc_o (by decide) (hxc)) (rc_o (by decide) (hxd)) (rc_o (by decide) (hxe)) (rc_o (by decide) (hxf)) (by rw [show (sA 67 a (z66) σ).2.1 58 a = σ.2.1 58 a from rc_o (by decide) (rfl), show (sA 67 a (z66) σ).2.1 57 a = σ.2.1 57 a from rc_o (by decide) (rfl)]; omega)) (fun r142 T144 σ143 gt145 hp => ?_)
            obtain ⟨rfl, rfl, w150, F151, f146, f147, f148⟩ := hp
            clear gt145
            show Tn _ _ 367 T σ143 [(3, .int (iI z68)), (2, .int (iI v61)), (1, .int (iI v6)), (0, .ref a)] [] _
            refine tn_iconst dX7_step_367 ?_
            have q152 : σ143.2.1 56 a = σ143.2.1 56 a := rfl
            have q153 : σ143.2.1 57 a = σ143.2.1 57 a := rfl
            have q154 : σ143.2.1 58 a = σ143.2.1 58 a := rfl
            exact tn_zret (v := 0) rfl (by decide) dX7_step_368 ⟨_, rfl, rfl, w150, ((FrC.rfl.put (by decide) (by decide)).trans (FrC.sub F151 (by decide))), by omega, ((CHX.rfl.fld (by simp) (by decide)).trans (CHX.sub f146 (by simp) (by simp) (by simp))), by unfold PIv at *; rw [q152, q153, q154]; omega, ((FA.rfl.put).trans f148)⟩
          · refine tn_tableIn (tgt := 369) (off := 301) dX7_step_68 (x := v61) ⟨by omega, by omega⟩ (by omega) (by omega) (by rw [h117]; rfl) (by decide) ?_
            refine tn_aload_n dX7_step_369 rfl 3 rfl ?_
            refine tn_iload_n dX7_step_370 rfl 2 rfl ?_
            refine tn_iload_n dX7_step_371 rfl 1 rfl ?_
            obtain ⟨hk157, hl158⟩ : AR T xa 15 9 9 := ar_of (wf_59 hw ha) hxa
            have hk157i : IA T xa := by unfold IA; omega
            obtain ⟨hk161, hl162⟩ : AR T xb 1 9 9 := ar_of (wf_60 hw ha) hxb
            have hk161i : IA T xb := by unfold IA; omega
            obtain ⟨hl166, hk165a, hk165b⟩ := ex_at (wf_61 hw ha) hxc
            have hk165 : (T xc).1 = 14 := hk165a (by omega)
            clear hk165a hk165b
            have hk165i : IA T xc := by unfold IA; omega
            obtain ⟨hk169, hl170⟩ : AR T xd 1 108 108 := ar_of (wf_62 hw ha) hxd
            have hk169i : IA T xd := by unfold IA; omega
            obtain ⟨hk173, hl174⟩ : AR T xe 1 1728 1728 := ar_of (wf_63 hw ha) hxe
            have hk173i : IA T xe := by unfold IA; omega
            obtain ⟨hk177, hl178⟩ : AR T xf 1 200 200 := ar_of (wf_64 hw ha) hxf
            have hk177i : IA T xf := by unfold IA; omega
            refine tn_callV (M := m_X7_step) (pc := 372) (ix := 129) (ci := 7) (M' := m_X7_reckonAt) (As := [.int (iI v6), .int (iI v61)]) (rest := []) dX7_step_372 ok_X7_reckonAt im_X7_reckonAt se_X7_reckonAt ml7_129 np_X7_reckonAt rfl rfl ha rfl (Nat.le_of_ble_eq_true rfl) (Nat.le_of_ble_eq_true rfl) rfl (k_X7_reckonAt_h (d + 1) (T := T) (σ := (sA 67 a (z66) σ)) (a := a) (k := v6) (e := v61) (xa := xa) (xb := xb) (xc := xc) (xd := xd) (xe := xe) (xf := xf) ha (by omega) (by omega) (hw.put (by decide) (by decide) (fo_67 (by omega))) (rc_o (by decide) (hxa)) (rc_o (by decide) (hxb)) (rc_o (by decide) (hxc)) (rc_o (by decide) (hxd)) (rc_o (by decide) (hxe)) (rc_o (by decide) (hxf)) (by rw [show (sA 67 a (z66) σ).2.1 69 a = _ from rc_o (by decide) (hx7)]; omega)) (fun r179 T181 σ180 gt182 hp => ?_)
            obtain ⟨rfl, rfl, w185, F186, f183⟩ := hp
            clear gt182
            show Tn _ _ 375 T σ180 [(3, .int (iI z68)), (2, .int (iI v61)), (1, .int (iI v6)), (0, .ref a)] [] _
            refine tn_aload_n dX7_step_375 rfl 3 rfl ?_
            refine tn_getR (ci := 7) (i := 5) (n := 60) (x := xb) dX7_step_376 rfl lay_7 (by decide) fl7_15 ha rfl rfl (rc_F F186 (Or.inl (by decide)) (by decide) (rc_o (by decide) (hxb))) ?_
            refine tn_aload_n dX7_step_379 rfl 3 rfl ?_
            refine tn_getI (ci := 7) (i := 2) (n := 57) (t := σ.2.1 57 a) dX7_step_380 rfl lay_7 (by decide) fl7_65 ha rfl rfl (rc_F F186 (Or.inl (by decide)) (by decide) (rc_o (by decide) (rfl))) ?_
            have g187 : ((0 : Int) ≤ σ.2.1 57 a ∧ σ.2.1 57 a ≤ 11184800) ∧ ((T a).1 = 57 → σ.2.1 57 a ≤ 8) := wf_57 hw ha
            have g187x := g187.2
            replace g187 := g187.1
            have g187x := g187x hta
            refine tn_iload_n dX7_step_383 rfl 0 rfl ?_
            refine tn_callSN (M := m_X7_step) (pc := 384) (ix := 61) (M' := m_X11_put) (As := [.ref xb, .int (iI (σ.2.1 57 a)), .int (iI z68)]) (rest := []) dX7_step_384 ok_X11_put stt_X11_put nl7_61 np_X11_put rfl (Nat.le_of_ble_eq_true rfl) (Nat.le_of_ble_eq_true rfl) rfl (k_X11_put_x (d + 3) (T := T) (σ := σ180) (x := xb) (i := σ.2.1 57 a) (y := z68) hk161i (by omega) (by omega) (by omega) w185 (nh_k hk161 (by unfold HT; omega)) (vok_1 (by have q9 := hk161; omega) (by omega))) (fun r188 T190 σ189 gt191 hp => ?_)
            obtain ⟨rfl, rfl, w195, F196, f192, f193⟩ := hp
            clear gt191
            show Tn _ _ 387 T σ189 [(3, .int (iI z68)), (2, .int (iI v61)), (1, .int (iI v6)), (0, .ref a)] [] _
            refine tn_iload_n dX7_step_387 rfl 1 rfl ?_
            refine tn_bipush dX7_step_388 (by decide) ?_
            refine tn_icmp_ne (tgt := 397) dX7_step_390 (by decide) ⟨by omega, by omega⟩ ⟨by decide, by decide⟩ (fun h197 => ?_) (fun h197 => absurd h197 (by omega))
            refine tn_iconst dX7_step_397 ?_
            have q198 : σ189.2.1 56 a = σ.2.1 56 a := rc_F F196 (Or.inl (by decide)) (by decide) (rc_F F186 (Or.inl (by decide)) (by decide) (rc_o (by decide) (rfl)))
            have q199 : σ189.2.1 57 a = σ.2.1 57 a := rc_F F196 (Or.inl (by decide)) (by decide) (rc_F F186 (Or.inl (by decide)) (by decide) (rc_o (by decide) (rfl)))
            have q200 : σ189.2.1 58 a = σ.2.1 58 a := rc_F F196 (Or.inl (by decide)) (by decide) (rc_F F186 (Or.inl (by decide)) (by decide) (rc_o (by decide) (rfl)))
            exact tn_zret (v := 0) rfl (by decide) dX7_step_398 ⟨_, rfl, rfl, w195, (((FrC.rfl.put (by decide) (by decide)).trans (FrC.sub F186 (by decide))).trans (FrC.sub F196 (by decide))), by omega, (((CHX.rfl.fld (by simp) (by decide)).trans (CHX.sub f183 (by simp) (by simp) (by simp))).trans (CHX.sub f192 (by simp) (by simp) (by simp))), by unfold PIv at *; rw [q198, q199, q200]; omega, (((FA.rfl.put).trans (FA.of F186 (by decide))).trans (FA.of F196 (by decide)))⟩
          · refine tn_tableIn (tgt := 369) (off := 301) dX7_step_68 (x := v61) ⟨by omega, by omega⟩ (by omega) (by omega) (by rw [h117]; rfl) (by decide) ?_
            refine tn_aload_n dX7_step_369 rfl 3 rfl ?_
            refine tn_iload_n dX7_step_370 rfl 2 rfl ?_
            refine tn_iload_n dX7_step_371 rfl 1 rfl ?_
            obtain ⟨hk203, hl204⟩ : AR T xa 15 9 9 := ar_of (wf_59 hw ha) hxa
            have hk203i : IA T xa := by unfold IA; omega
            obtain ⟨hk207, hl208⟩ : AR T xb 1 9 9 := ar_of (wf_60 hw ha) hxb
            have hk207i : IA T xb := by unfold IA; omega
            obtain ⟨hl212, hk211a, hk211b⟩ := ex_at (wf_61 hw ha) hxc
            have hk211 : (T xc).1 = 14 := hk211a (by omega)
            clear hk211a hk211b
            have hk211i : IA T xc := by unfold IA; omega
            obtain ⟨hk215, hl216⟩ : AR T xd 1 108 108 := ar_of (wf_62 hw ha) hxd
            have hk215i : IA T xd := by unfold IA; omega
            obtain ⟨hk219, hl220⟩ : AR T xe 1 1728 1728 := ar_of (wf_63 hw ha) hxe
            have hk219i : IA T xe := by unfold IA; omega
            obtain ⟨hk223, hl224⟩ : AR T xf 1 200 200 := ar_of (wf_64 hw ha) hxf
            have hk223i : IA T xf := by unfold IA; omega
            refine tn_callV (M := m_X7_step) (pc := 372) (ix := 129) (ci := 7) (M' := m_X7_reckonAt) (As := [.int (iI v6), .int (iI v61)]) (rest := []) dX7_step_372 ok_X7_reckonAt im_X7_reckonAt se_X7_reckonAt ml7_129 np_X7_reckonAt rfl rfl ha rfl (Nat.le_of_ble_eq_true rfl) (Nat.le_of_ble_eq_true rfl) rfl (k_X7_reckonAt_h (d + 1) (T := T) (σ := (sA 67 a (z66) σ)) (a := a) (k := v6) (e := v61) (xa := xa) (xb := xb) (xc := xc) (xd := xd) (xe := xe) (xf := xf) ha (by omega) (by omega) (hw.put (by decide) (by decide) (fo_67 (by omega))) (rc_o (by decide) (hxa)) (rc_o (by decide) (hxb)) (rc_o (by decide) (hxc)) (rc_o (by decide) (hxd)) (rc_o (by decide) (hxe)) (rc_o (by decide) (hxf)) (by rw [show (sA 67 a (z66) σ).2.1 69 a = _ from rc_o (by decide) (hx7)]; omega)) (fun r225 T227 σ226 gt228 hp => ?_)
            obtain ⟨rfl, rfl, w231, F232, f229⟩ := hp
            clear gt228
            show Tn _ _ 375 T σ226 [(3, .int (iI z68)), (2, .int (iI v61)), (1, .int (iI v6)), (0, .ref a)] [] _
            refine tn_aload_n dX7_step_375 rfl 3 rfl ?_
            refine tn_getR (ci := 7) (i := 5) (n := 60) (x := xb) dX7_step_376 rfl lay_7 (by decide) fl7_15 ha rfl rfl (rc_F F232 (Or.inl (by decide)) (by decide) (rc_o (by decide) (hxb))) ?_
            refine tn_aload_n dX7_step_379 rfl 3 rfl ?_
            refine tn_getI (ci := 7) (i := 2) (n := 57) (t := σ.2.1 57 a) dX7_step_380 rfl lay_7 (by decide) fl7_65 ha rfl rfl (rc_F F232 (Or.inl (by decide)) (by decide) (rc_o (by decide) (rfl))) ?_
            have g233 : ((0 : Int) ≤ σ.2.1 57 a ∧ σ.2.1 57 a ≤ 11184800) ∧ ((T a).1 = 57 → σ.2.1 57 a ≤ 8) := wf_57 hw ha
            have g233x := g233.2
            replace g233 := g233.1
            have g233x := g233x hta
            refine tn_iload_n dX7_step_383 rfl 0 rfl ?_
            refine tn_callSN (M := m_X7_step) (pc := 384) (ix := 61) (M' := m_X11_put) (As := [.ref xb, .int (iI (σ.2.1 57 a)), .int (iI z68)]) (rest := []) dX7_step_384 ok_X11_put stt_X11_put nl7_61 np_X11_put rfl (Nat.le_of_ble_eq_true rfl) (Nat.le_of_ble_eq_true rfl) rfl (k_X11_put_x (d + 3) (T := T) (σ := σ226) (x := xb) (i := σ.2.1 57 a) (y := z68) hk207i (by omega) (by omega) (by omega) w231 (nh_k hk207 (by unfold HT; omega)) (vok_1 (by have q9 := hk207; omega) (by omega))) (fun r234 T236 σ235 gt237 hp => ?_)
            obtain ⟨rfl, rfl, w241, F242, f238, f239⟩ := hp
            clear gt237
            show Tn _ _ 387 T σ235 [(3, .int (iI z68)), (2, .int (iI v61)), (1, .int (iI v6)), (0, .ref a)] [] _
            refine tn_iload_n dX7_step_387 rfl 1 rfl ?_
            refine tn_bipush dX7_step_388 (by decide) ?_
            refine tn_icmp_ne (tgt := 397) dX7_step_390 (by decide) ⟨by omega, by omega⟩ ⟨by decide, by decide⟩ (fun h243 => ?_) (fun h243 => absurd h243 (by omega))
            refine tn_iconst dX7_step_397 ?_
            have q244 : σ235.2.1 56 a = σ.2.1 56 a := rc_F F242 (Or.inl (by decide)) (by decide) (rc_F F232 (Or.inl (by decide)) (by decide) (rc_o (by decide) (rfl)))
            have q245 : σ235.2.1 57 a = σ.2.1 57 a := rc_F F242 (Or.inl (by decide)) (by decide) (rc_F F232 (Or.inl (by decide)) (by decide) (rc_o (by decide) (rfl)))
            have q246 : σ235.2.1 58 a = σ.2.1 58 a := rc_F F242 (Or.inl (by decide)) (by decide) (rc_F F232 (Or.inl (by decide)) (by decide) (rc_o (by decide) (rfl)))
            exact tn_zret (v := 0) rfl (by decide) dX7_step_398 ⟨_, rfl, rfl, w241, (((FrC.rfl.put (by decide) (by decide)).trans (FrC.sub F232 (by decide))).trans (FrC.sub F242 (by decide))), by omega, (((CHX.rfl.fld (by simp) (by decide)).trans (CHX.sub f229 (by simp) (by simp) (by simp))).trans (CHX.sub f238 (by simp) (by simp) (by simp))), by unfold PIv at *; rw [q244, q245, q246]; omega, (((FA.rfl.put).trans (FA.of F232 (by decide))).trans (FA.of F242 (by decide)))⟩
          · refine tn_tableIn (tgt := 369) (off := 301) dX7_step_68 (x := v61) ⟨by omega, by omega⟩ (by omega) (by omega) (by rw [h117]; rfl) (by decide) ?_
            refine tn_aload_n dX7_step_369 rfl 3 rfl ?_
            refine tn_iload_n dX7_step_370 rfl 2 rfl ?_
            refine tn_iload_n dX7_step_371 rfl 1 rfl ?_
            obtain ⟨hk249, hl250⟩ : AR T xa 15 9 9 := ar_of (wf_59 hw ha) hxa
            have hk249i : IA T xa := by unfold IA; omega
            obtain ⟨hk253, hl254⟩ : AR T xb 1 9 9 := ar_of (wf_60 hw ha) hxb
            have hk253i : IA T xb := by unfold IA; omega
            obtain ⟨hl258, hk257a, hk257b⟩ := ex_at (wf_61 hw ha) hxc
            have hk257 : (T xc).1 = 14 := hk257a (by omega)
            clear hk257a hk257b
            have hk257i : IA T xc := by unfold IA; omega
            obtain ⟨hk261, hl262⟩ : AR T xd 1 108 108 := ar_of (wf_62 hw ha) hxd
            have hk261i : IA T xd := by unfold IA; omega
            obtain ⟨hk265, hl266⟩ : AR T xe 1 1728 1728 := ar_of (wf_63 hw ha) hxe
            have hk265i : IA T xe := by unfold IA; omega
            obtain ⟨hk269, hl270⟩ : AR T xf 1 200 200 := ar_of (wf_64 hw ha) hxf
            have hk269i : IA T xf := by unfold IA; omega
            refine tn_callV (M := m_X7_step) (pc := 372) (ix := 129) (ci := 7) (M' := m_X7_reckonAt) (As := [.int (iI v6), .int (iI v61)]) (rest := []) dX7_step_372 ok_X7_reckonAt im_X7_reckonAt se_X7_reckonAt ml7_129 np_X7_reckonAt rfl rfl ha rfl (Nat.le_of_ble_eq_true rfl) (Nat.le_of_ble_eq_true rfl) rfl (k_X7_reckonAt_h (d + 1) (T := T) (σ := (sA 67 a (z66) σ)) (a := a) (k := v6) (e := v61) (xa := xa) (xb := xb) (xc := xc) (xd := xd) (xe := xe) (xf := xf) ha (by omega) (by omega) (hw.put (by decide) (by decide) (fo_67 (by omega))) (rc_o (by decide) (hxa)) (rc_o (by decide) (hxb)) (rc_o (by decide) (hxc)) (rc_o (by decide) (hxd)) (rc_o (by decide) (hxe)) (rc_o (by decide) (hxf)) (by rw [show (sA 67 a (z66) σ).2.1 69 a = _ from rc_o (by decide) (hx7)]; omega)) (fun r271 T273 σ272 gt274 hp => ?_)
            obtain ⟨rfl, rfl, w277, F278, f275⟩ := hp
            clear gt274
            show Tn _ _ 375 T σ272 [(3, .int (iI z68)), (2, .int (iI v61)), (1, .int (iI v6)), (0, .ref a)] [] _
            refine tn_aload_n dX7_step_375 rfl 3 rfl ?_
            refine tn_getR (ci := 7) (i := 5) (n := 60) (x := xb) dX7_step_376 rfl lay_7 (by decide) fl7_15 ha rfl rfl (rc_F F278 (Or.inl (by decide)) (by decide) (rc_o (by decide) (hxb))) ?_
            refine tn_aload_n dX7_step_379 rfl 3 rfl ?_
            refine tn_getI (ci := 7) (i := 2) (n := 57) (t := σ.2.1 57 a) dX7_step_380 rfl lay_7 (by decide) fl7_65 ha rfl rfl (rc_F F278 (Or.inl (by decide)) (by decide) (rc_o (by decide) (rfl))) ?_
            have g279 : ((0 : Int) ≤ σ.2.1 57 a ∧ σ.2.1 57 a ≤ 11184800) ∧ ((T a).1 = 57 → σ.2.1 57 a ≤ 8) := wf_57 hw ha
            have g279x := g279.2
            replace g279 := g279.1
            have g279x := g279x hta
            refine tn_iload_n dX7_step_383 rfl 0 rfl ?_
            refine tn_callSN (M := m_X7_step) (pc := 384) (ix := 61) (M' := m_X11_put) (As := [.ref xb, .int (iI (σ.2.1 57 a)), .int (iI z68)]) (rest := []) dX7_step_384 ok_X11_put stt_X11_put nl7_61 np_X11_put rfl (Nat.le_of_ble_eq_true rfl) (Nat.le_of_ble_eq_true rfl) rfl (k_X11_put_x (d + 3) (T := T) (σ := σ272) (x := xb) (i := σ.2.1 57 a) (y := z68) hk253i (by omega) (by omega) (by omega) w277 (nh_k hk253 (by unfold HT; omega)) (vok_1 (by have q9 := hk253; omega) (by omega))) (fun r280 T282 σ281 gt283 hp => ?_)
            obtain ⟨rfl, rfl, w287, F288, f284, f285⟩ := hp
            clear gt283
            show Tn _ _ 387 T σ281 [(3, .int (iI z68)), (2, .int (iI v61)), (1, .int (iI v6)), (0, .ref a)] [] _
            refine tn_iload_n dX7_step_387 rfl 1 rfl ?_
            refine tn_bipush dX7_step_388 (by decide) ?_
            refine tn_icmp_ne (tgt := 397) dX7_step_390 (by decide) ⟨by omega, by omega⟩ ⟨by decide, by decide⟩ (fun h289 => ?_) (fun h289 => absurd h289 (by omega))
            refine tn_iconst dX7_step_397 ?_
            have q290 : σ281.2.1 56 a = σ.2.1 56 a := rc_F F288 (Or.inl (by decide)) (by decide) (rc_F F278 (Or.inl (by decide)) (by decide) (rc_o (by decide) (rfl)))
            have q291 : σ281.2.1 57 a = σ.2.1 57 a := rc_F F288 (Or.inl (by decide)) (by decide) (rc_F F278 (Or.inl (by decide)) (by decide) (rc_o (by decide) (rfl)))
            have q292 : σ281.2.1 58 a = σ.2.1 58 a := rc_F F288 (Or.inl (by decide)) (by decide) (rc_F F278 (Or.inl (by decide)) (by decide) (rc_o (by decide) (rfl)))
            exact tn_zret (v := 0) rfl (by decide) dX7_step_398 ⟨_, rfl, rfl, w287, (((FrC.rfl.put (by decide) (by decide)).trans (FrC.sub F278 (by decide))).trans (FrC.sub F288 (by decide))), by omega, (((CHX.rfl.fld (by simp) (by decide)).trans (CHX.sub f275 (by simp) (by simp) (by simp))).trans (CHX.sub f284 (by simp) (by simp) (by simp))), by unfold PIv at *; rw [q290, q291, q292]; omega, (((FA.rfl.put).trans (FA.of F278 (by decide))).trans (FA.of F288 (by decide)))⟩
          · refine tn_tableIn (tgt := 369) (off := 301) dX7_step_68 (x := v61) ⟨by omega, by omega⟩ (by omega) (by omega) (by rw [h117]; rfl) (by decide) ?_
            refine tn_aload_n dX7_step_369 rfl 3 rfl ?_
            refine tn_iload_n dX7_step_370 rfl 2 rfl ?_
            refine tn_iload_n dX7_step_371 rfl 1 rfl ?_
            obtain ⟨hk295, hl296⟩ : AR T xa 15 9 9 := ar_of (wf_59 hw ha) hxa
            have hk295i : IA T xa := by unfold IA; omega
            obtain ⟨hk299, hl300⟩ : AR T xb 1 9 9 := ar_of (wf_60 hw ha) hxb
            have hk299i : IA T xb := by unfold IA; omega
            obtain ⟨hl304, hk303a, hk303b⟩ := ex_at (wf_61 hw ha) hxc
            have hk303 : (T xc).1 = 14 := hk303a (by omega)
            clear hk303a hk303b
            have hk303i : IA T xc := by unfold IA; omega
            obtain ⟨hk307, hl308⟩ : AR T xd 1 108 108 := ar_of (wf_62 hw ha) hxd
            have hk307i : IA T xd := by unfold IA; omega
            obtain ⟨hk311, hl312⟩ : AR T xe 1 1728 1728 := ar_of (wf_63 hw ha) hxe
            have hk311i : IA T xe := by unfold IA; omega
            obtain ⟨hk315, hl316⟩ : AR T xf 1 200 200 := ar_of (wf_64 hw ha) hxf
            have hk315i : IA T xf := by unfold IA; omega
            refine tn_callV (M := m_X7_step) (pc := 372) (ix := 129) (ci := 7) (M' := m_X7_reckonAt) (As := [.int (iI v6), .int (iI v61)]) (rest := []) dX7_step_372 ok_X7_reckonAt im_X7_reckonAt se_X7_reckonAt ml7_129 np_X7_reckonAt rfl rfl ha rfl (Nat.le_of_ble_eq_true rfl) (Nat.le_of_ble_eq_true rfl) rfl (k_X7_reckonAt_h (d + 1) (T := T) (σ := (sA 67 a (z66) σ)) (a := a) (k := v6) (e := v61) (xa := xa) (xb := xb) (xc := xc) (xd := xd) (xe := xe) (xf := xf) ha (by omega) (by omega) (hw.put (by decide) (by decide) (fo_67 (by omega))) (rc_o (by decide) (hxa)) (rc_o (by decide) (hxb)) (rc_o (by decide) (hxc)) (rc_o (by decide) (hxd)) (rc_o (by decide) (hxe)) (rc_o (by decide) (hxf)) (by rw [show (sA 67 a (z66) σ).2.1 69 a = _ from rc_o (by decide) (hx7)]; omega)) (fun r317 T319 σ318 gt320 hp => ?_)
            obtain ⟨rfl, rfl, w323, F324, f321⟩ := hp
            clear gt320
            show Tn _ _ 375 T σ318 [(3, .int (iI z68)), (2, .int (iI v61)), (1, .int (iI v6)), (0, .ref a)] [] _
            refine tn_aload_n dX7_step_375 rfl 3 rfl ?_
            refine tn_getR (ci := 7) (i := 5) (n := 60) (x := xb) dX7_step_376 rfl lay_7 (by decide) fl7_15 ha rfl rfl (rc_F F324 (Or.inl (by decide)) (by decide) (rc_o (by decide) (hxb))) ?_
            refine tn_aload_n dX7_step_379 rfl 3 rfl ?_
            refine tn_getI (ci := 7) (i := 2) (n := 57) (t := σ.2.1 57 a) dX7_step_380 rfl lay_7 (by decide) fl7_65 ha rfl rfl (rc_F F324 (Or.inl (by decide)) (by decide) (rc_o (by decide) (rfl))) ?_
            have g325 : ((0 : Int) ≤ σ.2.1 57 a ∧ σ.2.1 57 a ≤ 11184800) ∧ ((T a).1 = 57 → σ.2.1 57 a ≤ 8) := wf_57 hw ha
            have g325x := g325.2
            replace g325 := g325.1
            have g325x := g325x hta
            refine tn_iload_n dX7_step_383 rfl 0 rfl ?_
            refine tn_callSN (M := m_X7_step) (pc := 384) (ix := 61) (M' := m_X11_put) (As := [.ref xb, .int (iI (σ.2.1 57 a)), .int (iI z68)]) (rest := []) dX7_step_384 ok_X11_put stt_X11_put nl7_61 np_X11_put rfl (Nat.le_of_ble_eq_true rfl) (Nat.le_of_ble_eq_true rfl) rfl (k_X11_put_x (d + 3) (T := T) (σ := σ318) (x := xb) (i := σ.2.1 57 a) (y := z68) hk299i (by omega) (by omega) (by omega) w323 (nh_k hk299 (by unfold HT; omega)) (vok_1 (by have q9 := hk299; omega) (by omega))) (fun r326 T328 σ327 gt329 hp => ?_)
            obtain ⟨rfl, rfl, w333, F334, f330, f331⟩ := hp
            clear gt329
            show Tn _ _ 387 T σ327 [(3, .int (iI z68)), (2, .int (iI v61)), (1, .int (iI v6)), (0, .ref a)] [] _
            refine tn_iload_n dX7_step_387 rfl 1 rfl ?_
            refine tn_bipush dX7_step_388 (by decide) ?_
            refine tn_icmp_ne (tgt := 397) dX7_step_390 (by decide) ⟨by omega, by omega⟩ ⟨by decide, by decide⟩ (fun h335 => ?_) (fun h335 => absurd h335 (by omega))
            refine tn_iconst dX7_step_397 ?_
            have q336 : σ327.2.1 56 a = σ.2.1 56 a := rc_F F334 (Or.inl (by decide)) (by decide) (rc_F F324 (Or.inl (by decide)) (by decide) (rc_o (by decide) (rfl)))
            have q337 : σ327.2.1 57 a = σ.2.1 57 a := rc_F F334 (Or.inl (by decide)) (by decide) (rc_F F324 (Or.inl (by decide)) (by decide) (rc_o (by decide) (rfl)))
            have q338 : σ327.2.1 58 a = σ.2.1 58 a := rc_F F334 (Or.inl (by decide)) (by decide) (rc_F F324 (Or.inl (by decide)) (by decide) (rc_o (by decide) (rfl)))
            exact tn_zret (v := 0) rfl (by decide) dX7_step_398 ⟨_, rfl, rfl, w333, (((FrC.rfl.put (by decide) (by decide)).trans (FrC.sub F324 (by decide))).trans (FrC.sub F334 (by decide))), by omega, (((CHX.rfl.fld (by simp) (by decide)).trans (CHX.sub f321 (by simp) (by simp) (by simp))).trans (CHX.sub f330 (by simp) (by simp) (by simp))), by unfold PIv at *; rw [q336, q337, q338]; omega, (((FA.rfl.put).trans (FA.of F324 (by decide))).trans (FA.of F334 (by decide)))⟩
          · refine tn_tableIn (tgt := 369) (off := 301) dX7_step_68 (x := v61) ⟨by omega, by omega⟩ (by omega) (by omega) (by rw [h117]; rfl) (by decide) ?_
            refine tn_aload_n dX7_step_369 rfl 3 rfl ?_
            refine tn_iload_n dX7_step_370 rfl 2 rfl ?_
            refine tn_iload_n dX7_step_371 rfl 1 rfl ?_
            obtain ⟨hk341, hl342⟩ : AR T xa 15 9 9 := ar_of (wf_59 hw ha) hxa
            have hk341i : IA T xa := by unfold IA; omega
            obtain ⟨hk345, hl346⟩ : AR T xb 1 9 9 := ar_of (wf_60 hw ha) hxb
            have hk345i : IA T xb := by unfold IA; omega
            obtain ⟨hl350, hk349a, hk349b⟩ := ex_at (wf_61 hw ha) hxc
            have hk349 : (T xc).1 = 14 := hk349a (by omega)
            clear hk349a hk349b
            have hk349i : IA T xc := by unfold IA; omega
            obtain ⟨hk353, hl354⟩ : AR T xd 1 108 108 := ar_of (wf_62 hw ha) hxd
            have hk353i : IA T xd := by unfold IA; omega
            obtain ⟨hk357, hl358⟩ : AR T xe 1 1728 1728 := ar_of (wf_63 hw ha) hxe
            have hk357i : IA T xe := by unfold IA; omega
            obtain ⟨hk361, hl362⟩ : AR T xf 1 200 200 := ar_of (wf_64 hw ha) hxf
            have hk361i : IA T xf := by unfold IA; omega
            refine tn_callV (M := m_X7_step) (pc := 372) (ix := 129) (ci := 7) (M' := m_X7_reckonAt) (As := [.int (iI v6), .int (iI v61)]) (rest := []) dX7_step_372 ok_X7_reckonAt im_X7_reckonAt se_X7_reckonAt ml7_129 np_X7_reckonAt rfl rfl ha rfl (Nat.le_of_ble_eq_true rfl) (Nat.le_of_ble_eq_true rfl) rfl (k_X7_reckonAt_h (d + 1) (T := T) (σ := (sA 67 a (z66) σ)) (a := a) (k := v6) (e := v61) (xa := xa) (xb := xb) (xc := xc) (xd := xd) (xe := xe) (xf := xf) ha (by omega) (by omega) (hw.put (by decide) (by decide) (fo_67 (by omega))) (rc_o (by decide) (hxa)) (rc_o (by decide) (hxb)) (rc_o (by decide) (hxc)) (rc_o (by decide) (hxd)) (rc_o (by decide) (hxe)) (rc_o (by decide) (hxf)) (by rw [show (sA 67 a (z66) σ).2.1 69 a = _ from rc_o (by decide) (hx7)]; omega)) (fun r363 T365 σ364 gt366 hp => ?_)
            obtain ⟨rfl, rfl, w369, F370, f367⟩ := hp
            clear gt366
            show Tn _ _ 375 T σ364 [(3, .int (iI z68)), (2, .int (iI v61)), (1, .int (iI v6)), (0, .ref a)] [] _
            refine tn_aload_n dX7_step_375 rfl 3 rfl ?_
            refine tn_getR (ci := 7) (i := 5) (n := 60) (x := xb) dX7_step_376 rfl lay_7 (by decide) fl7_15 ha rfl rfl (rc_F F370 (Or.inl (by decide)) (by decide) (rc_o (by decide) (hxb))) ?_
            refine tn_aload_n dX7_step_379 rfl 3 rfl ?_
            refine tn_getI (ci := 7) (i := 2) (n := 57) (t := σ.2.1 57 a) dX7_step_380 rfl lay_7 (by decide) fl7_65 ha rfl rfl (rc_F F370 (Or.inl (by decide)) (by decide) (rc_o (by decide) (rfl))) ?_
            have g371 : ((0 : Int) ≤ σ.2.1 57 a ∧ σ.2.1 57 a ≤ 11184800) ∧ ((T a).1 = 57 → σ.2.1 57 a ≤ 8) := wf_57 hw ha
            have g371x := g371.2
            replace g371 := g371.1
            have g371x := g371x hta
            refine tn_iload_n dX7_step_383 rfl 0 rfl ?_
            refine tn_callSN (M := m_X7_step) (pc := 384) (ix := 61) (M' := m_X11_put) (As := [.ref xb, .int (iI (σ.2.1 57 a)), .int (iI z68)]) (rest := []) dX7_step_384 ok_X11_put stt_X11_put nl7_61 np_X11_put rfl (Nat.le_of_ble_eq_true rfl) (Nat.le_of_ble_eq_true rfl) rfl (k_X11_put_x (d + 3) (T := T) (σ := σ364) (x := xb) (i := σ.2.1 57 a) (y := z68) hk345i (by omega) (by omega) (by omega) w369 (nh_k hk345 (by unfold HT; omega)) (vok_1 (by have q9 := hk345; omega) (by omega))) (fun r372 T374 σ373 gt375 hp => ?_)
            obtain ⟨rfl, rfl, w379, F380, f376, f377⟩ := hp
            clear gt375
            show Tn _ _ 387 T σ373 [(3, .int (iI z68)), (2, .int (iI v61)), (1, .int (iI v6)), (0, .ref a)] [] _
            refine tn_iload_n dX7_step_387 rfl 1 rfl ?_
            refine tn_bipush dX7_step_388 (by decide) ?_
            refine tn_icmp_ne (tgt := 397) dX7_step_390 (by decide) ⟨by omega, by omega⟩ ⟨by decide, by decide⟩ (fun h381 => ?_) (fun h381 => absurd h381 (by omega))
            refine tn_iconst dX7_step_397 ?_
            have q382 : σ373.2.1 56 a = σ.2.1 56 a := rc_F F380 (Or.inl (by decide)) (by decide) (rc_F F370 (Or.inl (by decide)) (by decide) (rc_o (by decide) (rfl)))
            have q383 : σ373.2.1 57 a = σ.2.1 57 a := rc_F F380 (Or.inl (by decide)) (by decide) (rc_F F370 (Or.inl (by decide)) (by decide) (rc_o (by decide) (rfl)))
            have q384 : σ373.2.1 58 a = σ.2.1 58 a := rc_F F380 (Or.inl (by decide)) (by decide) (rc_F F370 (Or.inl (by decide)) (by decide) (rc_o (by decide) (rfl)))
            exact tn_zret (v := 0) rfl (by decide) dX7_step_398 ⟨_, rfl, rfl, w379, (((FrC.rfl.put (by decide) (by decide)).trans (FrC.sub F370 (by decide))).trans (FrC.sub F380 (by decide))), by omega, (((CHX.rfl.fld (by simp) (by decide)).trans (CHX.sub f367 (by simp) (by simp) (by simp))).trans (CHX.sub f376 (by simp) (by simp) (by simp))), by unfold PIv at *; rw [q382, q383, q384]; omega, (((FA.rfl.put).trans (FA.of F370 (by decide))).trans (FA.of F380 (by decide)))⟩
          · refine tn_tableIn (tgt := 369) (off := 301) dX7_step_68 (x := v61) ⟨by omega, by omega⟩ (by omega) (by omega) (by rw [h117]; rfl) (by decide) ?_
            refine tn_aload_n dX7_step_369 rfl 3 rfl ?_
            refine tn_iload_n dX7_step_370 rfl 2 rfl ?_
            refine tn_iload_n dX7_step_371 rfl 1 rfl ?_
            obtain ⟨hk387, hl388⟩ : AR T xa 15 9 9 := ar_of (wf_59 hw ha) hxa
            have hk387i : IA T xa := by unfold IA; omega
            obtain ⟨hk391, hl392⟩ : AR T xb 1 9 9 := ar_of (wf_60 hw ha) hxb
            have hk391i : IA T xb := by unfold IA; omega
            obtain ⟨hl396, hk395a, hk395b⟩ := ex_at (wf_61 hw ha) hxc
            have hk395 : (T xc).1 = 14 := hk395a (by omega)
            clear hk395a hk395b
            have hk395i : IA T xc := by unfold IA; omega
            obtain ⟨hk399, hl400⟩ : AR T xd 1 108 108 := ar_of (wf_62 hw ha) hxd
            have hk399i : IA T xd := by unfold IA; omega
            obtain ⟨hk403, hl404⟩ : AR T xe 1 1728 1728 := ar_of (wf_63 hw ha) hxe
            have hk403i : IA T xe := by unfold IA; omega
            obtain ⟨hk407, hl408⟩ : AR T xf 1 200 200 := ar_of (wf_64 hw ha) hxf
            have hk407i : IA T xf := by unfold IA; omega
            refine tn_callV (M := m_X7_step) (pc := 372) (ix := 129) (ci := 7) (M' := m_X7_reckonAt) (As := [.int (iI v6), .int (iI v61)]) (rest := []) dX7_step_372 ok_X7_reckonAt im_X7_reckonAt se_X7_reckonAt ml7_129 np_X7_reckonAt rfl rfl ha rfl (Nat.le_of_ble_eq_true rfl) (Nat.le_of_ble_eq_true rfl) rfl (k_X7_reckonAt_h (d + 1) (T := T) (σ := (sA 67 a (z66) σ)) (a := a) (k := v6) (e := v61) (xa := xa) (xb := xb) (xc := xc) (xd := xd) (xe := xe) (xf := xf) ha (by omega) (by omega) (hw.put (by decide) (by decide) (fo_67 (by omega))) (rc_o (by decide) (hxa)) (rc_o (by decide) (hxb)) (rc_o (by decide) (hxc)) (rc_o (by decide) (hxd)) (rc_o (by decide) (hxe)) (rc_o (by decide) (hxf)) (by rw [show (sA 67 a (z66) σ).2.1 69 a = _ from rc_o (by decide) (hx7)]; omega)) (fun r409 T411 σ410 gt412 hp => ?_)
            obtain ⟨rfl, rfl, w415, F416, f413⟩ := hp
            clear gt412
            show Tn _ _ 375 T σ410 [(3, .int (iI z68)), (2, .int (iI v61)), (1, .int (iI v6)), (0, .ref a)] [] _
            refine tn_aload_n dX7_step_375 rfl 3 rfl ?_
            refine tn_getR (ci := 7) (i := 5) (n := 60) (x := xb) dX7_step_376 rfl lay_7 (by decide) fl7_15 ha rfl rfl (rc_F F416 (Or.inl (by decide)) (by decide) (rc_o (by decide) (hxb))) ?_
            refine tn_aload_n dX7_step_379 rfl 3 rfl ?_
            refine tn_getI (ci := 7) (i := 2) (n := 57) (t := σ.2.1 57 a) dX7_step_380 rfl lay_7 (by decide) fl7_65 ha rfl rfl (rc_F F416 (Or.inl (by decide)) (by decide) (rc_o (by decide) (rfl))) ?_
            have g417 : ((0 : Int) ≤ σ.2.1 57 a ∧ σ.2.1 57 a ≤ 11184800) ∧ ((T a).1 = 57 → σ.2.1 57 a ≤ 8) := wf_57 hw ha
            have g417x := g417.2
            replace g417 := g417.1
            have g417x := g417x hta
            refine tn_iload_n dX7_step_383 rfl 0 rfl ?_
            refine tn_callSN (M := m_X7_step) (pc := 384) (ix := 61) (M' := m_X11_put) (As := [.ref xb, .int (iI (σ.2.1 57 a)), .int (iI z68)]) (rest := []) dX7_step_384 ok_X11_put stt_X11_put nl7_61 np_X11_put rfl (Nat.le_of_ble_eq_true rfl) (Nat.le_of_ble_eq_true rfl) rfl (k_X11_put_x (d + 3) (T := T) (σ := σ410) (x := xb) (i := σ.2.1 57 a) (y := z68) hk391i (by omega) (by omega) (by omega) w415 (nh_k hk391 (by unfold HT; omega)) (vok_1 (by have q9 := hk391; omega) (by omega))) (fun r418 T420 σ419 gt421 hp => ?_)
            obtain ⟨rfl, rfl, w425, F426, f422, f423⟩ := hp
            clear gt421
            show Tn _ _ 387 T σ419 [(3, .int (iI z68)), (2, .int (iI v61)), (1, .int (iI v6)), (0, .ref a)] [] _
            refine tn_iload_n dX7_step_387 rfl 1 rfl ?_
            refine tn_bipush dX7_step_388 (by decide) ?_
            refine tn_icmp_ne (tgt := 397) dX7_step_390 (by decide) ⟨by omega, by omega⟩ ⟨by decide, by decide⟩ (fun h427 => ?_) (fun h427 => absurd h427 (by omega))
            refine tn_iconst dX7_step_397 ?_
            have q428 : σ419.2.1 56 a = σ.2.1 56 a := rc_F F426 (Or.inl (by decide)) (by decide) (rc_F F416 (Or.inl (by decide)) (by decide) (rc_o (by decide) (rfl)))
            have q429 : σ419.2.1 57 a = σ.2.1 57 a := rc_F F426 (Or.inl (by decide)) (by decide) (rc_F F416 (Or.inl (by decide)) (by decide) (rc_o (by decide) (rfl)))
            have q430 : σ419.2.1 58 a = σ.2.1 58 a := rc_F F426 (Or.inl (by decide)) (by decide) (rc_F F416 (Or.inl (by decide)) (by decide) (rc_o (by decide) (rfl)))
            exact tn_zret (v := 0) rfl (by decide) dX7_step_398 ⟨_, rfl, rfl, w425, (((FrC.rfl.put (by decide) (by decide)).trans (FrC.sub F416 (by decide))).trans (FrC.sub F426 (by decide))), by omega, (((CHX.rfl.fld (by simp) (by decide)).trans (CHX.sub f413 (by simp) (by simp) (by simp))).trans (CHX.sub f422 (by simp) (by simp) (by simp))), by unfold PIv at *; rw [q428, q429, q430]; omega, (((FA.rfl.put).trans (FA.of F416 (by decide))).trans (FA.of F426 (by decide)))⟩
          · refine tn_tableIn (tgt := 152) (off := 84) dX7_step_68 (x := v61) ⟨by omega, by omega⟩ (by omega) (by omega) (by rw [h117]; rfl) (by decide) ?_
            refine tn_aload_n dX7_step_152 rfl 3 rfl ?_
            refine tn_aload_n dX7_step_153 rfl 3 rfl ?_
            refine tn_iload_n dX7_step_154 rfl 2 rfl ?_
            refine tn_iconst dX7_step_155 ?_
            refine tn_callV (M := m_X7_step) (pc := 156) (ix := 110) (ci := 7) (M' := m_X7_operand) (As := [.int (iI v6), .int (iI 3)]) (rest := [.ref a]) dX7_step_156 ok_X7_operand im_X7_operand se_X7_operand ml7_110 np_X7_operand rfl rfl ha rfl (Nat.le_of_ble_eq_true rfl) (Nat.le_of_ble_eq_true rfl) rfl (k_X7_operand (d + 2) (T := T) (σ := (sA 67 a (z66) σ)) (a := a) (k := v6) (c := 3) ha (by omega) (by decide) (hw.put (by decide) (by decide) (fo_67 (by omega))) (by rw [show (sA 67 a (z66) σ).2.1 69 a = _ from rc_o (by decide) (hx7)]; omega) (by omega)) (fun r431 T433 σ432 gt434 hp => ?_)
            obtain ⟨v436, rfl, rfl, rfl, f435⟩ := hp
            clear gt434
            show Tn _ _ 159 T (sA 67 a (z66) σ) [(3, .int (iI z68)), (2, .int (iI v61)), (1, .int (iI v6)), (0, .ref a)] [.int (iI v436), .ref a] _
            obtain ⟨hk439, hl440⟩ : AR T xa 15 9 9 := ar_of (wf_59 hw ha) hxa
            have hk439i : IA T xa := by unfold IA; omega
            obtain ⟨hk443, hl444⟩ : AR T xb 1 9 9 := ar_of (wf_60 hw ha) hxb
            have hk443i : IA T xb := by unfold IA; omega
            obtain ⟨hl448, hk447a, hk447b⟩ := ex_at (wf_61 hw ha) hxc
            have hk447 : (T xc).1 = 14 := hk447a (by omega)
            clear hk447a hk447b
            have hk447i : IA T xc := by unfold IA; omega
            obtain ⟨hk451, hl452⟩ : AR T xd 1 108 108 := ar_of (wf_62 hw ha) hxd
            have hk451i : IA T xd := by unfold IA; omega
            obtain ⟨hk455, hl456⟩ : AR T xe 1 1728 1728 := ar_of (wf_63 hw ha) hxe
            have hk455i : IA T xe := by unfold IA; omega
            obtain ⟨hk459, hl460⟩ : AR T xf 1 200 200 := ar_of (wf_64 hw ha) hxf
            have hk459i : IA T xf := by unfold IA; omega
            refine tn_callV (M := m_X7_step) (pc := 159) (ix := 113) (ci := 7) (M' := m_X7_emit) (As := [.int (iI v436)]) (rest := []) dX7_step_159 ok_X7_emit im_X7_emit se_X7_emit ml7_113 np_X7_emit rfl rfl ha rfl (Nat.le_of_ble_eq_true rfl) (Nat.le_of_ble_eq_true rfl) rfl (k_X7_emit_h (d + 2) (T := T) (σ := (sA 67 a (z66) σ)) (a := a) (p1 := v436) (xa := xa) (xb := xb) (xc := xc) (xd := xd) (xe := xe) (xf := xf) ha (by omega) (hw.put (by decide) (by decide) (fo_67 (by omega))) (rc_o (by decide) (hxa)) (rc_o (by decide) (hxb)) (rc_o (by decide) (hxc)) (rc_o (by decide) (hxd)) (rc_o (by decide) (hxe)) (rc_o (by decide) (hxf))) (fun r461 T463 σ462 gt464 hp => ?_)
            obtain ⟨rfl, rfl, w468, F469, f465, f466⟩ := hp
            clear gt464
            show Tn _ _ 162 T σ462 [(3, .int (iI z68)), (2, .int (iI v61)), (1, .int (iI v6)), (0, .ref a)] [] _
            refine tn_goto (tgt := 375) dX7_step_162 (by decide) ?_
            refine tn_aload_n dX7_step_375 rfl 3 rfl ?_
            refine tn_getR (ci := 7) (i := 5) (n := 60) (x := xb) dX7_step_376 rfl lay_7 (by decide) fl7_15 ha rfl rfl (rc_F F469 (Or.inl (by decide)) (by decide) (rc_o (by decide) (hxb))) ?_
            refine tn_aload_n dX7_step_379 rfl 3 rfl ?_
            refine tn_getI (ci := 7) (i := 2) (n := 57) (t := σ.2.1 57 a) dX7_step_380 rfl lay_7 (by decide) fl7_65 ha rfl rfl (rc_F F469 (Or.inl (by decide)) (by decide) (rc_o (by decide) (rfl))) ?_
            have g470 : ((0 : Int) ≤ σ.2.1 57 a ∧ σ.2.1 57 a ≤ 11184800) ∧ ((T a).1 = 57 → σ.2.1 57 a ≤ 8) := wf_57 hw ha
            have g470x := g470.2
            replace g470 := g470.1
            have g470x := g470x hta
            refine tn_iload_n dX7_step_383 rfl 0 rfl ?_
            refine tn_callSN (M := m_X7_step) (pc := 384) (ix := 61) (M' := m_X11_put) (As := [.ref xb, .int (iI (σ.2.1 57 a)), .int (iI z68)]) (rest := []) dX7_step_384 ok_X11_put stt_X11_put nl7_61 np_X11_put rfl (Nat.le_of_ble_eq_true rfl) (Nat.le_of_ble_eq_true rfl) rfl (k_X11_put_x (d + 3) (T := T) (σ := σ462) (x := xb) (i := σ.2.1 57 a) (y := z68) hk443i (by omega) (by omega) (by omega) w468 (nh_k hk443 (by unfold HT; omega)) (vok_1 (by have q9 := hk443; omega) (by omega))) (fun r471 T473 σ472 gt474 hp => ?_)
            obtain ⟨rfl, rfl, w478, F479, f475, f476⟩ := hp
            clear gt474
            show Tn _ _ 387 T σ472 [(3, .int (iI z68)), (2, .int (iI v61)), (1, .int (iI v6)), (0, .ref a)] [] _
            refine tn_iload_n dX7_step_387 rfl 1 rfl ?_
            refine tn_bipush dX7_step_388 (by decide) ?_
            refine tn_icmp_ne (tgt := 397) dX7_step_390 (by decide) ⟨by omega, by omega⟩ ⟨by decide, by decide⟩ (fun h480 => ?_) (fun h480 => absurd h480 (by omega))
            refine tn_iconst dX7_step_397 ?_
            have q481 : σ472.2.1 56 a = σ.2.1 56 a := rc_F F479 (Or.inl (by decide)) (by decide) (rc_F F469 (Or.inl (by decide)) (by decide) (rc_o (by decide) (rfl)))
            have q482 : σ472.2.1 57 a = σ.2.1 57 a := rc_F F479 (Or.inl (by decide)) (by decide) (rc_F F469 (Or.inl (by decide)) (by decide) (rc_o (by decide) (rfl)))
            have q483 : σ472.2.1 58 a = σ.2.1 58 a := rc_F F479 (Or.inl (by decide)) (by decide) (rc_F F469 (Or.inl (by decide)) (by decide) (rc_o (by decide) (rfl)))
            exact tn_zret (v := 0) rfl (by decide) dX7_step_398 ⟨_, rfl, rfl, w478, (((FrC.rfl.put (by decide) (by decide)).trans (FrC.sub F469 (by decide))).trans (FrC.sub F479 (by decide))), by omega, (((CHX.rfl.fld (by simp) (by decide)).trans (CHX.sub f465 (by simp) (by simp) (by simp))).trans (CHX.sub f475 (by simp) (by simp) (by simp))), by unfold PIv at *; rw [q481, q482, q483]; omega, (((FA.rfl.put).trans f466).trans (FA.of F479 (by decide)))⟩
          · refine tn_tableIn (tgt := 213) (off := 145) dX7_step_68 (x := v61) ⟨by omega, by omega⟩ (by omega) (by omega) (by rw [h117]; rfl) (by decide) ?_
            refine tn_aload_n dX7_step_213 rfl 3 rfl ?_
            refine tn_aload_n dX7_step_214 rfl 3 rfl ?_
            refine tn_iload_n dX7_step_215 rfl 2 rfl ?_
            refine tn_iconst dX7_step_216 ?_
            refine tn_callV (M := m_X7_step) (pc := 217) (ix := 110) (ci := 7) (M' := m_X7_operand) (As := [.int (iI v6), .int (iI 3)]) (rest := [.ref a]) dX7_step_217 ok_X7_operand im_X7_operand se_X7_operand ml7_110 np_X7_operand rfl rfl ha rfl (Nat.le_of_ble_eq_true rfl) (Nat.le_of_ble_eq_true rfl) rfl (k_X7_operand (d + 2) (T := T) (σ := (sA 67 a (z66) σ)) (a := a) (k := v6) (c := 3) ha (by omega) (by decide) (hw.put (by decide) (by decide) (fo_67 (by omega))) (by rw [show (sA 67 a (z66) σ).2.1 69 a = _ from rc_o (by decide) (hx7)]; omega) (by omega)) (fun r484 T486 σ485 gt487 hp => ?_)
            obtain ⟨v489, rfl, rfl, rfl, f488⟩ := hp
            clear gt487
            show Tn _ _ 220 T (sA 67 a (z66) σ) [(3, .int (iI z68)), (2, .int (iI v61)), (1, .int (iI v6)), (0, .ref a)] [.int (iI v489), .ref a] _
            obtain ⟨hk492, hl493⟩ : AR T xa 15 9 9 := ar_of (wf_59 hw ha) hxa
            have hk492i : IA T xa := by unfold IA; omega
            obtain ⟨hk496, hl497⟩ : AR T xb 1 9 9 := ar_of (wf_60 hw ha) hxb
            have hk496i : IA T xb := by unfold IA; omega
            obtain ⟨hl501, hk500a, hk500b⟩ := ex_at (wf_61 hw ha) hxc
            have hk500 : (T xc).1 = 14 := hk500a (by omega)
            clear hk500a hk500b
            have hk500i : IA T xc := by unfold IA; omega
            obtain ⟨hk504, hl505⟩ : AR T xd 1 108 108 := ar_of (wf_62 hw ha) hxd
            have hk504i : IA T xd := by unfold IA; omega
            obtain ⟨hk508, hl509⟩ : AR T xe 1 1728 1728 := ar_of (wf_63 hw ha) hxe
            have hk508i : IA T xe := by unfold IA; omega
            obtain ⟨hk512, hl513⟩ : AR T xf 1 200 200 := ar_of (wf_64 hw ha) hxf
            have hk512i : IA T xf := by unfold IA; omega
            refine tn_callV (M := m_X7_step) (pc := 220) (ix := 123) (ci := 7) (M' := m_X7_giveBack) (As := [.int (iI v489)]) (rest := []) dX7_step_220 ok_X7_giveBack im_X7_giveBack se_X7_giveBack ml7_123 np_X7_giveBack rfl rfl ha rfl (Nat.le_of_ble_eq_true rfl) (Nat.le_of_ble_eq_true rfl) rfl (k_X7_giveBack_h57 (d + 1) (T := T) (σ := (sA 67 a (z66) σ)) (a := a) (n := v489) (xa := xa) (xb := xb) (xc := xc) (xd := xd) (xe := xe) (xf := xf) ha hta (by omega) (hw.put (by decide) (by decide) (fo_67 (by omega))) (rc_o (by decide) (hxa)) (rc_o (by decide) (hxb)) (rc_o (by decide) (hxc)) (rc_o (by decide) (hxd)) (rc_o (by decide) (hxe)) (rc_o (by decide) (hxf)) (by rw [show (sA 67 a (z66) σ).2.1 58 a = σ.2.1 58 a from rc_o (by decide) (rfl), show (sA 67 a (z66) σ).2.1 57 a = σ.2.1 57 a from rc_o (by decide) (rfl)]; omega)) (fun r514 T516 σ515 gt517 hp => ?_)
            obtain ⟨rfl, rfl, w522, F523, f518, f519, f520⟩ := hp
            clear gt517
            show Tn _ _ 223 T σ515 [(3, .int (iI z68)), (2, .int (iI v61)), (1, .int (iI v6)), (0, .ref a)] [] _
            refine tn_iconst dX7_step_223 ?_
            have q524 : σ515.2.1 56 a = σ515.2.1 56 a := rfl
            have q525 : σ515.2.1 57 a = σ515.2.1 57 a := rfl
            have q526 : σ515.2.1 58 a = σ515.2.1 58 a := rfl
            exact tn_zret (v := 0) rfl (by decide) dX7_step_224 ⟨_, rfl, rfl, w522, ((FrC.rfl.put (by decide) (by decide)).trans (FrC.sub F523 (by decide))), by omega, ((CHX.rfl.fld (by simp) (by decide)).trans (CHX.sub f518 (by simp) (by simp) (by simp))), by unfold PIv at *; rw [q524, q525, q526]; omega, ((FA.rfl.put).trans f520)⟩
          · refine tn_tableIn (tgt := 165) (off := 97) dX7_step_68 (x := v61) ⟨by omega, by omega⟩ (by omega) (by omega) (by rw [h117]; rfl) (by decide) ?_
            refine tn_aload_n dX7_step_165 rfl 3 rfl ?_
            refine tn_getR (ci := 7) (i := 14) (n := 69) (x := xq8) dX7_step_166 rfl lay_7 (by decide) fl7_72 ha rfl rfl (rc_o (by decide) (hx7)) ?_
            refine tn_iload_n dX7_step_169 rfl 2 rfl ?_
            refine tn_bipush dX7_step_170 (by decide) ?_
            refine tn_callV (M := m_X7_step) (pc := 172) (ix := 117) (ci := 1) (M' := m_X1_get) (As := [.int (iI v6), .int (iI 12)]) (rest := []) dX7_step_172 ok_X1_get im_X1_get se_X1_get ml7_117 np_X1_get rfl rfl hk9o rfl (Nat.le_of_ble_eq_true rfl) (Nat.le_of_ble_eq_true rfl) rfl (k_X1_get (d + 3) (T := T) (σ := (sA 67 a (z66) σ)) (a := xq8) (k := v6) (c := 12) hk9o (by omega) (by decide) (hw.put (by decide) (by decide) (fo_67 (by omega))) (by omega)) (fun r527 T529 σ528 gt530 hp => ?_)
            obtain ⟨v532, rfl, rfl, rfl, f531⟩ := hp
            clear gt530
            show Tn _ _ 175 T (sA 67 a (z66) σ) [(3, .int (iI z68)), (2, .int (iI v61)), (1, .int (iI v6)), (0, .ref a)] [.int (iI v532)] _
            refine tn_istore_n (L' := [(3, .int (iI v532)), (2, .int (iI v61)), (1, .int (iI v6)), (0, .ref a)]) dX7_step_175 rfl (by decide) rfl ?_
            refine tn_goto (tgt := 375) dX7_step_176 (by decide) ?_
            refine tn_aload_n dX7_step_375 rfl 3 rfl ?_
            obtain ⟨hk535, hl536⟩ : AR T xb 1 9 9 := ar_of (wf_60 hw ha) hxb
            have hk535i : IA T xb := by unfold IA; omega
            refine tn_getR (ci := 7) (i := 5) (n := 60) (x := xb) dX7_step_376 rfl lay_7 (by decide) fl7_15 ha rfl rfl (rc_o (by decide) (hxb)) ?_
            refine tn_aload_n dX7_step_379 rfl 3 rfl ?_
            refine tn_getI (ci := 7) (i := 2) (n := 57) (t := σ.2.1 57 a) dX7_step_380 rfl lay_7 (by decide) fl7_65 ha rfl rfl (rc_o (by decide) (rfl)) ?_
            have g537 : ((0 : Int) ≤ σ.2.1 57 a ∧ σ.2.1 57 a ≤ 11184800) ∧ ((T a).1 = 57 → σ.2.1 57 a ≤ 8) := wf_57 hw ha
            have g537x := g537.2
            replace g537 := g537.1
            have g537x := g537x hta
            refine tn_iload_n dX7_step_383 rfl 0 rfl ?_
            refine tn_callSN (M := m_X7_step) (pc := 384) (ix := 61) (M' := m_X11_put) (As := [.ref xb, .int (iI (σ.2.1 57 a)), .int (iI v532)]) (rest := []) dX7_step_384 ok_X11_put stt_X11_put nl7_61 np_X11_put rfl (Nat.le_of_ble_eq_true rfl) (Nat.le_of_ble_eq_true rfl) rfl (k_X11_put_x (d + 3) (T := T) (σ := (sA 67 a (z66) σ)) (x := xb) (i := σ.2.1 57 a) (y := v532) hk535i (by omega) (by omega) (by omega) (hw.put (by decide) (by decide) (fo_67 (by omega))) (nh_k hk535 (by unfold HT; omega)) (vok_1 (by have q9 := hk535; omega) (by omega))) (fun r538 T540 σ539 gt541 hp => ?_)
            obtain ⟨rfl, rfl, w545, F546, f542, f543⟩ := hp
            clear gt541
            show Tn _ _ 387 T σ539 [(3, .int (iI v532)), (2, .int (iI v61)), (1, .int (iI v6)), (0, .ref a)] [] _
            refine tn_iload_n dX7_step_387 rfl 1 rfl ?_
            refine tn_bipush dX7_step_388 (by decide) ?_
            refine tn_icmp_ne (tgt := 397) dX7_step_390 (by decide) ⟨by omega, by omega⟩ ⟨by decide, by decide⟩ (fun h547 => ?_) (fun h547 => absurd h547 (by omega))
            refine tn_iconst dX7_step_397 ?_
            have q548 : σ539.2.1 56 a = σ.2.1 56 a := rc_F F546 (Or.inl (by decide)) (by decide) (rc_o (by decide) (rfl))
            have q549 : σ539.2.1 57 a = σ.2.1 57 a := rc_F F546 (Or.inl (by decide)) (by decide) (rc_o (by decide) (rfl))
            have q550 : σ539.2.1 58 a = σ.2.1 58 a := rc_F F546 (Or.inl (by decide)) (by decide) (rc_o (by decide) (rfl))
            exact tn_zret (v := 0) rfl (by decide) dX7_step_398 ⟨_, rfl, rfl, w545, ((FrC.rfl.put (by decide) (by decide)).trans (FrC.sub F546 (by decide))), by omega, ((CHX.rfl.fld (by simp) (by decide)).trans (CHX.sub f542 (by simp) (by simp) (by simp))), by unfold PIv at *; rw [q548, q549, q550]; omega, ((FA.rfl.put).trans (FA.of F546 (by decide)))⟩
          · refine tn_tableIn (tgt := 179) (off := 111) dX7_step_68 (x := v61) ⟨by omega, by omega⟩ (by omega) (by omega) (by rw [h117]; rfl) (by decide) ?_
            refine tn_aload_n dX7_step_179 rfl 3 rfl ?_
            refine tn_iload_n dX7_step_180 rfl 2 rfl ?_
            refine tn_iconst dX7_step_181 ?_
            refine tn_callV (M := m_X7_step) (pc := 182) (ix := 110) (ci := 7) (M' := m_X7_operand) (As := [.int (iI v6), .int (iI 3)]) (rest := []) dX7_step_182 ok_X7_operand im_X7_operand se_X7_operand ml7_110 np_X7_operand rfl rfl ha rfl (Nat.le_of_ble_eq_true rfl) (Nat.le_of_ble_eq_true rfl) rfl (k_X7_operand (d + 2) (T := T) (σ := (sA 67 a (z66) σ)) (a := a) (k := v6) (c := 3) ha (by omega) (by decide) (hw.put (by decide) (by decide) (fo_67 (by omega))) (by rw [show (sA 67 a (z66) σ).2.1 69 a = _ from rc_o (by decide) (hx7)]; omega) (by omega)) (fun r551 T553 σ552 gt554 hp => ?_)
            obtain ⟨v556, rfl, rfl, rfl, f555⟩ := hp
            clear gt554
            show Tn _ _ 185 T (sA 67 a (z66) σ) [(3, .int (iI z68)), (2, .int (iI v61)), (1, .int (iI v6)), (0, .ref a)] [.int (iI v556)] _
            refine tn_if_ne (tgt := 201) dX7_step_185 (by decide) ⟨by omega, by omega⟩ (fun h557 => ?_) (fun h557 => ?_)
            · refine tn_iload_n dX7_step_201 rfl 0 rfl ?_
              refine tn_istore_n (L' := [(3, .int (iI z68)), (2, .int (iI v61)), (1, .int (iI v6)), (0, .ref a)]) dX7_step_202 rfl (by decide) rfl ?_
              refine tn_goto (tgt := 375) dX7_step_203 (by decide) ?_
              refine tn_aload_n dX7_step_375 rfl 3 rfl ?_
              obtain ⟨hk560, hl561⟩ : AR T xb 1 9 9 := ar_of (wf_60 hw ha) hxb
              have hk560i : IA T xb := by unfold IA; omega
              refine tn_getR (ci := 7) (i := 5) (n := 60) (x := xb) dX7_step_376 rfl lay_7 (by decide) fl7_15 ha rfl rfl (rc_o (by decide) (hxb)) ?_
              refine tn_aload_n dX7_step_379 rfl 3 rfl ?_
              refine tn_getI (ci := 7) (i := 2) (n := 57) (t := σ.2.1 57 a) dX7_step_380 rfl lay_7 (by decide) fl7_65 ha rfl rfl (rc_o (by decide) (rfl)) ?_
              have g562 : ((0 : Int) ≤ σ.2.1 57 a ∧ σ.2.1 57 a ≤ 11184800) ∧ ((T a).1 = 57 → σ.2.1 57 a ≤ 8) := wf_57 hw ha
              have g562x := g562.2
              replace g562 := g562.1
              have g562x := g562x hta
              refine tn_iload_n dX7_step_383 rfl 0 rfl ?_
              refine tn_callSN (M := m_X7_step) (pc := 384) (ix := 61) (M' := m_X11_put) (As := [.ref xb, .int (iI (σ.2.1 57 a)), .int (iI z68)]) (rest := []) dX7_step_384 ok_X11_put stt_X11_put nl7_61 np_X11_put rfl (Nat.le_of_ble_eq_true rfl) (Nat.le_of_ble_eq_true rfl) rfl (k_X11_put_x (d + 3) (T := T) (σ := (sA 67 a (z66) σ)) (x := xb) (i := σ.2.1 57 a) (y := z68) hk560i (by omega) (by omega) (by omega) (hw.put (by decide) (by decide) (fo_67 (by omega))) (nh_k hk560 (by unfold HT; omega)) (vok_1 (by have q9 := hk560; omega) (by omega))) (fun r563 T565 σ564 gt566 hp => ?_)
              obtain ⟨rfl, rfl, w570, F571, f567, f568⟩ := hp
              clear gt566
              show Tn _ _ 387 T σ564 [(3, .int (iI z68)), (2, .int (iI v61)), (1, .int (iI v6)), (0, .ref a)] [] _
              refine tn_iload_n dX7_step_387 rfl 1 rfl ?_
              refine tn_bipush dX7_step_388 (by decide) ?_
              refine tn_icmp_ne (tgt := 397) dX7_step_390 (by decide) ⟨by omega, by omega⟩ ⟨by decide, by decide⟩ (fun h572 => ?_) (fun h572 => absurd h572 (by omega))
              refine tn_iconst dX7_step_397 ?_
              have q573 : σ564.2.1 56 a = σ.2.1 56 a := rc_F F571 (Or.inl (by decide)) (by decide) (rc_o (by decide) (rfl))
              have q574 : σ564.2.1 57 a = σ.2.1 57 a := rc_F F571 (Or.inl (by decide)) (by decide) (rc_o (by decide) (rfl))
              have q575 : σ564.2.1 58 a = σ.2.1 58 a := rc_F F571 (Or.inl (by decide)) (by decide) (rc_o (by decide) (rfl))
              exact tn_zret (v := 0) rfl (by decide) dX7_step_398 ⟨_, rfl, rfl, w570, ((FrC.rfl.put (by decide) (by decide)).trans (FrC.sub F571 (by decide))), by omega, ((CHX.rfl.fld (by simp) (by decide)).trans (CHX.sub f567 (by simp) (by simp) (by simp))), by unfold PIv at *; rw [q573, q574, q575]; omega, ((FA.rfl.put).trans (FA.of F571 (by decide)))⟩
            · refine tn_aload_n dX7_step_188 rfl 3 rfl ?_
              refine tn_getR (ci := 7) (i := 14) (n := 69) (x := xq8) dX7_step_189 rfl lay_7 (by decide) fl7_72 ha rfl rfl (rc_o (by decide) (hx7)) ?_
              refine tn_iload_n dX7_step_192 rfl 2 rfl ?_
              refine tn_bipush dX7_step_193 (by decide) ?_
              refine tn_callV (M := m_X7_step) (pc := 195) (ix := 117) (ci := 1) (M' := m_X1_get) (As := [.int (iI v6), .int (iI 12)]) (rest := []) dX7_step_195 ok_X1_get im_X1_get se_X1_get ml7_117 np_X1_get rfl rfl hk9o rfl (Nat.le_of_ble_eq_true rfl) (Nat.le_of_ble_eq_true rfl) rfl (k_X1_get (d + 3) (T := T) (σ := (sA 67 a (z66) σ)) (a := xq8) (k := v6) (c := 12) hk9o (by omega) (by decide) (hw.put (by decide) (by decide) (fo_67 (by omega))) (by omega)) (fun r576 T578 σ577 gt579 hp => ?_)
              obtain ⟨v581, rfl, rfl, rfl, f580⟩ := hp
              clear gt579
              show Tn _ _ 198 T (sA 67 a (z66) σ) [(3, .int (iI z68)), (2, .int (iI v61)), (1, .int (iI v6)), (0, .ref a)] [.int (iI v581)] _
              refine tn_goto (tgt := 202) dX7_step_198 (by decide) ?_
              refine tn_istore_n (L' := [(3, .int (iI v581)), (2, .int (iI v61)), (1, .int (iI v6)), (0, .ref a)]) dX7_step_202 rfl (by decide) rfl ?_
              refine tn_goto (tgt := 375) dX7_step_203 (by decide) ?_
              refine tn_aload_n dX7_step_375 rfl 3 rfl ?_
              obtain ⟨hk584, hl585⟩ : AR T xb 1 9 9 := ar_of (wf_60 hw ha) hxb
              have hk584i : IA T xb := by unfold IA; omega
              refine tn_getR (ci := 7) (i := 5) (n := 60) (x := xb) dX7_step_376 rfl lay_7 (by decide) fl7_15 ha rfl rfl (rc_o (by decide) (hxb)) ?_
              refine tn_aload_n dX7_step_379 rfl 3 rfl ?_
              refine tn_getI (ci := 7) (i := 2) (n := 57) (t := σ.2.1 57 a) dX7_step_380 rfl lay_7 (by decide) fl7_65 ha rfl rfl (rc_o (by decide) (rfl)) ?_
              have g586 : ((0 : Int) ≤ σ.2.1 57 a ∧ σ.2.1 57 a ≤ 11184800) ∧ ((T a).1 = 57 → σ.2.1 57 a ≤ 8) := wf_57 hw ha
              have g586x := g586.2
              replace g586 := g586.1
              have g586x := g586x hta
              refine tn_iload_n dX7_step_383 rfl 0 rfl ?_
              refine tn_callSN (M := m_X7_step) (pc := 384) (ix := 61) (M' := m_X11_put) (As := [.ref xb, .int (iI (σ.2.1 57 a)), .int (iI v581)]) (rest := []) dX7_step_384 ok_X11_put stt_X11_put nl7_61 np_X11_put rfl (Nat.le_of_ble_eq_true rfl) (Nat.le_of_ble_eq_true rfl) rfl (k_X11_put_x (d + 3) (T := T) (σ := (sA 67 a (z66) σ)) (x := xb) (i := σ.2.1 57 a) (y := v581) hk584i (by omega) (by omega) (by omega) (hw.put (by decide) (by decide) (fo_67 (by omega))) (nh_k hk584 (by unfold HT; omega)) (vok_1 (by have q9 := hk584; omega) (by omega))) (fun r587 T589 σ588 gt590 hp => ?_)
              obtain ⟨rfl, rfl, w594, F595, f591, f592⟩ := hp
              clear gt590
              show Tn _ _ 387 T σ588 [(3, .int (iI v581)), (2, .int (iI v61)), (1, .int (iI v6)), (0, .ref a)] [] _
              refine tn_iload_n dX7_step_387 rfl 1 rfl ?_
              refine tn_bipush dX7_step_388 (by decide) ?_
              refine tn_icmp_ne (tgt := 397) dX7_step_390 (by decide) ⟨by omega, by omega⟩ ⟨by decide, by decide⟩ (fun h596 => ?_) (fun h596 => absurd h596 (by omega))
              refine tn_iconst dX7_step_397 ?_
              have q597 : σ588.2.1 56 a = σ.2.1 56 a := rc_F F595 (Or.inl (by decide)) (by decide) (rc_o (by decide) (rfl))
              have q598 : σ588.2.1 57 a = σ.2.1 57 a := rc_F F595 (Or.inl (by decide)) (by decide) (rc_o (by decide) (rfl))
              have q599 : σ588.2.1 58 a = σ.2.1 58 a := rc_F F595 (Or.inl (by decide)) (by decide) (rc_o (by decide) (rfl))
              exact tn_zret (v := 0) rfl (by decide) dX7_step_398 ⟨_, rfl, rfl, w594, ((FrC.rfl.put (by decide) (by decide)).trans (FrC.sub F595 (by decide))), by omega, ((CHX.rfl.fld (by simp) (by decide)).trans (CHX.sub f591 (by simp) (by simp) (by simp))), by unfold PIv at *; rw [q597, q598, q599]; omega, ((FA.rfl.put).trans (FA.of F595 (by decide)))⟩
          · refine tn_tableIn (tgt := 206) (off := 138) dX7_step_68 (x := v61) ⟨by omega, by omega⟩ (by omega) (by omega) (by rw [h117]; rfl) (by decide) ?_
            refine tn_aload_n dX7_step_206 rfl 3 rfl ?_
            refine tn_iload_n dX7_step_207 rfl 2 rfl ?_
            obtain ⟨hk602, hl603⟩ : AR T xa 15 9 9 := ar_of (wf_59 hw ha) hxa
            have hk602i : IA T xa := by unfold IA; omega
            obtain ⟨hk606, hl607⟩ : AR T xb 1 9 9 := ar_of (wf_60 hw ha) hxb
            have hk606i : IA T xb := by unfold IA; omega
            obtain ⟨hl611, hk610a, hk610b⟩ := ex_at (wf_61 hw ha) hxc
            have hk610 : (T xc).1 = 14 := hk610a (by omega)
            clear hk610a hk610b
            have hk610i : IA T xc := by unfold IA; omega
            obtain ⟨hk614, hl615⟩ : AR T xd 1 108 108 := ar_of (wf_62 hw ha) hxd
            have hk614i : IA T xd := by unfold IA; omega
            obtain ⟨hk618, hl619⟩ : AR T xe 1 1728 1728 := ar_of (wf_63 hw ha) hxe
            have hk618i : IA T xe := by unfold IA; omega
            obtain ⟨hk622, hl623⟩ : AR T xf 1 200 200 := ar_of (wf_64 hw ha) hxf
            have hk622i : IA T xf := by unfold IA; omega
            have q628 : (sA 67 a (z66) σ).2.1 57 a = σ.2.1 57 a := rc_o (by decide) (rfl)
            have q629 : (sA 67 a (z66) σ).2.1 58 a = σ.2.1 58 a := rc_o (by decide) (rfl)
            refine tn_callV (M := m_X7_step) (pc := 208) (ix := 120) (ci := 7) (M' := m_X7_callFrom) (As := [.int (iI v6)]) (rest := []) dX7_step_208 ok_X7_callFrom im_X7_callFrom se_X7_callFrom ml7_120 np_X7_callFrom rfl rfl ha rfl (Nat.le_of_ble_eq_true rfl) (Nat.le_of_ble_eq_true rfl) rfl (k_X7_callFrom_h57 (d) (T := T) (σ := (sA 67 a (z66) σ)) (a := a) (k := v6) (xa := xa) (xb := xb) (xc := xc) (xd := xd) (xe := xe) (xf := xf) ha hta (by omega) (hw.put (by decide) (by decide) (fo_67 (by omega))) (rc_o (by decide) (hxa)) (rc_o (by decide) (hxb)) (rc_o (by decide) (hxc)) (rc_o (by decide) (hxd)) (rc_o (by decide) (hxe)) (rc_o (by decide) (hxf)) (by rw [show (sA 67 a (z66) σ).2.1 69 a = _ from rc_o (by decide) (hx7)]; omega) (by rw [show (sA 67 a (z66) σ).2.1 57 a = σ.2.1 57 a from rc_o (by decide) (rfl)]; omega) (by rw [show (sA 67 a (z66) σ).2.1 58 a = σ.2.1 58 a from rc_o (by decide) (rfl)]; omega)) (fun r624 T626 σ625 gt627 hp => ?_)
            obtain ⟨rfl, rfl, w635, F636, f630, f631, f632, f633⟩ := hp
            clear gt627
            show Tn _ _ 211 T σ625 [(3, .int (iI z68)), (2, .int (iI v61)), (1, .int (iI v6)), (0, .ref a)] [] _
            refine tn_iconst dX7_step_211 ?_
            have q637 : σ625.2.1 56 a = σ.2.1 56 a := rc_F F636 (Or.inl (by decide)) (by decide) (rc_o (by decide) (rfl))
            have q638 : σ625.2.1 57 a = σ625.2.1 57 a := rfl
            have q639 : σ625.2.1 58 a = σ625.2.1 58 a := rfl
            exact tn_zret (v := 0) rfl (by decide) dX7_step_212 ⟨_, rfl, rfl, w635, ((FrC.rfl.put (by decide) (by decide)).trans (FrC.sub F636 (by decide))), by omega, ((CHX.rfl.fld (by simp) (by decide)).trans (CHX.sub f630 (by simp) (by simp) (by simp))), by unfold PIv at *; rw [q637, q638, q639]; omega, ((FA.rfl.put).trans f633)⟩
          · refine tn_tableIn (tgt := 225) (off := 157) dX7_step_68 (x := v61) ⟨by omega, by omega⟩ (by omega) (by omega) (by rw [h117]; rfl) (by decide) ?_
            refine tn_aload_n dX7_step_225 rfl 3 rfl ?_
            obtain ⟨hk642, hl643⟩ : AR T xd 1 108 108 := ar_of (wf_62 hw ha) hxd
            have hk642i : IA T xd := by unfold IA; omega
            refine tn_getR (ci := 7) (i := 7) (n := 62) (x := xd) dX7_step_226 rfl lay_7 (by decide) fl7_21 ha rfl rfl (rc_o (by decide) (hxd)) ?_
            refine tn_aload_n dX7_step_229 rfl 3 rfl ?_
            refine tn_getI (ci := 7) (i := 2) (n := 57) (t := σ.2.1 57 a) dX7_step_230 rfl lay_7 (by decide) fl7_65 ha rfl rfl (rc_o (by decide) (rfl)) ?_
            have g644 : ((0 : Int) ≤ σ.2.1 57 a ∧ σ.2.1 57 a ≤ 11184800) ∧ ((T a).1 = 57 → σ.2.1 57 a ≤ 8) := wf_57 hw ha
            have g644x := g644.2
            replace g644 := g644.1
            have g644x := g644x hta
            refine tn_bipush dX7_step_233 (by decide) ?_
            refine tn_imul dX7_step_235 ?_
            refine tn_aload_n dX7_step_236 rfl 3 rfl ?_
            refine tn_getR (ci := 7) (i := 14) (n := 69) (x := xq8) dX7_step_237 rfl lay_7 (by decide) fl7_72 ha rfl rfl (rc_o (by decide) (hx7)) ?_
            refine tn_iload_n dX7_step_240 rfl 2 rfl ?_
            refine tn_iconst dX7_step_241 ?_
            refine tn_callV (M := m_X7_step) (pc := 242) (ix := 117) (ci := 1) (M' := m_X1_get) (As := [.int (iI v6), .int (iI 2)]) (rest := [.int (iI ((σ.2.1 57 a) * 12)), .ref xd]) dX7_step_242 ok_X1_get im_X1_get se_X1_get ml7_117 np_X1_get rfl rfl hk9o rfl (Nat.le_of_ble_eq_true rfl) (Nat.le_of_ble_eq_true rfl) rfl (k_X1_get (d + 3) (T := T) (σ := (sA 67 a (z66) σ)) (a := xq8) (k := v6) (c := 2) hk9o (by omega) (by decide) (hw.put (by decide) (by decide) (fo_67 (by omega))) (by omega)) (fun r645 T647 σ646 gt648 hp => ?_)
            obtain ⟨v650, rfl, rfl, rfl, f649⟩ := hp
            clear gt648
            show Tn _ _ 245 T (sA 67 a (z66) σ) [(3, .int (iI z68)), (2, .int (iI v61)), (1, .int (iI v6)), (0, .ref a)] [.int (iI v650), .int (iI ((σ.2.1 57 a) * 12)), .ref xd] _
            refine tn_iadd dX7_step_245 ?_
            refine tn_any (fun z651 g652 => ?_)
            have g652r : -2147483648 ≤ z651 ∧ z651 ≤ 2147483647 := g652
            refine tn_aload_n dX7_step_246 rfl 3 rfl ?_
            refine tn_getR (ci := 7) (i := 14) (n := 69) (x := xq8) dX7_step_247 rfl lay_7 (by decide) fl7_72 ha rfl rfl (rc_o (by decide) (hx7)) ?_
            refine tn_iload_n dX7_step_250 rfl 2 rfl ?_
            refine tn_iconst dX7_step_251 ?_
            refine tn_callV (M := m_X7_step) (pc := 252) (ix := 117) (ci := 1) (M' := m_X1_get) (As := [.int (iI v6), .int (iI 1)]) (rest := [.int (iI z651), .ref xd]) dX7_step_252 ok_X1_get im_X1_get se_X1_get ml7_117 np_X1_get rfl rfl hk9o rfl (Nat.le_of_ble_eq_true rfl) (Nat.le_of_ble_eq_true rfl) rfl (k_X1_get (d + 3) (T := T) (σ := (sA 67 a (z66) σ)) (a := xq8) (k := v6) (c := 1) hk9o (by omega) (by decide) (hw.put (by decide) (by decide) (fo_67 (by omega))) (by omega)) (fun r653 T655 σ654 gt656 hp => ?_)
            obtain ⟨v658, rfl, rfl, rfl, f657⟩ := hp
            clear gt656
            show Tn _ _ 255 T (sA 67 a (z66) σ) [(3, .int (iI z68)), (2, .int (iI v61)), (1, .int (iI v6)), (0, .ref a)] [.int (iI v658), .int (iI z651), .ref xd] _
            refine tn_callSN (M := m_X7_step) (pc := 255) (ix := 61) (M' := m_X11_put) (As := [.ref xd, .int (iI z651), .int (iI v658)]) (rest := []) dX7_step_255 ok_X11_put stt_X11_put nl7_61 np_X11_put rfl (Nat.le_of_ble_eq_true rfl) (Nat.le_of_ble_eq_true rfl) rfl (k_X11_put_x (d + 3) (T := T) (σ := (sA 67 a (z66) σ)) (x := xd) (i := z651) (y := v658) hk642i (by omega) (by omega) (by omega) (hw.put (by decide) (by decide) (fo_67 (by omega))) (nh_k hk642 (by unfold HT; omega)) (vok_1 (by have q9 := hk642; omega) (by omega))) (fun r659 T661 σ660 gt662 hp => ?_)
            obtain ⟨rfl, rfl, w666, F667, f663, f664⟩ := hp
            clear gt662
            show Tn _ _ 258 T σ660 [(3, .int (iI z68)), (2, .int (iI v61)), (1, .int (iI v6)), (0, .ref a)] [] _
            refine tn_goto (tgt := 375) dX7_step_258 (by decide) ?_
            refine tn_aload_n dX7_step_375 rfl 3 rfl ?_
            obtain ⟨hk670, hl671⟩ : AR T xb 1 9 9 := ar_of (wf_60 hw ha) hxb
            have hk670i : IA T xb := by unfold IA; omega
            refine tn_getR (ci := 7) (i := 5) (n := 60) (x := xb) dX7_step_376 rfl lay_7 (by decide) fl7_15 ha rfl rfl (rc_F F667 (Or.inl (by decide)) (by decide) (rc_o (by decide) (hxb))) ?_
            refine tn_aload_n dX7_step_379 rfl 3 rfl ?_
            refine tn_getI (ci := 7) (i := 2) (n := 57) (t := σ.2.1 57 a) dX7_step_380 rfl lay_7 (by decide) fl7_65 ha rfl rfl (rc_F F667 (Or.inl (by decide)) (by decide) (rc_o (by decide) (rfl))) ?_
            refine tn_iload_n dX7_step_383 rfl 0 rfl ?_
            refine tn_callSN (M := m_X7_step) (pc := 384) (ix := 61) (M' := m_X11_put) (As := [.ref xb, .int (iI (σ.2.1 57 a)), .int (iI z68)]) (rest := []) dX7_step_384 ok_X11_put stt_X11_put nl7_61 np_X11_put rfl (Nat.le_of_ble_eq_true rfl) (Nat.le_of_ble_eq_true rfl) rfl (k_X11_put_x (d + 3) (T := T) (σ := σ660) (x := xb) (i := σ.2.1 57 a) (y := z68) hk670i (by omega) (by omega) (by omega) w666 (nh_k hk670 (by unfold HT; omega)) (vok_1 (by have q9 := hk670; omega) (by omega))) (fun r672 T674 σ673 gt675 hp => ?_)
            obtain ⟨rfl, rfl, w679, F680, f676, f677⟩ := hp
            clear gt675
            show Tn _ _ 387 T σ673 [(3, .int (iI z68)), (2, .int (iI v61)), (1, .int (iI v6)), (0, .ref a)] [] _
            refine tn_iload_n dX7_step_387 rfl 1 rfl ?_
            refine tn_bipush dX7_step_388 (by decide) ?_
            refine tn_icmp_ne (tgt := 397) dX7_step_390 (by decide) ⟨by omega, by omega⟩ ⟨by decide, by decide⟩ (fun h681 => absurd h681 (by omega)) (fun h681 => ?_)
            refine tn_iconst dX7_step_393 ?_
            refine tn_goto (tgt := 398) dX7_step_394 (by decide) ?_
            have q682 : σ673.2.1 56 a = σ.2.1 56 a := rc_F F680 (Or.inl (by decide)) (by decide) (rc_F F667 (Or.inl (by decide)) (by decide) (rc_o (by decide) (rfl)))
            have q683 : σ673.2.1 57 a = σ.2.1 57 a := rc_F F680 (Or.inl (by decide)) (by decide) (rc_F F667 (Or.inl (by decide)) (by decide) (rc_o (by decide) (rfl)))
            have q684 : σ673.2.1 58 a = σ.2.1 58 a := rc_F F680 (Or.inl (by decide)) (by decide) (rc_F F667 (Or.inl (by decide)) (by decide) (rc_o (by decide) (rfl)))
            exact tn_zret (v := 1) rfl (by decide) dX7_step_398 ⟨_, rfl, rfl, w679, (((FrC.rfl.put (by decide) (by decide)).trans (FrC.sub F667 (by decide))).trans (FrC.sub F680 (by decide))), by omega, (((CHX.rfl.fld (by simp) (by decide)).trans (CHX.sub f663 (by simp) (by simp) (by simp))).trans (CHX.sub f676 (by simp) (by simp) (by simp))), by unfold PIv at *; rw [q682, q683, q684]; omega, (((FA.rfl.put).trans (FA.of F667 (by decide))).trans (FA.of F680 (by decide)))⟩
          · refine tn_tableIn (tgt := 369) (off := 301) dX7_step_68 (x := v61) ⟨by omega, by omega⟩ (by omega) (by omega) (by rw [h117]; rfl) (by decide) ?_
            refine tn_aload_n dX7_step_369 rfl 3 rfl ?_
            refine tn_iload_n dX7_step_370 rfl 2 rfl ?_
            refine tn_iload_n dX7_step_371 rfl 1 rfl ?_
            obtain ⟨hk687, hl688⟩ : AR T xa 15 9 9 := ar_of (wf_59 hw ha) hxa
            have hk687i : IA T xa := by unfold IA; omega
            obtain ⟨hk691, hl692⟩ : AR T xb 1 9 9 := ar_of (wf_60 hw ha) hxb
            have hk691i : IA T xb := by unfold IA; omega
            obtain ⟨hl696, hk695a, hk695b⟩ := ex_at (wf_61 hw ha) hxc
            have hk695 : (T xc).1 = 14 := hk695a (by omega)
            clear hk695a hk695b
            have hk695i : IA T xc := by unfold IA; omega
            obtain ⟨hk699, hl700⟩ : AR T xd 1 108 108 := ar_of (wf_62 hw ha) hxd
            have hk699i : IA T xd := by unfold IA; omega
            obtain ⟨hk703, hl704⟩ : AR T xe 1 1728 1728 := ar_of (wf_63 hw ha) hxe
            have hk703i : IA T xe := by unfold IA; omega
            obtain ⟨hk707, hl708⟩ : AR T xf 1 200 200 := ar_of (wf_64 hw ha) hxf
            have hk707i : IA T xf := by unfold IA; omega
            refine tn_callV (M := m_X7_step) (pc := 372) (ix := 129) (ci := 7) (M' := m_X7_reckonAt) (As := [.int (iI v6), .int (iI v61)]) (rest := []) dX7_step_372 ok_X7_reckonAt im_X7_reckonAt se_X7_reckonAt ml7_129 np_X7_reckonAt rfl rfl ha rfl (Nat.le_of_ble_eq_true rfl) (Nat.le_of_ble_eq_true rfl) rfl (k_X7_reckonAt_h (d + 1) (T := T) (σ := (sA 67 a (z66) σ)) (a := a) (k := v6) (e := v61) (xa := xa) (xb := xb) (xc := xc) (xd := xd) (xe := xe) (xf := xf) ha (by omega) (by omega) (hw.put (by decide) (by decide) (fo_67 (by omega))) (rc_o (by decide) (hxa)) (rc_o (by decide) (hxb)) (rc_o (by decide) (hxc)) (rc_o (by decide) (hxd)) (rc_o (by decide) (hxe)) (rc_o (by decide) (hxf)) (by rw [show (sA 67 a (z66) σ).2.1 69 a = _ from rc_o (by decide) (hx7)]; omega)) (fun r709 T711 σ710 gt712 hp => ?_)
            obtain ⟨rfl, rfl, w715, F716, f713⟩ := hp
            clear gt712
            show Tn _ _ 375 T σ710 [(3, .int (iI z68)), (2, .int (iI v61)), (1, .int (iI v6)), (0, .ref a)] [] _
            refine tn_aload_n dX7_step_375 rfl 3 rfl ?_
            refine tn_getR (ci := 7) (i := 5) (n := 60) (x := xb) dX7_step_376 rfl lay_7 (by decide) fl7_15 ha rfl rfl (rc_F F716 (Or.inl (by decide)) (by decide) (rc_o (by decide) (hxb))) ?_
            refine tn_aload_n dX7_step_379 rfl 3 rfl ?_
            refine tn_getI (ci := 7) (i := 2) (n := 57) (t := σ.2.1 57 a) dX7_step_380 rfl lay_7 (by decide) fl7_65 ha rfl rfl (rc_F F716 (Or.inl (by decide)) (by decide) (rc_o (by decide) (rfl))) ?_
            have g717 : ((0 : Int) ≤ σ.2.1 57 a ∧ σ.2.1 57 a ≤ 11184800) ∧ ((T a).1 = 57 → σ.2.1 57 a ≤ 8) := wf_57 hw ha
            have g717x := g717.2
            replace g717 := g717.1
            have g717x := g717x hta
            refine tn_iload_n dX7_step_383 rfl 0 rfl ?_
            refine tn_callSN (M := m_X7_step) (pc := 384) (ix := 61) (M' := m_X11_put) (As := [.ref xb, .int (iI (σ.2.1 57 a)), .int (iI z68)]) (rest := []) dX7_step_384 ok_X11_put stt_X11_put nl7_61 np_X11_put rfl (Nat.le_of_ble_eq_true rfl) (Nat.le_of_ble_eq_true rfl) rfl (k_X11_put_x (d + 3) (T := T) (σ := σ710) (x := xb) (i := σ.2.1 57 a) (y := z68) hk691i (by omega) (by omega) (by omega) w715 (nh_k hk691 (by unfold HT; omega)) (vok_1 (by have q9 := hk691; omega) (by omega))) (fun r718 T720 σ719 gt721 hp => ?_)
            obtain ⟨rfl, rfl, w725, F726, f722, f723⟩ := hp
            clear gt721
            show Tn _ _ 387 T σ719 [(3, .int (iI z68)), (2, .int (iI v61)), (1, .int (iI v6)), (0, .ref a)] [] _
            refine tn_iload_n dX7_step_387 rfl 1 rfl ?_
            refine tn_bipush dX7_step_388 (by decide) ?_
            refine tn_icmp_ne (tgt := 397) dX7_step_390 (by decide) ⟨by omega, by omega⟩ ⟨by decide, by decide⟩ (fun h727 => ?_) (fun h727 => absurd h727 (by omega))
            refine tn_iconst dX7_step_397 ?_
            have q728 : σ719.2.1 56 a = σ.2.1 56 a := rc_F F726 (Or.inl (by decide)) (by decide) (rc_F F716 (Or.inl (by decide)) (by decide) (rc_o (by decide) (rfl)))
            have q729 : σ719.2.1 57 a = σ.2.1 57 a := rc_F F726 (Or.inl (by decide)) (by decide) (rc_F F716 (Or.inl (by decide)) (by decide) (rc_o (by decide) (rfl)))
            have q730 : σ719.2.1 58 a = σ.2.1 58 a := rc_F F726 (Or.inl (by decide)) (by decide) (rc_F F716 (Or.inl (by decide)) (by decide) (rc_o (by decide) (rfl)))
            exact tn_zret (v := 0) rfl (by decide) dX7_step_398 ⟨_, rfl, rfl, w725, (((FrC.rfl.put (by decide) (by decide)).trans (FrC.sub F716 (by decide))).trans (FrC.sub F726 (by decide))), by omega, (((CHX.rfl.fld (by simp) (by decide)).trans (CHX.sub f713 (by simp) (by simp) (by simp))).trans (CHX.sub f722 (by simp) (by simp) (by simp))), by unfold PIv at *; rw [q728, q729, q730]; omega, (((FA.rfl.put).trans (FA.of F716 (by decide))).trans (FA.of F726 (by decide)))⟩
          · refine tn_tableIn (tgt := 369) (off := 301) dX7_step_68 (x := v61) ⟨by omega, by omega⟩ (by omega) (by omega) (by rw [h117]; rfl) (by decide) ?_
            refine tn_aload_n dX7_step_369 rfl 3 rfl ?_
            refine tn_iload_n dX7_step_370 rfl 2 rfl ?_
            refine tn_iload_n dX7_step_371 rfl 1 rfl ?_
            obtain ⟨hk733, hl734⟩ : AR T xa 15 9 9 := ar_of (wf_59 hw ha) hxa
            have hk733i : IA T xa := by unfold IA; omega
            obtain ⟨hk737, hl738⟩ : AR T xb 1 9 9 := ar_of (wf_60 hw ha) hxb
            have hk737i : IA T xb := by unfold IA; omega
            obtain ⟨hl742, hk741a, hk741b⟩ := ex_at (wf_61 hw ha) hxc
            have hk741 : (T xc).1 = 14 := hk741a (by omega)
            clear hk741a hk741b
            have hk741i : IA T xc := by unfold IA; omega
            obtain ⟨hk745, hl746⟩ : AR T xd 1 108 108 := ar_of (wf_62 hw ha) hxd
            have hk745i : IA T xd := by unfold IA; omega
            obtain ⟨hk749, hl750⟩ : AR T xe 1 1728 1728 := ar_of (wf_63 hw ha) hxe
            have hk749i : IA T xe := by unfold IA; omega
            obtain ⟨hk753, hl754⟩ : AR T xf 1 200 200 := ar_of (wf_64 hw ha) hxf
            have hk753i : IA T xf := by unfold IA; omega
            refine tn_callV (M := m_X7_step) (pc := 372) (ix := 129) (ci := 7) (M' := m_X7_reckonAt) (As := [.int (iI v6), .int (iI v61)]) (rest := []) dX7_step_372 ok_X7_reckonAt im_X7_reckonAt se_X7_reckonAt ml7_129 np_X7_reckonAt rfl rfl ha rfl (Nat.le_of_ble_eq_true rfl) (Nat.le_of_ble_eq_true rfl) rfl (k_X7_reckonAt_h (d + 1) (T := T) (σ := (sA 67 a (z66) σ)) (a := a) (k := v6) (e := v61) (xa := xa) (xb := xb) (xc := xc) (xd := xd) (xe := xe) (xf := xf) ha (by omega) (by omega) (hw.put (by decide) (by decide) (fo_67 (by omega))) (rc_o (by decide) (hxa)) (rc_o (by decide) (hxb)) (rc_o (by decide) (hxc)) (rc_o (by decide) (hxd)) (rc_o (by decide) (hxe)) (rc_o (by decide) (hxf)) (by rw [show (sA 67 a (z66) σ).2.1 69 a = _ from rc_o (by decide) (hx7)]; omega)) (fun r755 T757 σ756 gt758 hp => ?_)
            obtain ⟨rfl, rfl, w761, F762, f759⟩ := hp
            clear gt758
            show Tn _ _ 375 T σ756 [(3, .int (iI z68)), (2, .int (iI v61)), (1, .int (iI v6)), (0, .ref a)] [] _
            refine tn_aload_n dX7_step_375 rfl 3 rfl ?_
            refine tn_getR (ci := 7) (i := 5) (n := 60) (x := xb) dX7_step_376 rfl lay_7 (by decide) fl7_15 ha rfl rfl (rc_F F762 (Or.inl (by decide)) (by decide) (rc_o (by decide) (hxb))) ?_
            refine tn_aload_n dX7_step_379 rfl 3 rfl ?_
            refine tn_getI (ci := 7) (i := 2) (n := 57) (t := σ.2.1 57 a) dX7_step_380 rfl lay_7 (by decide) fl7_65 ha rfl rfl (rc_F F762 (Or.inl (by decide)) (by decide) (rc_o (by decide) (rfl))) ?_
            have g763 : ((0 : Int) ≤ σ.2.1 57 a ∧ σ.2.1 57 a ≤ 11184800) ∧ ((T a).1 = 57 → σ.2.1 57 a ≤ 8) := wf_57 hw ha
            have g763x := g763.2
            replace g763 := g763.1
            have g763x := g763x hta
            refine tn_iload_n dX7_step_383 rfl 0 rfl ?_
            refine tn_callSN (M := m_X7_step) (pc := 384) (ix := 61) (M' := m_X11_put) (As := [.ref xb, .int (iI (σ.2.1 57 a)), .int (iI z68)]) (rest := []) dX7_step_384 ok_X11_put stt_X11_put nl7_61 np_X11_put rfl (Nat.le_of_ble_eq_true rfl) (Nat.le_of_ble_eq_true rfl) rfl (k_X11_put_x (d + 3) (T := T) (σ := σ756) (x := xb) (i := σ.2.1 57 a) (y := z68) hk737i (by omega) (by omega) (by omega) w761 (nh_k hk737 (by unfold HT; omega)) (vok_1 (by have q9 := hk737; omega) (by omega))) (fun r764 T766 σ765 gt767 hp => ?_)
            obtain ⟨rfl, rfl, w771, F772, f768, f769⟩ := hp
            clear gt767
            show Tn _ _ 387 T σ765 [(3, .int (iI z68)), (2, .int (iI v61)), (1, .int (iI v6)), (0, .ref a)] [] _
            refine tn_iload_n dX7_step_387 rfl 1 rfl ?_
            refine tn_bipush dX7_step_388 (by decide) ?_
            refine tn_icmp_ne (tgt := 397) dX7_step_390 (by decide) ⟨by omega, by omega⟩ ⟨by decide, by decide⟩ (fun h773 => ?_) (fun h773 => absurd h773 (by omega))
            refine tn_iconst dX7_step_397 ?_
            have q774 : σ765.2.1 56 a = σ.2.1 56 a := rc_F F772 (Or.inl (by decide)) (by decide) (rc_F F762 (Or.inl (by decide)) (by decide) (rc_o (by decide) (rfl)))
            have q775 : σ765.2.1 57 a = σ.2.1 57 a := rc_F F772 (Or.inl (by decide)) (by decide) (rc_F F762 (Or.inl (by decide)) (by decide) (rc_o (by decide) (rfl)))
            have q776 : σ765.2.1 58 a = σ.2.1 58 a := rc_F F772 (Or.inl (by decide)) (by decide) (rc_F F762 (Or.inl (by decide)) (by decide) (rc_o (by decide) (rfl)))
            exact tn_zret (v := 0) rfl (by decide) dX7_step_398 ⟨_, rfl, rfl, w771, (((FrC.rfl.put (by decide) (by decide)).trans (FrC.sub F762 (by decide))).trans (FrC.sub F772 (by decide))), by omega, (((CHX.rfl.fld (by simp) (by decide)).trans (CHX.sub f759 (by simp) (by simp) (by simp))).trans (CHX.sub f768 (by simp) (by simp) (by simp))), by unfold PIv at *; rw [q774, q775, q776]; omega, (((FA.rfl.put).trans (FA.of F762 (by decide))).trans (FA.of F772 (by decide)))⟩
          · refine tn_tableIn (tgt := 261) (off := 193) dX7_step_68 (x := v61) ⟨by omega, by omega⟩ (by omega) (by omega) (by rw [h117]; rfl) (by decide) ?_
            exact absurd True.intro (by omega)
          · refine tn_tableIn (tgt := 319) (off := 251) dX7_step_68 (x := v61) ⟨by omega, by omega⟩ (by omega) (by omega) (by rw [h117]; rfl) (by decide) ?_
            exact absurd True.intro (by omega)
      · refine tn_aload_n dX7_step_46 rfl 2 rfl ?_
        refine tn_iconst dX7_step_47 ?_
        refine tn_putV (ci := 7) (i := 1) (n := 56) (r := false) (v := 3) tyX7 tyX7_ok nmX7 dX7_step_48 rfl lay_7 (by decide) fl7_34 rfl (tyX7_ok 1 (by decide)) rfl rfl rfl ha rfl rfl ?_
        refine tn_iconst dX7_step_51 ?_
        have q777 : (sA 56 a (3) σ).2.1 56 a = 3 := ra_eq
        have q778 : (sA 56 a (3) σ).2.1 57 a = σ.2.1 57 a := rc_o (by decide) (rfl)
        have q779 : (sA 56 a (3) σ).2.1 58 a = σ.2.1 58 a := rc_o (by decide) (rfl)
        exact tn_zret (v := 0) rfl (by decide) dX7_step_52 ⟨_, rfl, rfl, (hw.put (by decide) (by decide) (fo_56 (by omega))), (FrC.rfl.put (by decide) (by decide)), by omega, (CHX.rfl.fld (by simp) (by decide)), by unfold PIv at *; rw [q777, q778, q779]; omega, (FA.rfl.put)⟩
    · refine tn_iload_n dX7_step_31 rfl 0 rfl ?_
      refine tn_bipush dX7_step_32 (by decide) ?_
      refine tn_icmp_ne (tgt := 53) dX7_step_34 (by decide) ⟨by omega, by omega⟩ ⟨by decide, by decide⟩ (fun h780 => ?_) (fun h780 => ?_)
      · refine tn_aload_n dX7_step_53 rfl 2 rfl ?_
        refine tn_dup dX7_step_54 rfl ?_
        refine tn_getI (ci := 7) (i := 12) (n := 67) (t := σ.2.1 67 a) dX7_step_55 rfl lay_7 (by decide) fl7_47 ha rfl rfl (rfl) ?_
        have g781 : ((-2147483648 : Int) ≤ σ.2.1 67 a ∧ σ.2.1 67 a ≤ 2147483647) := wf_67 hw ha
        refine tn_iconst dX7_step_58 ?_
        refine tn_iadd dX7_step_59 ?_
        refine tn_any (fun z782 g783 => ?_)
        have g783r : -2147483648 ≤ z782 ∧ z782 ≤ 2147483647 := g783
        refine tn_putV (ci := 7) (i := 12) (n := 67) (r := false) (v := z782) tyX7 tyX7_ok nmX7 dX7_step_60 rfl lay_7 (by decide) fl7_47 rfl (tyX7_ok 12 (by decide)) rfl rfl rfl ha rfl rfl ?_
        refine tn_iload_n dX7_step_63 rfl 1 rfl ?_
        refine tn_iconst dX7_step_64 ?_
        refine tn_iadd dX7_step_65 ?_
        refine tn_any (fun z784 g785 => ?_)
        have g785r : -2147483648 ≤ z784 ∧ z784 ≤ 2147483647 := g785
        refine tn_istore_n (L' := [(3, .int (iI z784)), (2, .int (iI v61)), (1, .int (iI v6)), (0, .ref a)]) dX7_step_66 rfl (by decide) rfl ?_
        refine tn_iload_n dX7_step_67 rfl 1 rfl ?_
        by_cases h786 : v61 < -1 ∨ 15 < v61
        · refine tn_tableOut (tgt := 369) dX7_step_68 (x := v61) ⟨by omega, by omega⟩ h786 (by decide) ?_
          refine tn_aload_n dX7_step_369 rfl 3 rfl ?_
          refine tn_iload_n dX7_step_370 rfl 2 rfl ?_
          refine tn_iload_n dX7_step_371 rfl 1 rfl ?_
          obtain ⟨hk789, hl790⟩ : AR T xa 15 9 9 := ar_of (wf_59 hw ha) hxa
          have hk789i : IA T xa := by unfold IA; omega
          obtain ⟨hk793, hl794⟩ : AR T xb 1 9 9 := ar_of (wf_60 hw ha) hxb
          have hk793i : IA T xb := by unfold IA; omega
          obtain ⟨hl798, hk797a, hk797b⟩ := ex_at (wf_61 hw ha) hxc
          have hk797 : (T xc).1 = 14 := hk797a (by omega)
          clear hk797a hk797b
          have hk797i : IA T xc := by unfold IA; omega
          obtain ⟨hk801, hl802⟩ : AR T xd 1 108 108 := ar_of (wf_62 hw ha) hxd
          have hk801i : IA T xd := by unfold IA; omega
          obtain ⟨hk805, hl806⟩ : AR T xe 1 1728 1728 := ar_of (wf_63 hw ha) hxe
          have hk805i : IA T xe := by unfold IA; omega
          obtain ⟨hk809, hl810⟩ : AR T xf 1 200 200 := ar_of (wf_64 hw ha) hxf
          have hk809i : IA T xf := by unfold IA; omega
          refine tn_callV (M := m_X7_step) (pc := 372) (ix := 129) (ci := 7) (M' := m_X7_reckonAt) (As := [.int (iI v6), .int (iI v61)]) (rest := []) dX7_step_372 ok_X7_reckonAt im_X7_reckonAt se_X7_reckonAt ml7_129 np_X7_reckonAt rfl rfl ha rfl (Nat.le_of_ble_eq_true rfl) (Nat.le_of_ble_eq_true rfl) rfl (k_X7_reckonAt_h (d + 1) (T := T) (σ := (sA 67 a (z782) σ)) (a := a) (k := v6) (e := v61) (xa := xa) (xb := xb) (xc := xc) (xd := xd) (xe := xe) (xf := xf) ha (by omega) (by omega) (hw.put (by decide) (by decide) (fo_67 (by omega))) (rc_o (by decide) (hxa)) (rc_o (by decide) (hxb)) (rc_o (by decide) (hxc)) (rc_o (by decide) (hxd)) (rc_o (by decide) (hxe)) (rc_o (by decide) (hxf)) (by rw [show (sA 67 a (z782) σ).2.1 69 a = _ from rc_o (by decide) (hx7)]; omega)) (fun r811 T813 σ812 gt814 hp => ?_)
          obtain ⟨rfl, rfl, w817, F818, f815⟩ := hp
          clear gt814
          show Tn _ _ 375 T σ812 [(3, .int (iI z784)), (2, .int (iI v61)), (1, .int (iI v6)), (0, .ref a)] [] _
          refine tn_aload_n dX7_step_375 rfl 3 rfl ?_
          refine tn_getR (ci := 7) (i := 5) (n := 60) (x := xb) dX7_step_376 rfl lay_7 (by decide) fl7_15 ha rfl rfl (rc_F F818 (Or.inl (by decide)) (by decide) (rc_o (by decide) (hxb))) ?_
          refine tn_aload_n dX7_step_379 rfl 3 rfl ?_
          refine tn_getI (ci := 7) (i := 2) (n := 57) (t := σ.2.1 57 a) dX7_step_380 rfl lay_7 (by decide) fl7_65 ha rfl rfl (rc_F F818 (Or.inl (by decide)) (by decide) (rc_o (by decide) (rfl))) ?_
          have g819 : ((0 : Int) ≤ σ.2.1 57 a ∧ σ.2.1 57 a ≤ 11184800) ∧ ((T a).1 = 57 → σ.2.1 57 a ≤ 8) := wf_57 hw ha
          have g819x := g819.2
          replace g819 := g819.1
          have g819x := g819x hta
          refine tn_iload_n dX7_step_383 rfl 0 rfl ?_
          refine tn_callSN (M := m_X7_step) (pc := 384) (ix := 61) (M' := m_X11_put) (As := [.ref xb, .int (iI (σ.2.1 57 a)), .int (iI z784)]) (rest := []) dX7_step_384 ok_X11_put stt_X11_put nl7_61 np_X11_put rfl (Nat.le_of_ble_eq_true rfl) (Nat.le_of_ble_eq_true rfl) rfl (k_X11_put_x (d + 3) (T := T) (σ := σ812) (x := xb) (i := σ.2.1 57 a) (y := z784) hk793i (by omega) (by omega) (by omega) w817 (nh_k hk793 (by unfold HT; omega)) (vok_1 (by have q9 := hk793; omega) (by omega))) (fun r820 T822 σ821 gt823 hp => ?_)
          obtain ⟨rfl, rfl, w827, F828, f824, f825⟩ := hp
          clear gt823
          show Tn _ _ 387 T σ821 [(3, .int (iI z784)), (2, .int (iI v61)), (1, .int (iI v6)), (0, .ref a)] [] _
          refine tn_iload_n dX7_step_387 rfl 1 rfl ?_
          refine tn_bipush dX7_step_388 (by decide) ?_
          refine tn_icmp_ne (tgt := 397) dX7_step_390 (by decide) ⟨by omega, by omega⟩ ⟨by decide, by decide⟩ (fun h829 => ?_) (fun h829 => ?_)
          · refine tn_iconst dX7_step_397 ?_
            have q830 : σ821.2.1 56 a = σ.2.1 56 a := rc_F F828 (Or.inl (by decide)) (by decide) (rc_F F818 (Or.inl (by decide)) (by decide) (rc_o (by decide) (rfl)))
            have q831 : σ821.2.1 57 a = σ.2.1 57 a := rc_F F828 (Or.inl (by decide)) (by decide) (rc_F F818 (Or.inl (by decide)) (by decide) (rc_o (by decide) (rfl)))
            have q832 : σ821.2.1 58 a = σ.2.1 58 a := rc_F F828 (Or.inl (by decide)) (by decide) (rc_F F818 (Or.inl (by decide)) (by decide) (rc_o (by decide) (rfl)))
            exact tn_zret (v := 0) rfl (by decide) dX7_step_398 ⟨_, rfl, rfl, w827, (((FrC.rfl.put (by decide) (by decide)).trans (FrC.sub F818 (by decide))).trans (FrC.sub F828 (by decide))), by omega, (((CHX.rfl.fld (by simp) (by decide)).trans (CHX.sub f815 (by simp) (by simp) (by simp))).trans (CHX.sub f824 (by simp) (by simp) (by simp))), by unfold PIv at *; rw [q830, q831, q832]; omega, (((FA.rfl.put).trans (FA.of F818 (by decide))).trans (FA.of F828 (by decide)))⟩
          · refine tn_iconst dX7_step_393 ?_
            refine tn_goto (tgt := 398) dX7_step_394 (by decide) ?_
            have q833 : σ821.2.1 56 a = σ.2.1 56 a := rc_F F828 (Or.inl (by decide)) (by decide) (rc_F F818 (Or.inl (by decide)) (by decide) (rc_o (by decide) (rfl)))
            have q834 : σ821.2.1 57 a = σ.2.1 57 a := rc_F F828 (Or.inl (by decide)) (by decide) (rc_F F818 (Or.inl (by decide)) (by decide) (rc_o (by decide) (rfl)))
            have q835 : σ821.2.1 58 a = σ.2.1 58 a := rc_F F828 (Or.inl (by decide)) (by decide) (rc_F F818 (Or.inl (by decide)) (by decide) (rc_o (by decide) (rfl)))
            exact tn_zret (v := 1) rfl (by decide) dX7_step_398 ⟨_, rfl, rfl, w827, (((FrC.rfl.put (by decide) (by decide)).trans (FrC.sub F818 (by decide))).trans (FrC.sub F828 (by decide))), by omega, (((CHX.rfl.fld (by simp) (by decide)).trans (CHX.sub f815 (by simp) (by simp) (by simp))).trans (CHX.sub f824 (by simp) (by simp) (by simp))), by unfold PIv at *; rw [q833, q834, q835]; omega, (((FA.rfl.put).trans (FA.of F818 (by decide))).trans (FA.of F828 (by decide)))⟩
        · have h836 : v61 = -1 ∨ v61 = 0 ∨ v61 = 1 ∨ v61 = 2 ∨ v61 = 3 ∨ v61 = 4 ∨ v61 = 5 ∨ v61 = 6 ∨ v61 = 7 ∨ v61 = 8 ∨ v61 = 9 ∨ v61 = 10 ∨ v61 = 11 ∨ v61 = 12 ∨ v61 = 13 ∨ v61 = 14 ∨ v61 = 15 := by omega
          rcases h836 with h836 | h836 | h836 | h836 | h836 | h836 | h836 | h836 | h836 | h836 | h836 | h836 | h836 | h836 | h836 | h836 | h836
          · refine tn_tableIn (tgt := 362) (off := 294) dX7_step_68 (x := v61) ⟨by omega, by omega⟩ (by omega) (by omega) (by rw [h836]; rfl) (by decide) ?_
            refine tn_aload_n dX7_step_362 rfl 3 rfl ?_
            refine tn_iconst dX7_step_363 ?_
            obtain ⟨hk839, hl840⟩ : AR T xa 15 9 9 := ar_of (wf_59 hw ha) hxa
            have hk839i : IA T xa := by unfold IA; omega
            obtain ⟨hk843, hl844⟩ : AR T xb 1 9 9 := ar_of (wf_60 hw ha) hxb
            have hk843i : IA T xb := by unfold IA; omega
            obtain ⟨hl848, hk847a, hk847b⟩ := ex_at (wf_61 hw ha) hxc
            have hk847 : (T xc).1 = 14 := hk847a (by omega)
            clear hk847a hk847b
            have hk847i : IA T xc := by unfold IA; omega
            obtain ⟨hk851, hl852⟩ : AR T xd 1 108 108 := ar_of (wf_62 hw ha) hxd
            have hk851i : IA T xd := by unfold IA; omega
            obtain ⟨hk855, hl856⟩ : AR T xe 1 1728 1728 := ar_of (wf_63 hw ha) hxe
            have hk855i : IA T xe := by unfold IA; omega
            obtain ⟨hk859, hl860⟩ : AR T xf 1 200 200 := ar_of (wf_64 hw ha) hxf
            have hk859i : IA T xf := by unfold IA; omega
            refine tn_callV (M := m_X7_step) (pc := 364) (ix := 123) (ci := 7) (M' := m_X7_giveBack) (As := [.int (iI 0)]) (rest := []) dX7_step_364 ok_X7_giveBack im_X7_giveBack se_X7_giveBack ml7_123 np_X7_giveBack rfl rfl ha rfl (Nat.le_of_ble_eq_true rfl) (Nat.le_of_ble_eq_true rfl) rfl (k_X7_giveBack_h57 (d + 1) (T := T) (σ := (sA 67 a (z782) σ)) (a := a) (n := 0) (xa := xa) (xb := xb) (xc := xc) (xd := xd) (xe := xe) (xf := xf) ha hta (by decide) (hw.put (by decide) (by decide) (fo_67 (by omega))) (rc_o (by decide) (hxa)) (rc_o (by decide) (hxb)) (rc_o (by decide) (hxc)) (rc_o (by decide) (hxd)) (rc_o (by decide) (hxe)) (rc_o (by decide) (hxf)) (by rw [show (sA 67 a (z782) σ).2.1 58 a = σ.2.1 58 a from rc_o (by decide) (rfl), show (sA 67 a (z782) σ).2.1 57 a = σ.2.1 57 a from rc_o (by decide) (rfl)]; omega)) (fun r861 T863 σ862 gt864 hp => ?_)
            obtain ⟨rfl, rfl, w869, F870, f865, f866, f867⟩ := hp
            clear gt864
            show Tn _ _ 367 T σ862 [(3, .int (iI z784)), (2, .int (iI v61)), (1, .int (iI v6)), (0, .ref a)] [] _
            refine tn_iconst dX7_step_367 ?_
            have q871 : σ862.2.1 56 a = σ862.2.1 56 a := rfl
            have q872 : σ862.2.1 57 a = σ862.2.1 57 a := rfl
            have q873 : σ862.2.1 58 a = σ862.2.1 58 a := rfl
            exact tn_zret (v := 0) rfl (by decide) dX7_step_368 ⟨_, rfl, rfl, w869, ((FrC.rfl.put (by decide) (by decide)).trans (FrC.sub F870 (by decide))), by omega, ((CHX.rfl.fld (by simp) (by decide)).trans (CHX.sub f865 (by simp) (by simp) (by simp))), by unfold PIv at *; rw [q871, q872, q873]; omega, ((FA.rfl.put).trans f867)⟩
          · refine tn_tableIn (tgt := 369) (off := 301) dX7_step_68 (x := v61) ⟨by omega, by omega⟩ (by omega) (by omega) (by rw [h836]; rfl) (by decide) ?_
            refine tn_aload_n dX7_step_369 rfl 3 rfl ?_
            refine tn_iload_n dX7_step_370 rfl 2 rfl ?_
            refine tn_iload_n dX7_step_371 rfl 1 rfl ?_
            obtain ⟨hk876, hl877⟩ : AR T xa 15 9 9 := ar_of (wf_59 hw ha) hxa
            have hk876i : IA T xa := by unfold IA; omega
            obtain ⟨hk880, hl881⟩ : AR T xb 1 9 9 := ar_of (wf_60 hw ha) hxb
            have hk880i : IA T xb := by unfold IA; omega
            obtain ⟨hl885, hk884a, hk884b⟩ := ex_at (wf_61 hw ha) hxc
            have hk884 : (T xc).1 = 14 := hk884a (by omega)
            clear hk884a hk884b
            have hk884i : IA T xc := by unfold IA; omega
            obtain ⟨hk888, hl889⟩ : AR T xd 1 108 108 := ar_of (wf_62 hw ha) hxd
            have hk888i : IA T xd := by unfold IA; omega
            obtain ⟨hk892, hl893⟩ : AR T xe 1 1728 1728 := ar_of (wf_63 hw ha) hxe
            have hk892i : IA T xe := by unfold IA; omega
            obtain ⟨hk896, hl897⟩ : AR T xf 1 200 200 := ar_of (wf_64 hw ha) hxf
            have hk896i : IA T xf := by unfold IA; omega
            refine tn_callV (M := m_X7_step) (pc := 372) (ix := 129) (ci := 7) (M' := m_X7_reckonAt) (As := [.int (iI v6), .int (iI v61)]) (rest := []) dX7_step_372 ok_X7_reckonAt im_X7_reckonAt se_X7_reckonAt ml7_129 np_X7_reckonAt rfl rfl ha rfl (Nat.le_of_ble_eq_true rfl) (Nat.le_of_ble_eq_true rfl) rfl (k_X7_reckonAt_h (d + 1) (T := T) (σ := (sA 67 a (z782) σ)) (a := a) (k := v6) (e := v61) (xa := xa) (xb := xb) (xc := xc) (xd := xd) (xe := xe) (xf := xf) ha (by omega) (by omega) (hw.put (by decide) (by decide) (fo_67 (by omega))) (rc_o (by decide) (hxa)) (rc_o (by decide) (hxb)) (rc_o (by decide) (hxc)) (rc_o (by decide) (hxd)) (rc_o (by decide) (hxe)) (rc_o (by decide) (hxf)) (by rw [show (sA 67 a (z782) σ).2.1 69 a = _ from rc_o (by decide) (hx7)]; omega)) (fun r898 T900 σ899 gt901 hp => ?_)
            obtain ⟨rfl, rfl, w904, F905, f902⟩ := hp
            clear gt901
            show Tn _ _ 375 T σ899 [(3, .int (iI z784)), (2, .int (iI v61)), (1, .int (iI v6)), (0, .ref a)] [] _
            refine tn_aload_n dX7_step_375 rfl 3 rfl ?_
            refine tn_getR (ci := 7) (i := 5) (n := 60) (x := xb) dX7_step_376 rfl lay_7 (by decide) fl7_15 ha rfl rfl (rc_F F905 (Or.inl (by decide)) (by decide) (rc_o (by decide) (hxb))) ?_
            refine tn_aload_n dX7_step_379 rfl 3 rfl ?_
            refine tn_getI (ci := 7) (i := 2) (n := 57) (t := σ.2.1 57 a) dX7_step_380 rfl lay_7 (by decide) fl7_65 ha rfl rfl (rc_F F905 (Or.inl (by decide)) (by decide) (rc_o (by decide) (rfl))) ?_
            have g906 : ((0 : Int) ≤ σ.2.1 57 a ∧ σ.2.1 57 a ≤ 11184800) ∧ ((T a).1 = 57 → σ.2.1 57 a ≤ 8) := wf_57 hw ha
            have g906x := g906.2
            replace g906 := g906.1
            have g906x := g906x hta
            refine tn_iload_n dX7_step_383 rfl 0 rfl ?_
            refine tn_callSN (M := m_X7_step) (pc := 384) (ix := 61) (M' := m_X11_put) (As := [.ref xb, .int (iI (σ.2.1 57 a)), .int (iI z784)]) (rest := []) dX7_step_384 ok_X11_put stt_X11_put nl7_61 np_X11_put rfl (Nat.le_of_ble_eq_true rfl) (Nat.le_of_ble_eq_true rfl) rfl (k_X11_put_x (d + 3) (T := T) (σ := σ899) (x := xb) (i := σ.2.1 57 a) (y := z784) hk880i (by omega) (by omega) (by omega) w904 (nh_k hk880 (by unfold HT; omega)) (vok_1 (by have q9 := hk880; omega) (by omega))) (fun r907 T909 σ908 gt910 hp => ?_)
            obtain ⟨rfl, rfl, w914, F915, f911, f912⟩ := hp
            clear gt910
            show Tn _ _ 387 T σ908 [(3, .int (iI z784)), (2, .int (iI v61)), (1, .int (iI v6)), (0, .ref a)] [] _
            refine tn_iload_n dX7_step_387 rfl 1 rfl ?_
            refine tn_bipush dX7_step_388 (by decide) ?_
            refine tn_icmp_ne (tgt := 397) dX7_step_390 (by decide) ⟨by omega, by omega⟩ ⟨by decide, by decide⟩ (fun h916 => ?_) (fun h916 => absurd h916 (by omega))
            refine tn_iconst dX7_step_397 ?_
            have q917 : σ908.2.1 56 a = σ.2.1 56 a := rc_F F915 (Or.inl (by decide)) (by decide) (rc_F F905 (Or.inl (by decide)) (by decide) (rc_o (by decide) (rfl)))
            have q918 : σ908.2.1 57 a = σ.2.1 57 a := rc_F F915 (Or.inl (by decide)) (by decide) (rc_F F905 (Or.inl (by decide)) (by decide) (rc_o (by decide) (rfl)))
            have q919 : σ908.2.1 58 a = σ.2.1 58 a := rc_F F915 (Or.inl (by decide)) (by decide) (rc_F F905 (Or.inl (by decide)) (by decide) (rc_o (by decide) (rfl)))
            exact tn_zret (v := 0) rfl (by decide) dX7_step_398 ⟨_, rfl, rfl, w914, (((FrC.rfl.put (by decide) (by decide)).trans (FrC.sub F905 (by decide))).trans (FrC.sub F915 (by decide))), by omega, (((CHX.rfl.fld (by simp) (by decide)).trans (CHX.sub f902 (by simp) (by simp) (by simp))).trans (CHX.sub f911 (by simp) (by simp) (by simp))), by unfold PIv at *; rw [q917, q918, q919]; omega, (((FA.rfl.put).trans (FA.of F905 (by decide))).trans (FA.of F915 (by decide)))⟩
          · refine tn_tableIn (tgt := 369) (off := 301) dX7_step_68 (x := v61) ⟨by omega, by omega⟩ (by omega) (by omega) (by rw [h836]; rfl) (by decide) ?_
            refine tn_aload_n dX7_step_369 rfl 3 rfl ?_
            refine tn_iload_n dX7_step_370 rfl 2 rfl ?_
            refine tn_iload_n dX7_step_371 rfl 1 rfl ?_
            obtain ⟨hk922, hl923⟩ : AR T xa 15 9 9 := ar_of (wf_59 hw ha) hxa
            have hk922i : IA T xa := by unfold IA; omega
            obtain ⟨hk926, hl927⟩ : AR T xb 1 9 9 := ar_of (wf_60 hw ha) hxb
            have hk926i : IA T xb := by unfold IA; omega
            obtain ⟨hl931, hk930a, hk930b⟩ := ex_at (wf_61 hw ha) hxc
            have hk930 : (T xc).1 = 14 := hk930a (by omega)
            clear hk930a hk930b
            have hk930i : IA T xc := by unfold IA; omega
            obtain ⟨hk934, hl935⟩ : AR T xd 1 108 108 := ar_of (wf_62 hw ha) hxd
            have hk934i : IA T xd := by unfold IA; omega
            obtain ⟨hk938, hl939⟩ : AR T xe 1 1728 1728 := ar_of (wf_63 hw ha) hxe
            have hk938i : IA T xe := by unfold IA; omega
            obtain ⟨hk942, hl943⟩ : AR T xf 1 200 200 := ar_of (wf_64 hw ha) hxf
            have hk942i : IA T xf := by unfold IA; omega
            refine tn_callV (M := m_X7_step) (pc := 372) (ix := 129) (ci := 7) (M' := m_X7_reckonAt) (As := [.int (iI v6), .int (iI v61)]) (rest := []) dX7_step_372 ok_X7_reckonAt im_X7_reckonAt se_X7_reckonAt ml7_129 np_X7_reckonAt rfl rfl ha rfl (Nat.le_of_ble_eq_true rfl) (Nat.le_of_ble_eq_true rfl) rfl (k_X7_reckonAt_h (d + 1) (T := T) (σ := (sA 67 a (z782) σ)) (a := a) (k := v6) (e := v61) (xa := xa) (xb := xb) (xc := xc) (xd := xd) (xe := xe) (xf := xf) ha (by omega) (by omega) (hw.put (by decide) (by decide) (fo_67 (by omega))) (rc_o (by decide) (hxa)) (rc_o (by decide) (hxb)) (rc_o (by decide) (hxc)) (rc_o (by decide) (hxd)) (rc_o (by decide) (hxe)) (rc_o (by decide) (hxf)) (by rw [show (sA 67 a (z782) σ).2.1 69 a = _ from rc_o (by decide) (hx7)]; omega)) (fun r944 T946 σ945 gt947 hp => ?_)
            obtain ⟨rfl, rfl, w950, F951, f948⟩ := hp
            clear gt947
            show Tn _ _ 375 T σ945 [(3, .int (iI z784)), (2, .int (iI v61)), (1, .int (iI v6)), (0, .ref a)] [] _
            refine tn_aload_n dX7_step_375 rfl 3 rfl ?_
            refine tn_getR (ci := 7) (i := 5) (n := 60) (x := xb) dX7_step_376 rfl lay_7 (by decide) fl7_15 ha rfl rfl (rc_F F951 (Or.inl (by decide)) (by decide) (rc_o (by decide) (hxb))) ?_
            refine tn_aload_n dX7_step_379 rfl 3 rfl ?_
            refine tn_getI (ci := 7) (i := 2) (n := 57) (t := σ.2.1 57 a) dX7_step_380 rfl lay_7 (by decide) fl7_65 ha rfl rfl (rc_F F951 (Or.inl (by decide)) (by decide) (rc_o (by decide) (rfl))) ?_
            have g952 : ((0 : Int) ≤ σ.2.1 57 a ∧ σ.2.1 57 a ≤ 11184800) ∧ ((T a).1 = 57 → σ.2.1 57 a ≤ 8) := wf_57 hw ha
            have g952x := g952.2
            replace g952 := g952.1
            have g952x := g952x hta
            refine tn_iload_n dX7_step_383 rfl 0 rfl ?_
            refine tn_callSN (M := m_X7_step) (pc := 384) (ix := 61) (M' := m_X11_put) (As := [.ref xb, .int (iI (σ.2.1 57 a)), .int (iI z784)]) (rest := []) dX7_step_384 ok_X11_put stt_X11_put nl7_61 np_X11_put rfl (Nat.le_of_ble_eq_true rfl) (Nat.le_of_ble_eq_true rfl) rfl (k_X11_put_x (d + 3) (T := T) (σ := σ945) (x := xb) (i := σ.2.1 57 a) (y := z784) hk926i (by omega) (by omega) (by omega) w950 (nh_k hk926 (by unfold HT; omega)) (vok_1 (by have q9 := hk926; omega) (by omega))) (fun r953 T955 σ954 gt956 hp => ?_)
            obtain ⟨rfl, rfl, w960, F961, f957, f958⟩ := hp
            clear gt956
            show Tn _ _ 387 T σ954 [(3, .int (iI z784)), (2, .int (iI v61)), (1, .int (iI v6)), (0, .ref a)] [] _
            refine tn_iload_n dX7_step_387 rfl 1 rfl ?_
            refine tn_bipush dX7_step_388 (by decide) ?_
            refine tn_icmp_ne (tgt := 397) dX7_step_390 (by decide) ⟨by omega, by omega⟩ ⟨by decide, by decide⟩ (fun h962 => ?_) (fun h962 => absurd h962 (by omega))
            refine tn_iconst dX7_step_397 ?_
            have q963 : σ954.2.1 56 a = σ.2.1 56 a := rc_F F961 (Or.inl (by decide)) (by decide) (rc_F F951 (Or.inl (by decide)) (by decide) (rc_o (by decide) (rfl)))
            have q964 : σ954.2.1 57 a = σ.2.1 57 a := rc_F F961 (Or.inl (by decide)) (by decide) (rc_F F951 (Or.inl (by decide)) (by decide) (rc_o (by decide) (rfl)))
            have q965 : σ954.2.1 58 a = σ.2.1 58 a := rc_F F961 (Or.inl (by decide)) (by decide) (rc_F F951 (Or.inl (by decide)) (by decide) (rc_o (by decide) (rfl)))
            exact tn_zret (v := 0) rfl (by decide) dX7_step_398 ⟨_, rfl, rfl, w960, (((FrC.rfl.put (by decide) (by decide)).trans (FrC.sub F951 (by decide))).trans (FrC.sub F961 (by decide))), by omega, (((CHX.rfl.fld (by simp) (by decide)).trans (CHX.sub f948 (by simp) (by simp) (by simp))).trans (CHX.sub f957 (by simp) (by simp) (by simp))), by unfold PIv at *; rw [q963, q964, q965]; omega, (((FA.rfl.put).trans (FA.of F951 (by decide))).trans (FA.of F961 (by decide)))⟩
          · refine tn_tableIn (tgt := 369) (off := 301) dX7_step_68 (x := v61) ⟨by omega, by omega⟩ (by omega) (by omega) (by rw [h836]; rfl) (by decide) ?_
            refine tn_aload_n dX7_step_369 rfl 3 rfl ?_
            refine tn_iload_n dX7_step_370 rfl 2 rfl ?_
            refine tn_iload_n dX7_step_371 rfl 1 rfl ?_
            obtain ⟨hk968, hl969⟩ : AR T xa 15 9 9 := ar_of (wf_59 hw ha) hxa
            have hk968i : IA T xa := by unfold IA; omega
            obtain ⟨hk972, hl973⟩ : AR T xb 1 9 9 := ar_of (wf_60 hw ha) hxb
            have hk972i : IA T xb := by unfold IA; omega
            obtain ⟨hl977, hk976a, hk976b⟩ := ex_at (wf_61 hw ha) hxc
            have hk976 : (T xc).1 = 14 := hk976a (by omega)
            clear hk976a hk976b
            have hk976i : IA T xc := by unfold IA; omega
            obtain ⟨hk980, hl981⟩ : AR T xd 1 108 108 := ar_of (wf_62 hw ha) hxd
            have hk980i : IA T xd := by unfold IA; omega
            obtain ⟨hk984, hl985⟩ : AR T xe 1 1728 1728 := ar_of (wf_63 hw ha) hxe
            have hk984i : IA T xe := by unfold IA; omega
            obtain ⟨hk988, hl989⟩ : AR T xf 1 200 200 := ar_of (wf_64 hw ha) hxf
            have hk988i : IA T xf := by unfold IA; omega
            refine tn_callV (M := m_X7_step) (pc := 372) (ix := 129) (ci := 7) (M' := m_X7_reckonAt) (As := [.int (iI v6), .int (iI v61)]) (rest := []) dX7_step_372 ok_X7_reckonAt im_X7_reckonAt se_X7_reckonAt ml7_129 np_X7_reckonAt rfl rfl ha rfl (Nat.le_of_ble_eq_true rfl) (Nat.le_of_ble_eq_true rfl) rfl (k_X7_reckonAt_h (d + 1) (T := T) (σ := (sA 67 a (z782) σ)) (a := a) (k := v6) (e := v61) (xa := xa) (xb := xb) (xc := xc) (xd := xd) (xe := xe) (xf := xf) ha (by omega) (by omega) (hw.put (by decide) (by decide) (fo_67 (by omega))) (rc_o (by decide) (hxa)) (rc_o (by decide) (hxb)) (rc_o (by decide) (hxc)) (rc_o (by decide) (hxd)) (rc_o (by decide) (hxe)) (rc_o (by decide) (hxf)) (by rw [show (sA 67 a (z782) σ).2.1 69 a = _ from rc_o (by decide) (hx7)]; omega)) (fun r990 T992 σ991 gt993 hp => ?_)
            obtain ⟨rfl, rfl, w996, F997, f994⟩ := hp
            clear gt993
            show Tn _ _ 375 T σ991 [(3, .int (iI z784)), (2, .int (iI v61)), (1, .int (iI v6)), (0, .ref a)] [] _
            refine tn_aload_n dX7_step_375 rfl 3 rfl ?_
            refine tn_getR (ci := 7) (i := 5) (n := 60) (x := xb) dX7_step_376 rfl lay_7 (by decide) fl7_15 ha rfl rfl (rc_F F997 (Or.inl (by decide)) (by decide) (rc_o (by decide) (hxb))) ?_
            refine tn_aload_n dX7_step_379 rfl 3 rfl ?_
            refine tn_getI (ci := 7) (i := 2) (n := 57) (t := σ.2.1 57 a) dX7_step_380 rfl lay_7 (by decide) fl7_65 ha rfl rfl (rc_F F997 (Or.inl (by decide)) (by decide) (rc_o (by decide) (rfl))) ?_
            have g998 : ((0 : Int) ≤ σ.2.1 57 a ∧ σ.2.1 57 a ≤ 11184800) ∧ ((T a).1 = 57 → σ.2.1 57 a ≤ 8) := wf_57 hw ha
            have g998x := g998.2
            replace g998 := g998.1
            have g998x := g998x hta
            refine tn_iload_n dX7_step_383 rfl 0 rfl ?_
            refine tn_callSN (M := m_X7_step) (pc := 384) (ix := 61) (M' := m_X11_put) (As := [.ref xb, .int (iI (σ.2.1 57 a)), .int (iI z784)]) (rest := []) dX7_step_384 ok_X11_put stt_X11_put nl7_61 np_X11_put rfl (Nat.le_of_ble_eq_true rfl) (Nat.le_of_ble_eq_true rfl) rfl (k_X11_put_x (d + 3) (T := T) (σ := σ991) (x := xb) (i := σ.2.1 57 a) (y := z784) hk972i (by omega) (by omega) (by omega) w996 (nh_k hk972 (by unfold HT; omega)) (vok_1 (by have q9 := hk972; omega) (by omega))) (fun r999 T1001 σ1000 gt1002 hp => ?_)
            obtain ⟨rfl, rfl, w1006, F1007, f1003, f1004⟩ := hp
            clear gt1002
            show Tn _ _ 387 T σ1000 [(3, .int (iI z784)), (2, .int (iI v61)), (1, .int (iI v6)), (0, .ref a)] [] _
            refine tn_iload_n dX7_step_387 rfl 1 rfl ?_
            refine tn_bipush dX7_step_388 (by decide) ?_
            refine tn_icmp_ne (tgt := 397) dX7_step_390 (by decide) ⟨by omega, by omega⟩ ⟨by decide, by decide⟩ (fun h1008 => ?_) (fun h1008 => absurd h1008 (by omega))
            refine tn_iconst dX7_step_397 ?_
            have q1009 : σ1000.2.1 56 a = σ.2.1 56 a := rc_F F1007 (Or.inl (by decide)) (by decide) (rc_F F997 (Or.inl (by decide)) (by decide) (rc_o (by decide) (rfl)))
            have q1010 : σ1000.2.1 57 a = σ.2.1 57 a := rc_F F1007 (Or.inl (by decide)) (by decide) (rc_F F997 (Or.inl (by decide)) (by decide) (rc_o (by decide) (rfl)))
            have q1011 : σ1000.2.1 58 a = σ.2.1 58 a := rc_F F1007 (Or.inl (by decide)) (by decide) (rc_F F997 (Or.inl (by decide)) (by decide) (rc_o (by decide) (rfl)))
            exact tn_zret (v := 0) rfl (by decide) dX7_step_398 ⟨_, rfl, rfl, w1006, (((FrC.rfl.put (by decide) (by decide)).trans (FrC.sub F997 (by decide))).trans (FrC.sub F1007 (by decide))), by omega, (((CHX.rfl.fld (by simp) (by decide)).trans (CHX.sub f994 (by simp) (by simp) (by simp))).trans (CHX.sub f1003 (by simp) (by simp) (by simp))), by unfold PIv at *; rw [q1009, q1010, q1011]; omega, (((FA.rfl.put).trans (FA.of F997 (by decide))).trans (FA.of F1007 (by decide)))⟩
          · refine tn_tableIn (tgt := 369) (off := 301) dX7_step_68 (x := v61) ⟨by omega, by omega⟩ (by omega) (by omega) (by rw [h836]; rfl) (by decide) ?_
            refine tn_aload_n dX7_step_369 rfl 3 rfl ?_
            refine tn_iload_n dX7_step_370 rfl 2 rfl ?_
            refine tn_iload_n dX7_step_371 rfl 1 rfl ?_
            obtain ⟨hk1014, hl1015⟩ : AR T xa 15 9 9 := ar_of (wf_59 hw ha) hxa
            have hk1014i : IA T xa := by unfold IA; omega
            obtain ⟨hk1018, hl1019⟩ : AR T xb 1 9 9 := ar_of (wf_60 hw ha) hxb
            have hk1018i : IA T xb := by unfold IA; omega
            obtain ⟨hl1023, hk1022a, hk1022b⟩ := ex_at (wf_61 hw ha) hxc
            have hk1022 : (T xc).1 = 14 := hk1022a (by omega)
            clear hk1022a hk1022b
            have hk1022i : IA T xc := by unfold IA; omega
            obtain ⟨hk1026, hl1027⟩ : AR T xd 1 108 108 := ar_of (wf_62 hw ha) hxd
            have hk1026i : IA T xd := by unfold IA; omega
            obtain ⟨hk1030, hl1031⟩ : AR T xe 1 1728 1728 := ar_of (wf_63 hw ha) hxe
            have hk1030i : IA T xe := by unfold IA; omega
            obtain ⟨hk1034, hl1035⟩ : AR T xf 1 200 200 := ar_of (wf_64 hw ha) hxf
            have hk1034i : IA T xf := by unfold IA; omega
            refine tn_callV (M := m_X7_step) (pc := 372) (ix := 129) (ci := 7) (M' := m_X7_reckonAt) (As := [.int (iI v6), .int (iI v61)]) (rest := []) dX7_step_372 ok_X7_reckonAt im_X7_reckonAt se_X7_reckonAt ml7_129 np_X7_reckonAt rfl rfl ha rfl (Nat.le_of_ble_eq_true rfl) (Nat.le_of_ble_eq_true rfl) rfl (k_X7_reckonAt_h (d + 1) (T := T) (σ := (sA 67 a (z782) σ)) (a := a) (k := v6) (e := v61) (xa := xa) (xb := xb) (xc := xc) (xd := xd) (xe := xe) (xf := xf) ha (by omega) (by omega) (hw.put (by decide) (by decide) (fo_67 (by omega))) (rc_o (by decide) (hxa)) (rc_o (by decide) (hxb)) (rc_o (by decide) (hxc)) (rc_o (by decide) (hxd)) (rc_o (by decide) (hxe)) (rc_o (by decide) (hxf)) (by rw [show (sA 67 a (z782) σ).2.1 69 a = _ from rc_o (by decide) (hx7)]; omega)) (fun r1036 T1038 σ1037 gt1039 hp => ?_)
            obtain ⟨rfl, rfl, w1042, F1043, f1040⟩ := hp
            clear gt1039
            show Tn _ _ 375 T σ1037 [(3, .int (iI z784)), (2, .int (iI v61)), (1, .int (iI v6)), (0, .ref a)] [] _
            refine tn_aload_n dX7_step_375 rfl 3 rfl ?_
            refine tn_getR (ci := 7) (i := 5) (n := 60) (x := xb) dX7_step_376 rfl lay_7 (by decide) fl7_15 ha rfl rfl (rc_F F1043 (Or.inl (by decide)) (by decide) (rc_o (by decide) (hxb))) ?_
            refine tn_aload_n dX7_step_379 rfl 3 rfl ?_
            refine tn_getI (ci := 7) (i := 2) (n := 57) (t := σ.2.1 57 a) dX7_step_380 rfl lay_7 (by decide) fl7_65 ha rfl rfl (rc_F F1043 (Or.inl (by decide)) (by decide) (rc_o (by decide) (rfl))) ?_
            have g1044 : ((0 : Int) ≤ σ.2.1 57 a ∧ σ.2.1 57 a ≤ 11184800) ∧ ((T a).1 = 57 → σ.2.1 57 a ≤ 8) := wf_57 hw ha
            have g1044x := g1044.2
            replace g1044 := g1044.1
            have g1044x := g1044x hta
            refine tn_iload_n dX7_step_383 rfl 0 rfl ?_
            refine tn_callSN (M := m_X7_step) (pc := 384) (ix := 61) (M' := m_X11_put) (As := [.ref xb, .int (iI (σ.2.1 57 a)), .int (iI z784)]) (rest := []) dX7_step_384 ok_X11_put stt_X11_put nl7_61 np_X11_put rfl (Nat.le_of_ble_eq_true rfl) (Nat.le_of_ble_eq_true rfl) rfl (k_X11_put_x (d + 3) (T := T) (σ := σ1037) (x := xb) (i := σ.2.1 57 a) (y := z784) hk1018i (by omega) (by omega) (by omega) w1042 (nh_k hk1018 (by unfold HT; omega)) (vok_1 (by have q9 := hk1018; omega) (by omega))) (fun r1045 T1047 σ1046 gt1048 hp => ?_)
            obtain ⟨rfl, rfl, w1052, F1053, f1049, f1050⟩ := hp
            clear gt1048
            show Tn _ _ 387 T σ1046 [(3, .int (iI z784)), (2, .int (iI v61)), (1, .int (iI v6)), (0, .ref a)] [] _
            refine tn_iload_n dX7_step_387 rfl 1 rfl ?_
            refine tn_bipush dX7_step_388 (by decide) ?_
            refine tn_icmp_ne (tgt := 397) dX7_step_390 (by decide) ⟨by omega, by omega⟩ ⟨by decide, by decide⟩ (fun h1054 => ?_) (fun h1054 => absurd h1054 (by omega))
            refine tn_iconst dX7_step_397 ?_
            have q1055 : σ1046.2.1 56 a = σ.2.1 56 a := rc_F F1053 (Or.inl (by decide)) (by decide) (rc_F F1043 (Or.inl (by decide)) (by decide) (rc_o (by decide) (rfl)))
            have q1056 : σ1046.2.1 57 a = σ.2.1 57 a := rc_F F1053 (Or.inl (by decide)) (by decide) (rc_F F1043 (Or.inl (by decide)) (by decide) (rc_o (by decide) (rfl)))
            have q1057 : σ1046.2.1 58 a = σ.2.1 58 a := rc_F F1053 (Or.inl (by decide)) (by decide) (rc_F F1043 (Or.inl (by decide)) (by decide) (rc_o (by decide) (rfl)))
            exact tn_zret (v := 0) rfl (by decide) dX7_step_398 ⟨_, rfl, rfl, w1052, (((FrC.rfl.put (by decide) (by decide)).trans (FrC.sub F1043 (by decide))).trans (FrC.sub F1053 (by decide))), by omega, (((CHX.rfl.fld (by simp) (by decide)).trans (CHX.sub f1040 (by simp) (by simp) (by simp))).trans (CHX.sub f1049 (by simp) (by simp) (by simp))), by unfold PIv at *; rw [q1055, q1056, q1057]; omega, (((FA.rfl.put).trans (FA.of F1043 (by decide))).trans (FA.of F1053 (by decide)))⟩
          · refine tn_tableIn (tgt := 369) (off := 301) dX7_step_68 (x := v61) ⟨by omega, by omega⟩ (by omega) (by omega) (by rw [h836]; rfl) (by decide) ?_
            refine tn_aload_n dX7_step_369 rfl 3 rfl ?_
            refine tn_iload_n dX7_step_370 rfl 2 rfl ?_
            refine tn_iload_n dX7_step_371 rfl 1 rfl ?_
            obtain ⟨hk1060, hl1061⟩ : AR T xa 15 9 9 := ar_of (wf_59 hw ha) hxa
            have hk1060i : IA T xa := by unfold IA; omega
            obtain ⟨hk1064, hl1065⟩ : AR T xb 1 9 9 := ar_of (wf_60 hw ha) hxb
            have hk1064i : IA T xb := by unfold IA; omega
            obtain ⟨hl1069, hk1068a, hk1068b⟩ := ex_at (wf_61 hw ha) hxc
            have hk1068 : (T xc).1 = 14 := hk1068a (by omega)
            clear hk1068a hk1068b
            have hk1068i : IA T xc := by unfold IA; omega
            obtain ⟨hk1072, hl1073⟩ : AR T xd 1 108 108 := ar_of (wf_62 hw ha) hxd
            have hk1072i : IA T xd := by unfold IA; omega
            obtain ⟨hk1076, hl1077⟩ : AR T xe 1 1728 1728 := ar_of (wf_63 hw ha) hxe
            have hk1076i : IA T xe := by unfold IA; omega
            obtain ⟨hk1080, hl1081⟩ : AR T xf 1 200 200 := ar_of (wf_64 hw ha) hxf
            have hk1080i : IA T xf := by unfold IA; omega
            refine tn_callV (M := m_X7_step) (pc := 372) (ix := 129) (ci := 7) (M' := m_X7_reckonAt) (As := [.int (iI v6), .int (iI v61)]) (rest := []) dX7_step_372 ok_X7_reckonAt im_X7_reckonAt se_X7_reckonAt ml7_129 np_X7_reckonAt rfl rfl ha rfl (Nat.le_of_ble_eq_true rfl) (Nat.le_of_ble_eq_true rfl) rfl (k_X7_reckonAt_h (d + 1) (T := T) (σ := (sA 67 a (z782) σ)) (a := a) (k := v6) (e := v61) (xa := xa) (xb := xb) (xc := xc) (xd := xd) (xe := xe) (xf := xf) ha (by omega) (by omega) (hw.put (by decide) (by decide) (fo_67 (by omega))) (rc_o (by decide) (hxa)) (rc_o (by decide) (hxb)) (rc_o (by decide) (hxc)) (rc_o (by decide) (hxd)) (rc_o (by decide) (hxe)) (rc_o (by decide) (hxf)) (by rw [show (sA 67 a (z782) σ).2.1 69 a = _ from rc_o (by decide) (hx7)]; omega)) (fun r1082 T1084 σ1083 gt1085 hp => ?_)
            obtain ⟨rfl, rfl, w1088, F1089, f1086⟩ := hp
            clear gt1085
            show Tn _ _ 375 T σ1083 [(3, .int (iI z784)), (2, .int (iI v61)), (1, .int (iI v6)), (0, .ref a)] [] _
            refine tn_aload_n dX7_step_375 rfl 3 rfl ?_
            refine tn_getR (ci := 7) (i := 5) (n := 60) (x := xb) dX7_step_376 rfl lay_7 (by decide) fl7_15 ha rfl rfl (rc_F F1089 (Or.inl (by decide)) (by decide) (rc_o (by decide) (hxb))) ?_
            refine tn_aload_n dX7_step_379 rfl 3 rfl ?_
            refine tn_getI (ci := 7) (i := 2) (n := 57) (t := σ.2.1 57 a) dX7_step_380 rfl lay_7 (by decide) fl7_65 ha rfl rfl (rc_F F1089 (Or.inl (by decide)) (by decide) (rc_o (by decide) (rfl))) ?_
            have g1090 : ((0 : Int) ≤ σ.2.1 57 a ∧ σ.2.1 57 a ≤ 11184800) ∧ ((T a).1 = 57 → σ.2.1 57 a ≤ 8) := wf_57 hw ha
            have g1090x := g1090.2
            replace g1090 := g1090.1
            have g1090x := g1090x hta
            refine tn_iload_n dX7_step_383 rfl 0 rfl ?_
            refine tn_callSN (M := m_X7_step) (pc := 384) (ix := 61) (M' := m_X11_put) (As := [.ref xb, .int (iI (σ.2.1 57 a)), .int (iI z784)]) (rest := []) dX7_step_384 ok_X11_put stt_X11_put nl7_61 np_X11_put rfl (Nat.le_of_ble_eq_true rfl) (Nat.le_of_ble_eq_true rfl) rfl (k_X11_put_x (d + 3) (T := T) (σ := σ1083) (x := xb) (i := σ.2.1 57 a) (y := z784) hk1064i (by omega) (by omega) (by omega) w1088 (nh_k hk1064 (by unfold HT; omega)) (vok_1 (by have q9 := hk1064; omega) (by omega))) (fun r1091 T1093 σ1092 gt1094 hp => ?_)
            obtain ⟨rfl, rfl, w1098, F1099, f1095, f1096⟩ := hp
            clear gt1094
            show Tn _ _ 387 T σ1092 [(3, .int (iI z784)), (2, .int (iI v61)), (1, .int (iI v6)), (0, .ref a)] [] _
            refine tn_iload_n dX7_step_387 rfl 1 rfl ?_
            refine tn_bipush dX7_step_388 (by decide) ?_
            refine tn_icmp_ne (tgt := 397) dX7_step_390 (by decide) ⟨by omega, by omega⟩ ⟨by decide, by decide⟩ (fun h1100 => ?_) (fun h1100 => absurd h1100 (by omega))
            refine tn_iconst dX7_step_397 ?_
            have q1101 : σ1092.2.1 56 a = σ.2.1 56 a := rc_F F1099 (Or.inl (by decide)) (by decide) (rc_F F1089 (Or.inl (by decide)) (by decide) (rc_o (by decide) (rfl)))
            have q1102 : σ1092.2.1 57 a = σ.2.1 57 a := rc_F F1099 (Or.inl (by decide)) (by decide) (rc_F F1089 (Or.inl (by decide)) (by decide) (rc_o (by decide) (rfl)))
            have q1103 : σ1092.2.1 58 a = σ.2.1 58 a := rc_F F1099 (Or.inl (by decide)) (by decide) (rc_F F1089 (Or.inl (by decide)) (by decide) (rc_o (by decide) (rfl)))
            exact tn_zret (v := 0) rfl (by decide) dX7_step_398 ⟨_, rfl, rfl, w1098, (((FrC.rfl.put (by decide) (by decide)).trans (FrC.sub F1089 (by decide))).trans (FrC.sub F1099 (by decide))), by omega, (((CHX.rfl.fld (by simp) (by decide)).trans (CHX.sub f1086 (by simp) (by simp) (by simp))).trans (CHX.sub f1095 (by simp) (by simp) (by simp))), by unfold PIv at *; rw [q1101, q1102, q1103]; omega, (((FA.rfl.put).trans (FA.of F1089 (by decide))).trans (FA.of F1099 (by decide)))⟩
          · refine tn_tableIn (tgt := 369) (off := 301) dX7_step_68 (x := v61) ⟨by omega, by omega⟩ (by omega) (by omega) (by rw [h836]; rfl) (by decide) ?_
            refine tn_aload_n dX7_step_369 rfl 3 rfl ?_
            refine tn_iload_n dX7_step_370 rfl 2 rfl ?_
            refine tn_iload_n dX7_step_371 rfl 1 rfl ?_
            obtain ⟨hk1106, hl1107⟩ : AR T xa 15 9 9 := ar_of (wf_59 hw ha) hxa
            have hk1106i : IA T xa := by unfold IA; omega
            obtain ⟨hk1110, hl1111⟩ : AR T xb 1 9 9 := ar_of (wf_60 hw ha) hxb
            have hk1110i : IA T xb := by unfold IA; omega
            obtain ⟨hl1115, hk1114a, hk1114b⟩ := ex_at (wf_61 hw ha) hxc
            have hk1114 : (T xc).1 = 14 := hk1114a (by omega)
            clear hk1114a hk1114b
            have hk1114i : IA T xc := by unfold IA; omega
            obtain ⟨hk1118, hl1119⟩ : AR T xd 1 108 108 := ar_of (wf_62 hw ha) hxd
            have hk1118i : IA T xd := by unfold IA; omega
            obtain ⟨hk1122, hl1123⟩ : AR T xe 1 1728 1728 := ar_of (wf_63 hw ha) hxe
            have hk1122i : IA T xe := by unfold IA; omega
            obtain ⟨hk1126, hl1127⟩ : AR T xf 1 200 200 := ar_of (wf_64 hw ha) hxf
            have hk1126i : IA T xf := by unfold IA; omega
            refine tn_callV (M := m_X7_step) (pc := 372) (ix := 129) (ci := 7) (M' := m_X7_reckonAt) (As := [.int (iI v6), .int (iI v61)]) (rest := []) dX7_step_372 ok_X7_reckonAt im_X7_reckonAt se_X7_reckonAt ml7_129 np_X7_reckonAt rfl rfl ha rfl (Nat.le_of_ble_eq_true rfl) (Nat.le_of_ble_eq_true rfl) rfl (k_X7_reckonAt_h (d + 1) (T := T) (σ := (sA 67 a (z782) σ)) (a := a) (k := v6) (e := v61) (xa := xa) (xb := xb) (xc := xc) (xd := xd) (xe := xe) (xf := xf) ha (by omega) (by omega) (hw.put (by decide) (by decide) (fo_67 (by omega))) (rc_o (by decide) (hxa)) (rc_o (by decide) (hxb)) (rc_o (by decide) (hxc)) (rc_o (by decide) (hxd)) (rc_o (by decide) (hxe)) (rc_o (by decide) (hxf)) (by rw [show (sA 67 a (z782) σ).2.1 69 a = _ from rc_o (by decide) (hx7)]; omega)) (fun r1128 T1130 σ1129 gt1131 hp => ?_)
            obtain ⟨rfl, rfl, w1134, F1135, f1132⟩ := hp
            clear gt1131
            show Tn _ _ 375 T σ1129 [(3, .int (iI z784)), (2, .int (iI v61)), (1, .int (iI v6)), (0, .ref a)] [] _
            refine tn_aload_n dX7_step_375 rfl 3 rfl ?_
            refine tn_getR (ci := 7) (i := 5) (n := 60) (x := xb) dX7_step_376 rfl lay_7 (by decide) fl7_15 ha rfl rfl (rc_F F1135 (Or.inl (by decide)) (by decide) (rc_o (by decide) (hxb))) ?_
            refine tn_aload_n dX7_step_379 rfl 3 rfl ?_
            refine tn_getI (ci := 7) (i := 2) (n := 57) (t := σ.2.1 57 a) dX7_step_380 rfl lay_7 (by decide) fl7_65 ha rfl rfl (rc_F F1135 (Or.inl (by decide)) (by decide) (rc_o (by decide) (rfl))) ?_
            have g1136 : ((0 : Int) ≤ σ.2.1 57 a ∧ σ.2.1 57 a ≤ 11184800) ∧ ((T a).1 = 57 → σ.2.1 57 a ≤ 8) := wf_57 hw ha
            have g1136x := g1136.2
            replace g1136 := g1136.1
            have g1136x := g1136x hta
            refine tn_iload_n dX7_step_383 rfl 0 rfl ?_
            refine tn_callSN (M := m_X7_step) (pc := 384) (ix := 61) (M' := m_X11_put) (As := [.ref xb, .int (iI (σ.2.1 57 a)), .int (iI z784)]) (rest := []) dX7_step_384 ok_X11_put stt_X11_put nl7_61 np_X11_put rfl (Nat.le_of_ble_eq_true rfl) (Nat.le_of_ble_eq_true rfl) rfl (k_X11_put_x (d + 3) (T := T) (σ := σ1129) (x := xb) (i := σ.2.1 57 a) (y := z784) hk1110i (by omega) (by omega) (by omega) w1134 (nh_k hk1110 (by unfold HT; omega)) (vok_1 (by have q9 := hk1110; omega) (by omega))) (fun r1137 T1139 σ1138 gt1140 hp => ?_)
            obtain ⟨rfl, rfl, w1144, F1145, f1141, f1142⟩ := hp
            clear gt1140
            show Tn _ _ 387 T σ1138 [(3, .int (iI z784)), (2, .int (iI v61)), (1, .int (iI v6)), (0, .ref a)] [] _
            refine tn_iload_n dX7_step_387 rfl 1 rfl ?_
            refine tn_bipush dX7_step_388 (by decide) ?_
            refine tn_icmp_ne (tgt := 397) dX7_step_390 (by decide) ⟨by omega, by omega⟩ ⟨by decide, by decide⟩ (fun h1146 => ?_) (fun h1146 => absurd h1146 (by omega))
            refine tn_iconst dX7_step_397 ?_
            have q1147 : σ1138.2.1 56 a = σ.2.1 56 a := rc_F F1145 (Or.inl (by decide)) (by decide) (rc_F F1135 (Or.inl (by decide)) (by decide) (rc_o (by decide) (rfl)))
            have q1148 : σ1138.2.1 57 a = σ.2.1 57 a := rc_F F1145 (Or.inl (by decide)) (by decide) (rc_F F1135 (Or.inl (by decide)) (by decide) (rc_o (by decide) (rfl)))
            have q1149 : σ1138.2.1 58 a = σ.2.1 58 a := rc_F F1145 (Or.inl (by decide)) (by decide) (rc_F F1135 (Or.inl (by decide)) (by decide) (rc_o (by decide) (rfl)))
            exact tn_zret (v := 0) rfl (by decide) dX7_step_398 ⟨_, rfl, rfl, w1144, (((FrC.rfl.put (by decide) (by decide)).trans (FrC.sub F1135 (by decide))).trans (FrC.sub F1145 (by decide))), by omega, (((CHX.rfl.fld (by simp) (by decide)).trans (CHX.sub f1132 (by simp) (by simp) (by simp))).trans (CHX.sub f1141 (by simp) (by simp) (by simp))), by unfold PIv at *; rw [q1147, q1148, q1149]; omega, (((FA.rfl.put).trans (FA.of F1135 (by decide))).trans (FA.of F1145 (by decide)))⟩
          · refine tn_tableIn (tgt := 152) (off := 84) dX7_step_68 (x := v61) ⟨by omega, by omega⟩ (by omega) (by omega) (by rw [h836]; rfl) (by decide) ?_
            refine tn_aload_n dX7_step_152 rfl 3 rfl ?_
            refine tn_aload_n dX7_step_153 rfl 3 rfl ?_
            refine tn_iload_n dX7_step_154 rfl 2 rfl ?_
            refine tn_iconst dX7_step_155 ?_
            refine tn_callV (M := m_X7_step) (pc := 156) (ix := 110) (ci := 7) (M' := m_X7_operand) (As := [.int (iI v6), .int (iI 3)]) (rest := [.ref a]) dX7_step_156 ok_X7_operand im_X7_operand se_X7_operand ml7_110 np_X7_operand rfl rfl ha rfl (Nat.le_of_ble_eq_true rfl) (Nat.le_of_ble_eq_true rfl) rfl (k_X7_operand (d + 2) (T := T) (σ := (sA 67 a (z782) σ)) (a := a) (k := v6) (c := 3) ha (by omega) (by decide) (hw.put (by decide) (by decide) (fo_67 (by omega))) (by rw [show (sA 67 a (z782) σ).2.1 69 a = _ from rc_o (by decide) (hx7)]; omega) (by omega)) (fun r1150 T1152 σ1151 gt1153 hp => ?_)
            obtain ⟨v1155, rfl, rfl, rfl, f1154⟩ := hp
            clear gt1153
            show Tn _ _ 159 T (sA 67 a (z782) σ) [(3, .int (iI z784)), (2, .int (iI v61)), (1, .int (iI v6)), (0, .ref a)] [.int (iI v1155), .ref a] _
            obtain ⟨hk1158, hl1159⟩ : AR T xa 15 9 9 := ar_of (wf_59 hw ha) hxa
            have hk1158i : IA T xa := by unfold IA; omega
            obtain ⟨hk1162, hl1163⟩ : AR T xb 1 9 9 := ar_of (wf_60 hw ha) hxb
            have hk1162i : IA T xb := by unfold IA; omega
            obtain ⟨hl1167, hk1166a, hk1166b⟩ := ex_at (wf_61 hw ha) hxc
            have hk1166 : (T xc).1 = 14 := hk1166a (by omega)
            clear hk1166a hk1166b
            have hk1166i : IA T xc := by unfold IA; omega
            obtain ⟨hk1170, hl1171⟩ : AR T xd 1 108 108 := ar_of (wf_62 hw ha) hxd
            have hk1170i : IA T xd := by unfold IA; omega
            obtain ⟨hk1174, hl1175⟩ : AR T xe 1 1728 1728 := ar_of (wf_63 hw ha) hxe
            have hk1174i : IA T xe := by unfold IA; omega
            obtain ⟨hk1178, hl1179⟩ : AR T xf 1 200 200 := ar_of (wf_64 hw ha) hxf
            have hk1178i : IA T xf := by unfold IA; omega
            refine tn_callV (M := m_X7_step) (pc := 159) (ix := 113) (ci := 7) (M' := m_X7_emit) (As := [.int (iI v1155)]) (rest := []) dX7_step_159 ok_X7_emit im_X7_emit se_X7_emit ml7_113 np_X7_emit rfl rfl ha rfl (Nat.le_of_ble_eq_true rfl) (Nat.le_of_ble_eq_true rfl) rfl (k_X7_emit_h (d + 2) (T := T) (σ := (sA 67 a (z782) σ)) (a := a) (p1 := v1155) (xa := xa) (xb := xb) (xc := xc) (xd := xd) (xe := xe) (xf := xf) ha (by omega) (hw.put (by decide) (by decide) (fo_67 (by omega))) (rc_o (by decide) (hxa)) (rc_o (by decide) (hxb)) (rc_o (by decide) (hxc)) (rc_o (by decide) (hxd)) (rc_o (by decide) (hxe)) (rc_o (by decide) (hxf))) (fun r1180 T1182 σ1181 gt1183 hp => ?_)
            obtain ⟨rfl, rfl, w1187, F1188, f1184, f1185⟩ := hp
            clear gt1183
            show Tn _ _ 162 T σ1181 [(3, .int (iI z784)), (2, .int (iI v61)), (1, .int (iI v6)), (0, .ref a)] [] _
            refine tn_goto (tgt := 375) dX7_step_162 (by decide) ?_
            refine tn_aload_n dX7_step_375 rfl 3 rfl ?_
            refine tn_getR (ci := 7) (i := 5) (n := 60) (x := xb) dX7_step_376 rfl lay_7 (by decide) fl7_15 ha rfl rfl (rc_F F1188 (Or.inl (by decide)) (by decide) (rc_o (by decide) (hxb))) ?_
            refine tn_aload_n dX7_step_379 rfl 3 rfl ?_
            refine tn_getI (ci := 7) (i := 2) (n := 57) (t := σ.2.1 57 a) dX7_step_380 rfl lay_7 (by decide) fl7_65 ha rfl rfl (rc_F F1188 (Or.inl (by decide)) (by decide) (rc_o (by decide) (rfl))) ?_
            have g1189 : ((0 : Int) ≤ σ.2.1 57 a ∧ σ.2.1 57 a ≤ 11184800) ∧ ((T a).1 = 57 → σ.2.1 57 a ≤ 8) := wf_57 hw ha
            have g1189x := g1189.2
            replace g1189 := g1189.1
            have g1189x := g1189x hta
            refine tn_iload_n dX7_step_383 rfl 0 rfl ?_
            refine tn_callSN (M := m_X7_step) (pc := 384) (ix := 61) (M' := m_X11_put) (As := [.ref xb, .int (iI (σ.2.1 57 a)), .int (iI z784)]) (rest := []) dX7_step_384 ok_X11_put stt_X11_put nl7_61 np_X11_put rfl (Nat.le_of_ble_eq_true rfl) (Nat.le_of_ble_eq_true rfl) rfl (k_X11_put_x (d + 3) (T := T) (σ := σ1181) (x := xb) (i := σ.2.1 57 a) (y := z784) hk1162i (by omega) (by omega) (by omega) w1187 (nh_k hk1162 (by unfold HT; omega)) (vok_1 (by have q9 := hk1162; omega) (by omega))) (fun r1190 T1192 σ1191 gt1193 hp => ?_)
            obtain ⟨rfl, rfl, w1197, F1198, f1194, f1195⟩ := hp
            clear gt1193
            show Tn _ _ 387 T σ1191 [(3, .int (iI z784)), (2, .int (iI v61)), (1, .int (iI v6)), (0, .ref a)] [] _
            refine tn_iload_n dX7_step_387 rfl 1 rfl ?_
            refine tn_bipush dX7_step_388 (by decide) ?_
            refine tn_icmp_ne (tgt := 397) dX7_step_390 (by decide) ⟨by omega, by omega⟩ ⟨by decide, by decide⟩ (fun h1199 => ?_) (fun h1199 => absurd h1199 (by omega))
            refine tn_iconst dX7_step_397 ?_
            have q1200 : σ1191.2.1 56 a = σ.2.1 56 a := rc_F F1198 (Or.inl (by decide)) (by decide) (rc_F F1188 (Or.inl (by decide)) (by decide) (rc_o (by decide) (rfl)))
            have q1201 : σ1191.2.1 57 a = σ.2.1 57 a := rc_F F1198 (Or.inl (by decide)) (by decide) (rc_F F1188 (Or.inl (by decide)) (by decide) (rc_o (by decide) (rfl)))
            have q1202 : σ1191.2.1 58 a = σ.2.1 58 a := rc_F F1198 (Or.inl (by decide)) (by decide) (rc_F F1188 (Or.inl (by decide)) (by decide) (rc_o (by decide) (rfl)))
            exact tn_zret (v := 0) rfl (by decide) dX7_step_398 ⟨_, rfl, rfl, w1197, (((FrC.rfl.put (by decide) (by decide)).trans (FrC.sub F1188 (by decide))).trans (FrC.sub F1198 (by decide))), by omega, (((CHX.rfl.fld (by simp) (by decide)).trans (CHX.sub f1184 (by simp) (by simp) (by simp))).trans (CHX.sub f1194 (by simp) (by simp) (by simp))), by unfold PIv at *; rw [q1200, q1201, q1202]; omega, (((FA.rfl.put).trans f1185).trans (FA.of F1198 (by decide)))⟩
          · refine tn_tableIn (tgt := 213) (off := 145) dX7_step_68 (x := v61) ⟨by omega, by omega⟩ (by omega) (by omega) (by rw [h836]; rfl) (by decide) ?_
            refine tn_aload_n dX7_step_213 rfl 3 rfl ?_
            refine tn_aload_n dX7_step_214 rfl 3 rfl ?_
            refine tn_iload_n dX7_step_215 rfl 2 rfl ?_
            refine tn_iconst dX7_step_216 ?_
            refine tn_callV (M := m_X7_step) (pc := 217) (ix := 110) (ci := 7) (M' := m_X7_operand) (As := [.int (iI v6), .int (iI 3)]) (rest := [.ref a]) dX7_step_217 ok_X7_operand im_X7_operand se_X7_operand ml7_110 np_X7_operand rfl rfl ha rfl (Nat.le_of_ble_eq_true rfl) (Nat.le_of_ble_eq_true rfl) rfl (k_X7_operand (d + 2) (T := T) (σ := (sA 67 a (z782) σ)) (a := a) (k := v6) (c := 3) ha (by omega) (by decide) (hw.put (by decide) (by decide) (fo_67 (by omega))) (by rw [show (sA 67 a (z782) σ).2.1 69 a = _ from rc_o (by decide) (hx7)]; omega) (by omega)) (fun r1203 T1205 σ1204 gt1206 hp => ?_)
            obtain ⟨v1208, rfl, rfl, rfl, f1207⟩ := hp
            clear gt1206
            show Tn _ _ 220 T (sA 67 a (z782) σ) [(3, .int (iI z784)), (2, .int (iI v61)), (1, .int (iI v6)), (0, .ref a)] [.int (iI v1208), .ref a] _
            obtain ⟨hk1211, hl1212⟩ : AR T xa 15 9 9 := ar_of (wf_59 hw ha) hxa
            have hk1211i : IA T xa := by unfold IA; omega
            obtain ⟨hk1215, hl1216⟩ : AR T xb 1 9 9 := ar_of (wf_60 hw ha) hxb
            have hk1215i : IA T xb := by unfold IA; omega
            obtain ⟨hl1220, hk1219a, hk1219b⟩ := ex_at (wf_61 hw ha) hxc
            have hk1219 : (T xc).1 = 14 := hk1219a (by omega)
            clear hk1219a hk1219b
            have hk1219i : IA T xc := by unfold IA; omega
            obtain ⟨hk1223, hl1224⟩ : AR T xd 1 108 108 := ar_of (wf_62 hw ha) hxd
            have hk1223i : IA T xd := by unfold IA; omega
            obtain ⟨hk1227, hl1228⟩ : AR T xe 1 1728 1728 := ar_of (wf_63 hw ha) hxe
            have hk1227i : IA T xe := by unfold IA; omega
            obtain ⟨hk1231, hl1232⟩ : AR T xf 1 200 200 := ar_of (wf_64 hw ha) hxf
            have hk1231i : IA T xf := by unfold IA; omega
            refine tn_callV (M := m_X7_step) (pc := 220) (ix := 123) (ci := 7) (M' := m_X7_giveBack) (As := [.int (iI v1208)]) (rest := []) dX7_step_220 ok_X7_giveBack im_X7_giveBack se_X7_giveBack ml7_123 np_X7_giveBack rfl rfl ha rfl (Nat.le_of_ble_eq_true rfl) (Nat.le_of_ble_eq_true rfl) rfl (k_X7_giveBack_h57 (d + 1) (T := T) (σ := (sA 67 a (z782) σ)) (a := a) (n := v1208) (xa := xa) (xb := xb) (xc := xc) (xd := xd) (xe := xe) (xf := xf) ha hta (by omega) (hw.put (by decide) (by decide) (fo_67 (by omega))) (rc_o (by decide) (hxa)) (rc_o (by decide) (hxb)) (rc_o (by decide) (hxc)) (rc_o (by decide) (hxd)) (rc_o (by decide) (hxe)) (rc_o (by decide) (hxf)) (by rw [show (sA 67 a (z782) σ).2.1 58 a = σ.2.1 58 a from rc_o (by decide) (rfl), show (sA 67 a (z782) σ).2.1 57 a = σ.2.1 57 a from rc_o (by decide) (rfl)]; omega)) (fun r1233 T1235 σ1234 gt1236 hp => ?_)
            obtain ⟨rfl, rfl, w1241, F1242, f1237, f1238, f1239⟩ := hp
            clear gt1236
            show Tn _ _ 223 T σ1234 [(3, .int (iI z784)), (2, .int (iI v61)), (1, .int (iI v6)), (0, .ref a)] [] _
            refine tn_iconst dX7_step_223 ?_
            have q1243 : σ1234.2.1 56 a = σ1234.2.1 56 a := rfl
            have q1244 : σ1234.2.1 57 a = σ1234.2.1 57 a := rfl
            have q1245 : σ1234.2.1 58 a = σ1234.2.1 58 a := rfl
            exact tn_zret (v := 0) rfl (by decide) dX7_step_224 ⟨_, rfl, rfl, w1241, ((FrC.rfl.put (by decide) (by decide)).trans (FrC.sub F1242 (by decide))), by omega, ((CHX.rfl.fld (by simp) (by decide)).trans (CHX.sub f1237 (by simp) (by simp) (by simp))), by unfold PIv at *; rw [q1243, q1244, q1245]; omega, ((FA.rfl.put).trans f1239)⟩
          · refine tn_tableIn (tgt := 165) (off := 97) dX7_step_68 (x := v61) ⟨by omega, by omega⟩ (by omega) (by omega) (by rw [h836]; rfl) (by decide) ?_
            refine tn_aload_n dX7_step_165 rfl 3 rfl ?_
            refine tn_getR (ci := 7) (i := 14) (n := 69) (x := xq8) dX7_step_166 rfl lay_7 (by decide) fl7_72 ha rfl rfl (rc_o (by decide) (hx7)) ?_
            refine tn_iload_n dX7_step_169 rfl 2 rfl ?_
            refine tn_bipush dX7_step_170 (by decide) ?_
            refine tn_callV (M := m_X7_step) (pc := 172) (ix := 117) (ci := 1) (M' := m_X1_get) (As := [.int (iI v6), .int (iI 12)]) (rest := []) dX7_step_172 ok_X1_get im_X1_get se_X1_get ml7_117 np_X1_get rfl rfl hk9o rfl (Nat.le_of_ble_eq_true rfl) (Nat.le_of_ble_eq_true rfl) rfl (k_X1_get (d + 3) (T := T) (σ := (sA 67 a (z782) σ)) (a := xq8) (k := v6) (c := 12) hk9o (by omega) (by decide) (hw.put (by decide) (by decide) (fo_67 (by omega))) (by omega)) (fun r1246 T1248 σ1247 gt1249 hp => ?_)
            obtain ⟨v1251, rfl, rfl, rfl, f1250⟩ := hp
            clear gt1249
            show Tn _ _ 175 T (sA 67 a (z782) σ) [(3, .int (iI z784)), (2, .int (iI v61)), (1, .int (iI v6)), (0, .ref a)] [.int (iI v1251)] _
            refine tn_istore_n (L' := [(3, .int (iI v1251)), (2, .int (iI v61)), (1, .int (iI v6)), (0, .ref a)]) dX7_step_175 rfl (by decide) rfl ?_
            refine tn_goto (tgt := 375) dX7_step_176 (by decide) ?_
            refine tn_aload_n dX7_step_375 rfl 3 rfl ?_
            obtain ⟨hk1254, hl1255⟩ : AR T xb 1 9 9 := ar_of (wf_60 hw ha) hxb
            have hk1254i : IA T xb := by unfold IA; omega
            refine tn_getR (ci := 7) (i := 5) (n := 60) (x := xb) dX7_step_376 rfl lay_7 (by decide) fl7_15 ha rfl rfl (rc_o (by decide) (hxb)) ?_
            refine tn_aload_n dX7_step_379 rfl 3 rfl ?_
            refine tn_getI (ci := 7) (i := 2) (n := 57) (t := σ.2.1 57 a) dX7_step_380 rfl lay_7 (by decide) fl7_65 ha rfl rfl (rc_o (by decide) (rfl)) ?_
            have g1256 : ((0 : Int) ≤ σ.2.1 57 a ∧ σ.2.1 57 a ≤ 11184800) ∧ ((T a).1 = 57 → σ.2.1 57 a ≤ 8) := wf_57 hw ha
            have g1256x := g1256.2
            replace g1256 := g1256.1
            have g1256x := g1256x hta
            refine tn_iload_n dX7_step_383 rfl 0 rfl ?_
            refine tn_callSN (M := m_X7_step) (pc := 384) (ix := 61) (M' := m_X11_put) (As := [.ref xb, .int (iI (σ.2.1 57 a)), .int (iI v1251)]) (rest := []) dX7_step_384 ok_X11_put stt_X11_put nl7_61 np_X11_put rfl (Nat.le_of_ble_eq_true rfl) (Nat.le_of_ble_eq_true rfl) rfl (k_X11_put_x (d + 3) (T := T) (σ := (sA 67 a (z782) σ)) (x := xb) (i := σ.2.1 57 a) (y := v1251) hk1254i (by omega) (by omega) (by omega) (hw.put (by decide) (by decide) (fo_67 (by omega))) (nh_k hk1254 (by unfold HT; omega)) (vok_1 (by have q9 := hk1254; omega) (by omega))) (fun r1257 T1259 σ1258 gt1260 hp => ?_)
            obtain ⟨rfl, rfl, w1264, F1265, f1261, f1262⟩ := hp
            clear gt1260
            show Tn _ _ 387 T σ1258 [(3, .int (iI v1251)), (2, .int (iI v61)), (1, .int (iI v6)), (0, .ref a)] [] _
            refine tn_iload_n dX7_step_387 rfl 1 rfl ?_
            refine tn_bipush dX7_step_388 (by decide) ?_
            refine tn_icmp_ne (tgt := 397) dX7_step_390 (by decide) ⟨by omega, by omega⟩ ⟨by decide, by decide⟩ (fun h1266 => ?_) (fun h1266 => absurd h1266 (by omega))
            refine tn_iconst dX7_step_397 ?_
            have q1267 : σ1258.2.1 56 a = σ.2.1 56 a := rc_F F1265 (Or.inl (by decide)) (by decide) (rc_o (by decide) (rfl))
            have q1268 : σ1258.2.1 57 a = σ.2.1 57 a := rc_F F1265 (Or.inl (by decide)) (by decide) (rc_o (by decide) (rfl))
            have q1269 : σ1258.2.1 58 a = σ.2.1 58 a := rc_F F1265 (Or.inl (by decide)) (by decide) (rc_o (by decide) (rfl))
            exact tn_zret (v := 0) rfl (by decide) dX7_step_398 ⟨_, rfl, rfl, w1264, ((FrC.rfl.put (by decide) (by decide)).trans (FrC.sub F1265 (by decide))), by omega, ((CHX.rfl.fld (by simp) (by decide)).trans (CHX.sub f1261 (by simp) (by simp) (by simp))), by unfold PIv at *; rw [q1267, q1268, q1269]; omega, ((FA.rfl.put).trans (FA.of F1265 (by decide)))⟩
          · refine tn_tableIn (tgt := 179) (off := 111) dX7_step_68 (x := v61) ⟨by omega, by omega⟩ (by omega) (by omega) (by rw [h836]; rfl) (by decide) ?_
            refine tn_aload_n dX7_step_179 rfl 3 rfl ?_
            refine tn_iload_n dX7_step_180 rfl 2 rfl ?_
            refine tn_iconst dX7_step_181 ?_
            refine tn_callV (M := m_X7_step) (pc := 182) (ix := 110) (ci := 7) (M' := m_X7_operand) (As := [.int (iI v6), .int (iI 3)]) (rest := []) dX7_step_182 ok_X7_operand im_X7_operand se_X7_operand ml7_110 np_X7_operand rfl rfl ha rfl (Nat.le_of_ble_eq_true rfl) (Nat.le_of_ble_eq_true rfl) rfl (k_X7_operand (d + 2) (T := T) (σ := (sA 67 a (z782) σ)) (a := a) (k := v6) (c := 3) ha (by omega) (by decide) (hw.put (by decide) (by decide) (fo_67 (by omega))) (by rw [show (sA 67 a (z782) σ).2.1 69 a = _ from rc_o (by decide) (hx7)]; omega) (by omega)) (fun r1270 T1272 σ1271 gt1273 hp => ?_)
            obtain ⟨v1275, rfl, rfl, rfl, f1274⟩ := hp
            clear gt1273
            show Tn _ _ 185 T (sA 67 a (z782) σ) [(3, .int (iI z784)), (2, .int (iI v61)), (1, .int (iI v6)), (0, .ref a)] [.int (iI v1275)] _
            refine tn_if_ne (tgt := 201) dX7_step_185 (by decide) ⟨by omega, by omega⟩ (fun h1276 => ?_) (fun h1276 => ?_)
            · refine tn_iload_n dX7_step_201 rfl 0 rfl ?_
              refine tn_istore_n (L' := [(3, .int (iI z784)), (2, .int (iI v61)), (1, .int (iI v6)), (0, .ref a)]) dX7_step_202 rfl (by decide) rfl ?_
              refine tn_goto (tgt := 375) dX7_step_203 (by decide) ?_
              refine tn_aload_n dX7_step_375 rfl 3 rfl ?_
              obtain ⟨hk1279, hl1280⟩ : AR T xb 1 9 9 := ar_of (wf_60 hw ha) hxb
              have hk1279i : IA T xb := by unfold IA; omega
              refine tn_getR (ci := 7) (i := 5) (n := 60) (x := xb) dX7_step_376 rfl lay_7 (by decide) fl7_15 ha rfl rfl (rc_o (by decide) (hxb)) ?_
              refine tn_aload_n dX7_step_379 rfl 3 rfl ?_
              refine tn_getI (ci := 7) (i := 2) (n := 57) (t := σ.2.1 57 a) dX7_step_380 rfl lay_7 (by decide) fl7_65 ha rfl rfl (rc_o (by decide) (rfl)) ?_
              have g1281 : ((0 : Int) ≤ σ.2.1 57 a ∧ σ.2.1 57 a ≤ 11184800) ∧ ((T a).1 = 57 → σ.2.1 57 a ≤ 8) := wf_57 hw ha
              have g1281x := g1281.2
              replace g1281 := g1281.1
              have g1281x := g1281x hta
              refine tn_iload_n dX7_step_383 rfl 0 rfl ?_
              refine tn_callSN (M := m_X7_step) (pc := 384) (ix := 61) (M' := m_X11_put) (As := [.ref xb, .int (iI (σ.2.1 57 a)), .int (iI z784)]) (rest := []) dX7_step_384 ok_X11_put stt_X11_put nl7_61 np_X11_put rfl (Nat.le_of_ble_eq_true rfl) (Nat.le_of_ble_eq_true rfl) rfl (k_X11_put_x (d + 3) (T := T) (σ := (sA 67 a (z782) σ)) (x := xb) (i := σ.2.1 57 a) (y := z784) hk1279i (by omega) (by omega) (by omega) (hw.put (by decide) (by decide) (fo_67 (by omega))) (nh_k hk1279 (by unfold HT; omega)) (vok_1 (by have q9 := hk1279; omega) (by omega))) (fun r1282 T1284 σ1283 gt1285 hp => ?_)
              obtain ⟨rfl, rfl, w1289, F1290, f1286, f1287⟩ := hp
              clear gt1285
              show Tn _ _ 387 T σ1283 [(3, .int (iI z784)), (2, .int (iI v61)), (1, .int (iI v6)), (0, .ref a)] [] _
              refine tn_iload_n dX7_step_387 rfl 1 rfl ?_
              refine tn_bipush dX7_step_388 (by decide) ?_
              refine tn_icmp_ne (tgt := 397) dX7_step_390 (by decide) ⟨by omega, by omega⟩ ⟨by decide, by decide⟩ (fun h1291 => ?_) (fun h1291 => absurd h1291 (by omega))
              refine tn_iconst dX7_step_397 ?_
              have q1292 : σ1283.2.1 56 a = σ.2.1 56 a := rc_F F1290 (Or.inl (by decide)) (by decide) (rc_o (by decide) (rfl))
              have q1293 : σ1283.2.1 57 a = σ.2.1 57 a := rc_F F1290 (Or.inl (by decide)) (by decide) (rc_o (by decide) (rfl))
              have q1294 : σ1283.2.1 58 a = σ.2.1 58 a := rc_F F1290 (Or.inl (by decide)) (by decide) (rc_o (by decide) (rfl))
              exact tn_zret (v := 0) rfl (by decide) dX7_step_398 ⟨_, rfl, rfl, w1289, ((FrC.rfl.put (by decide) (by decide)).trans (FrC.sub F1290 (by decide))), by omega, ((CHX.rfl.fld (by simp) (by decide)).trans (CHX.sub f1286 (by simp) (by simp) (by simp))), by unfold PIv at *; rw [q1292, q1293, q1294]; omega, ((FA.rfl.put).trans (FA.of F1290 (by decide)))⟩
            · refine tn_aload_n dX7_step_188 rfl 3 rfl ?_
              refine tn_getR (ci := 7) (i := 14) (n := 69) (x := xq8) dX7_step_189 rfl lay_7 (by decide) fl7_72 ha rfl rfl (rc_o (by decide) (hx7)) ?_
              refine tn_iload_n dX7_step_192 rfl 2 rfl ?_
              refine tn_bipush dX7_step_193 (by decide) ?_
              refine tn_callV (M := m_X7_step) (pc := 195) (ix := 117) (ci := 1) (M' := m_X1_get) (As := [.int (iI v6), .int (iI 12)]) (rest := []) dX7_step_195 ok_X1_get im_X1_get se_X1_get ml7_117 np_X1_get rfl rfl hk9o rfl (Nat.le_of_ble_eq_true rfl) (Nat.le_of_ble_eq_true rfl) rfl (k_X1_get (d + 3) (T := T) (σ := (sA 67 a (z782) σ)) (a := xq8) (k := v6) (c := 12) hk9o (by omega) (by decide) (hw.put (by decide) (by decide) (fo_67 (by omega))) (by omega)) (fun r1295 T1297 σ1296 gt1298 hp => ?_)
              obtain ⟨v1300, rfl, rfl, rfl, f1299⟩ := hp
              clear gt1298
              show Tn _ _ 198 T (sA 67 a (z782) σ) [(3, .int (iI z784)), (2, .int (iI v61)), (1, .int (iI v6)), (0, .ref a)] [.int (iI v1300)] _
              refine tn_goto (tgt := 202) dX7_step_198 (by decide) ?_
              refine tn_istore_n (L' := [(3, .int (iI v1300)), (2, .int (iI v61)), (1, .int (iI v6)), (0, .ref a)]) dX7_step_202 rfl (by decide) rfl ?_
              refine tn_goto (tgt := 375) dX7_step_203 (by decide) ?_
              refine tn_aload_n dX7_step_375 rfl 3 rfl ?_
              obtain ⟨hk1303, hl1304⟩ : AR T xb 1 9 9 := ar_of (wf_60 hw ha) hxb
              have hk1303i : IA T xb := by unfold IA; omega
              refine tn_getR (ci := 7) (i := 5) (n := 60) (x := xb) dX7_step_376 rfl lay_7 (by decide) fl7_15 ha rfl rfl (rc_o (by decide) (hxb)) ?_
              refine tn_aload_n dX7_step_379 rfl 3 rfl ?_
              refine tn_getI (ci := 7) (i := 2) (n := 57) (t := σ.2.1 57 a) dX7_step_380 rfl lay_7 (by decide) fl7_65 ha rfl rfl (rc_o (by decide) (rfl)) ?_
              have g1305 : ((0 : Int) ≤ σ.2.1 57 a ∧ σ.2.1 57 a ≤ 11184800) ∧ ((T a).1 = 57 → σ.2.1 57 a ≤ 8) := wf_57 hw ha
              have g1305x := g1305.2
              replace g1305 := g1305.1
              have g1305x := g1305x hta
              refine tn_iload_n dX7_step_383 rfl 0 rfl ?_
              refine tn_callSN (M := m_X7_step) (pc := 384) (ix := 61) (M' := m_X11_put) (As := [.ref xb, .int (iI (σ.2.1 57 a)), .int (iI v1300)]) (rest := []) dX7_step_384 ok_X11_put stt_X11_put nl7_61 np_X11_put rfl (Nat.le_of_ble_eq_true rfl) (Nat.le_of_ble_eq_true rfl) rfl (k_X11_put_x (d + 3) (T := T) (σ := (sA 67 a (z782) σ)) (x := xb) (i := σ.2.1 57 a) (y := v1300) hk1303i (by omega) (by omega) (by omega) (hw.put (by decide) (by decide) (fo_67 (by omega))) (nh_k hk1303 (by unfold HT; omega)) (vok_1 (by have q9 := hk1303; omega) (by omega))) (fun r1306 T1308 σ1307 gt1309 hp => ?_)
              obtain ⟨rfl, rfl, w1313, F1314, f1310, f1311⟩ := hp
              clear gt1309
              show Tn _ _ 387 T σ1307 [(3, .int (iI v1300)), (2, .int (iI v61)), (1, .int (iI v6)), (0, .ref a)] [] _
              refine tn_iload_n dX7_step_387 rfl 1 rfl ?_
              refine tn_bipush dX7_step_388 (by decide) ?_
              refine tn_icmp_ne (tgt := 397) dX7_step_390 (by decide) ⟨by omega, by omega⟩ ⟨by decide, by decide⟩ (fun h1315 => ?_) (fun h1315 => absurd h1315 (by omega))
              refine tn_iconst dX7_step_397 ?_
              have q1316 : σ1307.2.1 56 a = σ.2.1 56 a := rc_F F1314 (Or.inl (by decide)) (by decide) (rc_o (by decide) (rfl))
              have q1317 : σ1307.2.1 57 a = σ.2.1 57 a := rc_F F1314 (Or.inl (by decide)) (by decide) (rc_o (by decide) (rfl))
              have q1318 : σ1307.2.1 58 a = σ.2.1 58 a := rc_F F1314 (Or.inl (by decide)) (by decide) (rc_o (by decide) (rfl))
              exact tn_zret (v := 0) rfl (by decide) dX7_step_398 ⟨_, rfl, rfl, w1313, ((FrC.rfl.put (by decide) (by decide)).trans (FrC.sub F1314 (by decide))), by omega, ((CHX.rfl.fld (by simp) (by decide)).trans (CHX.sub f1310 (by simp) (by simp) (by simp))), by unfold PIv at *; rw [q1316, q1317, q1318]; omega, ((FA.rfl.put).trans (FA.of F1314 (by decide)))⟩
          · refine tn_tableIn (tgt := 206) (off := 138) dX7_step_68 (x := v61) ⟨by omega, by omega⟩ (by omega) (by omega) (by rw [h836]; rfl) (by decide) ?_
            refine tn_aload_n dX7_step_206 rfl 3 rfl ?_
            refine tn_iload_n dX7_step_207 rfl 2 rfl ?_
            obtain ⟨hk1321, hl1322⟩ : AR T xa 15 9 9 := ar_of (wf_59 hw ha) hxa
            have hk1321i : IA T xa := by unfold IA; omega
            obtain ⟨hk1325, hl1326⟩ : AR T xb 1 9 9 := ar_of (wf_60 hw ha) hxb
            have hk1325i : IA T xb := by unfold IA; omega
            obtain ⟨hl1330, hk1329a, hk1329b⟩ := ex_at (wf_61 hw ha) hxc
            have hk1329 : (T xc).1 = 14 := hk1329a (by omega)
            clear hk1329a hk1329b
            have hk1329i : IA T xc := by unfold IA; omega
            obtain ⟨hk1333, hl1334⟩ : AR T xd 1 108 108 := ar_of (wf_62 hw ha) hxd
            have hk1333i : IA T xd := by unfold IA; omega
            obtain ⟨hk1337, hl1338⟩ : AR T xe 1 1728 1728 := ar_of (wf_63 hw ha) hxe
            have hk1337i : IA T xe := by unfold IA; omega
            obtain ⟨hk1341, hl1342⟩ : AR T xf 1 200 200 := ar_of (wf_64 hw ha) hxf
            have hk1341i : IA T xf := by unfold IA; omega
            have q1347 : (sA 67 a (z782) σ).2.1 57 a = σ.2.1 57 a := rc_o (by decide) (rfl)
            have q1348 : (sA 67 a (z782) σ).2.1 58 a = σ.2.1 58 a := rc_o (by decide) (rfl)
            refine tn_callV (M := m_X7_step) (pc := 208) (ix := 120) (ci := 7) (M' := m_X7_callFrom) (As := [.int (iI v6)]) (rest := []) dX7_step_208 ok_X7_callFrom im_X7_callFrom se_X7_callFrom ml7_120 np_X7_callFrom rfl rfl ha rfl (Nat.le_of_ble_eq_true rfl) (Nat.le_of_ble_eq_true rfl) rfl (k_X7_callFrom_h57 (d) (T := T) (σ := (sA 67 a (z782) σ)) (a := a) (k := v6) (xa := xa) (xb := xb) (xc := xc) (xd := xd) (xe := xe) (xf := xf) ha hta (by omega) (hw.put (by decide) (by decide) (fo_67 (by omega))) (rc_o (by decide) (hxa)) (rc_o (by decide) (hxb)) (rc_o (by decide) (hxc)) (rc_o (by decide) (hxd)) (rc_o (by decide) (hxe)) (rc_o (by decide) (hxf)) (by rw [show (sA 67 a (z782) σ).2.1 69 a = _ from rc_o (by decide) (hx7)]; omega) (by rw [show (sA 67 a (z782) σ).2.1 57 a = σ.2.1 57 a from rc_o (by decide) (rfl)]; omega) (by rw [show (sA 67 a (z782) σ).2.1 58 a = σ.2.1 58 a from rc_o (by decide) (rfl)]; omega)) (fun r1343 T1345 σ1344 gt1346 hp => ?_)
            obtain ⟨rfl, rfl, w1354, F1355, f1349, f1350, f1351, f1352⟩ := hp
            clear gt1346
            show Tn _ _ 211 T σ1344 [(3, .int (iI z784)), (2, .int (iI v61)), (1, .int (iI v6)), (0, .ref a)] [] _
            refine tn_iconst dX7_step_211 ?_
            have q1356 : σ1344.2.1 56 a = σ.2.1 56 a := rc_F F1355 (Or.inl (by decide)) (by decide) (rc_o (by decide) (rfl))
            have q1357 : σ1344.2.1 57 a = σ1344.2.1 57 a := rfl
            have q1358 : σ1344.2.1 58 a = σ1344.2.1 58 a := rfl
            exact tn_zret (v := 0) rfl (by decide) dX7_step_212 ⟨_, rfl, rfl, w1354, ((FrC.rfl.put (by decide) (by decide)).trans (FrC.sub F1355 (by decide))), by omega, ((CHX.rfl.fld (by simp) (by decide)).trans (CHX.sub f1349 (by simp) (by simp) (by simp))), by unfold PIv at *; rw [q1356, q1357, q1358]; omega, ((FA.rfl.put).trans f1352)⟩
          · refine tn_tableIn (tgt := 225) (off := 157) dX7_step_68 (x := v61) ⟨by omega, by omega⟩ (by omega) (by omega) (by rw [h836]; rfl) (by decide) ?_
            refine tn_aload_n dX7_step_225 rfl 3 rfl ?_
            obtain ⟨hk1361, hl1362⟩ : AR T xd 1 108 108 := ar_of (wf_62 hw ha) hxd
            have hk1361i : IA T xd := by unfold IA; omega
            refine tn_getR (ci := 7) (i := 7) (n := 62) (x := xd) dX7_step_226 rfl lay_7 (by decide) fl7_21 ha rfl rfl (rc_o (by decide) (hxd)) ?_
            refine tn_aload_n dX7_step_229 rfl 3 rfl ?_
            refine tn_getI (ci := 7) (i := 2) (n := 57) (t := σ.2.1 57 a) dX7_step_230 rfl lay_7 (by decide) fl7_65 ha rfl rfl (rc_o (by decide) (rfl)) ?_
            have g1363 : ((0 : Int) ≤ σ.2.1 57 a ∧ σ.2.1 57 a ≤ 11184800) ∧ ((T a).1 = 57 → σ.2.1 57 a ≤ 8) := wf_57 hw ha
            have g1363x := g1363.2
            replace g1363 := g1363.1
            have g1363x := g1363x hta
            refine tn_bipush dX7_step_233 (by decide) ?_
            refine tn_imul dX7_step_235 ?_
            refine tn_aload_n dX7_step_236 rfl 3 rfl ?_
            refine tn_getR (ci := 7) (i := 14) (n := 69) (x := xq8) dX7_step_237 rfl lay_7 (by decide) fl7_72 ha rfl rfl (rc_o (by decide) (hx7)) ?_
            refine tn_iload_n dX7_step_240 rfl 2 rfl ?_
            refine tn_iconst dX7_step_241 ?_
            refine tn_callV (M := m_X7_step) (pc := 242) (ix := 117) (ci := 1) (M' := m_X1_get) (As := [.int (iI v6), .int (iI 2)]) (rest := [.int (iI ((σ.2.1 57 a) * 12)), .ref xd]) dX7_step_242 ok_X1_get im_X1_get se_X1_get ml7_117 np_X1_get rfl rfl hk9o rfl (Nat.le_of_ble_eq_true rfl) (Nat.le_of_ble_eq_true rfl) rfl (k_X1_get (d + 3) (T := T) (σ := (sA 67 a (z782) σ)) (a := xq8) (k := v6) (c := 2) hk9o (by omega) (by decide) (hw.put (by decide) (by decide) (fo_67 (by omega))) (by omega)) (fun r1364 T1366 σ1365 gt1367 hp => ?_)
            obtain ⟨v1369, rfl, rfl, rfl, f1368⟩ := hp
            clear gt1367
            show Tn _ _ 245 T (sA 67 a (z782) σ) [(3, .int (iI z784)), (2, .int (iI v61)), (1, .int (iI v6)), (0, .ref a)] [.int (iI v1369), .int (iI ((σ.2.1 57 a) * 12)), .ref xd] _
            refine tn_iadd dX7_step_245 ?_
            refine tn_any (fun z1370 g1371 => ?_)
            have g1371r : -2147483648 ≤ z1370 ∧ z1370 ≤ 2147483647 := g1371
            refine tn_aload_n dX7_step_246 rfl 3 rfl ?_
            refine tn_getR (ci := 7) (i := 14) (n := 69) (x := xq8) dX7_step_247 rfl lay_7 (by decide) fl7_72 ha rfl rfl (rc_o (by decide) (hx7)) ?_
            refine tn_iload_n dX7_step_250 rfl 2 rfl ?_
            refine tn_iconst dX7_step_251 ?_
            refine tn_callV (M := m_X7_step) (pc := 252) (ix := 117) (ci := 1) (M' := m_X1_get) (As := [.int (iI v6), .int (iI 1)]) (rest := [.int (iI z1370), .ref xd]) dX7_step_252 ok_X1_get im_X1_get se_X1_get ml7_117 np_X1_get rfl rfl hk9o rfl (Nat.le_of_ble_eq_true rfl) (Nat.le_of_ble_eq_true rfl) rfl (k_X1_get (d + 3) (T := T) (σ := (sA 67 a (z782) σ)) (a := xq8) (k := v6) (c := 1) hk9o (by omega) (by decide) (hw.put (by decide) (by decide) (fo_67 (by omega))) (by omega)) (fun r1372 T1374 σ1373 gt1375 hp => ?_)
            obtain ⟨v1377, rfl, rfl, rfl, f1376⟩ := hp
            clear gt1375
            show Tn _ _ 255 T (sA 67 a (z782) σ) [(3, .int (iI z784)), (2, .int (iI v61)), (1, .int (iI v6)), (0, .ref a)] [.int (iI v1377), .int (iI z1370), .ref xd] _
            refine tn_callSN (M := m_X7_step) (pc := 255) (ix := 61) (M' := m_X11_put) (As := [.ref xd, .int (iI z1370), .int (iI v1377)]) (rest := []) dX7_step_255 ok_X11_put stt_X11_put nl7_61 np_X11_put rfl (Nat.le_of_ble_eq_true rfl) (Nat.le_of_ble_eq_true rfl) rfl (k_X11_put_x (d + 3) (T := T) (σ := (sA 67 a (z782) σ)) (x := xd) (i := z1370) (y := v1377) hk1361i (by omega) (by omega) (by omega) (hw.put (by decide) (by decide) (fo_67 (by omega))) (nh_k hk1361 (by unfold HT; omega)) (vok_1 (by have q9 := hk1361; omega) (by omega))) (fun r1378 T1380 σ1379 gt1381 hp => ?_)
            obtain ⟨rfl, rfl, w1385, F1386, f1382, f1383⟩ := hp
            clear gt1381
            show Tn _ _ 258 T σ1379 [(3, .int (iI z784)), (2, .int (iI v61)), (1, .int (iI v6)), (0, .ref a)] [] _
            refine tn_goto (tgt := 375) dX7_step_258 (by decide) ?_
            refine tn_aload_n dX7_step_375 rfl 3 rfl ?_
            obtain ⟨hk1389, hl1390⟩ : AR T xb 1 9 9 := ar_of (wf_60 hw ha) hxb
            have hk1389i : IA T xb := by unfold IA; omega
            refine tn_getR (ci := 7) (i := 5) (n := 60) (x := xb) dX7_step_376 rfl lay_7 (by decide) fl7_15 ha rfl rfl (rc_F F1386 (Or.inl (by decide)) (by decide) (rc_o (by decide) (hxb))) ?_
            refine tn_aload_n dX7_step_379 rfl 3 rfl ?_
            refine tn_getI (ci := 7) (i := 2) (n := 57) (t := σ.2.1 57 a) dX7_step_380 rfl lay_7 (by decide) fl7_65 ha rfl rfl (rc_F F1386 (Or.inl (by decide)) (by decide) (rc_o (by decide) (rfl))) ?_
            refine tn_iload_n dX7_step_383 rfl 0 rfl ?_
            refine tn_callSN (M := m_X7_step) (pc := 384) (ix := 61) (M' := m_X11_put) (As := [.ref xb, .int (iI (σ.2.1 57 a)), .int (iI z784)]) (rest := []) dX7_step_384 ok_X11_put stt_X11_put nl7_61 np_X11_put rfl (Nat.le_of_ble_eq_true rfl) (Nat.le_of_ble_eq_true rfl) rfl (k_X11_put_x (d + 3) (T := T) (σ := σ1379) (x := xb) (i := σ.2.1 57 a) (y := z784) hk1389i (by omega) (by omega) (by omega) w1385 (nh_k hk1389 (by unfold HT; omega)) (vok_1 (by have q9 := hk1389; omega) (by omega))) (fun r1391 T1393 σ1392 gt1394 hp => ?_)
            obtain ⟨rfl, rfl, w1398, F1399, f1395, f1396⟩ := hp
            clear gt1394
            show Tn _ _ 387 T σ1392 [(3, .int (iI z784)), (2, .int (iI v61)), (1, .int (iI v6)), (0, .ref a)] [] _
            refine tn_iload_n dX7_step_387 rfl 1 rfl ?_
            refine tn_bipush dX7_step_388 (by decide) ?_
            refine tn_icmp_ne (tgt := 397) dX7_step_390 (by decide) ⟨by omega, by omega⟩ ⟨by decide, by decide⟩ (fun h1400 => absurd h1400 (by omega)) (fun h1400 => ?_)
            refine tn_iconst dX7_step_393 ?_
            refine tn_goto (tgt := 398) dX7_step_394 (by decide) ?_
            have q1401 : σ1392.2.1 56 a = σ.2.1 56 a := rc_F F1399 (Or.inl (by decide)) (by decide) (rc_F F1386 (Or.inl (by decide)) (by decide) (rc_o (by decide) (rfl)))
            have q1402 : σ1392.2.1 57 a = σ.2.1 57 a := rc_F F1399 (Or.inl (by decide)) (by decide) (rc_F F1386 (Or.inl (by decide)) (by decide) (rc_o (by decide) (rfl)))
            have q1403 : σ1392.2.1 58 a = σ.2.1 58 a := rc_F F1399 (Or.inl (by decide)) (by decide) (rc_F F1386 (Or.inl (by decide)) (by decide) (rc_o (by decide) (rfl)))
            exact tn_zret (v := 1) rfl (by decide) dX7_step_398 ⟨_, rfl, rfl, w1398, (((FrC.rfl.put (by decide) (by decide)).trans (FrC.sub F1386 (by decide))).trans (FrC.sub F1399 (by decide))), by omega, (((CHX.rfl.fld (by simp) (by decide)).trans (CHX.sub f1382 (by simp) (by simp) (by simp))).trans (CHX.sub f1395 (by simp) (by simp) (by simp))), by unfold PIv at *; rw [q1401, q1402, q1403]; omega, (((FA.rfl.put).trans (FA.of F1386 (by decide))).trans (FA.of F1399 (by decide)))⟩
          · refine tn_tableIn (tgt := 369) (off := 301) dX7_step_68 (x := v61) ⟨by omega, by omega⟩ (by omega) (by omega) (by rw [h836]; rfl) (by decide) ?_
            refine tn_aload_n dX7_step_369 rfl 3 rfl ?_
            refine tn_iload_n dX7_step_370 rfl 2 rfl ?_
            refine tn_iload_n dX7_step_371 rfl 1 rfl ?_
            obtain ⟨hk1406, hl1407⟩ : AR T xa 15 9 9 := ar_of (wf_59 hw ha) hxa
            have hk1406i : IA T xa := by unfold IA; omega
            obtain ⟨hk1410, hl1411⟩ : AR T xb 1 9 9 := ar_of (wf_60 hw ha) hxb
            have hk1410i : IA T xb := by unfold IA; omega
            obtain ⟨hl1415, hk1414a, hk1414b⟩ := ex_at (wf_61 hw ha) hxc
            have hk1414 : (T xc).1 = 14 := hk1414a (by omega)
            clear hk1414a hk1414b
            have hk1414i : IA T xc := by unfold IA; omega
            obtain ⟨hk1418, hl1419⟩ : AR T xd 1 108 108 := ar_of (wf_62 hw ha) hxd
            have hk1418i : IA T xd := by unfold IA; omega
            obtain ⟨hk1422, hl1423⟩ : AR T xe 1 1728 1728 := ar_of (wf_63 hw ha) hxe
            have hk1422i : IA T xe := by unfold IA; omega
            obtain ⟨hk1426, hl1427⟩ : AR T xf 1 200 200 := ar_of (wf_64 hw ha) hxf
            have hk1426i : IA T xf := by unfold IA; omega
            refine tn_callV (M := m_X7_step) (pc := 372) (ix := 129) (ci := 7) (M' := m_X7_reckonAt) (As := [.int (iI v6), .int (iI v61)]) (rest := []) dX7_step_372 ok_X7_reckonAt im_X7_reckonAt se_X7_reckonAt ml7_129 np_X7_reckonAt rfl rfl ha rfl (Nat.le_of_ble_eq_true rfl) (Nat.le_of_ble_eq_true rfl) rfl (k_X7_reckonAt_h (d + 1) (T := T) (σ := (sA 67 a (z782) σ)) (a := a) (k := v6) (e := v61) (xa := xa) (xb := xb) (xc := xc) (xd := xd) (xe := xe) (xf := xf) ha (by omega) (by omega) (hw.put (by decide) (by decide) (fo_67 (by omega))) (rc_o (by decide) (hxa)) (rc_o (by decide) (hxb)) (rc_o (by decide) (hxc)) (rc_o (by decide) (hxd)) (rc_o (by decide) (hxe)) (rc_o (by decide) (hxf)) (by rw [show (sA 67 a (z782) σ).2.1 69 a = _ from rc_o (by decide) (hx7)]; omega)) (fun r1428 T1430 σ1429 gt1431 hp => ?_)
            obtain ⟨rfl, rfl, w1434, F1435, f1432⟩ := hp
            clear gt1431
            show Tn _ _ 375 T σ1429 [(3, .int (iI z784)), (2, .int (iI v61)), (1, .int (iI v6)), (0, .ref a)] [] _
            refine tn_aload_n dX7_step_375 rfl 3 rfl ?_
            refine tn_getR (ci := 7) (i := 5) (n := 60) (x := xb) dX7_step_376 rfl lay_7 (by decide) fl7_15 ha rfl rfl (rc_F F1435 (Or.inl (by decide)) (by decide) (rc_o (by decide) (hxb))) ?_
            refine tn_aload_n dX7_step_379 rfl 3 rfl ?_
            refine tn_getI (ci := 7) (i := 2) (n := 57) (t := σ.2.1 57 a) dX7_step_380 rfl lay_7 (by decide) fl7_65 ha rfl rfl (rc_F F1435 (Or.inl (by decide)) (by decide) (rc_o (by decide) (rfl))) ?_
            have g1436 : ((0 : Int) ≤ σ.2.1 57 a ∧ σ.2.1 57 a ≤ 11184800) ∧ ((T a).1 = 57 → σ.2.1 57 a ≤ 8) := wf_57 hw ha
            have g1436x := g1436.2
            replace g1436 := g1436.1
            have g1436x := g1436x hta
            refine tn_iload_n dX7_step_383 rfl 0 rfl ?_
            refine tn_callSN (M := m_X7_step) (pc := 384) (ix := 61) (M' := m_X11_put) (As := [.ref xb, .int (iI (σ.2.1 57 a)), .int (iI z784)]) (rest := []) dX7_step_384 ok_X11_put stt_X11_put nl7_61 np_X11_put rfl (Nat.le_of_ble_eq_true rfl) (Nat.le_of_ble_eq_true rfl) rfl (k_X11_put_x (d + 3) (T := T) (σ := σ1429) (x := xb) (i := σ.2.1 57 a) (y := z784) hk1410i (by omega) (by omega) (by omega) w1434 (nh_k hk1410 (by unfold HT; omega)) (vok_1 (by have q9 := hk1410; omega) (by omega))) (fun r1437 T1439 σ1438 gt1440 hp => ?_)
            obtain ⟨rfl, rfl, w1444, F1445, f1441, f1442⟩ := hp
            clear gt1440
            show Tn _ _ 387 T σ1438 [(3, .int (iI z784)), (2, .int (iI v61)), (1, .int (iI v6)), (0, .ref a)] [] _
            refine tn_iload_n dX7_step_387 rfl 1 rfl ?_
            refine tn_bipush dX7_step_388 (by decide) ?_
            refine tn_icmp_ne (tgt := 397) dX7_step_390 (by decide) ⟨by omega, by omega⟩ ⟨by decide, by decide⟩ (fun h1446 => ?_) (fun h1446 => absurd h1446 (by omega))
            refine tn_iconst dX7_step_397 ?_
            have q1447 : σ1438.2.1 56 a = σ.2.1 56 a := rc_F F1445 (Or.inl (by decide)) (by decide) (rc_F F1435 (Or.inl (by decide)) (by decide) (rc_o (by decide) (rfl)))
            have q1448 : σ1438.2.1 57 a = σ.2.1 57 a := rc_F F1445 (Or.inl (by decide)) (by decide) (rc_F F1435 (Or.inl (by decide)) (by decide) (rc_o (by decide) (rfl)))
            have q1449 : σ1438.2.1 58 a = σ.2.1 58 a := rc_F F1445 (Or.inl (by decide)) (by decide) (rc_F F1435 (Or.inl (by decide)) (by decide) (rc_o (by decide) (rfl)))
            exact tn_zret (v := 0) rfl (by decide) dX7_step_398 ⟨_, rfl, rfl, w1444, (((FrC.rfl.put (by decide) (by decide)).trans (FrC.sub F1435 (by decide))).trans (FrC.sub F1445 (by decide))), by omega, (((CHX.rfl.fld (by simp) (by decide)).trans (CHX.sub f1432 (by simp) (by simp) (by simp))).trans (CHX.sub f1441 (by simp) (by simp) (by simp))), by unfold PIv at *; rw [q1447, q1448, q1449]; omega, (((FA.rfl.put).trans (FA.of F1435 (by decide))).trans (FA.of F1445 (by decide)))⟩
          · refine tn_tableIn (tgt := 369) (off := 301) dX7_step_68 (x := v61) ⟨by omega, by omega⟩ (by omega) (by omega) (by rw [h836]; rfl) (by decide) ?_
            refine tn_aload_n dX7_step_369 rfl 3 rfl ?_
            refine tn_iload_n dX7_step_370 rfl 2 rfl ?_
            refine tn_iload_n dX7_step_371 rfl 1 rfl ?_
            obtain ⟨hk1452, hl1453⟩ : AR T xa 15 9 9 := ar_of (wf_59 hw ha) hxa
            have hk1452i : IA T xa := by unfold IA; omega
            obtain ⟨hk1456, hl1457⟩ : AR T xb 1 9 9 := ar_of (wf_60 hw ha) hxb
            have hk1456i : IA T xb := by unfold IA; omega
            obtain ⟨hl1461, hk1460a, hk1460b⟩ := ex_at (wf_61 hw ha) hxc
            have hk1460 : (T xc).1 = 14 := hk1460a (by omega)
            clear hk1460a hk1460b
            have hk1460i : IA T xc := by unfold IA; omega
            obtain ⟨hk1464, hl1465⟩ : AR T xd 1 108 108 := ar_of (wf_62 hw ha) hxd
            have hk1464i : IA T xd := by unfold IA; omega
            obtain ⟨hk1468, hl1469⟩ : AR T xe 1 1728 1728 := ar_of (wf_63 hw ha) hxe
            have hk1468i : IA T xe := by unfold IA; omega
            obtain ⟨hk1472, hl1473⟩ : AR T xf 1 200 200 := ar_of (wf_64 hw ha) hxf
            have hk1472i : IA T xf := by unfold IA; omega
            refine tn_callV (M := m_X7_step) (pc := 372) (ix := 129) (ci := 7) (M' := m_X7_reckonAt) (As := [.int (iI v6), .int (iI v61)]) (rest := []) dX7_step_372 ok_X7_reckonAt im_X7_reckonAt se_X7_reckonAt ml7_129 np_X7_reckonAt rfl rfl ha rfl (Nat.le_of_ble_eq_true rfl) (Nat.le_of_ble_eq_true rfl) rfl (k_X7_reckonAt_h (d + 1) (T := T) (σ := (sA 67 a (z782) σ)) (a := a) (k := v6) (e := v61) (xa := xa) (xb := xb) (xc := xc) (xd := xd) (xe := xe) (xf := xf) ha (by omega) (by omega) (hw.put (by decide) (by decide) (fo_67 (by omega))) (rc_o (by decide) (hxa)) (rc_o (by decide) (hxb)) (rc_o (by decide) (hxc)) (rc_o (by decide) (hxd)) (rc_o (by decide) (hxe)) (rc_o (by decide) (hxf)) (by rw [show (sA 67 a (z782) σ).2.1 69 a = _ from rc_o (by decide) (hx7)]; omega)) (fun r1474 T1476 σ1475 gt1477 hp => ?_)
            obtain ⟨rfl, rfl, w1480, F1481, f1478⟩ := hp
            clear gt1477
            show Tn _ _ 375 T σ1475 [(3, .int (iI z784)), (2, .int (iI v61)), (1, .int (iI v6)), (0, .ref a)] [] _
            refine tn_aload_n dX7_step_375 rfl 3 rfl ?_
            refine tn_getR (ci := 7) (i := 5) (n := 60) (x := xb) dX7_step_376 rfl lay_7 (by decide) fl7_15 ha rfl rfl (rc_F F1481 (Or.inl (by decide)) (by decide) (rc_o (by decide) (hxb))) ?_
            refine tn_aload_n dX7_step_379 rfl 3 rfl ?_
            refine tn_getI (ci := 7) (i := 2) (n := 57) (t := σ.2.1 57 a) dX7_step_380 rfl lay_7 (by decide) fl7_65 ha rfl rfl (rc_F F1481 (Or.inl (by decide)) (by decide) (rc_o (by decide) (rfl))) ?_
            have g1482 : ((0 : Int) ≤ σ.2.1 57 a ∧ σ.2.1 57 a ≤ 11184800) ∧ ((T a).1 = 57 → σ.2.1 57 a ≤ 8) := wf_57 hw ha
            have g1482x := g1482.2
            replace g1482 := g1482.1
            have g1482x := g1482x hta
            refine tn_iload_n dX7_step_383 rfl 0 rfl ?_
            refine tn_callSN (M := m_X7_step) (pc := 384) (ix := 61) (M' := m_X11_put) (As := [.ref xb, .int (iI (σ.2.1 57 a)), .int (iI z784)]) (rest := []) dX7_step_384 ok_X11_put stt_X11_put nl7_61 np_X11_put rfl (Nat.le_of_ble_eq_true rfl) (Nat.le_of_ble_eq_true rfl) rfl (k_X11_put_x (d + 3) (T := T) (σ := σ1475) (x := xb) (i := σ.2.1 57 a) (y := z784) hk1456i (by omega) (by omega) (by omega) w1480 (nh_k hk1456 (by unfold HT; omega)) (vok_1 (by have q9 := hk1456; omega) (by omega))) (fun r1483 T1485 σ1484 gt1486 hp => ?_)
            obtain ⟨rfl, rfl, w1490, F1491, f1487, f1488⟩ := hp
            clear gt1486
            show Tn _ _ 387 T σ1484 [(3, .int (iI z784)), (2, .int (iI v61)), (1, .int (iI v6)), (0, .ref a)] [] _
            refine tn_iload_n dX7_step_387 rfl 1 rfl ?_
            refine tn_bipush dX7_step_388 (by decide) ?_
            refine tn_icmp_ne (tgt := 397) dX7_step_390 (by decide) ⟨by omega, by omega⟩ ⟨by decide, by decide⟩ (fun h1492 => ?_) (fun h1492 => absurd h1492 (by omega))
            refine tn_iconst dX7_step_397 ?_
            have q1493 : σ1484.2.1 56 a = σ.2.1 56 a := rc_F F1491 (Or.inl (by decide)) (by decide) (rc_F F1481 (Or.inl (by decide)) (by decide) (rc_o (by decide) (rfl)))
            have q1494 : σ1484.2.1 57 a = σ.2.1 57 a := rc_F F1491 (Or.inl (by decide)) (by decide) (rc_F F1481 (Or.inl (by decide)) (by decide) (rc_o (by decide) (rfl)))
            have q1495 : σ1484.2.1 58 a = σ.2.1 58 a := rc_F F1491 (Or.inl (by decide)) (by decide) (rc_F F1481 (Or.inl (by decide)) (by decide) (rc_o (by decide) (rfl)))
            exact tn_zret (v := 0) rfl (by decide) dX7_step_398 ⟨_, rfl, rfl, w1490, (((FrC.rfl.put (by decide) (by decide)).trans (FrC.sub F1481 (by decide))).trans (FrC.sub F1491 (by decide))), by omega, (((CHX.rfl.fld (by simp) (by decide)).trans (CHX.sub f1478 (by simp) (by simp) (by simp))).trans (CHX.sub f1487 (by simp) (by simp) (by simp))), by unfold PIv at *; rw [q1493, q1494, q1495]; omega, (((FA.rfl.put).trans (FA.of F1481 (by decide))).trans (FA.of F1491 (by decide)))⟩
          · refine tn_tableIn (tgt := 261) (off := 193) dX7_step_68 (x := v61) ⟨by omega, by omega⟩ (by omega) (by omega) (by rw [h836]; rfl) (by decide) ?_
            exact absurd True.intro (by omega)
          · refine tn_tableIn (tgt := 319) (off := 251) dX7_step_68 (x := v61) ⟨by omega, by omega⟩ (by omega) (by omega) (by rw [h836]; rfl) (by decide) ?_
            exact absurd True.intro (by omega)
      · refine tn_aload_n dX7_step_37 rfl 2 rfl ?_
        refine tn_getI (ci := 7) (i := 3) (n := 58) (t := σ.2.1 58 a) dX7_step_38 rfl lay_7 (by decide) fl7_38 ha rfl rfl (rfl) ?_
        have g1496 : ((-2147483648 : Int) ≤ σ.2.1 58 a ∧ σ.2.1 58 a ≤ 2147483647) := wf_58 hw ha
        refine tn_bipush dX7_step_41 (by decide) ?_
        refine tn_icmp_le (tgt := 53) dX7_step_43 (by decide) ⟨by omega, by omega⟩ ⟨by decide, by decide⟩ (fun h1497 => ?_) (fun h1497 => ?_)
        · refine tn_aload_n dX7_step_53 rfl 2 rfl ?_
          refine tn_dup dX7_step_54 rfl ?_
          refine tn_getI (ci := 7) (i := 12) (n := 67) (t := σ.2.1 67 a) dX7_step_55 rfl lay_7 (by decide) fl7_47 ha rfl rfl (rfl) ?_
          have g1498 : ((-2147483648 : Int) ≤ σ.2.1 67 a ∧ σ.2.1 67 a ≤ 2147483647) := wf_67 hw ha
          refine tn_iconst dX7_step_58 ?_
          refine tn_iadd dX7_step_59 ?_
          refine tn_any (fun z1499 g1500 => ?_)
          have g1500r : -2147483648 ≤ z1499 ∧ z1499 ≤ 2147483647 := g1500
          refine tn_putV (ci := 7) (i := 12) (n := 67) (r := false) (v := z1499) tyX7 tyX7_ok nmX7 dX7_step_60 rfl lay_7 (by decide) fl7_47 rfl (tyX7_ok 12 (by decide)) rfl rfl rfl ha rfl rfl ?_
          refine tn_iload_n dX7_step_63 rfl 1 rfl ?_
          refine tn_iconst dX7_step_64 ?_
          refine tn_iadd dX7_step_65 ?_
          refine tn_any (fun z1501 g1502 => ?_)
          have g1502r : -2147483648 ≤ z1501 ∧ z1501 ≤ 2147483647 := g1502
          refine tn_istore_n (L' := [(3, .int (iI z1501)), (2, .int (iI v61)), (1, .int (iI v6)), (0, .ref a)]) dX7_step_66 rfl (by decide) rfl ?_
          refine tn_iload_n dX7_step_67 rfl 1 rfl ?_
          by_cases h1503 : v61 < -1 ∨ 15 < v61
          · refine tn_tableOut (tgt := 369) dX7_step_68 (x := v61) ⟨by omega, by omega⟩ h1503 (by decide) ?_
            refine tn_aload_n dX7_step_369 rfl 3 rfl ?_
            refine tn_iload_n dX7_step_370 rfl 2 rfl ?_
            refine tn_iload_n dX7_step_371 rfl 1 rfl ?_
            obtain ⟨hk1506, hl1507⟩ : AR T xa 15 9 9 := ar_of (wf_59 hw ha) hxa
            have hk1506i : IA T xa := by unfold IA; omega
            obtain ⟨hk1510, hl1511⟩ : AR T xb 1 9 9 := ar_of (wf_60 hw ha) hxb
            have hk1510i : IA T xb := by unfold IA; omega
            obtain ⟨hl1515, hk1514a, hk1514b⟩ := ex_at (wf_61 hw ha) hxc
            have hk1514 : (T xc).1 = 14 := hk1514a (by omega)
            clear hk1514a hk1514b
            have hk1514i : IA T xc := by unfold IA; omega
            obtain ⟨hk1518, hl1519⟩ : AR T xd 1 108 108 := ar_of (wf_62 hw ha) hxd
            have hk1518i : IA T xd := by unfold IA; omega
            obtain ⟨hk1522, hl1523⟩ : AR T xe 1 1728 1728 := ar_of (wf_63 hw ha) hxe
            have hk1522i : IA T xe := by unfold IA; omega
            obtain ⟨hk1526, hl1527⟩ : AR T xf 1 200 200 := ar_of (wf_64 hw ha) hxf
            have hk1526i : IA T xf := by unfold IA; omega
            refine tn_callV (M := m_X7_step) (pc := 372) (ix := 129) (ci := 7) (M' := m_X7_reckonAt) (As := [.int (iI v6), .int (iI v61)]) (rest := []) dX7_step_372 ok_X7_reckonAt im_X7_reckonAt se_X7_reckonAt ml7_129 np_X7_reckonAt rfl rfl ha rfl (Nat.le_of_ble_eq_true rfl) (Nat.le_of_ble_eq_true rfl) rfl (k_X7_reckonAt_h (d + 1) (T := T) (σ := (sA 67 a (z1499) σ)) (a := a) (k := v6) (e := v61) (xa := xa) (xb := xb) (xc := xc) (xd := xd) (xe := xe) (xf := xf) ha (by omega) (by omega) (hw.put (by decide) (by decide) (fo_67 (by omega))) (rc_o (by decide) (hxa)) (rc_o (by decide) (hxb)) (rc_o (by decide) (hxc)) (rc_o (by decide) (hxd)) (rc_o (by decide) (hxe)) (rc_o (by decide) (hxf)) (by rw [show (sA 67 a (z1499) σ).2.1 69 a = _ from rc_o (by decide) (hx7)]; omega)) (fun r1528 T1530 σ1529 gt1531 hp => ?_)
            obtain ⟨rfl, rfl, w1534, F1535, f1532⟩ := hp
            clear gt1531
            show Tn _ _ 375 T σ1529 [(3, .int (iI z1501)), (2, .int (iI v61)), (1, .int (iI v6)), (0, .ref a)] [] _
            refine tn_aload_n dX7_step_375 rfl 3 rfl ?_
            refine tn_getR (ci := 7) (i := 5) (n := 60) (x := xb) dX7_step_376 rfl lay_7 (by decide) fl7_15 ha rfl rfl (rc_F F1535 (Or.inl (by decide)) (by decide) (rc_o (by decide) (hxb))) ?_
            refine tn_aload_n dX7_step_379 rfl 3 rfl ?_
            refine tn_getI (ci := 7) (i := 2) (n := 57) (t := σ.2.1 57 a) dX7_step_380 rfl lay_7 (by decide) fl7_65 ha rfl rfl (rc_F F1535 (Or.inl (by decide)) (by decide) (rc_o (by decide) (rfl))) ?_
            have g1536 : ((0 : Int) ≤ σ.2.1 57 a ∧ σ.2.1 57 a ≤ 11184800) ∧ ((T a).1 = 57 → σ.2.1 57 a ≤ 8) := wf_57 hw ha
            have g1536x := g1536.2
            replace g1536 := g1536.1
            have g1536x := g1536x hta
            refine tn_iload_n dX7_step_383 rfl 0 rfl ?_
            refine tn_callSN (M := m_X7_step) (pc := 384) (ix := 61) (M' := m_X11_put) (As := [.ref xb, .int (iI (σ.2.1 57 a)), .int (iI z1501)]) (rest := []) dX7_step_384 ok_X11_put stt_X11_put nl7_61 np_X11_put rfl (Nat.le_of_ble_eq_true rfl) (Nat.le_of_ble_eq_true rfl) rfl (k_X11_put_x (d + 3) (T := T) (σ := σ1529) (x := xb) (i := σ.2.1 57 a) (y := z1501) hk1510i (by omega) (by omega) (by omega) w1534 (nh_k hk1510 (by unfold HT; omega)) (vok_1 (by have q9 := hk1510; omega) (by omega))) (fun r1537 T1539 σ1538 gt1540 hp => ?_)
            obtain ⟨rfl, rfl, w1544, F1545, f1541, f1542⟩ := hp
            clear gt1540
            show Tn _ _ 387 T σ1538 [(3, .int (iI z1501)), (2, .int (iI v61)), (1, .int (iI v6)), (0, .ref a)] [] _
            refine tn_iload_n dX7_step_387 rfl 1 rfl ?_
            refine tn_bipush dX7_step_388 (by decide) ?_
            refine tn_icmp_ne (tgt := 397) dX7_step_390 (by decide) ⟨by omega, by omega⟩ ⟨by decide, by decide⟩ (fun h1546 => ?_) (fun h1546 => absurd h1546 (by omega))
            refine tn_iconst dX7_step_397 ?_
            have q1547 : σ1538.2.1 56 a = σ.2.1 56 a := rc_F F1545 (Or.inl (by decide)) (by decide) (rc_F F1535 (Or.inl (by decide)) (by decide) (rc_o (by decide) (rfl)))
            have q1548 : σ1538.2.1 57 a = σ.2.1 57 a := rc_F F1545 (Or.inl (by decide)) (by decide) (rc_F F1535 (Or.inl (by decide)) (by decide) (rc_o (by decide) (rfl)))
            have q1549 : σ1538.2.1 58 a = σ.2.1 58 a := rc_F F1545 (Or.inl (by decide)) (by decide) (rc_F F1535 (Or.inl (by decide)) (by decide) (rc_o (by decide) (rfl)))
            exact tn_zret (v := 0) rfl (by decide) dX7_step_398 ⟨_, rfl, rfl, w1544, (((FrC.rfl.put (by decide) (by decide)).trans (FrC.sub F1535 (by decide))).trans (FrC.sub F1545 (by decide))), by omega, (((CHX.rfl.fld (by simp) (by decide)).trans (CHX.sub f1532 (by simp) (by simp) (by simp))).trans (CHX.sub f1541 (by simp) (by simp) (by simp))), by unfold PIv at *; rw [q1547, q1548, q1549]; omega, (((FA.rfl.put).trans (FA.of F1535 (by decide))).trans (FA.of F1545 (by decide)))⟩
          · have h1550 : v61 = -1 ∨ v61 = 0 ∨ v61 = 1 ∨ v61 = 2 ∨ v61 = 3 ∨ v61 = 4 ∨ v61 = 5 ∨ v61 = 6 ∨ v61 = 7 ∨ v61 = 8 ∨ v61 = 9 ∨ v61 = 10 ∨ v61 = 11 ∨ v61 = 12 ∨ v61 = 13 ∨ v61 = 14 ∨ v61 = 15 := by omega
            rcases h1550 with h1550 | h1550 | h1550 | h1550 | h1550 | h1550 | h1550 | h1550 | h1550 | h1550 | h1550 | h1550 | h1550 | h1550 | h1550 | h1550 | h1550
            · refine tn_tableIn (tgt := 362) (off := 294) dX7_step_68 (x := v61) ⟨by omega, by omega⟩ (by omega) (by omega) (by rw [h1550]; rfl) (by decide) ?_
              refine tn_aload_n dX7_step_362 rfl 3 rfl ?_
              refine tn_iconst dX7_step_363 ?_
              obtain ⟨hk1553, hl1554⟩ : AR T xa 15 9 9 := ar_of (wf_59 hw ha) hxa
              have hk1553i : IA T xa := by unfold IA; omega
              obtain ⟨hk1557, hl1558⟩ : AR T xb 1 9 9 := ar_of (wf_60 hw ha) hxb
              have hk1557i : IA T xb := by unfold IA; omega
              obtain ⟨hl1562, hk1561a, hk1561b⟩ := ex_at (wf_61 hw ha) hxc
              have hk1561 : (T xc).1 = 14 := hk1561a (by omega)
              clear hk1561a hk1561b
              have hk1561i : IA T xc := by unfold IA; omega
              obtain ⟨hk1565, hl1566⟩ : AR T xd 1 108 108 := ar_of (wf_62 hw ha) hxd
              have hk1565i : IA T xd := by unfold IA; omega
              obtain ⟨hk1569, hl1570⟩ : AR T xe 1 1728 1728 := ar_of (wf_63 hw ha) hxe
              have hk1569i : IA T xe := by unfold IA; omega
              obtain ⟨hk1573, hl1574⟩ : AR T xf 1 200 200 := ar_of (wf_64 hw ha) hxf
              have hk1573i : IA T xf := by unfold IA; omega
              refine tn_callV (M := m_X7_step) (pc := 364) (ix := 123) (ci := 7) (M' := m_X7_giveBack) (As := [.int (iI 0)]) (rest := []) dX7_step_364 ok_X7_giveBack im_X7_giveBack se_X7_giveBack ml7_123 np_X7_giveBack rfl rfl ha rfl (Nat.le_of_ble_eq_true rfl) (Nat.le_of_ble_eq_true rfl) rfl (k_X7_giveBack_h57 (d + 1) (T := T) (σ := (sA 67 a (z1499) σ)) (a := a) (n := 0) (xa := xa) (xb := xb) (xc := xc) (xd := xd) (xe := xe) (xf := xf) ha hta (by decide) (hw.put (by decide) (by decide) (fo_67 (by omega))) (rc_o (by decide) (hxa)) (rc_o (by decide) (hxb)) (rc_o (by decide) (hxc)) (rc_o (by decide) (hxd)) (rc_o (by decide) (hxe)) (rc_o (by decide) (hxf)) (by rw [show (sA 67 a (z1499) σ).2.1 58 a = σ.2.1 58 a from rc_o (by decide) (rfl), show (sA 67 a (z1499) σ).2.1 57 a = σ.2.1 57 a from rc_o (by decide) (rfl)]; omega)) (fun r1575 T1577 σ1576 gt1578 hp => ?_)
              obtain ⟨rfl, rfl, w1583, F1584, f1579, f1580, f1581⟩ := hp
              clear gt1578
              show Tn _ _ 367 T σ1576 [(3, .int (iI z1501)), (2, .int (iI v61)), (1, .int (iI v6)), (0, .ref a)] [] _
              refine tn_iconst dX7_step_367 ?_
              have q1585 : σ1576.2.1 56 a = σ1576.2.1 56 a := rfl
              have q1586 : σ1576.2.1 57 a = σ1576.2.1 57 a := rfl
              have q1587 : σ1576.2.1 58 a = σ1576.2.1 58 a := rfl
              exact tn_zret (v := 0) rfl (by decide) dX7_step_368 ⟨_, rfl, rfl, w1583, ((FrC.rfl.put (by decide) (by decide)).trans (FrC.sub F1584 (by decide))), by omega, ((CHX.rfl.fld (by simp) (by decide)).trans (CHX.sub f1579 (by simp) (by simp) (by simp))), by unfold PIv at *; rw [q1585, q1586, q1587]; omega, ((FA.rfl.put).trans f1581)⟩
            · refine tn_tableIn (tgt := 369) (off := 301) dX7_step_68 (x := v61) ⟨by omega, by omega⟩ (by omega) (by omega) (by rw [h1550]; rfl) (by decide) ?_
              refine tn_aload_n dX7_step_369 rfl 3 rfl ?_
              refine tn_iload_n dX7_step_370 rfl 2 rfl ?_
              refine tn_iload_n dX7_step_371 rfl 1 rfl ?_
              obtain ⟨hk1590, hl1591⟩ : AR T xa 15 9 9 := ar_of (wf_59 hw ha) hxa
              have hk1590i : IA T xa := by unfold IA; omega
              obtain ⟨hk1594, hl1595⟩ : AR T xb 1 9 9 := ar_of (wf_60 hw ha) hxb
              have hk1594i : IA T xb := by unfold IA; omega
              obtain ⟨hl1599, hk1598a, hk1598b⟩ := ex_at (wf_61 hw ha) hxc
              have hk1598 : (T xc).1 = 14 := hk1598a (by omega)
              clear hk1598a hk1598b
              have hk1598i : IA T xc := by unfold IA; omega
              obtain ⟨hk1602, hl1603⟩ : AR T xd 1 108 108 := ar_of (wf_62 hw ha) hxd
              have hk1602i : IA T xd := by unfold IA; omega
              obtain ⟨hk1606, hl1607⟩ : AR T xe 1 1728 1728 := ar_of (wf_63 hw ha) hxe
              have hk1606i : IA T xe := by unfold IA; omega
              obtain ⟨hk1610, hl1611⟩ : AR T xf 1 200 200 := ar_of (wf_64 hw ha) hxf
              have hk1610i : IA T xf := by unfold IA; omega
              refine tn_callV (M := m_X7_step) (pc := 372) (ix := 129) (ci := 7) (M' := m_X7_reckonAt) (As := [.int (iI v6), .int (iI v61)]) (rest := []) dX7_step_372 ok_X7_reckonAt im_X7_reckonAt se_X7_reckonAt ml7_129 np_X7_reckonAt rfl rfl ha rfl (Nat.le_of_ble_eq_true rfl) (Nat.le_of_ble_eq_true rfl) rfl (k_X7_reckonAt_h (d + 1) (T := T) (σ := (sA 67 a (z1499) σ)) (a := a) (k := v6) (e := v61) (xa := xa) (xb := xb) (xc := xc) (xd := xd) (xe := xe) (xf := xf) ha (by omega) (by omega) (hw.put (by decide) (by decide) (fo_67 (by omega))) (rc_o (by decide) (hxa)) (rc_o (by decide) (hxb)) (rc_o (by decide) (hxc)) (rc_o (by decide) (hxd)) (rc_o (by decide) (hxe)) (rc_o (by decide) (hxf)) (by rw [show (sA 67 a (z1499) σ).2.1 69 a = _ from rc_o (by decide) (hx7)]; omega)) (fun r1612 T1614 σ1613 gt1615 hp => ?_)
              obtain ⟨rfl, rfl, w1618, F1619, f1616⟩ := hp
              clear gt1615
              show Tn _ _ 375 T σ1613 [(3, .int (iI z1501)), (2, .int (iI v61)), (1, .int (iI v6)), (0, .ref a)] [] _
              refine tn_aload_n dX7_step_375 rfl 3 rfl ?_
              refine tn_getR (ci := 7) (i := 5) (n := 60) (x := xb) dX7_step_376 rfl lay_7 (by decide) fl7_15 ha rfl rfl (rc_F F1619 (Or.inl (by decide)) (by decide) (rc_o (by decide) (hxb))) ?_
              refine tn_aload_n dX7_step_379 rfl 3 rfl ?_
              refine tn_getI (ci := 7) (i := 2) (n := 57) (t := σ.2.1 57 a) dX7_step_380 rfl lay_7 (by decide) fl7_65 ha rfl rfl (rc_F F1619 (Or.inl (by decide)) (by decide) (rc_o (by decide) (rfl))) ?_
              have g1620 : ((0 : Int) ≤ σ.2.1 57 a ∧ σ.2.1 57 a ≤ 11184800) ∧ ((T a).1 = 57 → σ.2.1 57 a ≤ 8) := wf_57 hw ha
              have g1620x := g1620.2
              replace g1620 := g1620.1
              have g1620x := g1620x hta
              refine tn_iload_n dX7_step_383 rfl 0 rfl ?_
              refine tn_callSN (M := m_X7_step) (pc := 384) (ix := 61) (M' := m_X11_put) (As := [.ref xb, .int (iI (σ.2.1 57 a)), .int (iI z1501)]) (rest := []) dX7_step_384 ok_X11_put stt_X11_put nl7_61 np_X11_put rfl (Nat.le_of_ble_eq_true rfl) (Nat.le_of_ble_eq_true rfl) rfl (k_X11_put_x (d + 3) (T := T) (σ := σ1613) (x := xb) (i := σ.2.1 57 a) (y := z1501) hk1594i (by omega) (by omega) (by omega) w1618 (nh_k hk1594 (by unfold HT; omega)) (vok_1 (by have q9 := hk1594; omega) (by omega))) (fun r1621 T1623 σ1622 gt1624 hp => ?_)
              obtain ⟨rfl, rfl, w1628, F1629, f1625, f1626⟩ := hp
              clear gt1624
              show Tn _ _ 387 T σ1622 [(3, .int (iI z1501)), (2, .int (iI v61)), (1, .int (iI v6)), (0, .ref a)] [] _
              refine tn_iload_n dX7_step_387 rfl 1 rfl ?_
              refine tn_bipush dX7_step_388 (by decide) ?_
              refine tn_icmp_ne (tgt := 397) dX7_step_390 (by decide) ⟨by omega, by omega⟩ ⟨by decide, by decide⟩ (fun h1630 => ?_) (fun h1630 => absurd h1630 (by omega))
              refine tn_iconst dX7_step_397 ?_
              have q1631 : σ1622.2.1 56 a = σ.2.1 56 a := rc_F F1629 (Or.inl (by decide)) (by decide) (rc_F F1619 (Or.inl (by decide)) (by decide) (rc_o (by decide) (rfl)))
              have q1632 : σ1622.2.1 57 a = σ.2.1 57 a := rc_F F1629 (Or.inl (by decide)) (by decide) (rc_F F1619 (Or.inl (by decide)) (by decide) (rc_o (by decide) (rfl)))
              have q1633 : σ1622.2.1 58 a = σ.2.1 58 a := rc_F F1629 (Or.inl (by decide)) (by decide) (rc_F F1619 (Or.inl (by decide)) (by decide) (rc_o (by decide) (rfl)))
              exact tn_zret (v := 0) rfl (by decide) dX7_step_398 ⟨_, rfl, rfl, w1628, (((FrC.rfl.put (by decide) (by decide)).trans (FrC.sub F1619 (by decide))).trans (FrC.sub F1629 (by decide))), by omega, (((CHX.rfl.fld (by simp) (by decide)).trans (CHX.sub f1616 (by simp) (by simp) (by simp))).trans (CHX.sub f1625 (by simp) (by simp) (by simp))), by unfold PIv at *; rw [q1631, q1632, q1633]; omega, (((FA.rfl.put).trans (FA.of F1619 (by decide))).trans (FA.of F1629 (by decide)))⟩
            · refine tn_tableIn (tgt := 369) (off := 301) dX7_step_68 (x := v61) ⟨by omega, by omega⟩ (by omega) (by omega) (by rw [h1550]; rfl) (by decide) ?_
              refine tn_aload_n dX7_step_369 rfl 3 rfl ?_
              refine tn_iload_n dX7_step_370 rfl 2 rfl ?_
              refine tn_iload_n dX7_step_371 rfl 1 rfl ?_
              obtain ⟨hk1636, hl1637⟩ : AR T xa 15 9 9 := ar_of (wf_59 hw ha) hxa
              have hk1636i : IA T xa := by unfold IA; omega
              obtain ⟨hk1640, hl1641⟩ : AR T xb 1 9 9 := ar_of (wf_60 hw ha) hxb
              have hk1640i : IA T xb := by unfold IA; omega
              obtain ⟨hl1645, hk1644a, hk1644b⟩ := ex_at (wf_61 hw ha) hxc
              have hk1644 : (T xc).1 = 14 := hk1644a (by omega)
              clear hk1644a hk1644b
              have hk1644i : IA T xc := by unfold IA; omega
              obtain ⟨hk1648, hl1649⟩ : AR T xd 1 108 108 := ar_of (wf_62 hw ha) hxd
              have hk1648i : IA T xd := by unfold IA; omega
              obtain ⟨hk1652, hl1653⟩ : AR T xe 1 1728 1728 := ar_of (wf_63 hw ha) hxe
              have hk1652i : IA T xe := by unfold IA; omega
              obtain ⟨hk1656, hl1657⟩ : AR T xf 1 200 200 := ar_of (wf_64 hw ha) hxf
              have hk1656i : IA T xf := by unfold IA; omega
              refine tn_callV (M := m_X7_step) (pc := 372) (ix := 129) (ci := 7) (M' := m_X7_reckonAt) (As := [.int (iI v6), .int (iI v61)]) (rest := []) dX7_step_372 ok_X7_reckonAt im_X7_reckonAt se_X7_reckonAt ml7_129 np_X7_reckonAt rfl rfl ha rfl (Nat.le_of_ble_eq_true rfl) (Nat.le_of_ble_eq_true rfl) rfl (k_X7_reckonAt_h (d + 1) (T := T) (σ := (sA 67 a (z1499) σ)) (a := a) (k := v6) (e := v61) (xa := xa) (xb := xb) (xc := xc) (xd := xd) (xe := xe) (xf := xf) ha (by omega) (by omega) (hw.put (by decide) (by decide) (fo_67 (by omega))) (rc_o (by decide) (hxa)) (rc_o (by decide) (hxb)) (rc_o (by decide) (hxc)) (rc_o (by decide) (hxd)) (rc_o (by decide) (hxe)) (rc_o (by decide) (hxf)) (by rw [show (sA 67 a (z1499) σ).2.1 69 a = _ from rc_o (by decide) (hx7)]; omega)) (fun r1658 T1660 σ1659 gt1661 hp => ?_)
              obtain ⟨rfl, rfl, w1664, F1665, f1662⟩ := hp
              clear gt1661
              show Tn _ _ 375 T σ1659 [(3, .int (iI z1501)), (2, .int (iI v61)), (1, .int (iI v6)), (0, .ref a)] [] _
              refine tn_aload_n dX7_step_375 rfl 3 rfl ?_
              refine tn_getR (ci := 7) (i := 5) (n := 60) (x := xb) dX7_step_376 rfl lay_7 (by decide) fl7_15 ha rfl rfl (rc_F F1665 (Or.inl (by decide)) (by decide) (rc_o (by decide) (hxb))) ?_
              refine tn_aload_n dX7_step_379 rfl 3 rfl ?_
              refine tn_getI (ci := 7) (i := 2) (n := 57) (t := σ.2.1 57 a) dX7_step_380 rfl lay_7 (by decide) fl7_65 ha rfl rfl (rc_F F1665 (Or.inl (by decide)) (by decide) (rc_o (by decide) (rfl))) ?_
              have g1666 : ((0 : Int) ≤ σ.2.1 57 a ∧ σ.2.1 57 a ≤ 11184800) ∧ ((T a).1 = 57 → σ.2.1 57 a ≤ 8) := wf_57 hw ha
              have g1666x := g1666.2
              replace g1666 := g1666.1
              have g1666x := g1666x hta
              refine tn_iload_n dX7_step_383 rfl 0 rfl ?_
              refine tn_callSN (M := m_X7_step) (pc := 384) (ix := 61) (M' := m_X11_put) (As := [.ref xb, .int (iI (σ.2.1 57 a)), .int (iI z1501)]) (rest := []) dX7_step_384 ok_X11_put stt_X11_put nl7_61 np_X11_put rfl (Nat.le_of_ble_eq_true rfl) (Nat.le_of_ble_eq_true rfl) rfl (k_X11_put_x (d + 3) (T := T) (σ := σ1659) (x := xb) (i := σ.2.1 57 a) (y := z1501) hk1640i (by omega) (by omega) (by omega) w1664 (nh_k hk1640 (by unfold HT; omega)) (vok_1 (by have q9 := hk1640; omega) (by omega))) (fun r1667 T1669 σ1668 gt1670 hp => ?_)
              obtain ⟨rfl, rfl, w1674, F1675, f1671, f1672⟩ := hp
              clear gt1670
              show Tn _ _ 387 T σ1668 [(3, .int (iI z1501)), (2, .int (iI v61)), (1, .int (iI v6)), (0, .ref a)] [] _
              refine tn_iload_n dX7_step_387 rfl 1 rfl ?_
              refine tn_bipush dX7_step_388 (by decide) ?_
              refine tn_icmp_ne (tgt := 397) dX7_step_390 (by decide) ⟨by omega, by omega⟩ ⟨by decide, by decide⟩ (fun h1676 => ?_) (fun h1676 => absurd h1676 (by omega))
              refine tn_iconst dX7_step_397 ?_
              have q1677 : σ1668.2.1 56 a = σ.2.1 56 a := rc_F F1675 (Or.inl (by decide)) (by decide) (rc_F F1665 (Or.inl (by decide)) (by decide) (rc_o (by decide) (rfl)))
              have q1678 : σ1668.2.1 57 a = σ.2.1 57 a := rc_F F1675 (Or.inl (by decide)) (by decide) (rc_F F1665 (Or.inl (by decide)) (by decide) (rc_o (by decide) (rfl)))
              have q1679 : σ1668.2.1 58 a = σ.2.1 58 a := rc_F F1675 (Or.inl (by decide)) (by decide) (rc_F F1665 (Or.inl (by decide)) (by decide) (rc_o (by decide) (rfl)))
              exact tn_zret (v := 0) rfl (by decide) dX7_step_398 ⟨_, rfl, rfl, w1674, (((FrC.rfl.put (by decide) (by decide)).trans (FrC.sub F1665 (by decide))).trans (FrC.sub F1675 (by decide))), by omega, (((CHX.rfl.fld (by simp) (by decide)).trans (CHX.sub f1662 (by simp) (by simp) (by simp))).trans (CHX.sub f1671 (by simp) (by simp) (by simp))), by unfold PIv at *; rw [q1677, q1678, q1679]; omega, (((FA.rfl.put).trans (FA.of F1665 (by decide))).trans (FA.of F1675 (by decide)))⟩
            · refine tn_tableIn (tgt := 369) (off := 301) dX7_step_68 (x := v61) ⟨by omega, by omega⟩ (by omega) (by omega) (by rw [h1550]; rfl) (by decide) ?_
              refine tn_aload_n dX7_step_369 rfl 3 rfl ?_
              refine tn_iload_n dX7_step_370 rfl 2 rfl ?_
              refine tn_iload_n dX7_step_371 rfl 1 rfl ?_
              obtain ⟨hk1682, hl1683⟩ : AR T xa 15 9 9 := ar_of (wf_59 hw ha) hxa
              have hk1682i : IA T xa := by unfold IA; omega
              obtain ⟨hk1686, hl1687⟩ : AR T xb 1 9 9 := ar_of (wf_60 hw ha) hxb
              have hk1686i : IA T xb := by unfold IA; omega
              obtain ⟨hl1691, hk1690a, hk1690b⟩ := ex_at (wf_61 hw ha) hxc
              have hk1690 : (T xc).1 = 14 := hk1690a (by omega)
              clear hk1690a hk1690b
              have hk1690i : IA T xc := by unfold IA; omega
              obtain ⟨hk1694, hl1695⟩ : AR T xd 1 108 108 := ar_of (wf_62 hw ha) hxd
              have hk1694i : IA T xd := by unfold IA; omega
              obtain ⟨hk1698, hl1699⟩ : AR T xe 1 1728 1728 := ar_of (wf_63 hw ha) hxe
              have hk1698i : IA T xe := by unfold IA; omega
              obtain ⟨hk1702, hl1703⟩ : AR T xf 1 200 200 := ar_of (wf_64 hw ha) hxf
              have hk1702i : IA T xf := by unfold IA; omega
              refine tn_callV (M := m_X7_step) (pc := 372) (ix := 129) (ci := 7) (M' := m_X7_reckonAt) (As := [.int (iI v6), .int (iI v61)]) (rest := []) dX7_step_372 ok_X7_reckonAt im_X7_reckonAt se_X7_reckonAt ml7_129 np_X7_reckonAt rfl rfl ha rfl (Nat.le_of_ble_eq_true rfl) (Nat.le_of_ble_eq_true rfl) rfl (k_X7_reckonAt_h (d + 1) (T := T) (σ := (sA 67 a (z1499) σ)) (a := a) (k := v6) (e := v61) (xa := xa) (xb := xb) (xc := xc) (xd := xd) (xe := xe) (xf := xf) ha (by omega) (by omega) (hw.put (by decide) (by decide) (fo_67 (by omega))) (rc_o (by decide) (hxa)) (rc_o (by decide) (hxb)) (rc_o (by decide) (hxc)) (rc_o (by decide) (hxd)) (rc_o (by decide) (hxe)) (rc_o (by decide) (hxf)) (by rw [show (sA 67 a (z1499) σ).2.1 69 a = _ from rc_o (by decide) (hx7)]; omega)) (fun r1704 T1706 σ1705 gt1707 hp => ?_)
              obtain ⟨rfl, rfl, w1710, F1711, f1708⟩ := hp
              clear gt1707
              show Tn _ _ 375 T σ1705 [(3, .int (iI z1501)), (2, .int (iI v61)), (1, .int (iI v6)), (0, .ref a)] [] _
              refine tn_aload_n dX7_step_375 rfl 3 rfl ?_
              refine tn_getR (ci := 7) (i := 5) (n := 60) (x := xb) dX7_step_376 rfl lay_7 (by decide) fl7_15 ha rfl rfl (rc_F F1711 (Or.inl (by decide)) (by decide) (rc_o (by decide) (hxb))) ?_
              refine tn_aload_n dX7_step_379 rfl 3 rfl ?_
              refine tn_getI (ci := 7) (i := 2) (n := 57) (t := σ.2.1 57 a) dX7_step_380 rfl lay_7 (by decide) fl7_65 ha rfl rfl (rc_F F1711 (Or.inl (by decide)) (by decide) (rc_o (by decide) (rfl))) ?_
              have g1712 : ((0 : Int) ≤ σ.2.1 57 a ∧ σ.2.1 57 a ≤ 11184800) ∧ ((T a).1 = 57 → σ.2.1 57 a ≤ 8) := wf_57 hw ha
              have g1712x := g1712.2
              replace g1712 := g1712.1
              have g1712x := g1712x hta
              refine tn_iload_n dX7_step_383 rfl 0 rfl ?_
              refine tn_callSN (M := m_X7_step) (pc := 384) (ix := 61) (M' := m_X11_put) (As := [.ref xb, .int (iI (σ.2.1 57 a)), .int (iI z1501)]) (rest := []) dX7_step_384 ok_X11_put stt_X11_put nl7_61 np_X11_put rfl (Nat.le_of_ble_eq_true rfl) (Nat.le_of_ble_eq_true rfl) rfl (k_X11_put_x (d + 3) (T := T) (σ := σ1705) (x := xb) (i := σ.2.1 57 a) (y := z1501) hk1686i (by omega) (by omega) (by omega) w1710 (nh_k hk1686 (by unfold HT; omega)) (vok_1 (by have q9 := hk1686; omega) (by omega))) (fun r1713 T1715 σ1714 gt1716 hp => ?_)
              obtain ⟨rfl, rfl, w1720, F1721, f1717, f1718⟩ := hp
              clear gt1716
              show Tn _ _ 387 T σ1714 [(3, .int (iI z1501)), (2, .int (iI v61)), (1, .int (iI v6)), (0, .ref a)] [] _
              refine tn_iload_n dX7_step_387 rfl 1 rfl ?_
              refine tn_bipush dX7_step_388 (by decide) ?_
              refine tn_icmp_ne (tgt := 397) dX7_step_390 (by decide) ⟨by omega, by omega⟩ ⟨by decide, by decide⟩ (fun h1722 => ?_) (fun h1722 => absurd h1722 (by omega))
              refine tn_iconst dX7_step_397 ?_
              have q1723 : σ1714.2.1 56 a = σ.2.1 56 a := rc_F F1721 (Or.inl (by decide)) (by decide) (rc_F F1711 (Or.inl (by decide)) (by decide) (rc_o (by decide) (rfl)))
              have q1724 : σ1714.2.1 57 a = σ.2.1 57 a := rc_F F1721 (Or.inl (by decide)) (by decide) (rc_F F1711 (Or.inl (by decide)) (by decide) (rc_o (by decide) (rfl)))
              have q1725 : σ1714.2.1 58 a = σ.2.1 58 a := rc_F F1721 (Or.inl (by decide)) (by decide) (rc_F F1711 (Or.inl (by decide)) (by decide) (rc_o (by decide) (rfl)))
              exact tn_zret (v := 0) rfl (by decide) dX7_step_398 ⟨_, rfl, rfl, w1720, (((FrC.rfl.put (by decide) (by decide)).trans (FrC.sub F1711 (by decide))).trans (FrC.sub F1721 (by decide))), by omega, (((CHX.rfl.fld (by simp) (by decide)).trans (CHX.sub f1708 (by simp) (by simp) (by simp))).trans (CHX.sub f1717 (by simp) (by simp) (by simp))), by unfold PIv at *; rw [q1723, q1724, q1725]; omega, (((FA.rfl.put).trans (FA.of F1711 (by decide))).trans (FA.of F1721 (by decide)))⟩
            · refine tn_tableIn (tgt := 369) (off := 301) dX7_step_68 (x := v61) ⟨by omega, by omega⟩ (by omega) (by omega) (by rw [h1550]; rfl) (by decide) ?_
              refine tn_aload_n dX7_step_369 rfl 3 rfl ?_
              refine tn_iload_n dX7_step_370 rfl 2 rfl ?_
              refine tn_iload_n dX7_step_371 rfl 1 rfl ?_
              obtain ⟨hk1728, hl1729⟩ : AR T xa 15 9 9 := ar_of (wf_59 hw ha) hxa
              have hk1728i : IA T xa := by unfold IA; omega
              obtain ⟨hk1732, hl1733⟩ : AR T xb 1 9 9 := ar_of (wf_60 hw ha) hxb
              have hk1732i : IA T xb := by unfold IA; omega
              obtain ⟨hl1737, hk1736a, hk1736b⟩ := ex_at (wf_61 hw ha) hxc
              have hk1736 : (T xc).1 = 14 := hk1736a (by omega)
              clear hk1736a hk1736b
              have hk1736i : IA T xc := by unfold IA; omega
              obtain ⟨hk1740, hl1741⟩ : AR T xd 1 108 108 := ar_of (wf_62 hw ha) hxd
              have hk1740i : IA T xd := by unfold IA; omega
              obtain ⟨hk1744, hl1745⟩ : AR T xe 1 1728 1728 := ar_of (wf_63 hw ha) hxe
              have hk1744i : IA T xe := by unfold IA; omega
              obtain ⟨hk1748, hl1749⟩ : AR T xf 1 200 200 := ar_of (wf_64 hw ha) hxf
              have hk1748i : IA T xf := by unfold IA; omega
              refine tn_callV (M := m_X7_step) (pc := 372) (ix := 129) (ci := 7) (M' := m_X7_reckonAt) (As := [.int (iI v6), .int (iI v61)]) (rest := []) dX7_step_372 ok_X7_reckonAt im_X7_reckonAt se_X7_reckonAt ml7_129 np_X7_reckonAt rfl rfl ha rfl (Nat.le_of_ble_eq_true rfl) (Nat.le_of_ble_eq_true rfl) rfl (k_X7_reckonAt_h (d + 1) (T := T) (σ := (sA 67 a (z1499) σ)) (a := a) (k := v6) (e := v61) (xa := xa) (xb := xb) (xc := xc) (xd := xd) (xe := xe) (xf := xf) ha (by omega) (by omega) (hw.put (by decide) (by decide) (fo_67 (by omega))) (rc_o (by decide) (hxa)) (rc_o (by decide) (hxb)) (rc_o (by decide) (hxc)) (rc_o (by decide) (hxd)) (rc_o (by decide) (hxe)) (rc_o (by decide) (hxf)) (by rw [show (sA 67 a (z1499) σ).2.1 69 a = _ from rc_o (by decide) (hx7)]; omega)) (fun r1750 T1752 σ1751 gt1753 hp => ?_)
              obtain ⟨rfl, rfl, w1756, F1757, f1754⟩ := hp
              clear gt1753
              show Tn _ _ 375 T σ1751 [(3, .int (iI z1501)), (2, .int (iI v61)), (1, .int (iI v6)), (0, .ref a)] [] _
              refine tn_aload_n dX7_step_375 rfl 3 rfl ?_
              refine tn_getR (ci := 7) (i := 5) (n := 60) (x := xb) dX7_step_376 rfl lay_7 (by decide) fl7_15 ha rfl rfl (rc_F F1757 (Or.inl (by decide)) (by decide) (rc_o (by decide) (hxb))) ?_
              refine tn_aload_n dX7_step_379 rfl 3 rfl ?_
              refine tn_getI (ci := 7) (i := 2) (n := 57) (t := σ.2.1 57 a) dX7_step_380 rfl lay_7 (by decide) fl7_65 ha rfl rfl (rc_F F1757 (Or.inl (by decide)) (by decide) (rc_o (by decide) (rfl))) ?_
              have g1758 : ((0 : Int) ≤ σ.2.1 57 a ∧ σ.2.1 57 a ≤ 11184800) ∧ ((T a).1 = 57 → σ.2.1 57 a ≤ 8) := wf_57 hw ha
              have g1758x := g1758.2
              replace g1758 := g1758.1
              have g1758x := g1758x hta
              refine tn_iload_n dX7_step_383 rfl 0 rfl ?_
              refine tn_callSN (M := m_X7_step) (pc := 384) (ix := 61) (M' := m_X11_put) (As := [.ref xb, .int (iI (σ.2.1 57 a)), .int (iI z1501)]) (rest := []) dX7_step_384 ok_X11_put stt_X11_put nl7_61 np_X11_put rfl (Nat.le_of_ble_eq_true rfl) (Nat.le_of_ble_eq_true rfl) rfl (k_X11_put_x (d + 3) (T := T) (σ := σ1751) (x := xb) (i := σ.2.1 57 a) (y := z1501) hk1732i (by omega) (by omega) (by omega) w1756 (nh_k hk1732 (by unfold HT; omega)) (vok_1 (by have q9 := hk1732; omega) (by omega))) (fun r1759 T1761 σ1760 gt1762 hp => ?_)
              obtain ⟨rfl, rfl, w1766, F1767, f1763, f1764⟩ := hp
              clear gt1762
              show Tn _ _ 387 T σ1760 [(3, .int (iI z1501)), (2, .int (iI v61)), (1, .int (iI v6)), (0, .ref a)] [] _
              refine tn_iload_n dX7_step_387 rfl 1 rfl ?_
              refine tn_bipush dX7_step_388 (by decide) ?_
              refine tn_icmp_ne (tgt := 397) dX7_step_390 (by decide) ⟨by omega, by omega⟩ ⟨by decide, by decide⟩ (fun h1768 => ?_) (fun h1768 => absurd h1768 (by omega))
              refine tn_iconst dX7_step_397 ?_
              have q1769 : σ1760.2.1 56 a = σ.2.1 56 a := rc_F F1767 (Or.inl (by decide)) (by decide) (rc_F F1757 (Or.inl (by decide)) (by decide) (rc_o (by decide) (rfl)))
              have q1770 : σ1760.2.1 57 a = σ.2.1 57 a := rc_F F1767 (Or.inl (by decide)) (by decide) (rc_F F1757 (Or.inl (by decide)) (by decide) (rc_o (by decide) (rfl)))
              have q1771 : σ1760.2.1 58 a = σ.2.1 58 a := rc_F F1767 (Or.inl (by decide)) (by decide) (rc_F F1757 (Or.inl (by decide)) (by decide) (rc_o (by decide) (rfl)))
              exact tn_zret (v := 0) rfl (by decide) dX7_step_398 ⟨_, rfl, rfl, w1766, (((FrC.rfl.put (by decide) (by decide)).trans (FrC.sub F1757 (by decide))).trans (FrC.sub F1767 (by decide))), by omega, (((CHX.rfl.fld (by simp) (by decide)).trans (CHX.sub f1754 (by simp) (by simp) (by simp))).trans (CHX.sub f1763 (by simp) (by simp) (by simp))), by unfold PIv at *; rw [q1769, q1770, q1771]; omega, (((FA.rfl.put).trans (FA.of F1757 (by decide))).trans (FA.of F1767 (by decide)))⟩
            · refine tn_tableIn (tgt := 369) (off := 301) dX7_step_68 (x := v61) ⟨by omega, by omega⟩ (by omega) (by omega) (by rw [h1550]; rfl) (by decide) ?_
              refine tn_aload_n dX7_step_369 rfl 3 rfl ?_
              refine tn_iload_n dX7_step_370 rfl 2 rfl ?_
              refine tn_iload_n dX7_step_371 rfl 1 rfl ?_
              obtain ⟨hk1774, hl1775⟩ : AR T xa 15 9 9 := ar_of (wf_59 hw ha) hxa
              have hk1774i : IA T xa := by unfold IA; omega
              obtain ⟨hk1778, hl1779⟩ : AR T xb 1 9 9 := ar_of (wf_60 hw ha) hxb
              have hk1778i : IA T xb := by unfold IA; omega
              obtain ⟨hl1783, hk1782a, hk1782b⟩ := ex_at (wf_61 hw ha) hxc
              have hk1782 : (T xc).1 = 14 := hk1782a (by omega)
              clear hk1782a hk1782b
              have hk1782i : IA T xc := by unfold IA; omega
              obtain ⟨hk1786, hl1787⟩ : AR T xd 1 108 108 := ar_of (wf_62 hw ha) hxd
              have hk1786i : IA T xd := by unfold IA; omega
              obtain ⟨hk1790, hl1791⟩ : AR T xe 1 1728 1728 := ar_of (wf_63 hw ha) hxe
              have hk1790i : IA T xe := by unfold IA; omega
              obtain ⟨hk1794, hl1795⟩ : AR T xf 1 200 200 := ar_of (wf_64 hw ha) hxf
              have hk1794i : IA T xf := by unfold IA; omega
              refine tn_callV (M := m_X7_step) (pc := 372) (ix := 129) (ci := 7) (M' := m_X7_reckonAt) (As := [.int (iI v6), .int (iI v61)]) (rest := []) dX7_step_372 ok_X7_reckonAt im_X7_reckonAt se_X7_reckonAt ml7_129 np_X7_reckonAt rfl rfl ha rfl (Nat.le_of_ble_eq_true rfl) (Nat.le_of_ble_eq_true rfl) rfl (k_X7_reckonAt_h (d + 1) (T := T) (σ := (sA 67 a (z1499) σ)) (a := a) (k := v6) (e := v61) (xa := xa) (xb := xb) (xc := xc) (xd := xd) (xe := xe) (xf := xf) ha (by omega) (by omega) (hw.put (by decide) (by decide) (fo_67 (by omega))) (rc_o (by decide) (hxa)) (rc_o (by decide) (hxb)) (rc_o (by decide) (hxc)) (rc_o (by decide) (hxd)) (rc_o (by decide) (hxe)) (rc_o (by decide) (hxf)) (by rw [show (sA 67 a (z1499) σ).2.1 69 a = _ from rc_o (by decide) (hx7)]; omega)) (fun r1796 T1798 σ1797 gt1799 hp => ?_)
              obtain ⟨rfl, rfl, w1802, F1803, f1800⟩ := hp
              clear gt1799
              show Tn _ _ 375 T σ1797 [(3, .int (iI z1501)), (2, .int (iI v61)), (1, .int (iI v6)), (0, .ref a)] [] _
              refine tn_aload_n dX7_step_375 rfl 3 rfl ?_
              refine tn_getR (ci := 7) (i := 5) (n := 60) (x := xb) dX7_step_376 rfl lay_7 (by decide) fl7_15 ha rfl rfl (rc_F F1803 (Or.inl (by decide)) (by decide) (rc_o (by decide) (hxb))) ?_
              refine tn_aload_n dX7_step_379 rfl 3 rfl ?_
              refine tn_getI (ci := 7) (i := 2) (n := 57) (t := σ.2.1 57 a) dX7_step_380 rfl lay_7 (by decide) fl7_65 ha rfl rfl (rc_F F1803 (Or.inl (by decide)) (by decide) (rc_o (by decide) (rfl))) ?_
              have g1804 : ((0 : Int) ≤ σ.2.1 57 a ∧ σ.2.1 57 a ≤ 11184800) ∧ ((T a).1 = 57 → σ.2.1 57 a ≤ 8) := wf_57 hw ha
              have g1804x := g1804.2
              replace g1804 := g1804.1
              have g1804x := g1804x hta
              refine tn_iload_n dX7_step_383 rfl 0 rfl ?_
              refine tn_callSN (M := m_X7_step) (pc := 384) (ix := 61) (M' := m_X11_put) (As := [.ref xb, .int (iI (σ.2.1 57 a)), .int (iI z1501)]) (rest := []) dX7_step_384 ok_X11_put stt_X11_put nl7_61 np_X11_put rfl (Nat.le_of_ble_eq_true rfl) (Nat.le_of_ble_eq_true rfl) rfl (k_X11_put_x (d + 3) (T := T) (σ := σ1797) (x := xb) (i := σ.2.1 57 a) (y := z1501) hk1778i (by omega) (by omega) (by omega) w1802 (nh_k hk1778 (by unfold HT; omega)) (vok_1 (by have q9 := hk1778; omega) (by omega))) (fun r1805 T1807 σ1806 gt1808 hp => ?_)
              obtain ⟨rfl, rfl, w1812, F1813, f1809, f1810⟩ := hp
              clear gt1808
              show Tn _ _ 387 T σ1806 [(3, .int (iI z1501)), (2, .int (iI v61)), (1, .int (iI v6)), (0, .ref a)] [] _
              refine tn_iload_n dX7_step_387 rfl 1 rfl ?_
              refine tn_bipush dX7_step_388 (by decide) ?_
              refine tn_icmp_ne (tgt := 397) dX7_step_390 (by decide) ⟨by omega, by omega⟩ ⟨by decide, by decide⟩ (fun h1814 => ?_) (fun h1814 => absurd h1814 (by omega))
              refine tn_iconst dX7_step_397 ?_
              have q1815 : σ1806.2.1 56 a = σ.2.1 56 a := rc_F F1813 (Or.inl (by decide)) (by decide) (rc_F F1803 (Or.inl (by decide)) (by decide) (rc_o (by decide) (rfl)))
              have q1816 : σ1806.2.1 57 a = σ.2.1 57 a := rc_F F1813 (Or.inl (by decide)) (by decide) (rc_F F1803 (Or.inl (by decide)) (by decide) (rc_o (by decide) (rfl)))
              have q1817 : σ1806.2.1 58 a = σ.2.1 58 a := rc_F F1813 (Or.inl (by decide)) (by decide) (rc_F F1803 (Or.inl (by decide)) (by decide) (rc_o (by decide) (rfl)))
              exact tn_zret (v := 0) rfl (by decide) dX7_step_398 ⟨_, rfl, rfl, w1812, (((FrC.rfl.put (by decide) (by decide)).trans (FrC.sub F1803 (by decide))).trans (FrC.sub F1813 (by decide))), by omega, (((CHX.rfl.fld (by simp) (by decide)).trans (CHX.sub f1800 (by simp) (by simp) (by simp))).trans (CHX.sub f1809 (by simp) (by simp) (by simp))), by unfold PIv at *; rw [q1815, q1816, q1817]; omega, (((FA.rfl.put).trans (FA.of F1803 (by decide))).trans (FA.of F1813 (by decide)))⟩
            · refine tn_tableIn (tgt := 369) (off := 301) dX7_step_68 (x := v61) ⟨by omega, by omega⟩ (by omega) (by omega) (by rw [h1550]; rfl) (by decide) ?_
              refine tn_aload_n dX7_step_369 rfl 3 rfl ?_
              refine tn_iload_n dX7_step_370 rfl 2 rfl ?_
              refine tn_iload_n dX7_step_371 rfl 1 rfl ?_
              obtain ⟨hk1820, hl1821⟩ : AR T xa 15 9 9 := ar_of (wf_59 hw ha) hxa
              have hk1820i : IA T xa := by unfold IA; omega
              obtain ⟨hk1824, hl1825⟩ : AR T xb 1 9 9 := ar_of (wf_60 hw ha) hxb
              have hk1824i : IA T xb := by unfold IA; omega
              obtain ⟨hl1829, hk1828a, hk1828b⟩ := ex_at (wf_61 hw ha) hxc
              have hk1828 : (T xc).1 = 14 := hk1828a (by omega)
              clear hk1828a hk1828b
              have hk1828i : IA T xc := by unfold IA; omega
              obtain ⟨hk1832, hl1833⟩ : AR T xd 1 108 108 := ar_of (wf_62 hw ha) hxd
              have hk1832i : IA T xd := by unfold IA; omega
              obtain ⟨hk1836, hl1837⟩ : AR T xe 1 1728 1728 := ar_of (wf_63 hw ha) hxe
              have hk1836i : IA T xe := by unfold IA; omega
              obtain ⟨hk1840, hl1841⟩ : AR T xf 1 200 200 := ar_of (wf_64 hw ha) hxf
              have hk1840i : IA T xf := by unfold IA; omega
              refine tn_callV (M := m_X7_step) (pc := 372) (ix := 129) (ci := 7) (M' := m_X7_reckonAt) (As := [.int (iI v6), .int (iI v61)]) (rest := []) dX7_step_372 ok_X7_reckonAt im_X7_reckonAt se_X7_reckonAt ml7_129 np_X7_reckonAt rfl rfl ha rfl (Nat.le_of_ble_eq_true rfl) (Nat.le_of_ble_eq_true rfl) rfl (k_X7_reckonAt_h (d + 1) (T := T) (σ := (sA 67 a (z1499) σ)) (a := a) (k := v6) (e := v61) (xa := xa) (xb := xb) (xc := xc) (xd := xd) (xe := xe) (xf := xf) ha (by omega) (by omega) (hw.put (by decide) (by decide) (fo_67 (by omega))) (rc_o (by decide) (hxa)) (rc_o (by decide) (hxb)) (rc_o (by decide) (hxc)) (rc_o (by decide) (hxd)) (rc_o (by decide) (hxe)) (rc_o (by decide) (hxf)) (by rw [show (sA 67 a (z1499) σ).2.1 69 a = _ from rc_o (by decide) (hx7)]; omega)) (fun r1842 T1844 σ1843 gt1845 hp => ?_)
              obtain ⟨rfl, rfl, w1848, F1849, f1846⟩ := hp
              clear gt1845
              show Tn _ _ 375 T σ1843 [(3, .int (iI z1501)), (2, .int (iI v61)), (1, .int (iI v6)), (0, .ref a)] [] _
              refine tn_aload_n dX7_step_375 rfl 3 rfl ?_
              refine tn_getR (ci := 7) (i := 5) (n := 60) (x := xb) dX7_step_376 rfl lay_7 (by decide) fl7_15 ha rfl rfl (rc_F F1849 (Or.inl (by decide)) (by decide) (rc_o (by decide) (hxb))) ?_
              refine tn_aload_n dX7_step_379 rfl 3 rfl ?_
              refine tn_getI (ci := 7) (i := 2) (n := 57) (t := σ.2.1 57 a) dX7_step_380 rfl lay_7 (by decide) fl7_65 ha rfl rfl (rc_F F1849 (Or.inl (by decide)) (by decide) (rc_o (by decide) (rfl))) ?_
              have g1850 : ((0 : Int) ≤ σ.2.1 57 a ∧ σ.2.1 57 a ≤ 11184800) ∧ ((T a).1 = 57 → σ.2.1 57 a ≤ 8) := wf_57 hw ha
              have g1850x := g1850.2
              replace g1850 := g1850.1
              have g1850x := g1850x hta
              refine tn_iload_n dX7_step_383 rfl 0 rfl ?_
              refine tn_callSN (M := m_X7_step) (pc := 384) (ix := 61) (M' := m_X11_put) (As := [.ref xb, .int (iI (σ.2.1 57 a)), .int (iI z1501)]) (rest := []) dX7_step_384 ok_X11_put stt_X11_put nl7_61 np_X11_put rfl (Nat.le_of_ble_eq_true rfl) (Nat.le_of_ble_eq_true rfl) rfl (k_X11_put_x (d + 3) (T := T) (σ := σ1843) (x := xb) (i := σ.2.1 57 a) (y := z1501) hk1824i (by omega) (by omega) (by omega) w1848 (nh_k hk1824 (by unfold HT; omega)) (vok_1 (by have q9 := hk1824; omega) (by omega))) (fun r1851 T1853 σ1852 gt1854 hp => ?_)
              obtain ⟨rfl, rfl, w1858, F1859, f1855, f1856⟩ := hp
              clear gt1854
              show Tn _ _ 387 T σ1852 [(3, .int (iI z1501)), (2, .int (iI v61)), (1, .int (iI v6)), (0, .ref a)] [] _
              refine tn_iload_n dX7_step_387 rfl 1 rfl ?_
              refine tn_bipush dX7_step_388 (by decide) ?_
              refine tn_icmp_ne (tgt := 397) dX7_step_390 (by decide) ⟨by omega, by omega⟩ ⟨by decide, by decide⟩ (fun h1860 => ?_) (fun h1860 => absurd h1860 (by omega))
              refine tn_iconst dX7_step_397 ?_
              have q1861 : σ1852.2.1 56 a = σ.2.1 56 a := rc_F F1859 (Or.inl (by decide)) (by decide) (rc_F F1849 (Or.inl (by decide)) (by decide) (rc_o (by decide) (rfl)))
              have q1862 : σ1852.2.1 57 a = σ.2.1 57 a := rc_F F1859 (Or.inl (by decide)) (by decide) (rc_F F1849 (Or.inl (by decide)) (by decide) (rc_o (by decide) (rfl)))
              have q1863 : σ1852.2.1 58 a = σ.2.1 58 a := rc_F F1859 (Or.inl (by decide)) (by decide) (rc_F F1849 (Or.inl (by decide)) (by decide) (rc_o (by decide) (rfl)))
              exact tn_zret (v := 0) rfl (by decide) dX7_step_398 ⟨_, rfl, rfl, w1858, (((FrC.rfl.put (by decide) (by decide)).trans (FrC.sub F1849 (by decide))).trans (FrC.sub F1859 (by decide))), by omega, (((CHX.rfl.fld (by simp) (by decide)).trans (CHX.sub f1846 (by simp) (by simp) (by simp))).trans (CHX.sub f1855 (by simp) (by simp) (by simp))), by unfold PIv at *; rw [q1861, q1862, q1863]; omega, (((FA.rfl.put).trans (FA.of F1849 (by decide))).trans (FA.of F1859 (by decide)))⟩
            · refine tn_tableIn (tgt := 152) (off := 84) dX7_step_68 (x := v61) ⟨by omega, by omega⟩ (by omega) (by omega) (by rw [h1550]; rfl) (by decide) ?_
              refine tn_aload_n dX7_step_152 rfl 3 rfl ?_
              refine tn_aload_n dX7_step_153 rfl 3 rfl ?_
              refine tn_iload_n dX7_step_154 rfl 2 rfl ?_
              refine tn_iconst dX7_step_155 ?_
              refine tn_callV (M := m_X7_step) (pc := 156) (ix := 110) (ci := 7) (M' := m_X7_operand) (As := [.int (iI v6), .int (iI 3)]) (rest := [.ref a]) dX7_step_156 ok_X7_operand im_X7_operand se_X7_operand ml7_110 np_X7_operand rfl rfl ha rfl (Nat.le_of_ble_eq_true rfl) (Nat.le_of_ble_eq_true rfl) rfl (k_X7_operand (d + 2) (T := T) (σ := (sA 67 a (z1499) σ)) (a := a) (k := v6) (c := 3) ha (by omega) (by decide) (hw.put (by decide) (by decide) (fo_67 (by omega))) (by rw [show (sA 67 a (z1499) σ).2.1 69 a = _ from rc_o (by decide) (hx7)]; omega) (by omega)) (fun r1864 T1866 σ1865 gt1867 hp => ?_)
              obtain ⟨v1869, rfl, rfl, rfl, f1868⟩ := hp
              clear gt1867
              show Tn _ _ 159 T (sA 67 a (z1499) σ) [(3, .int (iI z1501)), (2, .int (iI v61)), (1, .int (iI v6)), (0, .ref a)] [.int (iI v1869), .ref a] _
              obtain ⟨hk1872, hl1873⟩ : AR T xa 15 9 9 := ar_of (wf_59 hw ha) hxa
              have hk1872i : IA T xa := by unfold IA; omega
              obtain ⟨hk1876, hl1877⟩ : AR T xb 1 9 9 := ar_of (wf_60 hw ha) hxb
              have hk1876i : IA T xb := by unfold IA; omega
              obtain ⟨hl1881, hk1880a, hk1880b⟩ := ex_at (wf_61 hw ha) hxc
              have hk1880 : (T xc).1 = 14 := hk1880a (by omega)
              clear hk1880a hk1880b
              have hk1880i : IA T xc := by unfold IA; omega
              obtain ⟨hk1884, hl1885⟩ : AR T xd 1 108 108 := ar_of (wf_62 hw ha) hxd
              have hk1884i : IA T xd := by unfold IA; omega
              obtain ⟨hk1888, hl1889⟩ : AR T xe 1 1728 1728 := ar_of (wf_63 hw ha) hxe
              have hk1888i : IA T xe := by unfold IA; omega
              obtain ⟨hk1892, hl1893⟩ : AR T xf 1 200 200 := ar_of (wf_64 hw ha) hxf
              have hk1892i : IA T xf := by unfold IA; omega
              refine tn_callV (M := m_X7_step) (pc := 159) (ix := 113) (ci := 7) (M' := m_X7_emit) (As := [.int (iI v1869)]) (rest := []) dX7_step_159 ok_X7_emit im_X7_emit se_X7_emit ml7_113 np_X7_emit rfl rfl ha rfl (Nat.le_of_ble_eq_true rfl) (Nat.le_of_ble_eq_true rfl) rfl (k_X7_emit_h (d + 2) (T := T) (σ := (sA 67 a (z1499) σ)) (a := a) (p1 := v1869) (xa := xa) (xb := xb) (xc := xc) (xd := xd) (xe := xe) (xf := xf) ha (by omega) (hw.put (by decide) (by decide) (fo_67 (by omega))) (rc_o (by decide) (hxa)) (rc_o (by decide) (hxb)) (rc_o (by decide) (hxc)) (rc_o (by decide) (hxd)) (rc_o (by decide) (hxe)) (rc_o (by decide) (hxf))) (fun r1894 T1896 σ1895 gt1897 hp => ?_)
              obtain ⟨rfl, rfl, w1901, F1902, f1898, f1899⟩ := hp
              clear gt1897
              show Tn _ _ 162 T σ1895 [(3, .int (iI z1501)), (2, .int (iI v61)), (1, .int (iI v6)), (0, .ref a)] [] _
              refine tn_goto (tgt := 375) dX7_step_162 (by decide) ?_
              refine tn_aload_n dX7_step_375 rfl 3 rfl ?_
              refine tn_getR (ci := 7) (i := 5) (n := 60) (x := xb) dX7_step_376 rfl lay_7 (by decide) fl7_15 ha rfl rfl (rc_F F1902 (Or.inl (by decide)) (by decide) (rc_o (by decide) (hxb))) ?_
              refine tn_aload_n dX7_step_379 rfl 3 rfl ?_
              refine tn_getI (ci := 7) (i := 2) (n := 57) (t := σ.2.1 57 a) dX7_step_380 rfl lay_7 (by decide) fl7_65 ha rfl rfl (rc_F F1902 (Or.inl (by decide)) (by decide) (rc_o (by decide) (rfl))) ?_
              have g1903 : ((0 : Int) ≤ σ.2.1 57 a ∧ σ.2.1 57 a ≤ 11184800) ∧ ((T a).1 = 57 → σ.2.1 57 a ≤ 8) := wf_57 hw ha
              have g1903x := g1903.2
              replace g1903 := g1903.1
              have g1903x := g1903x hta
              refine tn_iload_n dX7_step_383 rfl 0 rfl ?_
              refine tn_callSN (M := m_X7_step) (pc := 384) (ix := 61) (M' := m_X11_put) (As := [.ref xb, .int (iI (σ.2.1 57 a)), .int (iI z1501)]) (rest := []) dX7_step_384 ok_X11_put stt_X11_put nl7_61 np_X11_put rfl (Nat.le_of_ble_eq_true rfl) (Nat.le_of_ble_eq_true rfl) rfl (k_X11_put_x (d + 3) (T := T) (σ := σ1895) (x := xb) (i := σ.2.1 57 a) (y := z1501) hk1876i (by omega) (by omega) (by omega) w1901 (nh_k hk1876 (by unfold HT; omega)) (vok_1 (by have q9 := hk1876; omega) (by omega))) (fun r1904 T1906 σ1905 gt1907 hp => ?_)
              obtain ⟨rfl, rfl, w1911, F1912, f1908, f1909⟩ := hp
              clear gt1907
              show Tn _ _ 387 T σ1905 [(3, .int (iI z1501)), (2, .int (iI v61)), (1, .int (iI v6)), (0, .ref a)] [] _
              refine tn_iload_n dX7_step_387 rfl 1 rfl ?_
              refine tn_bipush dX7_step_388 (by decide) ?_
              refine tn_icmp_ne (tgt := 397) dX7_step_390 (by decide) ⟨by omega, by omega⟩ ⟨by decide, by decide⟩ (fun h1913 => ?_) (fun h1913 => absurd h1913 (by omega))
              refine tn_iconst dX7_step_397 ?_
              have q1914 : σ1905.2.1 56 a = σ.2.1 56 a := rc_F F1912 (Or.inl (by decide)) (by decide) (rc_F F1902 (Or.inl (by decide)) (by decide) (rc_o (by decide) (rfl)))
              have q1915 : σ1905.2.1 57 a = σ.2.1 57 a := rc_F F1912 (Or.inl (by decide)) (by decide) (rc_F F1902 (Or.inl (by decide)) (by decide) (rc_o (by decide) (rfl)))
              have q1916 : σ1905.2.1 58 a = σ.2.1 58 a := rc_F F1912 (Or.inl (by decide)) (by decide) (rc_F F1902 (Or.inl (by decide)) (by decide) (rc_o (by decide) (rfl)))
              exact tn_zret (v := 0) rfl (by decide) dX7_step_398 ⟨_, rfl, rfl, w1911, (((FrC.rfl.put (by decide) (by decide)).trans (FrC.sub F1902 (by decide))).trans (FrC.sub F1912 (by decide))), by omega, (((CHX.rfl.fld (by simp) (by decide)).trans (CHX.sub f1898 (by simp) (by simp) (by simp))).trans (CHX.sub f1908 (by simp) (by simp) (by simp))), by unfold PIv at *; rw [q1914, q1915, q1916]; omega, (((FA.rfl.put).trans f1899).trans (FA.of F1912 (by decide)))⟩
            · refine tn_tableIn (tgt := 213) (off := 145) dX7_step_68 (x := v61) ⟨by omega, by omega⟩ (by omega) (by omega) (by rw [h1550]; rfl) (by decide) ?_
              refine tn_aload_n dX7_step_213 rfl 3 rfl ?_
              refine tn_aload_n dX7_step_214 rfl 3 rfl ?_
              refine tn_iload_n dX7_step_215 rfl 2 rfl ?_
              refine tn_iconst dX7_step_216 ?_
              refine tn_callV (M := m_X7_step) (pc := 217) (ix := 110) (ci := 7) (M' := m_X7_operand) (As := [.int (iI v6), .int (iI 3)]) (rest := [.ref a]) dX7_step_217 ok_X7_operand im_X7_operand se_X7_operand ml7_110 np_X7_operand rfl rfl ha rfl (Nat.le_of_ble_eq_true rfl) (Nat.le_of_ble_eq_true rfl) rfl (k_X7_operand (d + 2) (T := T) (σ := (sA 67 a (z1499) σ)) (a := a) (k := v6) (c := 3) ha (by omega) (by decide) (hw.put (by decide) (by decide) (fo_67 (by omega))) (by rw [show (sA 67 a (z1499) σ).2.1 69 a = _ from rc_o (by decide) (hx7)]; omega) (by omega)) (fun r1917 T1919 σ1918 gt1920 hp => ?_)
              obtain ⟨v1922, rfl, rfl, rfl, f1921⟩ := hp
              clear gt1920
              show Tn _ _ 220 T (sA 67 a (z1499) σ) [(3, .int (iI z1501)), (2, .int (iI v61)), (1, .int (iI v6)), (0, .ref a)] [.int (iI v1922), .ref a] _
              obtain ⟨hk1925, hl1926⟩ : AR T xa 15 9 9 := ar_of (wf_59 hw ha) hxa
              have hk1925i : IA T xa := by unfold IA; omega
              obtain ⟨hk1929, hl1930⟩ : AR T xb 1 9 9 := ar_of (wf_60 hw ha) hxb
              have hk1929i : IA T xb := by unfold IA; omega
              obtain ⟨hl1934, hk1933a, hk1933b⟩ := ex_at (wf_61 hw ha) hxc
              have hk1933 : (T xc).1 = 14 := hk1933a (by omega)
              clear hk1933a hk1933b
              have hk1933i : IA T xc := by unfold IA; omega
              obtain ⟨hk1937, hl1938⟩ : AR T xd 1 108 108 := ar_of (wf_62 hw ha) hxd
              have hk1937i : IA T xd := by unfold IA; omega
              obtain ⟨hk1941, hl1942⟩ : AR T xe 1 1728 1728 := ar_of (wf_63 hw ha) hxe
              have hk1941i : IA T xe := by unfold IA; omega
              obtain ⟨hk1945, hl1946⟩ : AR T xf 1 200 200 := ar_of (wf_64 hw ha) hxf
              have hk1945i : IA T xf := by unfold IA; omega
              refine tn_callV (M := m_X7_step) (pc := 220) (ix := 123) (ci := 7) (M' := m_X7_giveBack) (As := [.int (iI v1922)]) (rest := []) dX7_step_220 ok_X7_giveBack im_X7_giveBack se_X7_giveBack ml7_123 np_X7_giveBack rfl rfl ha rfl (Nat.le_of_ble_eq_true rfl) (Nat.le_of_ble_eq_true rfl) rfl (k_X7_giveBack_h57 (d + 1) (T := T) (σ := (sA 67 a (z1499) σ)) (a := a) (n := v1922) (xa := xa) (xb := xb) (xc := xc) (xd := xd) (xe := xe) (xf := xf) ha hta (by omega) (hw.put (by decide) (by decide) (fo_67 (by omega))) (rc_o (by decide) (hxa)) (rc_o (by decide) (hxb)) (rc_o (by decide) (hxc)) (rc_o (by decide) (hxd)) (rc_o (by decide) (hxe)) (rc_o (by decide) (hxf)) (by rw [show (sA 67 a (z1499) σ).2.1 58 a = σ.2.1 58 a from rc_o (by decide) (rfl), show (sA 67 a (z1499) σ).2.1 57 a = σ.2.1 57 a from rc_o (by decide) (rfl)]; omega)) (fun r1947 T1949 σ1948 gt1950 hp => ?_)
              obtain ⟨rfl, rfl, w1955, F1956, f1951, f1952, f1953⟩ := hp
              clear gt1950
              show Tn _ _ 223 T σ1948 [(3, .int (iI z1501)), (2, .int (iI v61)), (1, .int (iI v6)), (0, .ref a)] [] _
              refine tn_iconst dX7_step_223 ?_
              have q1957 : σ1948.2.1 56 a = σ1948.2.1 56 a := rfl
              have q1958 : σ1948.2.1 57 a = σ1948.2.1 57 a := rfl
              have q1959 : σ1948.2.1 58 a = σ1948.2.1 58 a := rfl
              exact tn_zret (v := 0) rfl (by decide) dX7_step_224 ⟨_, rfl, rfl, w1955, ((FrC.rfl.put (by decide) (by decide)).trans (FrC.sub F1956 (by decide))), by omega, ((CHX.rfl.fld (by simp) (by decide)).trans (CHX.sub f1951 (by simp) (by simp) (by simp))), by unfold PIv at *; rw [q1957, q1958, q1959]; omega, ((FA.rfl.put).trans f1953)⟩
            · refine tn_tableIn (tgt := 165) (off := 97) dX7_step_68 (x := v61) ⟨by omega, by omega⟩ (by omega) (by omega) (by rw [h1550]; rfl) (by decide) ?_
              refine tn_aload_n dX7_step_165 rfl 3 rfl ?_
              refine tn_getR (ci := 7) (i := 14) (n := 69) (x := xq8) dX7_step_166 rfl lay_7 (by decide) fl7_72 ha rfl rfl (rc_o (by decide) (hx7)) ?_
              refine tn_iload_n dX7_step_169 rfl 2 rfl ?_
              refine tn_bipush dX7_step_170 (by decide) ?_
              refine tn_callV (M := m_X7_step) (pc := 172) (ix := 117) (ci := 1) (M' := m_X1_get) (As := [.int (iI v6), .int (iI 12)]) (rest := []) dX7_step_172 ok_X1_get im_X1_get se_X1_get ml7_117 np_X1_get rfl rfl hk9o rfl (Nat.le_of_ble_eq_true rfl) (Nat.le_of_ble_eq_true rfl) rfl (k_X1_get (d + 3) (T := T) (σ := (sA 67 a (z1499) σ)) (a := xq8) (k := v6) (c := 12) hk9o (by omega) (by decide) (hw.put (by decide) (by decide) (fo_67 (by omega))) (by omega)) (fun r1960 T1962 σ1961 gt1963 hp => ?_)
              obtain ⟨v1965, rfl, rfl, rfl, f1964⟩ := hp
              clear gt1963
              show Tn _ _ 175 T (sA 67 a (z1499) σ) [(3, .int (iI z1501)), (2, .int (iI v61)), (1, .int (iI v6)), (0, .ref a)] [.int (iI v1965)] _
              refine tn_istore_n (L' := [(3, .int (iI v1965)), (2, .int (iI v61)), (1, .int (iI v6)), (0, .ref a)]) dX7_step_175 rfl (by decide) rfl ?_
              refine tn_goto (tgt := 375) dX7_step_176 (by decide) ?_
              refine tn_aload_n dX7_step_375 rfl 3 rfl ?_
              obtain ⟨hk1968, hl1969⟩ : AR T xb 1 9 9 := ar_of (wf_60 hw ha) hxb
              have hk1968i : IA T xb := by unfold IA; omega
              refine tn_getR (ci := 7) (i := 5) (n := 60) (x := xb) dX7_step_376 rfl lay_7 (by decide) fl7_15 ha rfl rfl (rc_o (by decide) (hxb)) ?_
              refine tn_aload_n dX7_step_379 rfl 3 rfl ?_
              refine tn_getI (ci := 7) (i := 2) (n := 57) (t := σ.2.1 57 a) dX7_step_380 rfl lay_7 (by decide) fl7_65 ha rfl rfl (rc_o (by decide) (rfl)) ?_
              have g1970 : ((0 : Int) ≤ σ.2.1 57 a ∧ σ.2.1 57 a ≤ 11184800) ∧ ((T a).1 = 57 → σ.2.1 57 a ≤ 8) := wf_57 hw ha
              have g1970x := g1970.2
              replace g1970 := g1970.1
              have g1970x := g1970x hta
              refine tn_iload_n dX7_step_383 rfl 0 rfl ?_
              refine tn_callSN (M := m_X7_step) (pc := 384) (ix := 61) (M' := m_X11_put) (As := [.ref xb, .int (iI (σ.2.1 57 a)), .int (iI v1965)]) (rest := []) dX7_step_384 ok_X11_put stt_X11_put nl7_61 np_X11_put rfl (Nat.le_of_ble_eq_true rfl) (Nat.le_of_ble_eq_true rfl) rfl (k_X11_put_x (d + 3) (T := T) (σ := (sA 67 a (z1499) σ)) (x := xb) (i := σ.2.1 57 a) (y := v1965) hk1968i (by omega) (by omega) (by omega) (hw.put (by decide) (by decide) (fo_67 (by omega))) (nh_k hk1968 (by unfold HT; omega)) (vok_1 (by have q9 := hk1968; omega) (by omega))) (fun r1971 T1973 σ1972 gt1974 hp => ?_)
              obtain ⟨rfl, rfl, w1978, F1979, f1975, f1976⟩ := hp
              clear gt1974
              show Tn _ _ 387 T σ1972 [(3, .int (iI v1965)), (2, .int (iI v61)), (1, .int (iI v6)), (0, .ref a)] [] _
              refine tn_iload_n dX7_step_387 rfl 1 rfl ?_
              refine tn_bipush dX7_step_388 (by decide) ?_
              refine tn_icmp_ne (tgt := 397) dX7_step_390 (by decide) ⟨by omega, by omega⟩ ⟨by decide, by decide⟩ (fun h1980 => ?_) (fun h1980 => absurd h1980 (by omega))
              refine tn_iconst dX7_step_397 ?_
              have q1981 : σ1972.2.1 56 a = σ.2.1 56 a := rc_F F1979 (Or.inl (by decide)) (by decide) (rc_o (by decide) (rfl))
              have q1982 : σ1972.2.1 57 a = σ.2.1 57 a := rc_F F1979 (Or.inl (by decide)) (by decide) (rc_o (by decide) (rfl))
              have q1983 : σ1972.2.1 58 a = σ.2.1 58 a := rc_F F1979 (Or.inl (by decide)) (by decide) (rc_o (by decide) (rfl))
              exact tn_zret (v := 0) rfl (by decide) dX7_step_398 ⟨_, rfl, rfl, w1978, ((FrC.rfl.put (by decide) (by decide)).trans (FrC.sub F1979 (by decide))), by omega, ((CHX.rfl.fld (by simp) (by decide)).trans (CHX.sub f1975 (by simp) (by simp) (by simp))), by unfold PIv at *; rw [q1981, q1982, q1983]; omega, ((FA.rfl.put).trans (FA.of F1979 (by decide)))⟩
            · refine tn_tableIn (tgt := 179) (off := 111) dX7_step_68 (x := v61) ⟨by omega, by omega⟩ (by omega) (by omega) (by rw [h1550]; rfl) (by decide) ?_
              refine tn_aload_n dX7_step_179 rfl 3 rfl ?_
              refine tn_iload_n dX7_step_180 rfl 2 rfl ?_
              refine tn_iconst dX7_step_181 ?_
              refine tn_callV (M := m_X7_step) (pc := 182) (ix := 110) (ci := 7) (M' := m_X7_operand) (As := [.int (iI v6), .int (iI 3)]) (rest := []) dX7_step_182 ok_X7_operand im_X7_operand se_X7_operand ml7_110 np_X7_operand rfl rfl ha rfl (Nat.le_of_ble_eq_true rfl) (Nat.le_of_ble_eq_true rfl) rfl (k_X7_operand (d + 2) (T := T) (σ := (sA 67 a (z1499) σ)) (a := a) (k := v6) (c := 3) ha (by omega) (by decide) (hw.put (by decide) (by decide) (fo_67 (by omega))) (by rw [show (sA 67 a (z1499) σ).2.1 69 a = _ from rc_o (by decide) (hx7)]; omega) (by omega)) (fun r1984 T1986 σ1985 gt1987 hp => ?_)
              obtain ⟨v1989, rfl, rfl, rfl, f1988⟩ := hp
              clear gt1987
              show Tn _ _ 185 T (sA 67 a (z1499) σ) [(3, .int (iI z1501)), (2, .int (iI v61)), (1, .int (iI v6)), (0, .ref a)] [.int (iI v1989)] _
              refine tn_if_ne (tgt := 201) dX7_step_185 (by decide) ⟨by omega, by omega⟩ (fun h1990 => ?_) (fun h1990 => ?_)
              · refine tn_iload_n dX7_step_201 rfl 0 rfl ?_
                refine tn_istore_n (L' := [(3, .int (iI z1501)), (2, .int (iI v61)), (1, .int (iI v6)), (0, .ref a)]) dX7_step_202 rfl (by decide) rfl ?_
                refine tn_goto (tgt := 375) dX7_step_203 (by decide) ?_
                refine tn_aload_n dX7_step_375 rfl 3 rfl ?_
                obtain ⟨hk1993, hl1994⟩ : AR T xb 1 9 9 := ar_of (wf_60 hw ha) hxb
                have hk1993i : IA T xb := by unfold IA; omega
                refine tn_getR (ci := 7) (i := 5) (n := 60) (x := xb) dX7_step_376 rfl lay_7 (by decide) fl7_15 ha rfl rfl (rc_o (by decide) (hxb)) ?_
                refine tn_aload_n dX7_step_379 rfl 3 rfl ?_
                refine tn_getI (ci := 7) (i := 2) (n := 57) (t := σ.2.1 57 a) dX7_step_380 rfl lay_7 (by decide) fl7_65 ha rfl rfl (rc_o (by decide) (rfl)) ?_
                have g1995 : ((0 : Int) ≤ σ.2.1 57 a ∧ σ.2.1 57 a ≤ 11184800) ∧ ((T a).1 = 57 → σ.2.1 57 a ≤ 8) := wf_57 hw ha
                have g1995x := g1995.2
                replace g1995 := g1995.1
                have g1995x := g1995x hta
                refine tn_iload_n dX7_step_383 rfl 0 rfl ?_
                refine tn_callSN (M := m_X7_step) (pc := 384) (ix := 61) (M' := m_X11_put) (As := [.ref xb, .int (iI (σ.2.1 57 a)), .int (iI z1501)]) (rest := []) dX7_step_384 ok_X11_put stt_X11_put nl7_61 np_X11_put rfl (Nat.le_of_ble_eq_true rfl) (Nat.le_of_ble_eq_true rfl) rfl (k_X11_put_x (d + 3) (T := T) (σ := (sA 67 a (z1499) σ)) (x := xb) (i := σ.2.1 57 a) (y := z1501) hk1993i (by omega) (by omega) (by omega) (hw.put (by decide) (by decide) (fo_67 (by omega))) (nh_k hk1993 (by unfold HT; omega)) (vok_1 (by have q9 := hk1993; omega) (by omega))) (fun r1996 T1998 σ1997 gt1999 hp => ?_)
                obtain ⟨rfl, rfl, w2003, F2004, f2000, f2001⟩ := hp
                clear gt1999
                show Tn _ _ 387 T σ1997 [(3, .int (iI z1501)), (2, .int (iI v61)), (1, .int (iI v6)), (0, .ref a)] [] _
                refine tn_iload_n dX7_step_387 rfl 1 rfl ?_
                refine tn_bipush dX7_step_388 (by decide) ?_
                refine tn_icmp_ne (tgt := 397) dX7_step_390 (by decide) ⟨by omega, by omega⟩ ⟨by decide, by decide⟩ (fun h2005 => ?_) (fun h2005 => absurd h2005 (by omega))
                refine tn_iconst dX7_step_397 ?_
                have q2006 : σ1997.2.1 56 a = σ.2.1 56 a := rc_F F2004 (Or.inl (by decide)) (by decide) (rc_o (by decide) (rfl))
                have q2007 : σ1997.2.1 57 a = σ.2.1 57 a := rc_F F2004 (Or.inl (by decide)) (by decide) (rc_o (by decide) (rfl))
                have q2008 : σ1997.2.1 58 a = σ.2.1 58 a := rc_F F2004 (Or.inl (by decide)) (by decide) (rc_o (by decide) (rfl))
                exact tn_zret (v := 0) rfl (by decide) dX7_step_398 ⟨_, rfl, rfl, w2003, ((FrC.rfl.put (by decide) (by decide)).trans (FrC.sub F2004 (by decide))), by omega, ((CHX.rfl.fld (by simp) (by decide)).trans (CHX.sub f2000 (by simp) (by simp) (by simp))), by unfold PIv at *; rw [q2006, q2007, q2008]; omega, ((FA.rfl.put).trans (FA.of F2004 (by decide)))⟩
              · refine tn_aload_n dX7_step_188 rfl 3 rfl ?_
                refine tn_getR (ci := 7) (i := 14) (n := 69) (x := xq8) dX7_step_189 rfl lay_7 (by decide) fl7_72 ha rfl rfl (rc_o (by decide) (hx7)) ?_
                refine tn_iload_n dX7_step_192 rfl 2 rfl ?_
                refine tn_bipush dX7_step_193 (by decide) ?_
                refine tn_callV (M := m_X7_step) (pc := 195) (ix := 117) (ci := 1) (M' := m_X1_get) (As := [.int (iI v6), .int (iI 12)]) (rest := []) dX7_step_195 ok_X1_get im_X1_get se_X1_get ml7_117 np_X1_get rfl rfl hk9o rfl (Nat.le_of_ble_eq_true rfl) (Nat.le_of_ble_eq_true rfl) rfl (k_X1_get (d + 3) (T := T) (σ := (sA 67 a (z1499) σ)) (a := xq8) (k := v6) (c := 12) hk9o (by omega) (by decide) (hw.put (by decide) (by decide) (fo_67 (by omega))) (by omega)) (fun r2009 T2011 σ2010 gt2012 hp => ?_)
                obtain ⟨v2014, rfl, rfl, rfl, f2013⟩ := hp
                clear gt2012
                show Tn _ _ 198 T (sA 67 a (z1499) σ) [(3, .int (iI z1501)), (2, .int (iI v61)), (1, .int (iI v6)), (0, .ref a)] [.int (iI v2014)] _
                refine tn_goto (tgt := 202) dX7_step_198 (by decide) ?_
                refine tn_istore_n (L' := [(3, .int (iI v2014)), (2, .int (iI v61)), (1, .int (iI v6)), (0, .ref a)]) dX7_step_202 rfl (by decide) rfl ?_
                refine tn_goto (tgt := 375) dX7_step_203 (by decide) ?_
                refine tn_aload_n dX7_step_375 rfl 3 rfl ?_
                obtain ⟨hk2017, hl2018⟩ : AR T xb 1 9 9 := ar_of (wf_60 hw ha) hxb
                have hk2017i : IA T xb := by unfold IA; omega
                refine tn_getR (ci := 7) (i := 5) (n := 60) (x := xb) dX7_step_376 rfl lay_7 (by decide) fl7_15 ha rfl rfl (rc_o (by decide) (hxb)) ?_
                refine tn_aload_n dX7_step_379 rfl 3 rfl ?_
                refine tn_getI (ci := 7) (i := 2) (n := 57) (t := σ.2.1 57 a) dX7_step_380 rfl lay_7 (by decide) fl7_65 ha rfl rfl (rc_o (by decide) (rfl)) ?_
                have g2019 : ((0 : Int) ≤ σ.2.1 57 a ∧ σ.2.1 57 a ≤ 11184800) ∧ ((T a).1 = 57 → σ.2.1 57 a ≤ 8) := wf_57 hw ha
                have g2019x := g2019.2
                replace g2019 := g2019.1
                have g2019x := g2019x hta
                refine tn_iload_n dX7_step_383 rfl 0 rfl ?_
                refine tn_callSN (M := m_X7_step) (pc := 384) (ix := 61) (M' := m_X11_put) (As := [.ref xb, .int (iI (σ.2.1 57 a)), .int (iI v2014)]) (rest := []) dX7_step_384 ok_X11_put stt_X11_put nl7_61 np_X11_put rfl (Nat.le_of_ble_eq_true rfl) (Nat.le_of_ble_eq_true rfl) rfl (k_X11_put_x (d + 3) (T := T) (σ := (sA 67 a (z1499) σ)) (x := xb) (i := σ.2.1 57 a) (y := v2014) hk2017i (by omega) (by omega) (by omega) (hw.put (by decide) (by decide) (fo_67 (by omega))) (nh_k hk2017 (by unfold HT; omega)) (vok_1 (by have q9 := hk2017; omega) (by omega))) (fun r2020 T2022 σ2021 gt2023 hp => ?_)
                obtain ⟨rfl, rfl, w2027, F2028, f2024, f2025⟩ := hp
                clear gt2023
                show Tn _ _ 387 T σ2021 [(3, .int (iI v2014)), (2, .int (iI v61)), (1, .int (iI v6)), (0, .ref a)] [] _
                refine tn_iload_n dX7_step_387 rfl 1 rfl ?_
                refine tn_bipush dX7_step_388 (by decide) ?_
                refine tn_icmp_ne (tgt := 397) dX7_step_390 (by decide) ⟨by omega, by omega⟩ ⟨by decide, by decide⟩ (fun h2029 => ?_) (fun h2029 => absurd h2029 (by omega))
                refine tn_iconst dX7_step_397 ?_
                have q2030 : σ2021.2.1 56 a = σ.2.1 56 a := rc_F F2028 (Or.inl (by decide)) (by decide) (rc_o (by decide) (rfl))
                have q2031 : σ2021.2.1 57 a = σ.2.1 57 a := rc_F F2028 (Or.inl (by decide)) (by decide) (rc_o (by decide) (rfl))
                have q2032 : σ2021.2.1 58 a = σ.2.1 58 a := rc_F F2028 (Or.inl (by decide)) (by decide) (rc_o (by decide) (rfl))
                exact tn_zret (v := 0) rfl (by decide) dX7_step_398 ⟨_, rfl, rfl, w2027, ((FrC.rfl.put (by decide) (by decide)).trans (FrC.sub F2028 (by decide))), by omega, ((CHX.rfl.fld (by simp) (by decide)).trans (CHX.sub f2024 (by simp) (by simp) (by simp))), by unfold PIv at *; rw [q2030, q2031, q2032]; omega, ((FA.rfl.put).trans (FA.of F2028 (by decide)))⟩
            · refine tn_tableIn (tgt := 206) (off := 138) dX7_step_68 (x := v61) ⟨by omega, by omega⟩ (by omega) (by omega) (by rw [h1550]; rfl) (by decide) ?_
              refine tn_aload_n dX7_step_206 rfl 3 rfl ?_
              refine tn_iload_n dX7_step_207 rfl 2 rfl ?_
              obtain ⟨hk2035, hl2036⟩ : AR T xa 15 9 9 := ar_of (wf_59 hw ha) hxa
              have hk2035i : IA T xa := by unfold IA; omega
              obtain ⟨hk2039, hl2040⟩ : AR T xb 1 9 9 := ar_of (wf_60 hw ha) hxb
              have hk2039i : IA T xb := by unfold IA; omega
              obtain ⟨hl2044, hk2043a, hk2043b⟩ := ex_at (wf_61 hw ha) hxc
              have hk2043 : (T xc).1 = 14 := hk2043a (by omega)
              clear hk2043a hk2043b
              have hk2043i : IA T xc := by unfold IA; omega
              obtain ⟨hk2047, hl2048⟩ : AR T xd 1 108 108 := ar_of (wf_62 hw ha) hxd
              have hk2047i : IA T xd := by unfold IA; omega
              obtain ⟨hk2051, hl2052⟩ : AR T xe 1 1728 1728 := ar_of (wf_63 hw ha) hxe
              have hk2051i : IA T xe := by unfold IA; omega
              obtain ⟨hk2055, hl2056⟩ : AR T xf 1 200 200 := ar_of (wf_64 hw ha) hxf
              have hk2055i : IA T xf := by unfold IA; omega
              have q2061 : (sA 67 a (z1499) σ).2.1 57 a = σ.2.1 57 a := rc_o (by decide) (rfl)
              have q2062 : (sA 67 a (z1499) σ).2.1 58 a = σ.2.1 58 a := rc_o (by decide) (rfl)
              refine tn_callV (M := m_X7_step) (pc := 208) (ix := 120) (ci := 7) (M' := m_X7_callFrom) (As := [.int (iI v6)]) (rest := []) dX7_step_208 ok_X7_callFrom im_X7_callFrom se_X7_callFrom ml7_120 np_X7_callFrom rfl rfl ha rfl (Nat.le_of_ble_eq_true rfl) (Nat.le_of_ble_eq_true rfl) rfl (k_X7_callFrom_h57 (d) (T := T) (σ := (sA 67 a (z1499) σ)) (a := a) (k := v6) (xa := xa) (xb := xb) (xc := xc) (xd := xd) (xe := xe) (xf := xf) ha hta (by omega) (hw.put (by decide) (by decide) (fo_67 (by omega))) (rc_o (by decide) (hxa)) (rc_o (by decide) (hxb)) (rc_o (by decide) (hxc)) (rc_o (by decide) (hxd)) (rc_o (by decide) (hxe)) (rc_o (by decide) (hxf)) (by rw [show (sA 67 a (z1499) σ).2.1 69 a = _ from rc_o (by decide) (hx7)]; omega) (by rw [show (sA 67 a (z1499) σ).2.1 57 a = σ.2.1 57 a from rc_o (by decide) (rfl)]; omega) (by rw [show (sA 67 a (z1499) σ).2.1 58 a = σ.2.1 58 a from rc_o (by decide) (rfl)]; omega)) (fun r2057 T2059 σ2058 gt2060 hp => ?_)
              obtain ⟨rfl, rfl, w2068, F2069, f2063, f2064, f2065, f2066⟩ := hp
              clear gt2060
              show Tn _ _ 211 T σ2058 [(3, .int (iI z1501)), (2, .int (iI v61)), (1, .int (iI v6)), (0, .ref a)] [] _
              refine tn_iconst dX7_step_211 ?_
              have q2070 : σ2058.2.1 56 a = σ.2.1 56 a := rc_F F2069 (Or.inl (by decide)) (by decide) (rc_o (by decide) (rfl))
              have q2071 : σ2058.2.1 57 a = σ2058.2.1 57 a := rfl
              have q2072 : σ2058.2.1 58 a = σ2058.2.1 58 a := rfl
              exact tn_zret (v := 0) rfl (by decide) dX7_step_212 ⟨_, rfl, rfl, w2068, ((FrC.rfl.put (by decide) (by decide)).trans (FrC.sub F2069 (by decide))), by omega, ((CHX.rfl.fld (by simp) (by decide)).trans (CHX.sub f2063 (by simp) (by simp) (by simp))), by unfold PIv at *; rw [q2070, q2071, q2072]; omega, ((FA.rfl.put).trans f2066)⟩
            · refine tn_tableIn (tgt := 225) (off := 157) dX7_step_68 (x := v61) ⟨by omega, by omega⟩ (by omega) (by omega) (by rw [h1550]; rfl) (by decide) ?_
              refine tn_aload_n dX7_step_225 rfl 3 rfl ?_
              obtain ⟨hk2075, hl2076⟩ : AR T xd 1 108 108 := ar_of (wf_62 hw ha) hxd
              have hk2075i : IA T xd := by unfold IA; omega
              refine tn_getR (ci := 7) (i := 7) (n := 62) (x := xd) dX7_step_226 rfl lay_7 (by decide) fl7_21 ha rfl rfl (rc_o (by decide) (hxd)) ?_
              refine tn_aload_n dX7_step_229 rfl 3 rfl ?_
              refine tn_getI (ci := 7) (i := 2) (n := 57) (t := σ.2.1 57 a) dX7_step_230 rfl lay_7 (by decide) fl7_65 ha rfl rfl (rc_o (by decide) (rfl)) ?_
              have g2077 : ((0 : Int) ≤ σ.2.1 57 a ∧ σ.2.1 57 a ≤ 11184800) ∧ ((T a).1 = 57 → σ.2.1 57 a ≤ 8) := wf_57 hw ha
              have g2077x := g2077.2
              replace g2077 := g2077.1
              have g2077x := g2077x hta
              refine tn_bipush dX7_step_233 (by decide) ?_
              refine tn_imul dX7_step_235 ?_
              refine tn_aload_n dX7_step_236 rfl 3 rfl ?_
              refine tn_getR (ci := 7) (i := 14) (n := 69) (x := xq8) dX7_step_237 rfl lay_7 (by decide) fl7_72 ha rfl rfl (rc_o (by decide) (hx7)) ?_
              refine tn_iload_n dX7_step_240 rfl 2 rfl ?_
              refine tn_iconst dX7_step_241 ?_
              refine tn_callV (M := m_X7_step) (pc := 242) (ix := 117) (ci := 1) (M' := m_X1_get) (As := [.int (iI v6), .int (iI 2)]) (rest := [.int (iI ((σ.2.1 57 a) * 12)), .ref xd]) dX7_step_242 ok_X1_get im_X1_get se_X1_get ml7_117 np_X1_get rfl rfl hk9o rfl (Nat.le_of_ble_eq_true rfl) (Nat.le_of_ble_eq_true rfl) rfl (k_X1_get (d + 3) (T := T) (σ := (sA 67 a (z1499) σ)) (a := xq8) (k := v6) (c := 2) hk9o (by omega) (by decide) (hw.put (by decide) (by decide) (fo_67 (by omega))) (by omega)) (fun r2078 T2080 σ2079 gt2081 hp => ?_)
              obtain ⟨v2083, rfl, rfl, rfl, f2082⟩ := hp
              clear gt2081
              show Tn _ _ 245 T (sA 67 a (z1499) σ) [(3, .int (iI z1501)), (2, .int (iI v61)), (1, .int (iI v6)), (0, .ref a)] [.int (iI v2083), .int (iI ((σ.2.1 57 a) * 12)), .ref xd] _
              refine tn_iadd dX7_step_245 ?_
              refine tn_any (fun z2084 g2085 => ?_)
              have g2085r : -2147483648 ≤ z2084 ∧ z2084 ≤ 2147483647 := g2085
              refine tn_aload_n dX7_step_246 rfl 3 rfl ?_
              refine tn_getR (ci := 7) (i := 14) (n := 69) (x := xq8) dX7_step_247 rfl lay_7 (by decide) fl7_72 ha rfl rfl (rc_o (by decide) (hx7)) ?_
              refine tn_iload_n dX7_step_250 rfl 2 rfl ?_
              refine tn_iconst dX7_step_251 ?_
              refine tn_callV (M := m_X7_step) (pc := 252) (ix := 117) (ci := 1) (M' := m_X1_get) (As := [.int (iI v6), .int (iI 1)]) (rest := [.int (iI z2084), .ref xd]) dX7_step_252 ok_X1_get im_X1_get se_X1_get ml7_117 np_X1_get rfl rfl hk9o rfl (Nat.le_of_ble_eq_true rfl) (Nat.le_of_ble_eq_true rfl) rfl (k_X1_get (d + 3) (T := T) (σ := (sA 67 a (z1499) σ)) (a := xq8) (k := v6) (c := 1) hk9o (by omega) (by decide) (hw.put (by decide) (by decide) (fo_67 (by omega))) (by omega)) (fun r2086 T2088 σ2087 gt2089 hp => ?_)
              obtain ⟨v2091, rfl, rfl, rfl, f2090⟩ := hp
              clear gt2089
              show Tn _ _ 255 T (sA 67 a (z1499) σ) [(3, .int (iI z1501)), (2, .int (iI v61)), (1, .int (iI v6)), (0, .ref a)] [.int (iI v2091), .int (iI z2084), .ref xd] _
              refine tn_callSN (M := m_X7_step) (pc := 255) (ix := 61) (M' := m_X11_put) (As := [.ref xd, .int (iI z2084), .int (iI v2091)]) (rest := []) dX7_step_255 ok_X11_put stt_X11_put nl7_61 np_X11_put rfl (Nat.le_of_ble_eq_true rfl) (Nat.le_of_ble_eq_true rfl) rfl (k_X11_put_x (d + 3) (T := T) (σ := (sA 67 a (z1499) σ)) (x := xd) (i := z2084) (y := v2091) hk2075i (by omega) (by omega) (by omega) (hw.put (by decide) (by decide) (fo_67 (by omega))) (nh_k hk2075 (by unfold HT; omega)) (vok_1 (by have q9 := hk2075; omega) (by omega))) (fun r2092 T2094 σ2093 gt2095 hp => ?_)
              obtain ⟨rfl, rfl, w2099, F2100, f2096, f2097⟩ := hp
              clear gt2095
              show Tn _ _ 258 T σ2093 [(3, .int (iI z1501)), (2, .int (iI v61)), (1, .int (iI v6)), (0, .ref a)] [] _
              refine tn_goto (tgt := 375) dX7_step_258 (by decide) ?_
              refine tn_aload_n dX7_step_375 rfl 3 rfl ?_
              obtain ⟨hk2103, hl2104⟩ : AR T xb 1 9 9 := ar_of (wf_60 hw ha) hxb
              have hk2103i : IA T xb := by unfold IA; omega
              refine tn_getR (ci := 7) (i := 5) (n := 60) (x := xb) dX7_step_376 rfl lay_7 (by decide) fl7_15 ha rfl rfl (rc_F F2100 (Or.inl (by decide)) (by decide) (rc_o (by decide) (hxb))) ?_
              refine tn_aload_n dX7_step_379 rfl 3 rfl ?_
              refine tn_getI (ci := 7) (i := 2) (n := 57) (t := σ.2.1 57 a) dX7_step_380 rfl lay_7 (by decide) fl7_65 ha rfl rfl (rc_F F2100 (Or.inl (by decide)) (by decide) (rc_o (by decide) (rfl))) ?_
              refine tn_iload_n dX7_step_383 rfl 0 rfl ?_
              refine tn_callSN (M := m_X7_step) (pc := 384) (ix := 61) (M' := m_X11_put) (As := [.ref xb, .int (iI (σ.2.1 57 a)), .int (iI z1501)]) (rest := []) dX7_step_384 ok_X11_put stt_X11_put nl7_61 np_X11_put rfl (Nat.le_of_ble_eq_true rfl) (Nat.le_of_ble_eq_true rfl) rfl (k_X11_put_x (d + 3) (T := T) (σ := σ2093) (x := xb) (i := σ.2.1 57 a) (y := z1501) hk2103i (by omega) (by omega) (by omega) w2099 (nh_k hk2103 (by unfold HT; omega)) (vok_1 (by have q9 := hk2103; omega) (by omega))) (fun r2105 T2107 σ2106 gt2108 hp => ?_)
              obtain ⟨rfl, rfl, w2112, F2113, f2109, f2110⟩ := hp
              clear gt2108
              show Tn _ _ 387 T σ2106 [(3, .int (iI z1501)), (2, .int (iI v61)), (1, .int (iI v6)), (0, .ref a)] [] _
              refine tn_iload_n dX7_step_387 rfl 1 rfl ?_
              refine tn_bipush dX7_step_388 (by decide) ?_
              refine tn_icmp_ne (tgt := 397) dX7_step_390 (by decide) ⟨by omega, by omega⟩ ⟨by decide, by decide⟩ (fun h2114 => absurd h2114 (by omega)) (fun h2114 => ?_)
              refine tn_iconst dX7_step_393 ?_
              refine tn_goto (tgt := 398) dX7_step_394 (by decide) ?_
              have q2115 : σ2106.2.1 56 a = σ.2.1 56 a := rc_F F2113 (Or.inl (by decide)) (by decide) (rc_F F2100 (Or.inl (by decide)) (by decide) (rc_o (by decide) (rfl)))
              have q2116 : σ2106.2.1 57 a = σ.2.1 57 a := rc_F F2113 (Or.inl (by decide)) (by decide) (rc_F F2100 (Or.inl (by decide)) (by decide) (rc_o (by decide) (rfl)))
              have q2117 : σ2106.2.1 58 a = σ.2.1 58 a := rc_F F2113 (Or.inl (by decide)) (by decide) (rc_F F2100 (Or.inl (by decide)) (by decide) (rc_o (by decide) (rfl)))
              exact tn_zret (v := 1) rfl (by decide) dX7_step_398 ⟨_, rfl, rfl, w2112, (((FrC.rfl.put (by decide) (by decide)).trans (FrC.sub F2100 (by decide))).trans (FrC.sub F2113 (by decide))), by omega, (((CHX.rfl.fld (by simp) (by decide)).trans (CHX.sub f2096 (by simp) (by simp) (by simp))).trans (CHX.sub f2109 (by simp) (by simp) (by simp))), by unfold PIv at *; rw [q2115, q2116, q2117]; omega, (((FA.rfl.put).trans (FA.of F2100 (by decide))).trans (FA.of F2113 (by decide)))⟩
            · refine tn_tableIn (tgt := 369) (off := 301) dX7_step_68 (x := v61) ⟨by omega, by omega⟩ (by omega) (by omega) (by rw [h1550]; rfl) (by decide) ?_
              refine tn_aload_n dX7_step_369 rfl 3 rfl ?_
              refine tn_iload_n dX7_step_370 rfl 2 rfl ?_
              refine tn_iload_n dX7_step_371 rfl 1 rfl ?_
              obtain ⟨hk2120, hl2121⟩ : AR T xa 15 9 9 := ar_of (wf_59 hw ha) hxa
              have hk2120i : IA T xa := by unfold IA; omega
              obtain ⟨hk2124, hl2125⟩ : AR T xb 1 9 9 := ar_of (wf_60 hw ha) hxb
              have hk2124i : IA T xb := by unfold IA; omega
              obtain ⟨hl2129, hk2128a, hk2128b⟩ := ex_at (wf_61 hw ha) hxc
              have hk2128 : (T xc).1 = 14 := hk2128a (by omega)
              clear hk2128a hk2128b
              have hk2128i : IA T xc := by unfold IA; omega
              obtain ⟨hk2132, hl2133⟩ : AR T xd 1 108 108 := ar_of (wf_62 hw ha) hxd
              have hk2132i : IA T xd := by unfold IA; omega
              obtain ⟨hk2136, hl2137⟩ : AR T xe 1 1728 1728 := ar_of (wf_63 hw ha) hxe
              have hk2136i : IA T xe := by unfold IA; omega
              obtain ⟨hk2140, hl2141⟩ : AR T xf 1 200 200 := ar_of (wf_64 hw ha) hxf
              have hk2140i : IA T xf := by unfold IA; omega
              refine tn_callV (M := m_X7_step) (pc := 372) (ix := 129) (ci := 7) (M' := m_X7_reckonAt) (As := [.int (iI v6), .int (iI v61)]) (rest := []) dX7_step_372 ok_X7_reckonAt im_X7_reckonAt se_X7_reckonAt ml7_129 np_X7_reckonAt rfl rfl ha rfl (Nat.le_of_ble_eq_true rfl) (Nat.le_of_ble_eq_true rfl) rfl (k_X7_reckonAt_h (d + 1) (T := T) (σ := (sA 67 a (z1499) σ)) (a := a) (k := v6) (e := v61) (xa := xa) (xb := xb) (xc := xc) (xd := xd) (xe := xe) (xf := xf) ha (by omega) (by omega) (hw.put (by decide) (by decide) (fo_67 (by omega))) (rc_o (by decide) (hxa)) (rc_o (by decide) (hxb)) (rc_o (by decide) (hxc)) (rc_o (by decide) (hxd)) (rc_o (by decide) (hxe)) (rc_o (by decide) (hxf)) (by rw [show (sA 67 a (z1499) σ).2.1 69 a = _ from rc_o (by decide) (hx7)]; omega)) (fun r2142 T2144 σ2143 gt2145 hp => ?_)
              obtain ⟨rfl, rfl, w2148, F2149, f2146⟩ := hp
              clear gt2145
              show Tn _ _ 375 T σ2143 [(3, .int (iI z1501)), (2, .int (iI v61)), (1, .int (iI v6)), (0, .ref a)] [] _
              refine tn_aload_n dX7_step_375 rfl 3 rfl ?_
              refine tn_getR (ci := 7) (i := 5) (n := 60) (x := xb) dX7_step_376 rfl lay_7 (by decide) fl7_15 ha rfl rfl (rc_F F2149 (Or.inl (by decide)) (by decide) (rc_o (by decide) (hxb))) ?_
              refine tn_aload_n dX7_step_379 rfl 3 rfl ?_
              refine tn_getI (ci := 7) (i := 2) (n := 57) (t := σ.2.1 57 a) dX7_step_380 rfl lay_7 (by decide) fl7_65 ha rfl rfl (rc_F F2149 (Or.inl (by decide)) (by decide) (rc_o (by decide) (rfl))) ?_
              have g2150 : ((0 : Int) ≤ σ.2.1 57 a ∧ σ.2.1 57 a ≤ 11184800) ∧ ((T a).1 = 57 → σ.2.1 57 a ≤ 8) := wf_57 hw ha
              have g2150x := g2150.2
              replace g2150 := g2150.1
              have g2150x := g2150x hta
              refine tn_iload_n dX7_step_383 rfl 0 rfl ?_
              refine tn_callSN (M := m_X7_step) (pc := 384) (ix := 61) (M' := m_X11_put) (As := [.ref xb, .int (iI (σ.2.1 57 a)), .int (iI z1501)]) (rest := []) dX7_step_384 ok_X11_put stt_X11_put nl7_61 np_X11_put rfl (Nat.le_of_ble_eq_true rfl) (Nat.le_of_ble_eq_true rfl) rfl (k_X11_put_x (d + 3) (T := T) (σ := σ2143) (x := xb) (i := σ.2.1 57 a) (y := z1501) hk2124i (by omega) (by omega) (by omega) w2148 (nh_k hk2124 (by unfold HT; omega)) (vok_1 (by have q9 := hk2124; omega) (by omega))) (fun r2151 T2153 σ2152 gt2154 hp => ?_)
              obtain ⟨rfl, rfl, w2158, F2159, f2155, f2156⟩ := hp
              clear gt2154
              show Tn _ _ 387 T σ2152 [(3, .int (iI z1501)), (2, .int (iI v61)), (1, .int (iI v6)), (0, .ref a)] [] _
              refine tn_iload_n dX7_step_387 rfl 1 rfl ?_
              refine tn_bipush dX7_step_388 (by decide) ?_
              refine tn_icmp_ne (tgt := 397) dX7_step_390 (by decide) ⟨by omega, by omega⟩ ⟨by decide, by decide⟩ (fun h2160 => ?_) (fun h2160 => absurd h2160 (by omega))
              refine tn_iconst dX7_step_397 ?_
              have q2161 : σ2152.2.1 56 a = σ.2.1 56 a := rc_F F2159 (Or.inl (by decide)) (by decide) (rc_F F2149 (Or.inl (by decide)) (by decide) (rc_o (by decide) (rfl)))
              have q2162 : σ2152.2.1 57 a = σ.2.1 57 a := rc_F F2159 (Or.inl (by decide)) (by decide) (rc_F F2149 (Or.inl (by decide)) (by decide) (rc_o (by decide) (rfl)))
              have q2163 : σ2152.2.1 58 a = σ.2.1 58 a := rc_F F2159 (Or.inl (by decide)) (by decide) (rc_F F2149 (Or.inl (by decide)) (by decide) (rc_o (by decide) (rfl)))
              exact tn_zret (v := 0) rfl (by decide) dX7_step_398 ⟨_, rfl, rfl, w2158, (((FrC.rfl.put (by decide) (by decide)).trans (FrC.sub F2149 (by decide))).trans (FrC.sub F2159 (by decide))), by omega, (((CHX.rfl.fld (by simp) (by decide)).trans (CHX.sub f2146 (by simp) (by simp) (by simp))).trans (CHX.sub f2155 (by simp) (by simp) (by simp))), by unfold PIv at *; rw [q2161, q2162, q2163]; omega, (((FA.rfl.put).trans (FA.of F2149 (by decide))).trans (FA.of F2159 (by decide)))⟩
            · refine tn_tableIn (tgt := 369) (off := 301) dX7_step_68 (x := v61) ⟨by omega, by omega⟩ (by omega) (by omega) (by rw [h1550]; rfl) (by decide) ?_
              refine tn_aload_n dX7_step_369 rfl 3 rfl ?_
              refine tn_iload_n dX7_step_370 rfl 2 rfl ?_
              refine tn_iload_n dX7_step_371 rfl 1 rfl ?_
              obtain ⟨hk2166, hl2167⟩ : AR T xa 15 9 9 := ar_of (wf_59 hw ha) hxa
              have hk2166i : IA T xa := by unfold IA; omega
              obtain ⟨hk2170, hl2171⟩ : AR T xb 1 9 9 := ar_of (wf_60 hw ha) hxb
              have hk2170i : IA T xb := by unfold IA; omega
              obtain ⟨hl2175, hk2174a, hk2174b⟩ := ex_at (wf_61 hw ha) hxc
              have hk2174 : (T xc).1 = 14 := hk2174a (by omega)
              clear hk2174a hk2174b
              have hk2174i : IA T xc := by unfold IA; omega
              obtain ⟨hk2178, hl2179⟩ : AR T xd 1 108 108 := ar_of (wf_62 hw ha) hxd
              have hk2178i : IA T xd := by unfold IA; omega
              obtain ⟨hk2182, hl2183⟩ : AR T xe 1 1728 1728 := ar_of (wf_63 hw ha) hxe
              have hk2182i : IA T xe := by unfold IA; omega
              obtain ⟨hk2186, hl2187⟩ : AR T xf 1 200 200 := ar_of (wf_64 hw ha) hxf
              have hk2186i : IA T xf := by unfold IA; omega
              refine tn_callV (M := m_X7_step) (pc := 372) (ix := 129) (ci := 7) (M' := m_X7_reckonAt) (As := [.int (iI v6), .int (iI v61)]) (rest := []) dX7_step_372 ok_X7_reckonAt im_X7_reckonAt se_X7_reckonAt ml7_129 np_X7_reckonAt rfl rfl ha rfl (Nat.le_of_ble_eq_true rfl) (Nat.le_of_ble_eq_true rfl) rfl (k_X7_reckonAt_h (d + 1) (T := T) (σ := (sA 67 a (z1499) σ)) (a := a) (k := v6) (e := v61) (xa := xa) (xb := xb) (xc := xc) (xd := xd) (xe := xe) (xf := xf) ha (by omega) (by omega) (hw.put (by decide) (by decide) (fo_67 (by omega))) (rc_o (by decide) (hxa)) (rc_o (by decide) (hxb)) (rc_o (by decide) (hxc)) (rc_o (by decide) (hxd)) (rc_o (by decide) (hxe)) (rc_o (by decide) (hxf)) (by rw [show (sA 67 a (z1499) σ).2.1 69 a = _ from rc_o (by decide) (hx7)]; omega)) (fun r2188 T2190 σ2189 gt2191 hp => ?_)
              obtain ⟨rfl, rfl, w2194, F2195, f2192⟩ := hp
              clear gt2191
              show Tn _ _ 375 T σ2189 [(3, .int (iI z1501)), (2, .int (iI v61)), (1, .int (iI v6)), (0, .ref a)] [] _
              refine tn_aload_n dX7_step_375 rfl 3 rfl ?_
              refine tn_getR (ci := 7) (i := 5) (n := 60) (x := xb) dX7_step_376 rfl lay_7 (by decide) fl7_15 ha rfl rfl (rc_F F2195 (Or.inl (by decide)) (by decide) (rc_o (by decide) (hxb))) ?_
              refine tn_aload_n dX7_step_379 rfl 3 rfl ?_
              refine tn_getI (ci := 7) (i := 2) (n := 57) (t := σ.2.1 57 a) dX7_step_380 rfl lay_7 (by decide) fl7_65 ha rfl rfl (rc_F F2195 (Or.inl (by decide)) (by decide) (rc_o (by decide) (rfl))) ?_
              have g2196 : ((0 : Int) ≤ σ.2.1 57 a ∧ σ.2.1 57 a ≤ 11184800) ∧ ((T a).1 = 57 → σ.2.1 57 a ≤ 8) := wf_57 hw ha
              have g2196x := g2196.2
              replace g2196 := g2196.1
              have g2196x := g2196x hta
              refine tn_iload_n dX7_step_383 rfl 0 rfl ?_
              refine tn_callSN (M := m_X7_step) (pc := 384) (ix := 61) (M' := m_X11_put) (As := [.ref xb, .int (iI (σ.2.1 57 a)), .int (iI z1501)]) (rest := []) dX7_step_384 ok_X11_put stt_X11_put nl7_61 np_X11_put rfl (Nat.le_of_ble_eq_true rfl) (Nat.le_of_ble_eq_true rfl) rfl (k_X11_put_x (d + 3) (T := T) (σ := σ2189) (x := xb) (i := σ.2.1 57 a) (y := z1501) hk2170i (by omega) (by omega) (by omega) w2194 (nh_k hk2170 (by unfold HT; omega)) (vok_1 (by have q9 := hk2170; omega) (by omega))) (fun r2197 T2199 σ2198 gt2200 hp => ?_)
              obtain ⟨rfl, rfl, w2204, F2205, f2201, f2202⟩ := hp
              clear gt2200
              show Tn _ _ 387 T σ2198 [(3, .int (iI z1501)), (2, .int (iI v61)), (1, .int (iI v6)), (0, .ref a)] [] _
              refine tn_iload_n dX7_step_387 rfl 1 rfl ?_
              refine tn_bipush dX7_step_388 (by decide) ?_
              refine tn_icmp_ne (tgt := 397) dX7_step_390 (by decide) ⟨by omega, by omega⟩ ⟨by decide, by decide⟩ (fun h2206 => ?_) (fun h2206 => absurd h2206 (by omega))
              refine tn_iconst dX7_step_397 ?_
              have q2207 : σ2198.2.1 56 a = σ.2.1 56 a := rc_F F2205 (Or.inl (by decide)) (by decide) (rc_F F2195 (Or.inl (by decide)) (by decide) (rc_o (by decide) (rfl)))
              have q2208 : σ2198.2.1 57 a = σ.2.1 57 a := rc_F F2205 (Or.inl (by decide)) (by decide) (rc_F F2195 (Or.inl (by decide)) (by decide) (rc_o (by decide) (rfl)))
              have q2209 : σ2198.2.1 58 a = σ.2.1 58 a := rc_F F2205 (Or.inl (by decide)) (by decide) (rc_F F2195 (Or.inl (by decide)) (by decide) (rc_o (by decide) (rfl)))
              exact tn_zret (v := 0) rfl (by decide) dX7_step_398 ⟨_, rfl, rfl, w2204, (((FrC.rfl.put (by decide) (by decide)).trans (FrC.sub F2195 (by decide))).trans (FrC.sub F2205 (by decide))), by omega, (((CHX.rfl.fld (by simp) (by decide)).trans (CHX.sub f2192 (by simp) (by simp) (by simp))).trans (CHX.sub f2201 (by simp) (by simp) (by simp))), by unfold PIv at *; rw [q2207, q2208, q2209]; omega, (((FA.rfl.put).trans (FA.of F2195 (by decide))).trans (FA.of F2205 (by decide)))⟩
            · refine tn_tableIn (tgt := 261) (off := 193) dX7_step_68 (x := v61) ⟨by omega, by omega⟩ (by omega) (by omega) (by rw [h1550]; rfl) (by decide) ?_
              exact absurd True.intro (by omega)
            · refine tn_tableIn (tgt := 319) (off := 251) dX7_step_68 (x := v61) ⟨by omega, by omega⟩ (by omega) (by omega) (by rw [h1550]; rfl) (by decide) ?_
              exact absurd True.intro (by omega)
        · refine tn_aload_n dX7_step_46 rfl 2 rfl ?_
          refine tn_iconst dX7_step_47 ?_
          refine tn_putV (ci := 7) (i := 1) (n := 56) (r := false) (v := 3) tyX7 tyX7_ok nmX7 dX7_step_48 rfl lay_7 (by decide) fl7_34 rfl (tyX7_ok 1 (by decide)) rfl rfl rfl ha rfl rfl ?_
          refine tn_iconst dX7_step_51 ?_
          have q2210 : (sA 56 a (3) σ).2.1 56 a = 3 := ra_eq
          have q2211 : (sA 56 a (3) σ).2.1 57 a = σ.2.1 57 a := rc_o (by decide) (rfl)
          have q2212 : (sA 56 a (3) σ).2.1 58 a = σ.2.1 58 a := rc_o (by decide) (rfl)
          exact tn_zret (v := 0) rfl (by decide) dX7_step_52 ⟨_, rfl, rfl, (hw.put (by decide) (by decide) (fo_56 (by omega))), (FrC.rfl.put (by decide) (by decide)), by omega, (CHX.rfl.fld (by simp) (by decide)), by unfold PIv at *; rw [q2210, q2211, q2212]; omega, (FA.rfl.put)⟩
end
