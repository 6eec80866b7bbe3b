section
set_option maxHeartbeats 1000000 in
set_option maxRecDepth 20000 in
theorem k_X7_step_j57 (d : Nat) {T : CT} {σ : MS} {a : Nat} {xa : Nat} {xb : Nat} {xc : Nat} {xd : Nat} {xe : Nat} {xf : Nat} {y : Nat} (ha : OB T a 7) (hta : (T a).1 = 57) (hw : WT T σ) (hxa : σ.2.1 59 a = (xa : Int)) (hxb : σ.2.1 60 a = (xb : Int)) (hxc : σ.2.1 61 a = (xc : Int)) (hxd : σ.2.1 62 a = (xd : Int)) (hxe : σ.2.1 63 a = (xe : Int)) (hxf : σ.2.1 64 a = (xf : Int)) (hy : σ.2.1 55 a = (y : Int)) (hp : σ.2.1 58 a = σ.2.1 57 a + 1) : Tn (d + 5) m_X7_step 0 T σ [(0, .ref a)] [] (fun ro T2 σ2 => ∃ v : Int, ro = some (.int (iI v)) ∧ T = T2 ∧ WT T2 σ2 ∧ FrC T [56, 57, 58, 65, 66, 67, 68, 69, 515] σ σ2 ∧ (v = 0 ∨ v = 1) ∧ (CHX [(56, a), (57, a), (58, a), (65, a), (66, a), (67, a), (68, a), (69, a), (70, a), (71, a)] [xa, xb, xc, xd, xe, xf] [] σ σ2) ∧ (PIv σ2 a) ∧ (JST T σ a xa xb xc xd xe xf y v σ2) ∧ (FA a σ σ2)) := by
  have ht1 := (wf_57 hw ha).1
  have ht2 := (wf_57 hw ha).2 hta
  refine tn_aload_n dX7_step_0 rfl 0 rfl ?_
  obtain ⟨hk3, hl4⟩ : AR T xb 1 9 9 := ar_of (wf_60 hw ha) hxb
  have hk3i : IA T xb := by unfold IA; omega
  refine tn_callV (M := m_X7_step) (pc := 1) (ix := 103) (ci := 7) (M' := m_X7_place) (As := []) (rest := []) dX7_step_1 ok_X7_place im_X7_place se_X7_place ml7_103 np_X7_place rfl rfl ha rfl (Nat.le_of_ble_eq_true rfl) (Nat.le_of_ble_eq_true rfl) rfl (k_X7_place_j (d + 2) (T := T) (σ := σ) (a := a) (xb := xb) ha hw (hxb)) (fun r5 T7 σ6 gt8 hp => ?_)
  obtain ⟨v11, rfl, rfl, rfl, f9, f10⟩ := hp
  clear gt8
  show Tn _ _ 4 T σ [(0, .ref a)] [.int (iI v11)] _
  refine tn_istore_n (L' := [(1, .int (iI v11)), (0, .ref a)]) dX7_step_4 rfl (by decide) rfl ?_
  refine tn_aload_n dX7_step_5 rfl 1 rfl ?_
  rcases wf_69 hw ha with hx12 | ⟨xq13, hx12, hk14a, hk14b⟩
  · refine tn_getN (ci := 7) (i := 14) (n := 69) dX7_step_6 rfl lay_7 (by decide) fl7_72 ha rfl rfl (Int.lt_of_le_of_lt (Int.le_of_eq (Eq.refl _)) hx12) ?_
    refine tn_ifnonnullN dX7_step_9 ?_
    refine tn_iconst dX7_step_12 ?_
    refine tn_goto (tgt := 24) dX7_step_13 (by decide) ?_
    refine tn_istore_n (L' := [(2, .int (iI (-1))), (1, .int (iI v11)), (0, .ref a)]) dX7_step_24 rfl (by decide) rfl ?_
    refine tn_iload_n dX7_step_25 rfl 0 rfl ?_
    refine tn_bipush dX7_step_26 (by decide) ?_
    refine tn_icmp_eq (tgt := 37) dX7_step_28 (by decide) ⟨by decide, by decide⟩ ⟨by decide, by decide⟩ (fun h => absurd h (by decide)) (fun _ => ?_)
    refine tn_iload_n dX7_step_31 rfl 0 rfl ?_
    refine tn_bipush dX7_step_32 (by decide) ?_
    refine tn_icmp_ne (tgt := 53) dX7_step_34 (by decide) ⟨by decide, by decide⟩ ⟨by decide, by decide⟩ (fun _ => ?_) (fun h => absurd h (by decide))
    refine tn_aload_n dX7_step_53 rfl 2 rfl ?_
    refine tn_dup dX7_step_54 rfl ?_
    refine tn_getI (ci := 7) (i := 12) (n := 67) (t := σ.2.1 67 a) dX7_step_55 rfl lay_7 (by decide) fl7_47 ha rfl rfl (rfl) ?_
    have g18 : ((-2147483648 : Int) ≤ σ.2.1 67 a ∧ σ.2.1 67 a ≤ 2147483647) := wf_67 hw ha
    refine tn_iconst dX7_step_58 ?_
    refine tn_iadd dX7_step_59 ?_
    rw [show iI ((σ.2.1 67 a) + 1) = iI (w32 ((σ.2.1 67 a) + 1)) from (iI_self _).symm]
    have g19r : -2147483648 ≤ w32 ((σ.2.1 67 a) + 1) ∧ w32 ((σ.2.1 67 a) + 1) ≤ 2147483647 := inR_toInt _
    refine tn_putV (ci := 7) (i := 12) (n := 67) (r := false) (v := w32 ((σ.2.1 67 a) + 1)) tyX7 tyX7_ok nmX7 dX7_step_60 rfl lay_7 (by decide) fl7_47 rfl (tyX7_ok 12 (by decide)) rfl rfl rfl ha rfl rfl ?_
    refine tn_iload_n dX7_step_63 rfl 1 rfl ?_
    refine tn_iconst dX7_step_64 ?_
    refine tn_iadd dX7_step_65 ?_
    rw [show iI (v11 + 1) = iI (w32 (v11 + 1)) from (iI_self _).symm]
    have g20r : -2147483648 ≤ w32 (v11 + 1) ∧ w32 (v11 + 1) ≤ 2147483647 := inR_toInt _
    refine tn_istore_n (L' := [(3, .int (iI (w32 (v11 + 1)))), (2, .int (iI (-1))), (1, .int (iI v11)), (0, .ref a)]) dX7_step_66 rfl (by decide) rfl ?_
    refine tn_iload_n dX7_step_67 rfl 1 rfl ?_
    refine tn_tableIn (tgt := 362) dX7_step_68 (x := -1) ⟨by decide, by decide⟩ (by decide) (by decide) rfl (by decide) ?_
    refine tn_aload_n dX7_step_362 rfl 3 rfl ?_
    refine tn_iconst dX7_step_363 ?_
    obtain ⟨hk23, hl24⟩ : AR T xa 15 9 9 := ar_of (wf_59 hw ha) hxa
    have hk23i : IA T xa := by unfold IA; omega
    obtain ⟨hl28, hk27a, hk27b⟩ := ex_at (wf_61 hw ha) hxc
    have hk27 : (T xc).1 = 14 := hk27a (by omega)
    clear hk27a hk27b
    have hk27i : IA T xc := by unfold IA; omega
    obtain ⟨hk31, hl32⟩ : AR T xd 1 108 108 := ar_of (wf_62 hw ha) hxd
    have hk31i : IA T xd := by unfold IA; omega
    obtain ⟨hk35, hl36⟩ : AR T xe 1 1728 1728 := ar_of (wf_63 hw ha) hxe
    have hk35i : IA T xe := by unfold IA; omega
    obtain ⟨hl40, hk39a, hk39b⟩ := ex_at (wf_55 hw ha) hy
    have hk39i : (T y).1 = 4 ∨ (T y).1 = 5 := by omega
    have hk39c : RROW T a y := ⟨hk39a, hk39b⟩
    clear hk39a hk39b
    refine tn_callV (M := m_X7_step) (pc := 364) (ix := 123) (ci := 7) (M' := m_X7_giveBack) (As := [.int (iI 0)]) (rest := []) dX7_step_364 ok_X7_giveBack im_X7_giveBack se_X7_giveBack ml7_123 np_X7_giveBack rfl rfl ha rfl (Nat.le_of_ble_eq_true rfl) (Nat.le_of_ble_eq_true rfl) rfl (k_X7_giveBack_j57 (d + 1) (T := T) (σ := (sA 67 a (w32 ((σ.2.1 67 a) + 1)) σ)) (a := a) (n := 0) (xa := xa) (xb := xb) (xc := xc) (xd := xd) (xe := xe) (y := y) ha hta (by decide) (hw.put (by decide) (by decide) (fo_67 (by omega))) (rc_o (by decide) (hxa)) (rc_o (by decide) (hxb)) (rc_o (by decide) (hxc)) (rc_o (by decide) (hxd)) (rc_o (by decide) (hxe)) (rc_o (by decide) (hy)) (by rw [show (sA 67 a (w32 ((σ.2.1 67 a) + 1)) σ).2.1 58 a = σ.2.1 58 a from rc_o (by decide) (rfl), show (sA 67 a (w32 ((σ.2.1 67 a) + 1)) σ).2.1 57 a = σ.2.1 57 a from rc_o (by decide) (rfl)]; omega)) (fun r41 T43 σ42 gt44 hp => ?_)
    obtain ⟨rfl, rfl, w50, F51, f45, f46, f47, f48⟩ := hp
    clear gt44
    show Tn _ _ 367 T σ42 [(3, .int (iI (w32 (v11 + 1)))), (2, .int (iI (-1))), (1, .int (iI v11)), (0, .ref a)] [] _
    refine tn_iconst dX7_step_367 ?_
    have q52 : σ42.2.1 56 a = σ42.2.1 56 a := rfl
    have q53 : σ42.2.1 57 a = σ42.2.1 57 a := rfl
    have q54 : σ42.2.1 58 a = σ42.2.1 58 a := rfl
    exact tn_zret (v := 0) rfl (by decide) dX7_step_368 ⟨_, rfl, rfl, w50, ((FrC.rfl.put (by decide) (by decide)).trans (FrC.sub F51 (by decide))), by omega, ((CHX.rfl.fld (by simp) (by decide)).trans (CHX.sub f45 (by simp) (by simp) (by simp))), by unfold PIv at *; rw [q52, q53, q54]; omega, ⟨_, -1, f10, Or.inl ⟨by omega, by omega⟩, Or.inr ⟨by omega, Or.inr (Or.inr (Or.inr (Or.inr (Or.inr (Or.inr (Or.inr (Or.inr (Or.inl (⟨by omega, rfl, f47⟩)))))))))⟩⟩, ((FA.rfl.put).trans f48)⟩
  · have hk14 : (T xq13).1 = 31 := hk14a (by omega)
    have hk14o : OB T xq13 1 := ⟨by omega, by rw [hk14]; rfl, by omega⟩
    refine tn_getR (ci := 7) (i := 14) (n := 69) (x := xq13) dX7_step_6 rfl lay_7 (by decide) fl7_72 ha rfl rfl (hx12) ?_
    refine tn_ifnonnull (tgt := 16) dX7_step_9 (by decide) ?_
    refine tn_aload_n dX7_step_16 rfl 1 rfl ?_
    refine tn_getR (ci := 7) (i := 14) (n := 69) (x := xq13) dX7_step_17 rfl lay_7 (by decide) fl7_72 ha rfl rfl (hx12) ?_
    refine tn_iload_n dX7_step_20 rfl 0 rfl ?_
    obtain ⟨xq55, hx56, hl58, hk57a, hk57b⟩ := wf_5 hw hk14o
    have hk57 : (T xq55).1 = 13 := hk57b (by omega)
    clear hk57a hk57b
    have hk57i : IA T xq55 := by unfold IA; omega
    refine tn_callV (M := m_X7_step) (pc := 21) (ix := 107) (ci := 1) (M' := m_X1_kindAt) (As := [.int (iI v11)]) (rest := []) dX7_step_21 ok_X1_kindAt im_X1_kindAt se_X1_kindAt ml7_107 np_X1_kindAt rfl rfl hk14o rfl (Nat.le_of_ble_eq_true rfl) (Nat.le_of_ble_eq_true rfl) rfl (k_X1_kindAt_j7 (d + 3) (T := T) (σ := σ) (a := xq13) (k := v11) (x := xq55) hk14o (by omega) hw (hx56)) (fun r59 T61 σ60 gt62 hp => ?_)
    obtain ⟨v66, rfl, rfl, rfl, f63, f64, f65⟩ := hp
    clear gt62
    have f64n := f64 (by have q9 := hk14; omega)
    show Tn _ _ 24 T σ [(1, .int (iI v11)), (0, .ref a)] [.int (iI v66)] _
    refine tn_istore_n (L' := [(2, .int (iI v66)), (1, .int (iI v11)), (0, .ref a)]) dX7_step_24 rfl (by decide) rfl ?_
    refine tn_iload_n dX7_step_25 rfl 0 rfl ?_
    refine tn_bipush dX7_step_26 (by decide) ?_
    refine tn_icmp_eq (tgt := 37) dX7_step_28 (by decide) ⟨by omega, by omega⟩ ⟨by decide, by decide⟩ (fun h67 => ?_) (fun h67 => ?_)
    · refine tn_aload_n dX7_step_37 rfl 2 rfl ?_
      refine tn_getI (ci := 7) (i := 3) (n := 58) (t := σ.2.1 58 a) dX7_step_38 rfl lay_7 (by decide) fl7_38 ha rfl rfl (rfl) ?_
      have g68 : ((-2147483648 : Int) ≤ σ.2.1 58 a ∧ σ.2.1 58 a ≤ 2147483647) := wf_58 hw ha
      refine tn_bipush dX7_step_41 (by decide) ?_
      refine tn_icmp_le (tgt := 53) dX7_step_43 (by decide) ⟨by omega, by omega⟩ ⟨by decide, by decide⟩ (fun h69 => ?_) (fun h69 => ?_)
      · refine tn_aload_n dX7_step_53 rfl 2 rfl ?_
        refine tn_dup dX7_step_54 rfl ?_
        refine tn_getI (ci := 7) (i := 12) (n := 67) (t := σ.2.1 67 a) dX7_step_55 rfl lay_7 (by decide) fl7_47 ha rfl rfl (rfl) ?_
        have g70 : ((-2147483648 : Int) ≤ σ.2.1 67 a ∧ σ.2.1 67 a ≤ 2147483647) := wf_67 hw ha
        refine tn_iconst dX7_step_58 ?_
        refine tn_iadd dX7_step_59 ?_
        rw [show iI ((σ.2.1 67 a) + 1) = iI (w32 ((σ.2.1 67 a) + 1)) from (iI_self _).symm]
        have g71r : -2147483648 ≤ w32 ((σ.2.1 67 a) + 1) ∧ w32 ((σ.2.1 67 a) + 1) ≤ 2147483647 := inR_toInt _
        refine tn_putV (ci := 7) (i := 12) (n := 67) (r := false) (v := w32 ((σ.2.1 67 a) + 1)) tyX7 tyX7_ok nmX7 dX7_step_60 rfl lay_7 (by decide) fl7_47 rfl (tyX7_ok 12 (by decide)) rfl rfl rfl ha rfl rfl ?_
        refine tn_iload_n dX7_step_63 rfl 1 rfl ?_
        refine tn_iconst dX7_step_64 ?_
        refine tn_iadd dX7_step_65 ?_
        rw [show iI (v11 + 1) = iI (w32 (v11 + 1)) from (iI_self _).symm]
        have g72r : -2147483648 ≤ w32 (v11 + 1) ∧ w32 (v11 + 1) ≤ 2147483647 := inR_toInt _
        refine tn_istore_n (L' := [(3, .int (iI (w32 (v11 + 1)))), (2, .int (iI v66)), (1, .int (iI v11)), (0, .ref a)]) dX7_step_66 rfl (by decide) rfl ?_
        refine tn_iload_n dX7_step_67 rfl 1 rfl ?_
        by_cases h73 : v66 < -1 ∨ 15 < v66
        · refine tn_tableOut (tgt := 369) dX7_step_68 (x := v66) ⟨by omega, by omega⟩ h73 (by decide) ?_
          refine tn_aload_n dX7_step_369 rfl 3 rfl ?_
          refine tn_iload_n dX7_step_370 rfl 2 rfl ?_
          refine tn_iload_n dX7_step_371 rfl 1 rfl ?_
          obtain ⟨hk76, hl77⟩ : AR T xe 1 1728 1728 := ar_of (wf_63 hw ha) hxe
          have hk76i : IA T xe := by unfold IA; omega
          refine tn_callV (M := m_X7_step) (pc := 372) (ix := 129) (ci := 7) (M' := m_X7_reckonAt) (As := [.int (iI v11), .int (iI v66)]) (rest := []) dX7_step_372 ok_X7_reckonAt im_X7_reckonAt se_X7_reckonAt ml7_129 np_X7_reckonAt rfl rfl ha rfl (Nat.le_of_ble_eq_true rfl) (Nat.le_of_ble_eq_true rfl) rfl (k_X7_reckonAt_j (d + 1) (T := T) (σ := (sA 67 a (w32 ((σ.2.1 67 a) + 1)) σ)) (a := a) (k := v11) (e := v66) (xe := xe) ha (by omega) (by omega) (hw.put (by decide) (by decide) (fo_67 (by omega))) (rc_o (by decide) (hxe)) (by rw [show (sA 67 a (w32 ((σ.2.1 67 a) + 1)) σ).2.1 69 a = _ from rc_o (by decide) (hx12)]; omega)) (fun r78 T80 σ79 gt81 hp => ?_)
          obtain ⟨rfl, rfl, w85, F86, f82, f83⟩ := hp
          clear gt81
          show Tn _ _ 375 T σ79 [(3, .int (iI (w32 (v11 + 1)))), (2, .int (iI v66)), (1, .int (iI v11)), (0, .ref a)] [] _
          refine tn_aload_n dX7_step_375 rfl 3 rfl ?_
          refine tn_getR (ci := 7) (i := 5) (n := 60) (x := xb) dX7_step_376 rfl lay_7 (by decide) fl7_15 ha rfl rfl (rc_F F86 (Or.inl (by decide)) (by decide) (rc_o (by decide) (hxb))) ?_
          refine tn_aload_n dX7_step_379 rfl 3 rfl ?_
          refine tn_getI (ci := 7) (i := 2) (n := 57) (t := σ.2.1 57 a) dX7_step_380 rfl lay_7 (by decide) fl7_65 ha rfl rfl (rc_F F86 (Or.inl (by decide)) (by decide) (rc_o (by decide) (rfl))) ?_
          have g87 : ((0 : Int) ≤ σ.2.1 57 a ∧ σ.2.1 57 a ≤ 11184800) ∧ ((T a).1 = 57 → σ.2.1 57 a ≤ 8) := wf_57 hw ha
          have g87x := g87.2
          replace g87 := g87.1
          have g87x := g87x hta
          refine tn_iload_n dX7_step_383 rfl 0 rfl ?_
          refine tn_callSN (M := m_X7_step) (pc := 384) (ix := 61) (M' := m_X11_put) (As := [.ref xb, .int (iI (σ.2.1 57 a)), .int (iI (w32 (v11 + 1)))]) (rest := []) dX7_step_384 ok_X11_put stt_X11_put nl7_61 np_X11_put rfl (Nat.le_of_ble_eq_true rfl) (Nat.le_of_ble_eq_true rfl) rfl (k_X11_put_x (d + 3) (T := T) (σ := σ79) (x := xb) (i := σ.2.1 57 a) (y := w32 (v11 + 1)) hk3i (by omega) (by omega) (by omega) w85 (nh_k hk3 (by unfold HT; omega)) (vok_1 (by have q9 := hk3; omega) (by omega))) (fun r88 T90 σ89 gt91 hp => ?_)
          obtain ⟨rfl, rfl, w95, F96, f92, f93⟩ := hp
          clear gt91
          have je97 : σ89 = jP T xb (σ.2.1 57 a) (w32 (v11 + 1)) _ := f93
          show Tn _ _ 387 T σ89 [(3, .int (iI (w32 (v11 + 1)))), (2, .int (iI v66)), (1, .int (iI v11)), (0, .ref a)] [] _
          refine tn_iload_n dX7_step_387 rfl 1 rfl ?_
          refine tn_bipush dX7_step_388 (by decide) ?_
          refine tn_icmp_ne (tgt := 397) dX7_step_390 (by decide) ⟨by omega, by omega⟩ ⟨by decide, by decide⟩ (fun h98 => ?_) (fun h98 => absurd h98 (by omega))
          refine tn_iconst dX7_step_397 ?_
          have q99 : σ89.2.1 56 a = σ.2.1 56 a := rc_F F96 (Or.inl (by decide)) (by decide) (rc_F F86 (Or.inl (by decide)) (by decide) (rc_o (by decide) (rfl)))
          have q100 : σ89.2.1 57 a = σ.2.1 57 a := rc_F F96 (Or.inl (by decide)) (by decide) (rc_F F86 (Or.inl (by decide)) (by decide) (rc_o (by decide) (rfl)))
          have q101 : σ89.2.1 58 a = σ.2.1 58 a := rc_F F96 (Or.inl (by decide)) (by decide) (rc_F F86 (Or.inl (by decide)) (by decide) (rc_o (by decide) (rfl)))
          exact tn_zret (v := 0) rfl (by decide) dX7_step_398 ⟨_, rfl, rfl, w95, (((FrC.rfl.put (by decide) (by decide)).trans (FrC.sub F86 (by decide))).trans (FrC.sub F96 (by decide))), by omega, (((CHX.rfl.fld (by simp) (by decide)).trans (CHX.sub f82 (by simp) (by simp) (by simp))).trans (CHX.sub f92 (by simp) (by simp) (by simp))), by unfold PIv at *; rw [q99, q100, q101]; omega, ⟨_, v66, f10, Or.inr ⟨xq13, xq55, ⟨hx12, hx56⟩, f65⟩, Or.inr ⟨by omega, Or.inr (Or.inr (Or.inr (Or.inr (Or.inr (Or.inr (Or.inr (Or.inr (Or.inr ((⟨by omega, rfl, _, f83, je97⟩))))))))))⟩⟩, (((FA.rfl.put).trans (FA.of F86 (by decide))).trans (FA.of F96 (by decide)))⟩
        · have h102 : v66 = -1 ∨ v66 = 0 ∨ v66 = 1 ∨ v66 = 2 ∨ v66 = 3 ∨ v66 = 4 ∨ v66 = 5 ∨ v66 = 6 ∨ v66 = 7 ∨ v66 = 8 ∨ v66 = 9 ∨ v66 = 10 ∨ v66 = 11 ∨ v66 = 12 ∨ v66 = 13 ∨ v66 = 14 ∨ v66 = 15 := by omega
          rcases h102 with h102 | h102 | h102 | h102 | h102 | h102 | h102 | h102 | h102 | h102 | h102 | h102 | h102 | h102 | h102 | h102 | h102
          · refine tn_tableIn (tgt := 362) (off := 294) dX7_step_68 (x := v66) ⟨by omega, by omega⟩ (by omega) (by omega) (by rw [h102]; rfl) (by decide) ?_
            refine tn_aload_n dX7_step_362 rfl 3 rfl ?_
            refine tn_iconst dX7_step_363 ?_
            obtain ⟨hk105, hl106⟩ : AR T xa 15 9 9 := ar_of (wf_59 hw ha) hxa
            have hk105i : IA T xa := by unfold IA; omega
            obtain ⟨hl110, hk109a, hk109b⟩ := ex_at (wf_61 hw ha) hxc
            have hk109 : (T xc).1 = 14 := hk109a (by omega)
            clear hk109a hk109b
            have hk109i : IA T xc := by unfold IA; omega
            obtain ⟨hk113, hl114⟩ : AR T xd 1 108 108 := ar_of (wf_62 hw ha) hxd
            have hk113i : IA T xd := by unfold IA; omega
            obtain ⟨hk117, hl118⟩ : AR T xe 1 1728 1728 := ar_of (wf_63 hw ha) hxe
            have hk117i : IA T xe := by unfold IA; omega
            obtain ⟨hl122, hk121a, hk121b⟩ := ex_at (wf_55 hw ha) hy
            have hk121i : (T y).1 = 4 ∨ (T y).1 = 5 := by omega
            have hk121c : RROW T a y := ⟨hk121a, hk121b⟩
            clear hk121a hk121b
            refine tn_callV (M := m_X7_step) (pc := 364) (ix := 123) (ci := 7) (M' := m_X7_giveBack) (As := [.int (iI 0)]) (rest := []) dX7_step_364 ok_X7_giveBack im_X7_giveBack se_X7_giveBack ml7_123 np_X7_giveBack rfl rfl ha rfl (Nat.le_of_ble_eq_true rfl) (Nat.le_of_ble_eq_true rfl) rfl (k_X7_giveBack_j57 (d + 1) (T := T) (σ := (sA 67 a (w32 ((σ.2.1 67 a) + 1)) σ)) (a := a) (n := 0) (xa := xa) (xb := xb) (xc := xc) (xd := xd) (xe := xe) (y := y) ha hta (by decide) (hw.put (by decide) (by decide) (fo_67 (by omega))) (rc_o (by decide) (hxa)) (rc_o (by decide) (hxb)) (rc_o (by decide) (hxc)) (rc_o (by decide) (hxd)) (rc_o (by decide) (hxe)) (rc_o (by decide) (hy)) (by rw [show (sA 67 a (w32 ((σ.2.1 67 a) + 1)) σ).2.1 58 a = σ.2.1 58 a from rc_o (by decide) (rfl), show (sA 67 a (w32 ((σ.2.1 67 a) + 1)) σ).2.1 57 a = σ.2.1 57 a from rc_o (by decide) (rfl)]; omega)) (fun r123 T125 σ124 gt126 hp => ?_)
            obtain ⟨rfl, rfl, w132, F133, f127, f128, f129, f130⟩ := hp
            clear gt126
            show Tn _ _ 367 T σ124 [(3, .int (iI (w32 (v11 + 1)))), (2, .int (iI v66)), (1, .int (iI v11)), (0, .ref a)] [] _
            refine tn_iconst dX7_step_367 ?_
            have q134 : σ124.2.1 56 a = σ124.2.1 56 a := rfl
            have q135 : σ124.2.1 57 a = σ124.2.1 57 a := rfl
            have q136 : σ124.2.1 58 a = σ124.2.1 58 a := rfl
            exact tn_zret (v := 0) rfl (by decide) dX7_step_368 ⟨_, rfl, rfl, w132, ((FrC.rfl.put (by decide) (by decide)).trans (FrC.sub F133 (by decide))), by omega, ((CHX.rfl.fld (by simp) (by decide)).trans (CHX.sub f127 (by simp) (by simp) (by simp))), by unfold PIv at *; rw [q134, q135, q136]; omega, ⟨_, v66, f10, Or.inr ⟨xq13, xq55, ⟨hx12, hx56⟩, f65⟩, Or.inr ⟨by omega, Or.inr (Or.inr (Or.inr (Or.inr (Or.inr (Or.inr (Or.inr (Or.inr (Or.inl (⟨by omega, rfl, f129⟩)))))))))⟩⟩, ((FA.rfl.put).trans f130)⟩
          · refine tn_tableIn (tgt := 369) (off := 301) dX7_step_68 (x := v66) ⟨by omega, by omega⟩ (by omega) (by omega) (by rw [h102]; rfl) (by decide) ?_
            refine tn_aload_n dX7_step_369 rfl 3 rfl ?_
            refine tn_iload_n dX7_step_370 rfl 2 rfl ?_
            refine tn_iload_n dX7_step_371 rfl 1 rfl ?_
            obtain ⟨hk139, hl140⟩ : AR T xe 1 1728 1728 := ar_of (wf_63 hw ha) hxe
            have hk139i : IA T xe := by unfold IA; omega
            refine tn_callV (M := m_X7_step) (pc := 372) (ix := 129) (ci := 7) (M' := m_X7_reckonAt) (As := [.int (iI v11), .int (iI v66)]) (rest := []) dX7_step_372 ok_X7_reckonAt im_X7_reckonAt se_X7_reckonAt ml7_129 np_X7_reckonAt rfl rfl ha rfl (Nat.le_of_ble_eq_true rfl) (Nat.le_of_ble_eq_true rfl) rfl (k_X7_reckonAt_j (d + 1) (T := T) (σ := (sA 67 a (w32 ((σ.2.1 67 a) + 1)) σ)) (a := a) (k := v11) (e := v66) (xe := xe) ha (by omega) (by omega) (hw.put (by decide) (by decide) (fo_67 (by omega))) (rc_o (by decide) (hxe)) (by rw [show (sA 67 a (w32 ((σ.2.1 67 a) + 1)) σ).2.1 69 a = _ from rc_o (by decide) (hx12)]; omega)) (fun r141 T143 σ142 gt144 hp => ?_)
            obtain ⟨rfl, rfl, w148, F149, f145, f146⟩ := hp
            clear gt144
            show Tn _ _ 375 T σ142 [(3, .int (iI (w32 (v11 + 1)))), (2, .int (iI v66)), (1, .int (iI v11)), (0, .ref a)] [] _
            refine tn_aload_n dX7_step_375 rfl 3 rfl ?_
            refine tn_getR (ci := 7) (i := 5) (n := 60) (x := xb) dX7_step_376 rfl lay_7 (by decide) fl7_15 ha rfl rfl (rc_F F149 (Or.inl (by decide)) (by decide) (rc_o (by decide) (hxb))) ?_
            refine tn_aload_n dX7_step_379 rfl 3 rfl ?_
            refine tn_getI (ci := 7) (i := 2) (n := 57) (t := σ.2.1 57 a) dX7_step_380 rfl lay_7 (by decide) fl7_65 ha rfl rfl (rc_F F149 (Or.inl (by decide)) (by decide) (rc_o (by decide) (rfl))) ?_
            have g150 : ((0 : Int) ≤ σ.2.1 57 a ∧ σ.2.1 57 a ≤ 11184800) ∧ ((T a).1 = 57 → σ.2.1 57 a ≤ 8) := wf_57 hw ha
            have g150x := g150.2
            replace g150 := g150.1
            have g150x := g150x hta
            refine tn_iload_n dX7_step_383 rfl 0 rfl ?_
            refine tn_callSN (M := m_X7_step) (pc := 384) (ix := 61) (M' := m_X11_put) (As := [.ref xb, .int (iI (σ.2.1 57 a)), .int (iI (w32 (v11 + 1)))]) (rest := []) dX7_step_384 ok_X11_put stt_X11_put nl7_61 np_X11_put rfl (Nat.le_of_ble_eq_true rfl) (Nat.le_of_ble_eq_true rfl) rfl (k_X11_put_x (d + 3) (T := T) (σ := σ142) (x := xb) (i := σ.2.1 57 a) (y := w32 (v11 + 1)) hk3i (by omega) (by omega) (by omega) w148 (nh_k hk3 (by unfold HT; omega)) (vok_1 (by have q9 := hk3; omega) (by omega))) (fun r151 T153 σ152 gt154 hp => ?_)
            obtain ⟨rfl, rfl, w158, F159, f155, f156⟩ := hp
            clear gt154
            have je160 : σ152 = jP T xb (σ.2.1 57 a) (w32 (v11 + 1)) _ := f156
            show Tn _ _ 387 T σ152 [(3, .int (iI (w32 (v11 + 1)))), (2, .int (iI v66)), (1, .int (iI v11)), (0, .ref a)] [] _
            refine tn_iload_n dX7_step_387 rfl 1 rfl ?_
            refine tn_bipush dX7_step_388 (by decide) ?_
            refine tn_icmp_ne (tgt := 397) dX7_step_390 (by decide) ⟨by omega, by omega⟩ ⟨by decide, by decide⟩ (fun h161 => ?_) (fun h161 => absurd h161 (by omega))
            refine tn_iconst dX7_step_397 ?_
            have q162 : σ152.2.1 56 a = σ.2.1 56 a := rc_F F159 (Or.inl (by decide)) (by decide) (rc_F F149 (Or.inl (by decide)) (by decide) (rc_o (by decide) (rfl)))
            have q163 : σ152.2.1 57 a = σ.2.1 57 a := rc_F F159 (Or.inl (by decide)) (by decide) (rc_F F149 (Or.inl (by decide)) (by decide) (rc_o (by decide) (rfl)))
            have q164 : σ152.2.1 58 a = σ.2.1 58 a := rc_F F159 (Or.inl (by decide)) (by decide) (rc_F F149 (Or.inl (by decide)) (by decide) (rc_o (by decide) (rfl)))
            exact tn_zret (v := 0) rfl (by decide) dX7_step_398 ⟨_, rfl, rfl, w158, (((FrC.rfl.put (by decide) (by decide)).trans (FrC.sub F149 (by decide))).trans (FrC.sub F159 (by decide))), by omega, (((CHX.rfl.fld (by simp) (by decide)).trans (CHX.sub f145 (by simp) (by simp) (by simp))).trans (CHX.sub f155 (by simp) (by simp) (by simp))), by unfold PIv at *; rw [q162, q163, q164]; omega, ⟨_, v66, f10, Or.inr ⟨xq13, xq55, ⟨hx12, hx56⟩, f65⟩, Or.inr ⟨by omega, Or.inr (Or.inr (Or.inr (Or.inr (Or.inr (Or.inr (Or.inr (Or.inr (Or.inr ((⟨by omega, rfl, _, f146, je160⟩))))))))))⟩⟩, (((FA.rfl.put).trans (FA.of F149 (by decide))).trans (FA.of F159 (by decide)))⟩
          · refine tn_tableIn (tgt := 369) (off := 301) dX7_step_68 (x := v66) ⟨by omega, by omega⟩ (by omega) (by omega) (by rw [h102]; rfl) (by decide) ?_
            refine tn_aload_n dX7_step_369 rfl 3 rfl ?_
            refine tn_iload_n dX7_step_370 rfl 2 rfl ?_
            refine tn_iload_n dX7_step_371 rfl 1 rfl ?_
            obtain ⟨hk167, hl168⟩ : AR T xe 1 1728 1728 := ar_of (wf_63 hw ha) hxe
            have hk167i : IA T xe := by unfold IA; omega
            refine tn_callV (M := m_X7_step) (pc := 372) (ix := 129) (ci := 7) (M' := m_X7_reckonAt) (As := [.int (iI v11), .int (iI v66)]) (rest := []) dX7_step_372 ok_X7_reckonAt im_X7_reckonAt se_X7_reckonAt ml7_129 np_X7_reckonAt rfl rfl ha rfl (Nat.le_of_ble_eq_true rfl) (Nat.le_of_ble_eq_true rfl) rfl (k_X7_reckonAt_j (d + 1) (T := T) (σ := (sA 67 a (w32 ((σ.2.1 67 a) + 1)) σ)) (a := a) (k := v11) (e := v66) (xe := xe) ha (by omega) (by omega) (hw.put (by decide) (by decide) (fo_67 (by omega))) (rc_o (by decide) (hxe)) (by rw [show (sA 67 a (w32 ((σ.2.1 67 a) + 1)) σ).2.1 69 a = _ from rc_o (by decide) (hx12)]; omega)) (fun r169 T171 σ170 gt172 hp => ?_)
            obtain ⟨rfl, rfl, w176, F177, f173, f174⟩ := hp
            clear gt172
            show Tn _ _ 375 T σ170 [(3, .int (iI (w32 (v11 + 1)))), (2, .int (iI v66)), (1, .int (iI v11)), (0, .ref a)] [] _
            refine tn_aload_n dX7_step_375 rfl 3 rfl ?_
            refine tn_getR (ci := 7) (i := 5) (n := 60) (x := xb) dX7_step_376 rfl lay_7 (by decide) fl7_15 ha rfl rfl (rc_F F177 (Or.inl (by decide)) (by decide) (rc_o (by decide) (hxb))) ?_
            refine tn_aload_n dX7_step_379 rfl 3 rfl ?_
            refine tn_getI (ci := 7) (i := 2) (n := 57) (t := σ.2.1 57 a) dX7_step_380 rfl lay_7 (by decide) fl7_65 ha rfl rfl (rc_F F177 (Or.inl (by decide)) (by decide) (rc_o (by decide) (rfl))) ?_
            have g178 : ((0 : Int) ≤ σ.2.1 57 a ∧ σ.2.1 57 a ≤ 11184800) ∧ ((T a).1 = 57 → σ.2.1 57 a ≤ 8) := wf_57 hw ha
            have g178x := g178.2
            replace g178 := g178.1
            have g178x := g178x hta
            refine tn_iload_n dX7_step_383 rfl 0 rfl ?_
            refine tn_callSN (M := m_X7_step) (pc := 384) (ix := 61) (M' := m_X11_put) (As := [.ref xb, .int (iI (σ.2.1 57 a)), .int (iI (w32 (v11 + 1)))]) (rest := []) dX7_step_384 ok_X11_put stt_X11_put nl7_61 np_X11_put rfl (Nat.le_of_ble_eq_true rfl) (Nat.le_of_ble_eq_true rfl) rfl (k_X11_put_x (d + 3) (T := T) (σ := σ170) (x := xb) (i := σ.2.1 57 a) (y := w32 (v11 + 1)) hk3i (by omega) (by omega) (by omega) w176 (nh_k hk3 (by unfold HT; omega)) (vok_1 (by have q9 := hk3; omega) (by omega))) (fun r179 T181 σ180 gt182 hp => ?_)
            obtain ⟨rfl, rfl, w186, F187, f183, f184⟩ := hp
            clear gt182
            have je188 : σ180 = jP T xb (σ.2.1 57 a) (w32 (v11 + 1)) _ := f184
            show Tn _ _ 387 T σ180 [(3, .int (iI (w32 (v11 + 1)))), (2, .int (iI v66)), (1, .int (iI v11)), (0, .ref a)] [] _
            refine tn_iload_n dX7_step_387 rfl 1 rfl ?_
            refine tn_bipush dX7_step_388 (by decide) ?_
            refine tn_icmp_ne (tgt := 397) dX7_step_390 (by decide) ⟨by omega, by omega⟩ ⟨by decide, by decide⟩ (fun h189 => ?_) (fun h189 => absurd h189 (by omega))
            refine tn_iconst dX7_step_397 ?_
            have q190 : σ180.2.1 56 a = σ.2.1 56 a := rc_F F187 (Or.inl (by decide)) (by decide) (rc_F F177 (Or.inl (by decide)) (by decide) (rc_o (by decide) (rfl)))
            have q191 : σ180.2.1 57 a = σ.2.1 57 a := rc_F F187 (Or.inl (by decide)) (by decide) (rc_F F177 (Or.inl (by decide)) (by decide) (rc_o (by decide) (rfl)))
            have q192 : σ180.2.1 58 a = σ.2.1 58 a := rc_F F187 (Or.inl (by decide)) (by decide) (rc_F F177 (Or.inl (by decide)) (by decide) (rc_o (by decide) (rfl)))
            exact tn_zret (v := 0) rfl (by decide) dX7_step_398 ⟨_, rfl, rfl, w186, (((FrC.rfl.put (by decide) (by decide)).trans (FrC.sub F177 (by decide))).trans (FrC.sub F187 (by decide))), by omega, (((CHX.rfl.fld (by simp) (by decide)).trans (CHX.sub f173 (by simp) (by simp) (by simp))).trans (CHX.sub f183 (by simp) (by simp) (by simp))), by unfold PIv at *; rw [q190, q191, q192]; omega, ⟨_, v66, f10, Or.inr ⟨xq13, xq55, ⟨hx12, hx56⟩, f65⟩, Or.inr ⟨by omega, Or.inr (Or.inr (Or.inr (Or.inr (Or.inr (Or.inr (Or.inr (Or.inr (Or.inr ((⟨by omega, rfl, _, f174, je188⟩))))))))))⟩⟩, (((FA.rfl.put).trans (FA.of F177 (by decide))).trans (FA.of F187 (by decide)))⟩
          · refine tn_tableIn (tgt := 369) (off := 301) dX7_step_68 (x := v66) ⟨by omega, by omega⟩ (by omega) (by omega) (by rw [h102]; rfl) (by decide) ?_
            refine tn_aload_n dX7_step_369 rfl 3 rfl ?_
            refine tn_iload_n dX7_step_370 rfl 2 rfl ?_
            refine tn_iload_n dX7_step_371 rfl 1 rfl ?_
            obtain ⟨hk195, hl196⟩ : AR T xe 1 1728 1728 := ar_of (wf_63 hw ha) hxe
            have hk195i : IA T xe := by unfold IA; omega
            refine tn_callV (M := m_X7_step) (pc := 372) (ix := 129) (ci := 7) (M' := m_X7_reckonAt) (As := [.int (iI v11), .int (iI v66)]) (rest := []) dX7_step_372 ok_X7_reckonAt im_X7_reckonAt se_X7_reckonAt ml7_129 np_X7_reckonAt rfl rfl ha rfl (Nat.le_of_ble_eq_true rfl) (Nat.le_of_ble_eq_true rfl) rfl (k_X7_reckonAt_j (d + 1) (T := T) (σ := (sA 67 a (w32 ((σ.2.1 67 a) + 1)) σ)) (a := a) (k := v11) (e := v66) (xe := xe) ha (by omega) (by omega) (hw.put (by decide) (by decide) (fo_67 (by omega))) (rc_o (by decide) (hxe)) (by rw [show (sA 67 a (w32 ((σ.2.1 67 a) + 1)) σ).2.1 69 a = _ from rc_o (by decide) (hx12)]; omega)) (fun r197 T199 σ198 gt200 hp => ?_)
            obtain ⟨rfl, rfl, w204, F205, f201, f202⟩ := hp
            clear gt200
            show Tn _ _ 375 T σ198 [(3, .int (iI (w32 (v11 + 1)))), (2, .int (iI v66)), (1, .int (iI v11)), (0, .ref a)] [] _
            refine tn_aload_n dX7_step_375 rfl 3 rfl ?_
            refine tn_getR (ci := 7) (i := 5) (n := 60) (x := xb) dX7_step_376 rfl lay_7 (by decide) fl7_15 ha rfl rfl (rc_F F205 (Or.inl (by decide)) (by decide) (rc_o (by decide) (hxb))) ?_
            refine tn_aload_n dX7_step_379 rfl 3 rfl ?_
            refine tn_getI (ci := 7) (i := 2) (n := 57) (t := σ.2.1 57 a) dX7_step_380 rfl lay_7 (by decide) fl7_65 ha rfl rfl (rc_F F205 (Or.inl (by decide)) (by decide) (rc_o (by decide) (rfl))) ?_
            have g206 : ((0 : Int) ≤ σ.2.1 57 a ∧ σ.2.1 57 a ≤ 11184800) ∧ ((T a).1 = 57 → σ.2.1 57 a ≤ 8) := wf_57 hw ha
            have g206x := g206.2
            replace g206 := g206.1
            have g206x := g206x hta
            refine tn_iload_n dX7_step_383 rfl 0 rfl ?_
            refine tn_callSN (M := m_X7_step) (pc := 384) (ix := 61) (M' := m_X11_put) (As := [.ref xb, .int (iI (σ.2.1 57 a)), .int (iI (w32 (v11 + 1)))]) (rest := []) dX7_step_384 ok_X11_put stt_X11_put nl7_61 np_X11_put rfl (Nat.le_of_ble_eq_true rfl) (Nat.le_of_ble_eq_true rfl) rfl (k_X11_put_x (d + 3) (T := T) (σ := σ198) (x := xb) (i := σ.2.1 57 a) (y := w32 (v11 + 1)) hk3i (by omega) (by omega) (by omega) w204 (nh_k hk3 (by unfold HT; omega)) (vok_1 (by have q9 := hk3; omega) (by omega))) (fun r207 T209 σ208 gt210 hp => ?_)
            obtain ⟨rfl, rfl, w214, F215, f211, f212⟩ := hp
            clear gt210
            have je216 : σ208 = jP T xb (σ.2.1 57 a) (w32 (v11 + 1)) _ := f212
            show Tn _ _ 387 T σ208 [(3, .int (iI (w32 (v11 + 1)))), (2, .int (iI v66)), (1, .int (iI v11)), (0, .ref a)] [] _
            refine tn_iload_n dX7_step_387 rfl 1 rfl ?_
            refine tn_bipush dX7_step_388 (by decide) ?_
            refine tn_icmp_ne (tgt := 397) dX7_step_390 (by decide) ⟨by omega, by omega⟩ ⟨by decide, by decide⟩ (fun h217 => ?_) (fun h217 => absurd h217 (by omega))
            refine tn_iconst dX7_step_397 ?_
            have q218 : σ208.2.1 56 a = σ.2.1 56 a := rc_F F215 (Or.inl (by decide)) (by decide) (rc_F F205 (Or.inl (by decide)) (by decide) (rc_o (by decide) (rfl)))
            have q219 : σ208.2.1 57 a = σ.2.1 57 a := rc_F F215 (Or.inl (by decide)) (by decide) (rc_F F205 (Or.inl (by decide)) (by decide) (rc_o (by decide) (rfl)))
            have q220 : σ208.2.1 58 a = σ.2.1 58 a := rc_F F215 (Or.inl (by decide)) (by decide) (rc_F F205 (Or.inl (by decide)) (by decide) (rc_o (by decide) (rfl)))
            exact tn_zret (v := 0) rfl (by decide) dX7_step_398 ⟨_, rfl, rfl, w214, (((FrC.rfl.put (by decide) (by decide)).trans (FrC.sub F205 (by decide))).trans (FrC.sub F215 (by decide))), by omega, (((CHX.rfl.fld (by simp) (by decide)).trans (CHX.sub f201 (by simp) (by simp) (by simp))).trans (CHX.sub f211 (by simp) (by simp) (by simp))), by unfold PIv at *; rw [q218, q219, q220]; omega, ⟨_, v66, f10, Or.inr ⟨xq13, xq55, ⟨hx12, hx56⟩, f65⟩, Or.inr ⟨by omega, Or.inr (Or.inr (Or.inr (Or.inr (Or.inr (Or.inr (Or.inr (Or.inr (Or.inr ((⟨by omega, rfl, _, f202, je216⟩))))))))))⟩⟩, (((FA.rfl.put).trans (FA.of F205 (by decide))).trans (FA.of F215 (by decide)))⟩
          · refine tn_tableIn (tgt := 369) (off := 301) dX7_step_68 (x := v66) ⟨by omega, by omega⟩ (by omega) (by omega) (by rw [h102]; rfl) (by decide) ?_
            refine tn_aload_n dX7_step_369 rfl 3 rfl ?_
            refine tn_iload_n dX7_step_370 rfl 2 rfl ?_
            refine tn_iload_n dX7_step_371 rfl 1 rfl ?_
            obtain ⟨hk223, hl224⟩ : AR T xe 1 1728 1728 := ar_of (wf_63 hw ha) hxe
            have hk223i : IA T xe := by unfold IA; omega
            refine tn_callV (M := m_X7_step) (pc := 372) (ix := 129) (ci := 7) (M' := m_X7_reckonAt) (As := [.int (iI v11), .int (iI v66)]) (rest := []) dX7_step_372 ok_X7_reckonAt im_X7_reckonAt se_X7_reckonAt ml7_129 np_X7_reckonAt rfl rfl ha rfl (Nat.le_of_ble_eq_true rfl) (Nat.le_of_ble_eq_true rfl) rfl (k_X7_reckonAt_j (d + 1) (T := T) (σ := (sA 67 a (w32 ((σ.2.1 67 a) + 1)) σ)) (a := a) (k := v11) (e := v66) (xe := xe) ha (by omega) (by omega) (hw.put (by decide) (by decide) (fo_67 (by omega))) (rc_o (by decide) (hxe)) (by rw [show (sA 67 a (w32 ((σ.2.1 67 a) + 1)) σ).2.1 69 a = _ from rc_o (by decide) (hx12)]; omega)) (fun r225 T227 σ226 gt228 hp => ?_)
            obtain ⟨rfl, rfl, w232, F233, f229, f230⟩ := hp
            clear gt228
            show Tn _ _ 375 T σ226 [(3, .int (iI (w32 (v11 + 1)))), (2, .int (iI v66)), (1, .int (iI v11)), (0, .ref a)] [] _
            refine tn_aload_n dX7_step_375 rfl 3 rfl ?_
            refine tn_getR (ci := 7) (i := 5) (n := 60) (x := xb) dX7_step_376 rfl lay_7 (by decide) fl7_15 ha rfl rfl (rc_F F233 (Or.inl (by decide)) (by decide) (rc_o (by decide) (hxb))) ?_
            refine tn_aload_n dX7_step_379 rfl 3 rfl ?_
            refine tn_getI (ci := 7) (i := 2) (n := 57) (t := σ.2.1 57 a) dX7_step_380 rfl lay_7 (by decide) fl7_65 ha rfl rfl (rc_F F233 (Or.inl (by decide)) (by decide) (rc_o (by decide) (rfl))) ?_
            have g234 : ((0 : Int) ≤ σ.2.1 57 a ∧ σ.2.1 57 a ≤ 11184800) ∧ ((T a).1 = 57 → σ.2.1 57 a ≤ 8) := wf_57 hw ha
            have g234x := g234.2
            replace g234 := g234.1
            have g234x := g234x hta
            refine tn_iload_n dX7_step_383 rfl 0 rfl ?_
            refine tn_callSN (M := m_X7_step) (pc := 384) (ix := 61) (M' := m_X11_put) (As := [.ref xb, .int (iI (σ.2.1 57 a)), .int (iI (w32 (v11 + 1)))]) (rest := []) dX7_step_384 ok_X11_put stt_X11_put nl7_61 np_X11_put rfl (Nat.le_of_ble_eq_true rfl) (Nat.le_of_ble_eq_true rfl) rfl (k_X11_put_x (d + 3) (T := T) (σ := σ226) (x := xb) (i := σ.2.1 57 a) (y := w32 (v11 + 1)) hk3i (by omega) (by omega) (by omega) w232 (nh_k hk3 (by unfold HT; omega)) (vok_1 (by have q9 := hk3; omega) (by omega))) (fun r235 T237 σ236 gt238 hp => ?_)
            obtain ⟨rfl, rfl, w242, F243, f239, f240⟩ := hp
            clear gt238
            have je244 : σ236 = jP T xb (σ.2.1 57 a) (w32 (v11 + 1)) _ := f240
            show Tn _ _ 387 T σ236 [(3, .int (iI (w32 (v11 + 1)))), (2, .int (iI v66)), (1, .int (iI v11)), (0, .ref a)] [] _
            refine tn_iload_n dX7_step_387 rfl 1 rfl ?_
            refine tn_bipush dX7_step_388 (by decide) ?_
            refine tn_icmp_ne (tgt := 397) dX7_step_390 (by decide) ⟨by omega, by omega⟩ ⟨by decide, by decide⟩ (fun h245 => ?_) (fun h245 => absurd h245 (by omega))
            refine tn_iconst dX7_step_397 ?_
            have q246 : σ236.2.1 56 a = σ.2.1 56 a := rc_F F243 (Or.inl (by decide)) (by decide) (rc_F F233 (Or.inl (by decide)) (by decide) (rc_o (by decide) (rfl)))
            have q247 : σ236.2.1 57 a = σ.2.1 57 a := rc_F F243 (Or.inl (by decide)) (by decide) (rc_F F233 (Or.inl (by decide)) (by decide) (rc_o (by decide) (rfl)))
            have q248 : σ236.2.1 58 a = σ.2.1 58 a := rc_F F243 (Or.inl (by decide)) (by decide) (rc_F F233 (Or.inl (by decide)) (by decide) (rc_o (by decide) (rfl)))
            exact tn_zret (v := 0) rfl (by decide) dX7_step_398 ⟨_, rfl, rfl, w242, (((FrC.rfl.put (by decide) (by decide)).trans (FrC.sub F233 (by decide))).trans (FrC.sub F243 (by decide))), by omega, (((CHX.rfl.fld (by simp) (by decide)).trans (CHX.sub f229 (by simp) (by simp) (by simp))).trans (CHX.sub f239 (by simp) (by simp) (by simp))), by unfold PIv at *; rw [q246, q247, q248]; omega, ⟨_, v66, f10, Or.inr ⟨xq13, xq55, ⟨hx12, hx56⟩, f65⟩, Or.inr ⟨by omega, Or.inr (Or.inr (Or.inr (Or.inr (Or.inr (Or.inr (Or.inr (Or.inr (Or.inr ((⟨by omega, rfl, _, f230, je244⟩))))))))))⟩⟩, (((FA.rfl.put).trans (FA.of F233 (by decide))).trans (FA.of F243 (by decide)))⟩
          · refine tn_tableIn (tgt := 369) (off := 301) dX7_step_68 (x := v66) ⟨by omega, by omega⟩ (by omega) (by omega) (by rw [h102]; rfl) (by decide) ?_
            refine tn_aload_n dX7_step_369 rfl 3 rfl ?_
            refine tn_iload_n dX7_step_370 rfl 2 rfl ?_
            refine tn_iload_n dX7_step_371 rfl 1 rfl ?_
            obtain ⟨hk251, hl252⟩ : AR T xe 1 1728 1728 := ar_of (wf_63 hw ha) hxe
            have hk251i : IA T xe := by unfold IA; omega
            refine tn_callV (M := m_X7_step) (pc := 372) (ix := 129) (ci := 7) (M' := m_X7_reckonAt) (As := [.int (iI v11), .int (iI v66)]) (rest := []) dX7_step_372 ok_X7_reckonAt im_X7_reckonAt se_X7_reckonAt ml7_129 np_X7_reckonAt rfl rfl ha rfl (Nat.le_of_ble_eq_true rfl) (Nat.le_of_ble_eq_true rfl) rfl (k_X7_reckonAt_j (d + 1) (T := T) (σ := (sA 67 a (w32 ((σ.2.1 67 a) + 1)) σ)) (a := a) (k := v11) (e := v66) (xe := xe) ha (by omega) (by omega) (hw.put (by decide) (by decide) (fo_67 (by omega))) (rc_o (by decide) (hxe)) (by rw [show (sA 67 a (w32 ((σ.2.1 67 a) + 1)) σ).2.1 69 a = _ from rc_o (by decide) (hx12)]; omega)) (fun r253 T255 σ254 gt256 hp => ?_)
            obtain ⟨rfl, rfl, w260, F261, f257, f258⟩ := hp
            clear gt256
            show Tn _ _ 375 T σ254 [(3, .int (iI (w32 (v11 + 1)))), (2, .int (iI v66)), (1, .int (iI v11)), (0, .ref a)] [] _
            refine tn_aload_n dX7_step_375 rfl 3 rfl ?_
            refine tn_getR (ci := 7) (i := 5) (n := 60) (x := xb) dX7_step_376 rfl lay_7 (by decide) fl7_15 ha rfl rfl (rc_F F261 (Or.inl (by decide)) (by decide) (rc_o (by decide) (hxb))) ?_
            refine tn_aload_n dX7_step_379 rfl 3 rfl ?_
            refine tn_getI (ci := 7) (i := 2) (n := 57) (t := σ.2.1 57 a) dX7_step_380 rfl lay_7 (by decide) fl7_65 ha rfl rfl (rc_F F261 (Or.inl (by decide)) (by decide) (rc_o (by decide) (rfl))) ?_
            have g262 : ((0 : Int) ≤ σ.2.1 57 a ∧ σ.2.1 57 a ≤ 11184800) ∧ ((T a).1 = 57 → σ.2.1 57 a ≤ 8) := wf_57 hw ha
            have g262x := g262.2
            replace g262 := g262.1
            have g262x := g262x hta
            refine tn_iload_n dX7_step_383 rfl 0 rfl ?_
            refine tn_callSN (M := m_X7_step) (pc := 384) (ix := 61) (M' := m_X11_put) (As := [.ref xb, .int (iI (σ.2.1 57 a)), .int (iI (w32 (v11 + 1)))]) (rest := []) dX7_step_384 ok_X11_put stt_X11_put nl7_61 np_X11_put rfl (Nat.le_of_ble_eq_true rfl) (Nat.le_of_ble_eq_true rfl) rfl (k_X11_put_x (d + 3) (T := T) (σ := σ254) (x := xb) (i := σ.2.1 57 a) (y := w32 (v11 + 1)) hk3i (by omega) (by omega) (by omega) w260 (nh_k hk3 (by unfold HT; omega)) (vok_1 (by have q9 := hk3; omega) (by omega))) (fun r263 T265 σ264 gt266 hp => ?_)
            obtain ⟨rfl, rfl, w270, F271, f267, f268⟩ := hp
            clear gt266
            have je272 : σ264 = jP T xb (σ.2.1 57 a) (w32 (v11 + 1)) _ := f268
            show Tn _ _ 387 T σ264 [(3, .int (iI (w32 (v11 + 1)))), (2, .int (iI v66)), (1, .int (iI v11)), (0, .ref a)] [] _
            refine tn_iload_n dX7_step_387 rfl 1 rfl ?_
            refine tn_bipush dX7_step_388 (by decide) ?_
            refine tn_icmp_ne (tgt := 397) dX7_step_390 (by decide) ⟨by omega, by omega⟩ ⟨by decide, by decide⟩ (fun h273 => ?_) (fun h273 => absurd h273 (by omega))
            refine tn_iconst dX7_step_397 ?_
            have q274 : σ264.2.1 56 a = σ.2.1 56 a := rc_F F271 (Or.inl (by decide)) (by decide) (rc_F F261 (Or.inl (by decide)) (by decide) (rc_o (by decide) (rfl)))
            have q275 : σ264.2.1 57 a = σ.2.1 57 a := rc_F F271 (Or.inl (by decide)) (by decide) (rc_F F261 (Or.inl (by decide)) (by decide) (rc_o (by decide) (rfl)))
            have q276 : σ264.2.1 58 a = σ.2.1 58 a := rc_F F271 (Or.inl (by decide)) (by decide) (rc_F F261 (Or.inl (by decide)) (by decide) (rc_o (by decide) (rfl)))
            exact tn_zret (v := 0) rfl (by decide) dX7_step_398 ⟨_, rfl, rfl, w270, (((FrC.rfl.put (by decide) (by decide)).trans (FrC.sub F261 (by decide))).trans (FrC.sub F271 (by decide))), by omega, (((CHX.rfl.fld (by simp) (by decide)).trans (CHX.sub f257 (by simp) (by simp) (by simp))).trans (CHX.sub f267 (by simp) (by simp) (by simp))), by unfold PIv at *; rw [q274, q275, q276]; omega, ⟨_, v66, f10, Or.inr ⟨xq13, xq55, ⟨hx12, hx56⟩, f65⟩, Or.inr ⟨by omega, Or.inr (Or.inr (Or.inr (Or.inr (Or.inr (Or.inr (Or.inr (Or.inr (Or.inr ((⟨by omega, rfl, _, f258, je272⟩))))))))))⟩⟩, (((FA.rfl.put).trans (FA.of F261 (by decide))).trans (FA.of F271 (by decide)))⟩
          · refine tn_tableIn (tgt := 369) (off := 301) dX7_step_68 (x := v66) ⟨by omega, by omega⟩ (by omega) (by omega) (by rw [h102]; rfl) (by decide) ?_
            refine tn_aload_n dX7_step_369 rfl 3 rfl ?_
            refine tn_iload_n dX7_step_370 rfl 2 rfl ?_
            refine tn_iload_n dX7_step_371 rfl 1 rfl ?_
            obtain ⟨hk279, hl280⟩ : AR T xe 1 1728 1728 := ar_of (wf_63 hw ha) hxe
            have hk279i : IA T xe := by unfold IA; omega
            refine tn_callV (M := m_X7_step) (pc := 372) (ix := 129) (ci := 7) (M' := m_X7_reckonAt) (As := [.int (iI v11), .int (iI v66)]) (rest := []) dX7_step_372 ok_X7_reckonAt im_X7_reckonAt se_X7_reckonAt ml7_129 np_X7_reckonAt rfl rfl ha rfl (Nat.le_of_ble_eq_true rfl) (Nat.le_of_ble_eq_true rfl) rfl (k_X7_reckonAt_j (d + 1) (T := T) (σ := (sA 67 a (w32 ((σ.2.1 67 a) + 1)) σ)) (a := a) (k := v11) (e := v66) (xe := xe) ha (by omega) (by omega) (hw.put (by decide) (by decide) (fo_67 (by omega))) (rc_o (by decide) (hxe)) (by rw [show (sA 67 a (w32 ((σ.2.1 67 a) + 1)) σ).2.1 69 a = _ from rc_o (by decide) (hx12)]; omega)) (fun r281 T283 σ282 gt284 hp => ?_)
            obtain ⟨rfl, rfl, w288, F289, f285, f286⟩ := hp
            clear gt284
            show Tn _ _ 375 T σ282 [(3, .int (iI (w32 (v11 + 1)))), (2, .int (iI v66)), (1, .int (iI v11)), (0, .ref a)] [] _
            refine tn_aload_n dX7_step_375 rfl 3 rfl ?_
            refine tn_getR (ci := 7) (i := 5) (n := 60) (x := xb) dX7_step_376 rfl lay_7 (by decide) fl7_15 ha rfl rfl (rc_F F289 (Or.inl (by decide)) (by decide) (rc_o (by decide) (hxb))) ?_
            refine tn_aload_n dX7_step_379 rfl 3 rfl ?_
            refine tn_getI (ci := 7) (i := 2) (n := 57) (t := σ.2.1 57 a) dX7_step_380 rfl lay_7 (by decide) fl7_65 ha rfl rfl (rc_F F289 (Or.inl (by decide)) (by decide) (rc_o (by decide) (rfl))) ?_
            have g290 : ((0 : Int) ≤ σ.2.1 57 a ∧ σ.2.1 57 a ≤ 11184800) ∧ ((T a).1 = 57 → σ.2.1 57 a ≤ 8) := wf_57 hw ha
            have g290x := g290.2
            replace g290 := g290.1
            have g290x := g290x hta
            refine tn_iload_n dX7_step_383 rfl 0 rfl ?_
            refine tn_callSN (M := m_X7_step) (pc := 384) (ix := 61) (M' := m_X11_put) (As := [.ref xb, .int (iI (σ.2.1 57 a)), .int (iI (w32 (v11 + 1)))]) (rest := []) dX7_step_384 ok_X11_put stt_X11_put nl7_61 np_X11_put rfl (Nat.le_of_ble_eq_true rfl) (Nat.le_of_ble_eq_true rfl) rfl (k_X11_put_x (d + 3) (T := T) (σ := σ282) (x := xb) (i := σ.2.1 57 a) (y := w32 (v11 + 1)) hk3i (by omega) (by omega) (by omega) w288 (nh_k hk3 (by unfold HT; omega)) (vok_1 (by have q9 := hk3; omega) (by omega))) (fun r291 T293 σ292 gt294 hp => ?_)
            obtain ⟨rfl, rfl, w298, F299, f295, f296⟩ := hp
            clear gt294
            have je300 : σ292 = jP T xb (σ.2.1 57 a) (w32 (v11 + 1)) _ := f296
            show Tn _ _ 387 T σ292 [(3, .int (iI (w32 (v11 + 1)))), (2, .int (iI v66)), (1, .int (iI v11)), (0, .ref a)] [] _
            refine tn_iload_n dX7_step_387 rfl 1 rfl ?_
            refine tn_bipush dX7_step_388 (by decide) ?_
            refine tn_icmp_ne (tgt := 397) dX7_step_390 (by decide) ⟨by omega, by omega⟩ ⟨by decide, by decide⟩ (fun h301 => ?_) (fun h301 => absurd h301 (by omega))
            refine tn_iconst dX7_step_397 ?_
            have q302 : σ292.2.1 56 a = σ.2.1 56 a := rc_F F299 (Or.inl (by decide)) (by decide) (rc_F F289 (Or.inl (by decide)) (by decide) (rc_o (by decide) (rfl)))
            have q303 : σ292.2.1 57 a = σ.2.1 57 a := rc_F F299 (Or.inl (by decide)) (by decide) (rc_F F289 (Or.inl (by decide)) (by decide) (rc_o (by decide) (rfl)))
            have q304 : σ292.2.1 58 a = σ.2.1 58 a := rc_F F299 (Or.inl (by decide)) (by decide) (rc_F F289 (Or.inl (by decide)) (by decide) (rc_o (by decide) (rfl)))
            exact tn_zret (v := 0) rfl (by decide) dX7_step_398 ⟨_, rfl, rfl, w298, (((FrC.rfl.put (by decide) (by decide)).trans (FrC.sub F289 (by decide))).trans (FrC.sub F299 (by decide))), by omega, (((CHX.rfl.fld (by simp) (by decide)).trans (CHX.sub f285 (by simp) (by simp) (by simp))).trans (CHX.sub f295 (by simp) (by simp) (by simp))), by unfold PIv at *; rw [q302, q303, q304]; omega, ⟨_, v66, f10, Or.inr ⟨xq13, xq55, ⟨hx12, hx56⟩, f65⟩, Or.inr ⟨by omega, Or.inr (Or.inr (Or.inr (Or.inr (Or.inr (Or.inr (Or.inr (Or.inr (Or.inr ((⟨by omega, rfl, _, f286, je300⟩))))))))))⟩⟩, (((FA.rfl.put).trans (FA.of F289 (by decide))).trans (FA.of F299 (by decide)))⟩
          · refine tn_tableIn (tgt := 152) (off := 84) dX7_step_68 (x := v66) ⟨by omega, by omega⟩ (by omega) (by omega) (by rw [h102]; rfl) (by decide) ?_
            refine tn_aload_n dX7_step_152 rfl 3 rfl ?_
            refine tn_aload_n dX7_step_153 rfl 3 rfl ?_
            refine tn_iload_n dX7_step_154 rfl 2 rfl ?_
            refine tn_iconst dX7_step_155 ?_
            obtain ⟨hk307, hl308⟩ : AR T xe 1 1728 1728 := ar_of (wf_63 hw ha) hxe
            have hk307i : IA T xe := by unfold IA; omega
            refine tn_callV (M := m_X7_step) (pc := 156) (ix := 110) (ci := 7) (M' := m_X7_operand) (As := [.int (iI v11), .int (iI 3)]) (rest := [.ref a]) dX7_step_156 ok_X7_operand im_X7_operand se_X7_operand ml7_110 np_X7_operand rfl rfl ha rfl (Nat.le_of_ble_eq_true rfl) (Nat.le_of_ble_eq_true rfl) rfl (k_X7_operand_j (d + 2) (T := T) (σ := (sA 67 a (w32 ((σ.2.1 67 a) + 1)) σ)) (a := a) (k := v11) (c := 3) (xe := xe) ha (by omega) (by decide) (hw.put (by decide) (by decide) (fo_67 (by omega))) (rc_o (by decide) (hxe)) (by rw [show (sA 67 a (w32 ((σ.2.1 67 a) + 1)) σ).2.1 69 a = _ from rc_o (by decide) (hx12)]; omega) (by omega)) (fun r309 T311 σ310 gt312 hp => ?_)
            obtain ⟨v315, rfl, rfl, rfl, f313, f314⟩ := hp
            clear gt312
            show Tn _ _ 159 T (sA 67 a (w32 ((σ.2.1 67 a) + 1)) σ) [(3, .int (iI (w32 (v11 + 1)))), (2, .int (iI v66)), (1, .int (iI v11)), (0, .ref a)] [.int (iI v315), .ref a] _
            obtain ⟨hk318, hl319⟩ : AR T xf 1 200 200 := ar_of (wf_64 hw ha) hxf
            have hk318i : IA T xf := by unfold IA; omega
            refine tn_callV (M := m_X7_step) (pc := 159) (ix := 113) (ci := 7) (M' := m_X7_emit) (As := [.int (iI v315)]) (rest := []) dX7_step_159 ok_X7_emit im_X7_emit se_X7_emit ml7_113 np_X7_emit rfl rfl ha rfl (Nat.le_of_ble_eq_true rfl) (Nat.le_of_ble_eq_true rfl) rfl (k_X7_emit_j (d + 2) (T := T) (σ := (sA 67 a (w32 ((σ.2.1 67 a) + 1)) σ)) (a := a) (p1 := v315) (xf := xf) ha (by omega) (hw.put (by decide) (by decide) (fo_67 (by omega))) (rc_o (by decide) (hxf))) (fun r320 T322 σ321 gt323 hp => ?_)
            obtain ⟨rfl, rfl, w328, F329, f324, f325, f326⟩ := hp
            clear gt323
            show Tn _ _ 162 T σ321 [(3, .int (iI (w32 (v11 + 1)))), (2, .int (iI v66)), (1, .int (iI v11)), (0, .ref a)] [] _
            refine tn_goto (tgt := 375) dX7_step_162 (by decide) ?_
            refine tn_aload_n dX7_step_375 rfl 3 rfl ?_
            refine tn_getR (ci := 7) (i := 5) (n := 60) (x := xb) dX7_step_376 rfl lay_7 (by decide) fl7_15 ha rfl rfl (rc_F F329 (Or.inl (by decide)) (by decide) (rc_o (by decide) (hxb))) ?_
            refine tn_aload_n dX7_step_379 rfl 3 rfl ?_
            refine tn_getI (ci := 7) (i := 2) (n := 57) (t := σ.2.1 57 a) dX7_step_380 rfl lay_7 (by decide) fl7_65 ha rfl rfl (rc_F F329 (Or.inl (by decide)) (by decide) (rc_o (by decide) (rfl))) ?_
            have g330 : ((0 : Int) ≤ σ.2.1 57 a ∧ σ.2.1 57 a ≤ 11184800) ∧ ((T a).1 = 57 → σ.2.1 57 a ≤ 8) := wf_57 hw ha
            have g330x := g330.2
            replace g330 := g330.1
            have g330x := g330x hta
            refine tn_iload_n dX7_step_383 rfl 0 rfl ?_
            refine tn_callSN (M := m_X7_step) (pc := 384) (ix := 61) (M' := m_X11_put) (As := [.ref xb, .int (iI (σ.2.1 57 a)), .int (iI (w32 (v11 + 1)))]) (rest := []) dX7_step_384 ok_X11_put stt_X11_put nl7_61 np_X11_put rfl (Nat.le_of_ble_eq_true rfl) (Nat.le_of_ble_eq_true rfl) rfl (k_X11_put_x (d + 3) (T := T) (σ := σ321) (x := xb) (i := σ.2.1 57 a) (y := w32 (v11 + 1)) hk3i (by omega) (by omega) (by omega) w328 (nh_k hk3 (by unfold HT; omega)) (vok_1 (by have q9 := hk3; omega) (by omega))) (fun r331 T333 σ332 gt334 hp => ?_)
            obtain ⟨rfl, rfl, w338, F339, f335, f336⟩ := hp
            clear gt334
            have je340 : σ332 = jP T xb (σ.2.1 57 a) (w32 (v11 + 1)) _ := f336
            show Tn _ _ 387 T σ332 [(3, .int (iI (w32 (v11 + 1)))), (2, .int (iI v66)), (1, .int (iI v11)), (0, .ref a)] [] _
            refine tn_iload_n dX7_step_387 rfl 1 rfl ?_
            refine tn_bipush dX7_step_388 (by decide) ?_
            refine tn_icmp_ne (tgt := 397) dX7_step_390 (by decide) ⟨by omega, by omega⟩ ⟨by decide, by decide⟩ (fun h341 => ?_) (fun h341 => absurd h341 (by omega))
            refine tn_iconst dX7_step_397 ?_
            have q342 : σ332.2.1 56 a = σ.2.1 56 a := rc_F F339 (Or.inl (by decide)) (by decide) (rc_F F329 (Or.inl (by decide)) (by decide) (rc_o (by decide) (rfl)))
            have q343 : σ332.2.1 57 a = σ.2.1 57 a := rc_F F339 (Or.inl (by decide)) (by decide) (rc_F F329 (Or.inl (by decide)) (by decide) (rc_o (by decide) (rfl)))
            have q344 : σ332.2.1 58 a = σ.2.1 58 a := rc_F F339 (Or.inl (by decide)) (by decide) (rc_F F329 (Or.inl (by decide)) (by decide) (rc_o (by decide) (rfl)))
            exact tn_zret (v := 0) rfl (by decide) dX7_step_398 ⟨_, rfl, rfl, w338, (((FrC.rfl.put (by decide) (by decide)).trans (FrC.sub F329 (by decide))).trans (FrC.sub F339 (by decide))), by omega, (((CHX.rfl.fld (by simp) (by decide)).trans (CHX.sub f324 (by simp) (by simp) (by simp))).trans (CHX.sub f335 (by simp) (by simp) (by simp))), by unfold PIv at *; rw [q342, q343, q344]; omega, ⟨_, v66, f10, Or.inr ⟨xq13, xq55, ⟨hx12, hx56⟩, f65⟩, Or.inr ⟨by omega, Or.inl (⟨by omega, rfl, _, _, f314, f325, je340⟩)⟩⟩, (((FA.rfl.put).trans f326).trans (FA.of F339 (by decide)))⟩
          · refine tn_tableIn (tgt := 213) (off := 145) dX7_step_68 (x := v66) ⟨by omega, by omega⟩ (by omega) (by omega) (by rw [h102]; rfl) (by decide) ?_
            refine tn_aload_n dX7_step_213 rfl 3 rfl ?_
            refine tn_aload_n dX7_step_214 rfl 3 rfl ?_
            refine tn_iload_n dX7_step_215 rfl 2 rfl ?_
            refine tn_iconst dX7_step_216 ?_
            obtain ⟨hk347, hl348⟩ : AR T xe 1 1728 1728 := ar_of (wf_63 hw ha) hxe
            have hk347i : IA T xe := by unfold IA; omega
            refine tn_callV (M := m_X7_step) (pc := 217) (ix := 110) (ci := 7) (M' := m_X7_operand) (As := [.int (iI v11), .int (iI 3)]) (rest := [.ref a]) dX7_step_217 ok_X7_operand im_X7_operand se_X7_operand ml7_110 np_X7_operand rfl rfl ha rfl (Nat.le_of_ble_eq_true rfl) (Nat.le_of_ble_eq_true rfl) rfl (k_X7_operand_j (d + 2) (T := T) (σ := (sA 67 a (w32 ((σ.2.1 67 a) + 1)) σ)) (a := a) (k := v11) (c := 3) (xe := xe) ha (by omega) (by decide) (hw.put (by decide) (by decide) (fo_67 (by omega))) (rc_o (by decide) (hxe)) (by rw [show (sA 67 a (w32 ((σ.2.1 67 a) + 1)) σ).2.1 69 a = _ from rc_o (by decide) (hx12)]; omega) (by omega)) (fun r349 T351 σ350 gt352 hp => ?_)
            obtain ⟨v355, rfl, rfl, rfl, f353, f354⟩ := hp
            clear gt352
            show Tn _ _ 220 T (sA 67 a (w32 ((σ.2.1 67 a) + 1)) σ) [(3, .int (iI (w32 (v11 + 1)))), (2, .int (iI v66)), (1, .int (iI v11)), (0, .ref a)] [.int (iI v355), .ref a] _
            obtain ⟨hk358, hl359⟩ : AR T xa 15 9 9 := ar_of (wf_59 hw ha) hxa
            have hk358i : IA T xa := by unfold IA; omega
            obtain ⟨hl363, hk362a, hk362b⟩ := ex_at (wf_61 hw ha) hxc
            have hk362 : (T xc).1 = 14 := hk362a (by omega)
            clear hk362a hk362b
            have hk362i : IA T xc := by unfold IA; omega
            obtain ⟨hk366, hl367⟩ : AR T xd 1 108 108 := ar_of (wf_62 hw ha) hxd
            have hk366i : IA T xd := by unfold IA; omega
            obtain ⟨hl371, hk370a, hk370b⟩ := ex_at (wf_55 hw ha) hy
            have hk370i : (T y).1 = 4 ∨ (T y).1 = 5 := by omega
            have hk370c : RROW T a y := ⟨hk370a, hk370b⟩
            clear hk370a hk370b
            refine tn_callV (M := m_X7_step) (pc := 220) (ix := 123) (ci := 7) (M' := m_X7_giveBack) (As := [.int (iI v355)]) (rest := []) dX7_step_220 ok_X7_giveBack im_X7_giveBack se_X7_giveBack ml7_123 np_X7_giveBack rfl rfl ha rfl (Nat.le_of_ble_eq_true rfl) (Nat.le_of_ble_eq_true rfl) rfl (k_X7_giveBack_j57 (d + 1) (T := T) (σ := (sA 67 a (w32 ((σ.2.1 67 a) + 1)) σ)) (a := a) (n := v355) (xa := xa) (xb := xb) (xc := xc) (xd := xd) (xe := xe) (y := y) ha hta (by omega) (hw.put (by decide) (by decide) (fo_67 (by omega))) (rc_o (by decide) (hxa)) (rc_o (by decide) (hxb)) (rc_o (by decide) (hxc)) (rc_o (by decide) (hxd)) (rc_o (by decide) (hxe)) (rc_o (by decide) (hy)) (by rw [show (sA 67 a (w32 ((σ.2.1 67 a) + 1)) σ).2.1 58 a = σ.2.1 58 a from rc_o (by decide) (rfl), show (sA 67 a (w32 ((σ.2.1 67 a) + 1)) σ).2.1 57 a = σ.2.1 57 a from rc_o (by decide) (rfl)]; omega)) (fun r372 T374 σ373 gt375 hp => ?_)
            obtain ⟨rfl, rfl, w381, F382, f376, f377, f378, f379⟩ := hp
            clear gt375
            show Tn _ _ 223 T σ373 [(3, .int (iI (w32 (v11 + 1)))), (2, .int (iI v66)), (1, .int (iI v11)), (0, .ref a)] [] _
            refine tn_iconst dX7_step_223 ?_
            have q383 : σ373.2.1 56 a = σ373.2.1 56 a := rfl
            have q384 : σ373.2.1 57 a = σ373.2.1 57 a := rfl
            have q385 : σ373.2.1 58 a = σ373.2.1 58 a := rfl
            exact tn_zret (v := 0) rfl (by decide) dX7_step_224 ⟨_, rfl, rfl, w381, ((FrC.rfl.put (by decide) (by decide)).trans (FrC.sub F382 (by decide))), by omega, ((CHX.rfl.fld (by simp) (by decide)).trans (CHX.sub f376 (by simp) (by simp) (by simp))), by unfold PIv at *; rw [q383, q384, q385]; omega, ⟨_, v66, f10, Or.inr ⟨xq13, xq55, ⟨hx12, hx56⟩, f65⟩, Or.inr ⟨by omega, Or.inr (Or.inr (Or.inr (Or.inr (Or.inl (⟨by omega, rfl, _, f354, f378⟩)))))⟩⟩, ((FA.rfl.put).trans f379)⟩
          · refine tn_tableIn (tgt := 165) (off := 97) dX7_step_68 (x := v66) ⟨by omega, by omega⟩ (by omega) (by omega) (by rw [h102]; rfl) (by decide) ?_
            refine tn_aload_n dX7_step_165 rfl 3 rfl ?_
            refine tn_getR (ci := 7) (i := 14) (n := 69) (x := xq13) dX7_step_166 rfl lay_7 (by decide) fl7_72 ha rfl rfl (rc_o (by decide) (hx12)) ?_
            refine tn_iload_n dX7_step_169 rfl 2 rfl ?_
            refine tn_bipush dX7_step_170 (by decide) ?_
            refine tn_callV (M := m_X7_step) (pc := 172) (ix := 117) (ci := 1) (M' := m_X1_get) (As := [.int (iI v11), .int (iI 12)]) (rest := []) dX7_step_172 ok_X1_get im_X1_get se_X1_get ml7_117 np_X1_get rfl rfl hk14o rfl (Nat.le_of_ble_eq_true rfl) (Nat.le_of_ble_eq_true rfl) rfl (k_X1_get_j (d + 3) (T := T) (σ := (sA 67 a (w32 ((σ.2.1 67 a) + 1)) σ)) (a := xq13) (k := v11) (c := 12) (x := xq55) hk14o (by omega) (by decide) (hw.put (by decide) (by decide) (fo_67 (by omega))) (rc_o (by decide) (hx56)) (by omega)) (fun r386 T388 σ387 gt389 hp => ?_)
            obtain ⟨v392, rfl, rfl, rfl, f390, f391⟩ := hp
            clear gt389
            show Tn _ _ 175 T (sA 67 a (w32 ((σ.2.1 67 a) + 1)) σ) [(3, .int (iI (w32 (v11 + 1)))), (2, .int (iI v66)), (1, .int (iI v11)), (0, .ref a)] [.int (iI v392)] _
            refine tn_istore_n (L' := [(3, .int (iI v392)), (2, .int (iI v66)), (1, .int (iI v11)), (0, .ref a)]) dX7_step_175 rfl (by decide) rfl ?_
            refine tn_goto (tgt := 375) dX7_step_176 (by decide) ?_
            refine tn_aload_n dX7_step_375 rfl 3 rfl ?_
            refine tn_getR (ci := 7) (i := 5) (n := 60) (x := xb) dX7_step_376 rfl lay_7 (by decide) fl7_15 ha rfl rfl (rc_o (by decide) (hxb)) ?_
            refine tn_aload_n dX7_step_379 rfl 3 rfl ?_
            refine tn_getI (ci := 7) (i := 2) (n := 57) (t := σ.2.1 57 a) dX7_step_380 rfl lay_7 (by decide) fl7_65 ha rfl rfl (rc_o (by decide) (rfl)) ?_
            have g393 : ((0 : Int) ≤ σ.2.1 57 a ∧ σ.2.1 57 a ≤ 11184800) ∧ ((T a).1 = 57 → σ.2.1 57 a ≤ 8) := wf_57 hw ha
            have g393x := g393.2
            replace g393 := g393.1
            have g393x := g393x hta
            refine tn_iload_n dX7_step_383 rfl 0 rfl ?_
            refine tn_callSN (M := m_X7_step) (pc := 384) (ix := 61) (M' := m_X11_put) (As := [.ref xb, .int (iI (σ.2.1 57 a)), .int (iI v392)]) (rest := []) dX7_step_384 ok_X11_put stt_X11_put nl7_61 np_X11_put rfl (Nat.le_of_ble_eq_true rfl) (Nat.le_of_ble_eq_true rfl) rfl (k_X11_put_x (d + 3) (T := T) (σ := (sA 67 a (w32 ((σ.2.1 67 a) + 1)) σ)) (x := xb) (i := σ.2.1 57 a) (y := v392) hk3i (by omega) (by omega) (by omega) (hw.put (by decide) (by decide) (fo_67 (by omega))) (nh_k hk3 (by unfold HT; omega)) (vok_1 (by have q9 := hk3; omega) (by omega))) (fun r394 T396 σ395 gt397 hp => ?_)
            obtain ⟨rfl, rfl, w401, F402, f398, f399⟩ := hp
            clear gt397
            have je403 : σ395 = jP T xb (σ.2.1 57 a) (v392) _ := f399
            show Tn _ _ 387 T σ395 [(3, .int (iI v392)), (2, .int (iI v66)), (1, .int (iI v11)), (0, .ref a)] [] _
            refine tn_iload_n dX7_step_387 rfl 1 rfl ?_
            refine tn_bipush dX7_step_388 (by decide) ?_
            refine tn_icmp_ne (tgt := 397) dX7_step_390 (by decide) ⟨by omega, by omega⟩ ⟨by decide, by decide⟩ (fun h404 => ?_) (fun h404 => absurd h404 (by omega))
            refine tn_iconst dX7_step_397 ?_
            have q405 : σ395.2.1 56 a = σ.2.1 56 a := rc_F F402 (Or.inl (by decide)) (by decide) (rc_o (by decide) (rfl))
            have q406 : σ395.2.1 57 a = σ.2.1 57 a := rc_F F402 (Or.inl (by decide)) (by decide) (rc_o (by decide) (rfl))
            have q407 : σ395.2.1 58 a = σ.2.1 58 a := rc_F F402 (Or.inl (by decide)) (by decide) (rc_o (by decide) (rfl))
            exact tn_zret (v := 0) rfl (by decide) dX7_step_398 ⟨_, rfl, rfl, w401, ((FrC.rfl.put (by decide) (by decide)).trans (FrC.sub F402 (by decide))), by omega, ((CHX.rfl.fld (by simp) (by decide)).trans (CHX.sub f398 (by simp) (by simp) (by simp))), by unfold PIv at *; rw [q405, q406, q407]; omega, ⟨_, v66, f10, Or.inr ⟨xq13, xq55, ⟨hx12, hx56⟩, f65⟩, Or.inr ⟨by omega, Or.inr (Or.inl (⟨by omega, rfl, xq13, xq55, ⟨hx12, hx56⟩, by rw [← f391]; exact je403⟩))⟩⟩, ((FA.rfl.put).trans (FA.of F402 (by decide)))⟩
          · refine tn_tableIn (tgt := 179) (off := 111) dX7_step_68 (x := v66) ⟨by omega, by omega⟩ (by omega) (by omega) (by rw [h102]; rfl) (by decide) ?_
            refine tn_aload_n dX7_step_179 rfl 3 rfl ?_
            refine tn_iload_n dX7_step_180 rfl 2 rfl ?_
            refine tn_iconst dX7_step_181 ?_
            obtain ⟨hk410, hl411⟩ : AR T xe 1 1728 1728 := ar_of (wf_63 hw ha) hxe
            have hk410i : IA T xe := by unfold IA; omega
            refine tn_callV (M := m_X7_step) (pc := 182) (ix := 110) (ci := 7) (M' := m_X7_operand) (As := [.int (iI v11), .int (iI 3)]) (rest := []) dX7_step_182 ok_X7_operand im_X7_operand se_X7_operand ml7_110 np_X7_operand rfl rfl ha rfl (Nat.le_of_ble_eq_true rfl) (Nat.le_of_ble_eq_true rfl) rfl (k_X7_operand_j (d + 2) (T := T) (σ := (sA 67 a (w32 ((σ.2.1 67 a) + 1)) σ)) (a := a) (k := v11) (c := 3) (xe := xe) ha (by omega) (by decide) (hw.put (by decide) (by decide) (fo_67 (by omega))) (rc_o (by decide) (hxe)) (by rw [show (sA 67 a (w32 ((σ.2.1 67 a) + 1)) σ).2.1 69 a = _ from rc_o (by decide) (hx12)]; omega) (by omega)) (fun r412 T414 σ413 gt415 hp => ?_)
            obtain ⟨v418, rfl, rfl, rfl, f416, f417⟩ := hp
            clear gt415
            show Tn _ _ 185 T (sA 67 a (w32 ((σ.2.1 67 a) + 1)) σ) [(3, .int (iI (w32 (v11 + 1)))), (2, .int (iI v66)), (1, .int (iI v11)), (0, .ref a)] [.int (iI v418)] _
            refine tn_if_ne (tgt := 201) dX7_step_185 (by decide) ⟨by omega, by omega⟩ (fun h419 => ?_) (fun h419 => ?_)
            · refine tn_iload_n dX7_step_201 rfl 0 rfl ?_
              refine tn_istore_n (L' := [(3, .int (iI (w32 (v11 + 1)))), (2, .int (iI v66)), (1, .int (iI v11)), (0, .ref a)]) dX7_step_202 rfl (by decide) rfl ?_
              refine tn_goto (tgt := 375) dX7_step_203 (by decide) ?_
              refine tn_aload_n dX7_step_375 rfl 3 rfl ?_
              refine tn_getR (ci := 7) (i := 5) (n := 60) (x := xb) dX7_step_376 rfl lay_7 (by decide) fl7_15 ha rfl rfl (rc_o (by decide) (hxb)) ?_
              refine tn_aload_n dX7_step_379 rfl 3 rfl ?_
              refine tn_getI (ci := 7) (i := 2) (n := 57) (t := σ.2.1 57 a) dX7_step_380 rfl lay_7 (by decide) fl7_65 ha rfl rfl (rc_o (by decide) (rfl)) ?_
              have g420 : ((0 : Int) ≤ σ.2.1 57 a ∧ σ.2.1 57 a ≤ 11184800) ∧ ((T a).1 = 57 → σ.2.1 57 a ≤ 8) := wf_57 hw ha
              have g420x := g420.2
              replace g420 := g420.1
              have g420x := g420x hta
              refine tn_iload_n dX7_step_383 rfl 0 rfl ?_
              refine tn_callSN (M := m_X7_step) (pc := 384) (ix := 61) (M' := m_X11_put) (As := [.ref xb, .int (iI (σ.2.1 57 a)), .int (iI (w32 (v11 + 1)))]) (rest := []) dX7_step_384 ok_X11_put stt_X11_put nl7_61 np_X11_put rfl (Nat.le_of_ble_eq_true rfl) (Nat.le_of_ble_eq_true rfl) rfl (k_X11_put_x (d + 3) (T := T) (σ := (sA 67 a (w32 ((σ.2.1 67 a) + 1)) σ)) (x := xb) (i := σ.2.1 57 a) (y := w32 (v11 + 1)) hk3i (by omega) (by omega) (by omega) (hw.put (by decide) (by decide) (fo_67 (by omega))) (nh_k hk3 (by unfold HT; omega)) (vok_1 (by have q9 := hk3; omega) (by omega))) (fun r421 T423 σ422 gt424 hp => ?_)
              obtain ⟨rfl, rfl, w428, F429, f425, f426⟩ := hp
              clear gt424
              have je430 : σ422 = jP T xb (σ.2.1 57 a) (w32 (v11 + 1)) _ := f426
              show Tn _ _ 387 T σ422 [(3, .int (iI (w32 (v11 + 1)))), (2, .int (iI v66)), (1, .int (iI v11)), (0, .ref a)] [] _
              refine tn_iload_n dX7_step_387 rfl 1 rfl ?_
              refine tn_bipush dX7_step_388 (by decide) ?_
              refine tn_icmp_ne (tgt := 397) dX7_step_390 (by decide) ⟨by omega, by omega⟩ ⟨by decide, by decide⟩ (fun h431 => ?_) (fun h431 => absurd h431 (by omega))
              refine tn_iconst dX7_step_397 ?_
              have q432 : σ422.2.1 56 a = σ.2.1 56 a := rc_F F429 (Or.inl (by decide)) (by decide) (rc_o (by decide) (rfl))
              have q433 : σ422.2.1 57 a = σ.2.1 57 a := rc_F F429 (Or.inl (by decide)) (by decide) (rc_o (by decide) (rfl))
              have q434 : σ422.2.1 58 a = σ.2.1 58 a := rc_F F429 (Or.inl (by decide)) (by decide) (rc_o (by decide) (rfl))
              exact tn_zret (v := 0) rfl (by decide) dX7_step_398 ⟨_, rfl, rfl, w428, ((FrC.rfl.put (by decide) (by decide)).trans (FrC.sub F429 (by decide))), by omega, ((CHX.rfl.fld (by simp) (by decide)).trans (CHX.sub f425 (by simp) (by simp) (by simp))), by unfold PIv at *; rw [q432, q433, q434]; omega, ⟨_, v66, f10, Or.inr ⟨xq13, xq55, ⟨hx12, hx56⟩, f65⟩, Or.inr ⟨by omega, Or.inr (Or.inr (Or.inl (⟨by omega, rfl, _, f417, Or.inr ⟨by omega, je430⟩⟩)))⟩⟩, ((FA.rfl.put).trans (FA.of F429 (by decide)))⟩
            · refine tn_aload_n dX7_step_188 rfl 3 rfl ?_
              refine tn_getR (ci := 7) (i := 14) (n := 69) (x := xq13) dX7_step_189 rfl lay_7 (by decide) fl7_72 ha rfl rfl (rc_o (by decide) (hx12)) ?_
              refine tn_iload_n dX7_step_192 rfl 2 rfl ?_
              refine tn_bipush dX7_step_193 (by decide) ?_
              refine tn_callV (M := m_X7_step) (pc := 195) (ix := 117) (ci := 1) (M' := m_X1_get) (As := [.int (iI v11), .int (iI 12)]) (rest := []) dX7_step_195 ok_X1_get im_X1_get se_X1_get ml7_117 np_X1_get rfl rfl hk14o rfl (Nat.le_of_ble_eq_true rfl) (Nat.le_of_ble_eq_true rfl) rfl (k_X1_get_j (d + 3) (T := T) (σ := (sA 67 a (w32 ((σ.2.1 67 a) + 1)) σ)) (a := xq13) (k := v11) (c := 12) (x := xq55) hk14o (by omega) (by decide) (hw.put (by decide) (by decide) (fo_67 (by omega))) (rc_o (by decide) (hx56)) (by omega)) (fun r435 T437 σ436 gt438 hp => ?_)
              obtain ⟨v441, rfl, rfl, rfl, f439, f440⟩ := hp
              clear gt438
              show Tn _ _ 198 T (sA 67 a (w32 ((σ.2.1 67 a) + 1)) σ) [(3, .int (iI (w32 (v11 + 1)))), (2, .int (iI v66)), (1, .int (iI v11)), (0, .ref a)] [.int (iI v441)] _
              refine tn_goto (tgt := 202) dX7_step_198 (by decide) ?_
              refine tn_istore_n (L' := [(3, .int (iI v441)), (2, .int (iI v66)), (1, .int (iI v11)), (0, .ref a)]) dX7_step_202 rfl (by decide) rfl ?_
              refine tn_goto (tgt := 375) dX7_step_203 (by decide) ?_
              refine tn_aload_n dX7_step_375 rfl 3 rfl ?_
              refine tn_getR (ci := 7) (i := 5) (n := 60) (x := xb) dX7_step_376 rfl lay_7 (by decide) fl7_15 ha rfl rfl (rc_o (by decide) (hxb)) ?_
              refine tn_aload_n dX7_step_379 rfl 3 rfl ?_
              refine tn_getI (ci := 7) (i := 2) (n := 57) (t := σ.2.1 57 a) dX7_step_380 rfl lay_7 (by decide) fl7_65 ha rfl rfl (rc_o (by decide) (rfl)) ?_
              have g442 : ((0 : Int) ≤ σ.2.1 57 a ∧ σ.2.1 57 a ≤ 11184800) ∧ ((T a).1 = 57 → σ.2.1 57 a ≤ 8) := wf_57 hw ha
              have g442x := g442.2
              replace g442 := g442.1
              have g442x := g442x hta
              refine tn_iload_n dX7_step_383 rfl 0 rfl ?_
              refine tn_callSN (M := m_X7_step) (pc := 384) (ix := 61) (M' := m_X11_put) (As := [.ref xb, .int (iI (σ.2.1 57 a)), .int (iI v441)]) (rest := []) dX7_step_384 ok_X11_put stt_X11_put nl7_61 np_X11_put rfl (Nat.le_of_ble_eq_true rfl) (Nat.le_of_ble_eq_true rfl) rfl (k_X11_put_x (d + 3) (T := T) (σ := (sA 67 a (w32 ((σ.2.1 67 a) + 1)) σ)) (x := xb) (i := σ.2.1 57 a) (y := v441) hk3i (by omega) (by omega) (by omega) (hw.put (by decide) (by decide) (fo_67 (by omega))) (nh_k hk3 (by unfold HT; omega)) (vok_1 (by have q9 := hk3; omega) (by omega))) (fun r443 T445 σ444 gt446 hp => ?_)
              obtain ⟨rfl, rfl, w450, F451, f447, f448⟩ := hp
              clear gt446
              have je452 : σ444 = jP T xb (σ.2.1 57 a) (v441) _ := f448
              show Tn _ _ 387 T σ444 [(3, .int (iI v441)), (2, .int (iI v66)), (1, .int (iI v11)), (0, .ref a)] [] _
              refine tn_iload_n dX7_step_387 rfl 1 rfl ?_
              refine tn_bipush dX7_step_388 (by decide) ?_
              refine tn_icmp_ne (tgt := 397) dX7_step_390 (by decide) ⟨by omega, by omega⟩ ⟨by decide, by decide⟩ (fun h453 => ?_) (fun h453 => absurd h453 (by omega))
              refine tn_iconst dX7_step_397 ?_
              have q454 : σ444.2.1 56 a = σ.2.1 56 a := rc_F F451 (Or.inl (by decide)) (by decide) (rc_o (by decide) (rfl))
              have q455 : σ444.2.1 57 a = σ.2.1 57 a := rc_F F451 (Or.inl (by decide)) (by decide) (rc_o (by decide) (rfl))
              have q456 : σ444.2.1 58 a = σ.2.1 58 a := rc_F F451 (Or.inl (by decide)) (by decide) (rc_o (by decide) (rfl))
              exact tn_zret (v := 0) rfl (by decide) dX7_step_398 ⟨_, rfl, rfl, w450, ((FrC.rfl.put (by decide) (by decide)).trans (FrC.sub F451 (by decide))), by omega, ((CHX.rfl.fld (by simp) (by decide)).trans (CHX.sub f447 (by simp) (by simp) (by simp))), by unfold PIv at *; rw [q454, q455, q456]; omega, ⟨_, v66, f10, Or.inr ⟨xq13, xq55, ⟨hx12, hx56⟩, f65⟩, Or.inr ⟨by omega, Or.inr (Or.inr (Or.inl (⟨by omega, rfl, _, f417, Or.inl ⟨by omega, xq13, xq55, ⟨hx12, hx56⟩, by rw [← f440]; exact je452⟩⟩)))⟩⟩, ((FA.rfl.put).trans (FA.of F451 (by decide)))⟩
          · refine tn_tableIn (tgt := 206) (off := 138) dX7_step_68 (x := v66) ⟨by omega, by omega⟩ (by omega) (by omega) (by rw [h102]; rfl) (by decide) ?_
            refine tn_aload_n dX7_step_206 rfl 3 rfl ?_
            refine tn_iload_n dX7_step_207 rfl 2 rfl ?_
            obtain ⟨hk459, hl460⟩ : AR T xa 15 9 9 := ar_of (wf_59 hw ha) hxa
            have hk459i : IA T xa := by unfold IA; omega
            obtain ⟨hl464, hk463a, hk463b⟩ := ex_at (wf_61 hw ha) hxc
            have hk463 : (T xc).1 = 14 := hk463a (by omega)
            clear hk463a hk463b
            have hk463i : IA T xc := by unfold IA; omega
            obtain ⟨hk467, hl468⟩ : AR T xd 1 108 108 := ar_of (wf_62 hw ha) hxd
            have hk467i : IA T xd := by unfold IA; omega
            obtain ⟨hk471, hl472⟩ : AR T xe 1 1728 1728 := ar_of (wf_63 hw ha) hxe
            have hk471i : IA T xe := by unfold IA; omega
            obtain ⟨hl476, hk475a, hk475b⟩ := ex_at (wf_55 hw ha) hy
            have hk475i : (T y).1 = 4 ∨ (T y).1 = 5 := by omega
            have hk475c : RROW T a y := ⟨hk475a, hk475b⟩
            clear hk475a hk475b
            have q481 : (sA 67 a (w32 ((σ.2.1 67 a) + 1)) σ).2.1 57 a = σ.2.1 57 a := rc_o (by decide) (rfl)
            have q482 : (sA 67 a (w32 ((σ.2.1 67 a) + 1)) σ).2.1 58 a = σ.2.1 58 a := rc_o (by decide) (rfl)
            refine tn_callV (M := m_X7_step) (pc := 208) (ix := 120) (ci := 7) (M' := m_X7_callFrom) (As := [.int (iI v11)]) (rest := []) dX7_step_208 ok_X7_callFrom im_X7_callFrom se_X7_callFrom ml7_120 np_X7_callFrom rfl rfl ha rfl (Nat.le_of_ble_eq_true rfl) (Nat.le_of_ble_eq_true rfl) rfl (k_X7_callFrom_j57 (d) (T := T) (σ := (sA 67 a (w32 ((σ.2.1 67 a) + 1)) σ)) (a := a) (k := v11) (xa := xa) (xb := xb) (xc := xc) (xd := xd) (xe := xe) (y := y) ha hta (by omega) (hw.put (by decide) (by decide) (fo_67 (by omega))) (rc_o (by decide) (hxa)) (rc_o (by decide) (hxb)) (rc_o (by decide) (hxc)) (rc_o (by decide) (hxd)) (rc_o (by decide) (hxe)) (rc_o (by decide) (hy)) (by rw [show (sA 67 a (w32 ((σ.2.1 67 a) + 1)) σ).2.1 69 a = _ from rc_o (by decide) (hx12)]; omega) (by rw [show (sA 67 a (w32 ((σ.2.1 67 a) + 1)) σ).2.1 57 a = σ.2.1 57 a from rc_o (by decide) (rfl)]; omega) (by rw [show (sA 67 a (w32 ((σ.2.1 67 a) + 1)) σ).2.1 58 a = σ.2.1 58 a from rc_o (by decide) (rfl)]; omega)) (fun r477 T479 σ478 gt480 hp => ?_)
            obtain ⟨rfl, rfl, w489, F490, f483, f484, f485, f486, f487⟩ := hp
            clear gt480
            show Tn _ _ 211 T σ478 [(3, .int (iI (w32 (v11 + 1)))), (2, .int (iI v66)), (1, .int (iI v11)), (0, .ref a)] [] _
            refine tn_iconst dX7_step_211 ?_
            have q491 : σ478.2.1 56 a = σ.2.1 56 a := rc_F F490 (Or.inl (by decide)) (by decide) (rc_o (by decide) (rfl))
            have q492 : σ478.2.1 57 a = σ478.2.1 57 a := rfl
            have q493 : σ478.2.1 58 a = σ478.2.1 58 a := rfl
            exact tn_zret (v := 0) rfl (by decide) dX7_step_212 ⟨_, rfl, rfl, w489, ((FrC.rfl.put (by decide) (by decide)).trans (FrC.sub F490 (by decide))), by omega, ((CHX.rfl.fld (by simp) (by decide)).trans (CHX.sub f483 (by simp) (by simp) (by simp))), by unfold PIv at *; rw [q491, q492, q493]; omega, ⟨_, v66, f10, Or.inr ⟨xq13, xq55, ⟨hx12, hx56⟩, f65⟩, Or.inr ⟨by omega, Or.inr (Or.inr (Or.inr (Or.inl (⟨by omega, rfl, f486⟩))))⟩⟩, ((FA.rfl.put).trans f487)⟩
          · refine tn_tableIn (tgt := 225) (off := 157) dX7_step_68 (x := v66) ⟨by omega, by omega⟩ (by omega) (by omega) (by rw [h102]; rfl) (by decide) ?_
            refine tn_aload_n dX7_step_225 rfl 3 rfl ?_
            obtain ⟨hk496, hl497⟩ : AR T xd 1 108 108 := ar_of (wf_62 hw ha) hxd
            have hk496i : IA T xd := by unfold IA; omega
            refine tn_getR (ci := 7) (i := 7) (n := 62) (x := xd) dX7_step_226 rfl lay_7 (by decide) fl7_21 ha rfl rfl (rc_o (by decide) (hxd)) ?_
            refine tn_aload_n dX7_step_229 rfl 3 rfl ?_
            refine tn_getI (ci := 7) (i := 2) (n := 57) (t := σ.2.1 57 a) dX7_step_230 rfl lay_7 (by decide) fl7_65 ha rfl rfl (rc_o (by decide) (rfl)) ?_
            have g498 : ((0 : Int) ≤ σ.2.1 57 a ∧ σ.2.1 57 a ≤ 11184800) ∧ ((T a).1 = 57 → σ.2.1 57 a ≤ 8) := wf_57 hw ha
            have g498x := g498.2
            replace g498 := g498.1
            have g498x := g498x hta
            refine tn_bipush dX7_step_233 (by decide) ?_
            refine tn_imul dX7_step_235 ?_
            refine tn_aload_n dX7_step_236 rfl 3 rfl ?_
            refine tn_getR (ci := 7) (i := 14) (n := 69) (x := xq13) dX7_step_237 rfl lay_7 (by decide) fl7_72 ha rfl rfl (rc_o (by decide) (hx12)) ?_
            refine tn_iload_n dX7_step_240 rfl 2 rfl ?_
            refine tn_iconst dX7_step_241 ?_
            refine tn_callV (M := m_X7_step) (pc := 242) (ix := 117) (ci := 1) (M' := m_X1_get) (As := [.int (iI v11), .int (iI 2)]) (rest := [.int (iI ((σ.2.1 57 a) * 12)), .ref xd]) dX7_step_242 ok_X1_get im_X1_get se_X1_get ml7_117 np_X1_get rfl rfl hk14o rfl (Nat.le_of_ble_eq_true rfl) (Nat.le_of_ble_eq_true rfl) rfl (k_X1_get_j (d + 3) (T := T) (σ := (sA 67 a (w32 ((σ.2.1 67 a) + 1)) σ)) (a := xq13) (k := v11) (c := 2) (x := xq55) hk14o (by omega) (by decide) (hw.put (by decide) (by decide) (fo_67 (by omega))) (rc_o (by decide) (hx56)) (by omega)) (fun r499 T501 σ500 gt502 hp => ?_)
            obtain ⟨v505, rfl, rfl, rfl, f503, f504⟩ := hp
            clear gt502
            show Tn _ _ 245 T (sA 67 a (w32 ((σ.2.1 67 a) + 1)) σ) [(3, .int (iI (w32 (v11 + 1)))), (2, .int (iI v66)), (1, .int (iI v11)), (0, .ref a)] [.int (iI v505), .int (iI ((σ.2.1 57 a) * 12)), .ref xd] _
            refine tn_iadd dX7_step_245 ?_
            rw [show iI (((σ.2.1 57 a) * 12) + v505) = iI (w32 (((σ.2.1 57 a) * 12) + v505)) from (iI_self _).symm]
            have g506r : -2147483648 ≤ w32 (((σ.2.1 57 a) * 12) + v505) ∧ w32 (((σ.2.1 57 a) * 12) + v505) ≤ 2147483647 := inR_toInt _
            refine tn_aload_n dX7_step_246 rfl 3 rfl ?_
            refine tn_getR (ci := 7) (i := 14) (n := 69) (x := xq13) dX7_step_247 rfl lay_7 (by decide) fl7_72 ha rfl rfl (rc_o (by decide) (hx12)) ?_
            refine tn_iload_n dX7_step_250 rfl 2 rfl ?_
            refine tn_iconst dX7_step_251 ?_
            refine tn_callV (M := m_X7_step) (pc := 252) (ix := 117) (ci := 1) (M' := m_X1_get) (As := [.int (iI v11), .int (iI 1)]) (rest := [.int (iI (w32 (((σ.2.1 57 a) * 12) + v505))), .ref xd]) dX7_step_252 ok_X1_get im_X1_get se_X1_get ml7_117 np_X1_get rfl rfl hk14o rfl (Nat.le_of_ble_eq_true rfl) (Nat.le_of_ble_eq_true rfl) rfl (k_X1_get_j (d + 3) (T := T) (σ := (sA 67 a (w32 ((σ.2.1 67 a) + 1)) σ)) (a := xq13) (k := v11) (c := 1) (x := xq55) hk14o (by omega) (by decide) (hw.put (by decide) (by decide) (fo_67 (by omega))) (rc_o (by decide) (hx56)) (by omega)) (fun r507 T509 σ508 gt510 hp => ?_)
            obtain ⟨v513, rfl, rfl, rfl, f511, f512⟩ := hp
            clear gt510
            show Tn _ _ 255 T (sA 67 a (w32 ((σ.2.1 67 a) + 1)) σ) [(3, .int (iI (w32 (v11 + 1)))), (2, .int (iI v66)), (1, .int (iI v11)), (0, .ref a)] [.int (iI v513), .int (iI (w32 (((σ.2.1 57 a) * 12) + v505))), .ref xd] _
            refine tn_callSN (M := m_X7_step) (pc := 255) (ix := 61) (M' := m_X11_put) (As := [.ref xd, .int (iI (w32 (((σ.2.1 57 a) * 12) + v505))), .int (iI v513)]) (rest := []) dX7_step_255 ok_X11_put stt_X11_put nl7_61 np_X11_put rfl (Nat.le_of_ble_eq_true rfl) (Nat.le_of_ble_eq_true rfl) rfl (k_X11_put_x (d + 3) (T := T) (σ := (sA 67 a (w32 ((σ.2.1 67 a) + 1)) σ)) (x := xd) (i := w32 (((σ.2.1 57 a) * 12) + v505)) (y := v513) hk496i (by omega) (by omega) (by omega) (hw.put (by decide) (by decide) (fo_67 (by omega))) (nh_k hk496 (by unfold HT; omega)) (vok_1 (by have q9 := hk496; omega) (by omega))) (fun r514 T516 σ515 gt517 hp => ?_)
            obtain ⟨rfl, rfl, w521, F522, f518, f519⟩ := hp
            clear gt517
            have je523 : σ515 = jP T xd (w32 (((σ.2.1 57 a) * 12) + v505)) (v513) _ := f519
            show Tn _ _ 258 T σ515 [(3, .int (iI (w32 (v11 + 1)))), (2, .int (iI v66)), (1, .int (iI v11)), (0, .ref a)] [] _
            refine tn_goto (tgt := 375) dX7_step_258 (by decide) ?_
            refine tn_aload_n dX7_step_375 rfl 3 rfl ?_
            refine tn_getR (ci := 7) (i := 5) (n := 60) (x := xb) dX7_step_376 rfl lay_7 (by decide) fl7_15 ha rfl rfl (rc_F F522 (Or.inl (by decide)) (by decide) (rc_o (by decide) (hxb))) ?_
            refine tn_aload_n dX7_step_379 rfl 3 rfl ?_
            refine tn_getI (ci := 7) (i := 2) (n := 57) (t := σ.2.1 57 a) dX7_step_380 rfl lay_7 (by decide) fl7_65 ha rfl rfl (rc_F F522 (Or.inl (by decide)) (by decide) (rc_o (by decide) (rfl))) ?_
            refine tn_iload_n dX7_step_383 rfl 0 rfl ?_
            refine tn_callSN (M := m_X7_step) (pc := 384) (ix := 61) (M' := m_X11_put) (As := [.ref xb, .int (iI (σ.2.1 57 a)), .int (iI (w32 (v11 + 1)))]) (rest := []) dX7_step_384 ok_X11_put stt_X11_put nl7_61 np_X11_put rfl (Nat.le_of_ble_eq_true rfl) (Nat.le_of_ble_eq_true rfl) rfl (k_X11_put_x (d + 3) (T := T) (σ := σ515) (x := xb) (i := σ.2.1 57 a) (y := w32 (v11 + 1)) hk3i (by omega) (by omega) (by omega) w521 (nh_k hk3 (by unfold HT; omega)) (vok_1 (by have q9 := hk3; omega) (by omega))) (fun r524 T526 σ525 gt527 hp => ?_)
            obtain ⟨rfl, rfl, w531, F532, f528, f529⟩ := hp
            clear gt527
            have je533 : σ525 = jP T xb (σ.2.1 57 a) (w32 (v11 + 1)) _ := f529
            show Tn _ _ 387 T σ525 [(3, .int (iI (w32 (v11 + 1)))), (2, .int (iI v66)), (1, .int (iI v11)), (0, .ref a)] [] _
            refine tn_iload_n dX7_step_387 rfl 1 rfl ?_
            refine tn_bipush dX7_step_388 (by decide) ?_
            refine tn_icmp_ne (tgt := 397) dX7_step_390 (by decide) ⟨by omega, by omega⟩ ⟨by decide, by decide⟩ (fun h534 => absurd h534 (by omega)) (fun h534 => ?_)
            refine tn_iconst dX7_step_393 ?_
            refine tn_goto (tgt := 398) dX7_step_394 (by decide) ?_
            have q535 : σ525.2.1 56 a = σ.2.1 56 a := rc_F F532 (Or.inl (by decide)) (by decide) (rc_F F522 (Or.inl (by decide)) (by decide) (rc_o (by decide) (rfl)))
            have q536 : σ525.2.1 57 a = σ.2.1 57 a := rc_F F532 (Or.inl (by decide)) (by decide) (rc_F F522 (Or.inl (by decide)) (by decide) (rc_o (by decide) (rfl)))
            have q537 : σ525.2.1 58 a = σ.2.1 58 a := rc_F F532 (Or.inl (by decide)) (by decide) (rc_F F522 (Or.inl (by decide)) (by decide) (rc_o (by decide) (rfl)))
            exact tn_zret (v := 1) rfl (by decide) dX7_step_398 ⟨_, rfl, rfl, w531, (((FrC.rfl.put (by decide) (by decide)).trans (FrC.sub F522 (by decide))).trans (FrC.sub F532 (by decide))), by omega, (((CHX.rfl.fld (by simp) (by decide)).trans (CHX.sub f518 (by simp) (by simp) (by simp))).trans (CHX.sub f528 (by simp) (by simp) (by simp))), by unfold PIv at *; rw [q535, q536, q537]; omega, ⟨_, v66, f10, Or.inr ⟨xq13, xq55, ⟨hx12, hx56⟩, f65⟩, Or.inr ⟨by omega, Or.inr (Or.inr (Or.inr (Or.inr (Or.inr (Or.inl (⟨by omega, rfl, xq13, xq55, σ515, ⟨hx12, hx56⟩, by rw [← f504, ← f512]; exact je523, je533⟩))))))⟩⟩, (((FA.rfl.put).trans (FA.of F522 (by decide))).trans (FA.of F532 (by decide)))⟩
          · refine tn_tableIn (tgt := 369) (off := 301) dX7_step_68 (x := v66) ⟨by omega, by omega⟩ (by omega) (by omega) (by rw [h102]; rfl) (by decide) ?_
            refine tn_aload_n dX7_step_369 rfl 3 rfl ?_
            refine tn_iload_n dX7_step_370 rfl 2 rfl ?_
            refine tn_iload_n dX7_step_371 rfl 1 rfl ?_
            obtain ⟨hk540, hl541⟩ : AR T xe 1 1728 1728 := ar_of (wf_63 hw ha) hxe
            have hk540i : IA T xe := by unfold IA; omega
            refine tn_callV (M := m_X7_step) (pc := 372) (ix := 129) (ci := 7) (M' := m_X7_reckonAt) (As := [.int (iI v11), .int (iI v66)]) (rest := []) dX7_step_372 ok_X7_reckonAt im_X7_reckonAt se_X7_reckonAt ml7_129 np_X7_reckonAt rfl rfl ha rfl (Nat.le_of_ble_eq_true rfl) (Nat.le_of_ble_eq_true rfl) rfl (k_X7_reckonAt_j (d + 1) (T := T) (σ := (sA 67 a (w32 ((σ.2.1 67 a) + 1)) σ)) (a := a) (k := v11) (e := v66) (xe := xe) ha (by omega) (by omega) (hw.put (by decide) (by decide) (fo_67 (by omega))) (rc_o (by decide) (hxe)) (by rw [show (sA 67 a (w32 ((σ.2.1 67 a) + 1)) σ).2.1 69 a = _ from rc_o (by decide) (hx12)]; omega)) (fun r542 T544 σ543 gt545 hp => ?_)
            obtain ⟨rfl, rfl, w549, F550, f546, f547⟩ := hp
            clear gt545
            show Tn _ _ 375 T σ543 [(3, .int (iI (w32 (v11 + 1)))), (2, .int (iI v66)), (1, .int (iI v11)), (0, .ref a)] [] _
            refine tn_aload_n dX7_step_375 rfl 3 rfl ?_
            refine tn_getR (ci := 7) (i := 5) (n := 60) (x := xb) dX7_step_376 rfl lay_7 (by decide) fl7_15 ha rfl rfl (rc_F F550 (Or.inl (by decide)) (by decide) (rc_o (by decide) (hxb))) ?_
            refine tn_aload_n dX7_step_379 rfl 3 rfl ?_
            refine tn_getI (ci := 7) (i := 2) (n := 57) (t := σ.2.1 57 a) dX7_step_380 rfl lay_7 (by decide) fl7_65 ha rfl rfl (rc_F F550 (Or.inl (by decide)) (by decide) (rc_o (by decide) (rfl))) ?_
            have g551 : ((0 : Int) ≤ σ.2.1 57 a ∧ σ.2.1 57 a ≤ 11184800) ∧ ((T a).1 = 57 → σ.2.1 57 a ≤ 8) := wf_57 hw ha
            have g551x := g551.2
            replace g551 := g551.1
            have g551x := g551x hta
            refine tn_iload_n dX7_step_383 rfl 0 rfl ?_
            refine tn_callSN (M := m_X7_step) (pc := 384) (ix := 61) (M' := m_X11_put) (As := [.ref xb, .int (iI (σ.2.1 57 a)), .int (iI (w32 (v11 + 1)))]) (rest := []) dX7_step_384 ok_X11_put stt_X11_put nl7_61 np_X11_put rfl (Nat.le_of_ble_eq_true rfl) (Nat.le_of_ble_eq_true rfl) rfl (k_X11_put_x (d + 3) (T := T) (σ := σ543) (x := xb) (i := σ.2.1 57 a) (y := w32 (v11 + 1)) hk3i (by omega) (by omega) (by omega) w549 (nh_k hk3 (by unfold HT; omega)) (vok_1 (by have q9 := hk3; omega) (by omega))) (fun r552 T554 σ553 gt555 hp => ?_)
            obtain ⟨rfl, rfl, w559, F560, f556, f557⟩ := hp
            clear gt555
            have je561 : σ553 = jP T xb (σ.2.1 57 a) (w32 (v11 + 1)) _ := f557
            show Tn _ _ 387 T σ553 [(3, .int (iI (w32 (v11 + 1)))), (2, .int (iI v66)), (1, .int (iI v11)), (0, .ref a)] [] _
            refine tn_iload_n dX7_step_387 rfl 1 rfl ?_
            refine tn_bipush dX7_step_388 (by decide) ?_
            refine tn_icmp_ne (tgt := 397) dX7_step_390 (by decide) ⟨by omega, by omega⟩ ⟨by decide, by decide⟩ (fun h562 => ?_) (fun h562 => absurd h562 (by omega))
            refine tn_iconst dX7_step_397 ?_
            have q563 : σ553.2.1 56 a = σ.2.1 56 a := rc_F F560 (Or.inl (by decide)) (by decide) (rc_F F550 (Or.inl (by decide)) (by decide) (rc_o (by decide) (rfl)))
            have q564 : σ553.2.1 57 a = σ.2.1 57 a := rc_F F560 (Or.inl (by decide)) (by decide) (rc_F F550 (Or.inl (by decide)) (by decide) (rc_o (by decide) (rfl)))
            have q565 : σ553.2.1 58 a = σ.2.1 58 a := rc_F F560 (Or.inl (by decide)) (by decide) (rc_F F550 (Or.inl (by decide)) (by decide) (rc_o (by decide) (rfl)))
            exact tn_zret (v := 0) rfl (by decide) dX7_step_398 ⟨_, rfl, rfl, w559, (((FrC.rfl.put (by decide) (by decide)).trans (FrC.sub F550 (by decide))).trans (FrC.sub F560 (by decide))), by omega, (((CHX.rfl.fld (by simp) (by decide)).trans (CHX.sub f546 (by simp) (by simp) (by simp))).trans (CHX.sub f556 (by simp) (by simp) (by simp))), by unfold PIv at *; rw [q563, q564, q565]; omega, ⟨_, v66, f10, Or.inr ⟨xq13, xq55, ⟨hx12, hx56⟩, f65⟩, Or.inr ⟨by omega, Or.inr (Or.inr (Or.inr (Or.inr (Or.inr (Or.inr (Or.inr (Or.inr (Or.inr ((⟨by omega, rfl, _, f547, je561⟩))))))))))⟩⟩, (((FA.rfl.put).trans (FA.of F550 (by decide))).trans (FA.of F560 (by decide)))⟩
          · refine tn_tableIn (tgt := 369) (off := 301) dX7_step_68 (x := v66) ⟨by omega, by omega⟩ (by omega) (by omega) (by rw [h102]; rfl) (by decide) ?_
            refine tn_aload_n dX7_step_369 rfl 3 rfl ?_
            refine tn_iload_n dX7_step_370 rfl 2 rfl ?_
            refine tn_iload_n dX7_step_371 rfl 1 rfl ?_
            obtain ⟨hk568, hl569⟩ : AR T xe 1 1728 1728 := ar_of (wf_63 hw ha) hxe
            have hk568i : IA T xe := by unfold IA; omega
            refine tn_callV (M := m_X7_step) (pc := 372) (ix := 129) (ci := 7) (M' := m_X7_reckonAt) (As := [.int (iI v11), .int (iI v66)]) (rest := []) dX7_step_372 ok_X7_reckonAt im_X7_reckonAt se_X7_reckonAt ml7_129 np_X7_reckonAt rfl rfl ha rfl (Nat.le_of_ble_eq_true rfl) (Nat.le_of_ble_eq_true rfl) rfl (k_X7_reckonAt_j (d + 1) (T := T) (σ := (sA 67 a (w32 ((σ.2.1 67 a) + 1)) σ)) (a := a) (k := v11) (e := v66) (xe := xe) ha (by omega) (by omega) (hw.put (by decide) (by decide) (fo_67 (by omega))) (rc_o (by decide) (hxe)) (by rw [show (sA 67 a (w32 ((σ.2.1 67 a) + 1)) σ).2.1 69 a = _ from rc_o (by decide) (hx12)]; omega)) (fun r570 T572 σ571 gt573 hp => ?_)
            obtain ⟨rfl, rfl, w577, F578, f574, f575⟩ := hp
            clear gt573
            show Tn _ _ 375 T σ571 [(3, .int (iI (w32 (v11 + 1)))), (2, .int (iI v66)), (1, .int (iI v11)), (0, .ref a)] [] _
            refine tn_aload_n dX7_step_375 rfl 3 rfl ?_
            refine tn_getR (ci := 7) (i := 5) (n := 60) (x := xb) dX7_step_376 rfl lay_7 (by decide) fl7_15 ha rfl rfl (rc_F F578 (Or.inl (by decide)) (by decide) (rc_o (by decide) (hxb))) ?_
            refine tn_aload_n dX7_step_379 rfl 3 rfl ?_
            refine tn_getI (ci := 7) (i := 2) (n := 57) (t := σ.2.1 57 a) dX7_step_380 rfl lay_7 (by decide) fl7_65 ha rfl rfl (rc_F F578 (Or.inl (by decide)) (by decide) (rc_o (by decide) (rfl))) ?_
            have g579 : ((0 : Int) ≤ σ.2.1 57 a ∧ σ.2.1 57 a ≤ 11184800) ∧ ((T a).1 = 57 → σ.2.1 57 a ≤ 8) := wf_57 hw ha
            have g579x := g579.2
            replace g579 := g579.1
            have g579x := g579x hta
            refine tn_iload_n dX7_step_383 rfl 0 rfl ?_
            refine tn_callSN (M := m_X7_step) (pc := 384) (ix := 61) (M' := m_X11_put) (As := [.ref xb, .int (iI (σ.2.1 57 a)), .int (iI (w32 (v11 + 1)))]) (rest := []) dX7_step_384 ok_X11_put stt_X11_put nl7_61 np_X11_put rfl (Nat.le_of_ble_eq_true rfl) (Nat.le_of_ble_eq_true rfl) rfl (k_X11_put_x (d + 3) (T := T) (σ := σ571) (x := xb) (i := σ.2.1 57 a) (y := w32 (v11 + 1)) hk3i (by omega) (by omega) (by omega) w577 (nh_k hk3 (by unfold HT; omega)) (vok_1 (by have q9 := hk3; omega) (by omega))) (fun r580 T582 σ581 gt583 hp => ?_)
            obtain ⟨rfl, rfl, w587, F588, f584, f585⟩ := hp
            clear gt583
            have je589 : σ581 = jP T xb (σ.2.1 57 a) (w32 (v11 + 1)) _ := f585
            show Tn _ _ 387 T σ581 [(3, .int (iI (w32 (v11 + 1)))), (2, .int (iI v66)), (1, .int (iI v11)), (0, .ref a)] [] _
            refine tn_iload_n dX7_step_387 rfl 1 rfl ?_
            refine tn_bipush dX7_step_388 (by decide) ?_
            refine tn_icmp_ne (tgt := 397) dX7_step_390 (by decide) ⟨by omega, by omega⟩ ⟨by decide, by decide⟩ (fun h590 => ?_) (fun h590 => absurd h590 (by omega))
            refine tn_iconst dX7_step_397 ?_
            have q591 : σ581.2.1 56 a = σ.2.1 56 a := rc_F F588 (Or.inl (by decide)) (by decide) (rc_F F578 (Or.inl (by decide)) (by decide) (rc_o (by decide) (rfl)))
            have q592 : σ581.2.1 57 a = σ.2.1 57 a := rc_F F588 (Or.inl (by decide)) (by decide) (rc_F F578 (Or.inl (by decide)) (by decide) (rc_o (by decide) (rfl)))
            have q593 : σ581.2.1 58 a = σ.2.1 58 a := rc_F F588 (Or.inl (by decide)) (by decide) (rc_F F578 (Or.inl (by decide)) (by decide) (rc_o (by decide) (rfl)))
            exact tn_zret (v := 0) rfl (by decide) dX7_step_398 ⟨_, rfl, rfl, w587, (((FrC.rfl.put (by decide) (by decide)).trans (FrC.sub F578 (by decide))).trans (FrC.sub F588 (by decide))), by omega, (((CHX.rfl.fld (by simp) (by decide)).trans (CHX.sub f574 (by simp) (by simp) (by simp))).trans (CHX.sub f584 (by simp) (by simp) (by simp))), by unfold PIv at *; rw [q591, q592, q593]; omega, ⟨_, v66, f10, Or.inr ⟨xq13, xq55, ⟨hx12, hx56⟩, f65⟩, Or.inr ⟨by omega, Or.inr (Or.inr (Or.inr (Or.inr (Or.inr (Or.inr (Or.inr (Or.inr (Or.inr ((⟨by omega, rfl, _, f575, je589⟩))))))))))⟩⟩, (((FA.rfl.put).trans (FA.of F578 (by decide))).trans (FA.of F588 (by decide)))⟩
          · refine tn_tableIn (tgt := 261) (off := 193) dX7_step_68 (x := v66) ⟨by omega, by omega⟩ (by omega) (by omega) (by rw [h102]; rfl) (by decide) ?_
            exact absurd True.intro (by omega)
          · refine tn_tableIn (tgt := 319) (off := 251) dX7_step_68 (x := v66) ⟨by omega, by omega⟩ (by omega) (by omega) (by rw [h102]; rfl) (by decide) ?_
            exact absurd True.intro (by omega)
      · refine tn_aload_n dX7_step_46 rfl 2 rfl ?_
        refine tn_iconst dX7_step_47 ?_
        refine tn_putV (ci := 7) (i := 1) (n := 56) (r := false) (v := 3) tyX7 tyX7_ok nmX7 dX7_step_48 rfl lay_7 (by decide) fl7_34 rfl (tyX7_ok 1 (by decide)) rfl rfl rfl ha rfl rfl ?_
        refine tn_iconst dX7_step_51 ?_
        have q594 : (sA 56 a (3) σ).2.1 56 a = 3 := ra_eq
        have q595 : (sA 56 a (3) σ).2.1 57 a = σ.2.1 57 a := rc_o (by decide) (rfl)
        have q596 : (sA 56 a (3) σ).2.1 58 a = σ.2.1 58 a := rc_o (by decide) (rfl)
        exact tn_zret (v := 0) rfl (by decide) dX7_step_52 ⟨_, rfl, rfl, (hw.put (by decide) (by decide) (fo_56 (by omega))), (FrC.rfl.put (by decide) (by decide)), by omega, (CHX.rfl.fld (by simp) (by decide)), by unfold PIv at *; rw [q594, q595, q596]; omega, ⟨_, v66, f10, Or.inr ⟨xq13, xq55, ⟨hx12, hx56⟩, f65⟩, Or.inl ⟨by omega, by omega, rfl, rfl⟩⟩, (FA.rfl.put)⟩
    · refine tn_iload_n dX7_step_31 rfl 0 rfl ?_
      refine tn_bipush dX7_step_32 (by decide) ?_
      refine tn_icmp_ne (tgt := 53) dX7_step_34 (by decide) ⟨by omega, by omega⟩ ⟨by decide, by decide⟩ (fun h597 => ?_) (fun h597 => ?_)
      · refine tn_aload_n dX7_step_53 rfl 2 rfl ?_
        refine tn_dup dX7_step_54 rfl ?_
        refine tn_getI (ci := 7) (i := 12) (n := 67) (t := σ.2.1 67 a) dX7_step_55 rfl lay_7 (by decide) fl7_47 ha rfl rfl (rfl) ?_
        have g598 : ((-2147483648 : Int) ≤ σ.2.1 67 a ∧ σ.2.1 67 a ≤ 2147483647) := wf_67 hw ha
        refine tn_iconst dX7_step_58 ?_
        refine tn_iadd dX7_step_59 ?_
        rw [show iI ((σ.2.1 67 a) + 1) = iI (w32 ((σ.2.1 67 a) + 1)) from (iI_self _).symm]
        have g599r : -2147483648 ≤ w32 ((σ.2.1 67 a) + 1) ∧ w32 ((σ.2.1 67 a) + 1) ≤ 2147483647 := inR_toInt _
        refine tn_putV (ci := 7) (i := 12) (n := 67) (r := false) (v := w32 ((σ.2.1 67 a) + 1)) tyX7 tyX7_ok nmX7 dX7_step_60 rfl lay_7 (by decide) fl7_47 rfl (tyX7_ok 12 (by decide)) rfl rfl rfl ha rfl rfl ?_
        refine tn_iload_n dX7_step_63 rfl 1 rfl ?_
        refine tn_iconst dX7_step_64 ?_
        refine tn_iadd dX7_step_65 ?_
        rw [show iI (v11 + 1) = iI (w32 (v11 + 1)) from (iI_self _).symm]
        have g600r : -2147483648 ≤ w32 (v11 + 1) ∧ w32 (v11 + 1) ≤ 2147483647 := inR_toInt _
        refine tn_istore_n (L' := [(3, .int (iI (w32 (v11 + 1)))), (2, .int (iI v66)), (1, .int (iI v11)), (0, .ref a)]) dX7_step_66 rfl (by decide) rfl ?_
        refine tn_iload_n dX7_step_67 rfl 1 rfl ?_
        by_cases h601 : v66 < -1 ∨ 15 < v66
        · refine tn_tableOut (tgt := 369) dX7_step_68 (x := v66) ⟨by omega, by omega⟩ h601 (by decide) ?_
          refine tn_aload_n dX7_step_369 rfl 3 rfl ?_
          refine tn_iload_n dX7_step_370 rfl 2 rfl ?_
          refine tn_iload_n dX7_step_371 rfl 1 rfl ?_
          obtain ⟨hk604, hl605⟩ : AR T xe 1 1728 1728 := ar_of (wf_63 hw ha) hxe
          have hk604i : IA T xe := by unfold IA; omega
          refine tn_callV (M := m_X7_step) (pc := 372) (ix := 129) (ci := 7) (M' := m_X7_reckonAt) (As := [.int (iI v11), .int (iI v66)]) (rest := []) dX7_step_372 ok_X7_reckonAt im_X7_reckonAt se_X7_reckonAt ml7_129 np_X7_reckonAt rfl rfl ha rfl (Nat.le_of_ble_eq_true rfl) (Nat.le_of_ble_eq_true rfl) rfl (k_X7_reckonAt_j (d + 1) (T := T) (σ := (sA 67 a (w32 ((σ.2.1 67 a) + 1)) σ)) (a := a) (k := v11) (e := v66) (xe := xe) ha (by omega) (by omega) (hw.put (by decide) (by decide) (fo_67 (by omega))) (rc_o (by decide) (hxe)) (by rw [show (sA 67 a (w32 ((σ.2.1 67 a) + 1)) σ).2.1 69 a = _ from rc_o (by decide) (hx12)]; omega)) (fun r606 T608 σ607 gt609 hp => ?_)
          obtain ⟨rfl, rfl, w613, F614, f610, f611⟩ := hp
          clear gt609
          show Tn _ _ 375 T σ607 [(3, .int (iI (w32 (v11 + 1)))), (2, .int (iI v66)), (1, .int (iI v11)), (0, .ref a)] [] _
          refine tn_aload_n dX7_step_375 rfl 3 rfl ?_
          refine tn_getR (ci := 7) (i := 5) (n := 60) (x := xb) dX7_step_376 rfl lay_7 (by decide) fl7_15 ha rfl rfl (rc_F F614 (Or.inl (by decide)) (by decide) (rc_o (by decide) (hxb))) ?_
          refine tn_aload_n dX7_step_379 rfl 3 rfl ?_
          refine tn_getI (ci := 7) (i := 2) (n := 57) (t := σ.2.1 57 a) dX7_step_380 rfl lay_7 (by decide) fl7_65 ha rfl rfl (rc_F F614 (Or.inl (by decide)) (by decide) (rc_o (by decide) (rfl))) ?_
          have g615 : ((0 : Int) ≤ σ.2.1 57 a ∧ σ.2.1 57 a ≤ 11184800) ∧ ((T a).1 = 57 → σ.2.1 57 a ≤ 8) := wf_57 hw ha
          have g615x := g615.2
          replace g615 := g615.1
          have g615x := g615x hta
          refine tn_iload_n dX7_step_383 rfl 0 rfl ?_
          refine tn_callSN (M := m_X7_step) (pc := 384) (ix := 61) (M' := m_X11_put) (As := [.ref xb, .int (iI (σ.2.1 57 a)), .int (iI (w32 (v11 + 1)))]) (rest := []) dX7_step_384 ok_X11_put stt_X11_put nl7_61 np_X11_put rfl (Nat.le_of_ble_eq_true rfl) (Nat.le_of_ble_eq_true rfl) rfl (k_X11_put_x (d + 3) (T := T) (σ := σ607) (x := xb) (i := σ.2.1 57 a) (y := w32 (v11 + 1)) hk3i (by omega) (by omega) (by omega) w613 (nh_k hk3 (by unfold HT; omega)) (vok_1 (by have q9 := hk3; omega) (by omega))) (fun r616 T618 σ617 gt619 hp => ?_)
          obtain ⟨rfl, rfl, w623, F624, f620, f621⟩ := hp
          clear gt619
          have je625 : σ617 = jP T xb (σ.2.1 57 a) (w32 (v11 + 1)) _ := f621
          show Tn _ _ 387 T σ617 [(3, .int (iI (w32 (v11 + 1)))), (2, .int (iI v66)), (1, .int (iI v11)), (0, .ref a)] [] _
          refine tn_iload_n dX7_step_387 rfl 1 rfl ?_
          refine tn_bipush dX7_step_388 (by decide) ?_
          refine tn_icmp_ne (tgt := 397) dX7_step_390 (by decide) ⟨by omega, by omega⟩ ⟨by decide, by decide⟩ (fun h626 => ?_) (fun h626 => ?_)
          · refine tn_iconst dX7_step_397 ?_
            have q627 : σ617.2.1 56 a = σ.2.1 56 a := rc_F F624 (Or.inl (by decide)) (by decide) (rc_F F614 (Or.inl (by decide)) (by decide) (rc_o (by decide) (rfl)))
            have q628 : σ617.2.1 57 a = σ.2.1 57 a := rc_F F624 (Or.inl (by decide)) (by decide) (rc_F F614 (Or.inl (by decide)) (by decide) (rc_o (by decide) (rfl)))
            have q629 : σ617.2.1 58 a = σ.2.1 58 a := rc_F F624 (Or.inl (by decide)) (by decide) (rc_F F614 (Or.inl (by decide)) (by decide) (rc_o (by decide) (rfl)))
            exact tn_zret (v := 0) rfl (by decide) dX7_step_398 ⟨_, rfl, rfl, w623, (((FrC.rfl.put (by decide) (by decide)).trans (FrC.sub F614 (by decide))).trans (FrC.sub F624 (by decide))), by omega, (((CHX.rfl.fld (by simp) (by decide)).trans (CHX.sub f610 (by simp) (by simp) (by simp))).trans (CHX.sub f620 (by simp) (by simp) (by simp))), by unfold PIv at *; rw [q627, q628, q629]; omega, ⟨_, v66, f10, Or.inr ⟨xq13, xq55, ⟨hx12, hx56⟩, f65⟩, Or.inr ⟨by omega, Or.inr (Or.inr (Or.inr (Or.inr (Or.inr (Or.inr (Or.inr (Or.inr (Or.inr ((⟨by omega, rfl, _, f611, je625⟩))))))))))⟩⟩, (((FA.rfl.put).trans (FA.of F614 (by decide))).trans (FA.of F624 (by decide)))⟩
          · refine tn_iconst dX7_step_393 ?_
            refine tn_goto (tgt := 398) dX7_step_394 (by decide) ?_
            have q630 : σ617.2.1 56 a = σ.2.1 56 a := rc_F F624 (Or.inl (by decide)) (by decide) (rc_F F614 (Or.inl (by decide)) (by decide) (rc_o (by decide) (rfl)))
            have q631 : σ617.2.1 57 a = σ.2.1 57 a := rc_F F624 (Or.inl (by decide)) (by decide) (rc_F F614 (Or.inl (by decide)) (by decide) (rc_o (by decide) (rfl)))
            have q632 : σ617.2.1 58 a = σ.2.1 58 a := rc_F F624 (Or.inl (by decide)) (by decide) (rc_F F614 (Or.inl (by decide)) (by decide) (rc_o (by decide) (rfl)))
            exact tn_zret (v := 1) rfl (by decide) dX7_step_398 ⟨_, rfl, rfl, w623, (((FrC.rfl.put (by decide) (by decide)).trans (FrC.sub F614 (by decide))).trans (FrC.sub F624 (by decide))), by omega, (((CHX.rfl.fld (by simp) (by decide)).trans (CHX.sub f610 (by simp) (by simp) (by simp))).trans (CHX.sub f620 (by simp) (by simp) (by simp))), by unfold PIv at *; rw [q630, q631, q632]; omega, by exfalso; omega, (((FA.rfl.put).trans (FA.of F614 (by decide))).trans (FA.of F624 (by decide)))⟩
        · have h633 : v66 = -1 ∨ v66 = 0 ∨ v66 = 1 ∨ v66 = 2 ∨ v66 = 3 ∨ v66 = 4 ∨ v66 = 5 ∨ v66 = 6 ∨ v66 = 7 ∨ v66 = 8 ∨ v66 = 9 ∨ v66 = 10 ∨ v66 = 11 ∨ v66 = 12 ∨ v66 = 13 ∨ v66 = 14 ∨ v66 = 15 := by omega
          rcases h633 with h633 | h633 | h633 | h633 | h633 | h633 | h633 | h633 | h633 | h633 | h633 | h633 | h633 | h633 | h633 | h633 | h633
          · refine tn_tableIn (tgt := 362) (off := 294) dX7_step_68 (x := v66) ⟨by omega, by omega⟩ (by omega) (by omega) (by rw [h633]; rfl) (by decide) ?_
            refine tn_aload_n dX7_step_362 rfl 3 rfl ?_
            refine tn_iconst dX7_step_363 ?_
            obtain ⟨hk636, hl637⟩ : AR T xa 15 9 9 := ar_of (wf_59 hw ha) hxa
            have hk636i : IA T xa := by unfold IA; omega
            obtain ⟨hl641, hk640a, hk640b⟩ := ex_at (wf_61 hw ha) hxc
            have hk640 : (T xc).1 = 14 := hk640a (by omega)
            clear hk640a hk640b
            have hk640i : IA T xc := by unfold IA; omega
            obtain ⟨hk644, hl645⟩ : AR T xd 1 108 108 := ar_of (wf_62 hw ha) hxd
            have hk644i : IA T xd := by unfold IA; omega
            obtain ⟨hk648, hl649⟩ : AR T xe 1 1728 1728 := ar_of (wf_63 hw ha) hxe
            have hk648i : IA T xe := by unfold IA; omega
            obtain ⟨hl653, hk652a, hk652b⟩ := ex_at (wf_55 hw ha) hy
            have hk652i : (T y).1 = 4 ∨ (T y).1 = 5 := by omega
            have hk652c : RROW T a y := ⟨hk652a, hk652b⟩
            clear hk652a hk652b
            refine tn_callV (M := m_X7_step) (pc := 364) (ix := 123) (ci := 7) (M' := m_X7_giveBack) (As := [.int (iI 0)]) (rest := []) dX7_step_364 ok_X7_giveBack im_X7_giveBack se_X7_giveBack ml7_123 np_X7_giveBack rfl rfl ha rfl (Nat.le_of_ble_eq_true rfl) (Nat.le_of_ble_eq_true rfl) rfl (k_X7_giveBack_j57 (d + 1) (T := T) (σ := (sA 67 a (w32 ((σ.2.1 67 a) + 1)) σ)) (a := a) (n := 0) (xa := xa) (xb := xb) (xc := xc) (xd := xd) (xe := xe) (y := y) ha hta (by decide) (hw.put (by decide) (by decide) (fo_67 (by omega))) (rc_o (by decide) (hxa)) (rc_o (by decide) (hxb)) (rc_o (by decide) (hxc)) (rc_o (by decide) (hxd)) (rc_o (by decide) (hxe)) (rc_o (by decide) (hy)) (by rw [show (sA 67 a (w32 ((σ.2.1 67 a) + 1)) σ).2.1 58 a = σ.2.1 58 a from rc_o (by decide) (rfl), show (sA 67 a (w32 ((σ.2.1 67 a) + 1)) σ).2.1 57 a = σ.2.1 57 a from rc_o (by decide) (rfl)]; omega)) (fun r654 T656 σ655 gt657 hp => ?_)
            obtain ⟨rfl, rfl, w663, F664, f658, f659, f660, f661⟩ := hp
            clear gt657
            show Tn _ _ 367 T σ655 [(3, .int (iI (w32 (v11 + 1)))), (2, .int (iI v66)), (1, .int (iI v11)), (0, .ref a)] [] _
            refine tn_iconst dX7_step_367 ?_
            have q665 : σ655.2.1 56 a = σ655.2.1 56 a := rfl
            have q666 : σ655.2.1 57 a = σ655.2.1 57 a := rfl
            have q667 : σ655.2.1 58 a = σ655.2.1 58 a := rfl
            exact tn_zret (v := 0) rfl (by decide) dX7_step_368 ⟨_, rfl, rfl, w663, ((FrC.rfl.put (by decide) (by decide)).trans (FrC.sub F664 (by decide))), by omega, ((CHX.rfl.fld (by simp) (by decide)).trans (CHX.sub f658 (by simp) (by simp) (by simp))), by unfold PIv at *; rw [q665, q666, q667]; omega, ⟨_, v66, f10, Or.inr ⟨xq13, xq55, ⟨hx12, hx56⟩, f65⟩, Or.inr ⟨by omega, Or.inr (Or.inr (Or.inr (Or.inr (Or.inr (Or.inr (Or.inr (Or.inr (Or.inl (⟨by omega, rfl, f660⟩)))))))))⟩⟩, ((FA.rfl.put).trans f661)⟩
          · refine tn_tableIn (tgt := 369) (off := 301) dX7_step_68 (x := v66) ⟨by omega, by omega⟩ (by omega) (by omega) (by rw [h633]; rfl) (by decide) ?_
            refine tn_aload_n dX7_step_369 rfl 3 rfl ?_
            refine tn_iload_n dX7_step_370 rfl 2 rfl ?_
            refine tn_iload_n dX7_step_371 rfl 1 rfl ?_
            obtain ⟨hk670, hl671⟩ : AR T xe 1 1728 1728 := ar_of (wf_63 hw ha) hxe
            have hk670i : IA T xe := by unfold IA; omega
            refine tn_callV (M := m_X7_step) (pc := 372) (ix := 129) (ci := 7) (M' := m_X7_reckonAt) (As := [.int (iI v11), .int (iI v66)]) (rest := []) dX7_step_372 ok_X7_reckonAt im_X7_reckonAt se_X7_reckonAt ml7_129 np_X7_reckonAt rfl rfl ha rfl (Nat.le_of_ble_eq_true rfl) (Nat.le_of_ble_eq_true rfl) rfl (k_X7_reckonAt_j (d + 1) (T := T) (σ := (sA 67 a (w32 ((σ.2.1 67 a) + 1)) σ)) (a := a) (k := v11) (e := v66) (xe := xe) ha (by omega) (by omega) (hw.put (by decide) (by decide) (fo_67 (by omega))) (rc_o (by decide) (hxe)) (by rw [show (sA 67 a (w32 ((σ.2.1 67 a) + 1)) σ).2.1 69 a = _ from rc_o (by decide) (hx12)]; omega)) (fun r672 T674 σ673 gt675 hp => ?_)
            obtain ⟨rfl, rfl, w679, F680, f676, f677⟩ := hp
            clear gt675
            show Tn _ _ 375 T σ673 [(3, .int (iI (w32 (v11 + 1)))), (2, .int (iI v66)), (1, .int (iI v11)), (0, .ref a)] [] _
            refine tn_aload_n dX7_step_375 rfl 3 rfl ?_
            refine tn_getR (ci := 7) (i := 5) (n := 60) (x := xb) dX7_step_376 rfl lay_7 (by decide) fl7_15 ha rfl rfl (rc_F F680 (Or.inl (by decide)) (by decide) (rc_o (by decide) (hxb))) ?_
            refine tn_aload_n dX7_step_379 rfl 3 rfl ?_
            refine tn_getI (ci := 7) (i := 2) (n := 57) (t := σ.2.1 57 a) dX7_step_380 rfl lay_7 (by decide) fl7_65 ha rfl rfl (rc_F F680 (Or.inl (by decide)) (by decide) (rc_o (by decide) (rfl))) ?_
            have g681 : ((0 : Int) ≤ σ.2.1 57 a ∧ σ.2.1 57 a ≤ 11184800) ∧ ((T a).1 = 57 → σ.2.1 57 a ≤ 8) := wf_57 hw ha
            have g681x := g681.2
            replace g681 := g681.1
            have g681x := g681x hta
            refine tn_iload_n dX7_step_383 rfl 0 rfl ?_
            refine tn_callSN (M := m_X7_step) (pc := 384) (ix := 61) (M' := m_X11_put) (As := [.ref xb, .int (iI (σ.2.1 57 a)), .int (iI (w32 (v11 + 1)))]) (rest := []) dX7_step_384 ok_X11_put stt_X11_put nl7_61 np_X11_put rfl (Nat.le_of_ble_eq_true rfl) (Nat.le_of_ble_eq_true rfl) rfl (k_X11_put_x (d + 3) (T := T) (σ := σ673) (x := xb) (i := σ.2.1 57 a) (y := w32 (v11 + 1)) hk3i (by omega) (by omega) (by omega) w679 (nh_k hk3 (by unfold HT; omega)) (vok_1 (by have q9 := hk3; omega) (by omega))) (fun r682 T684 σ683 gt685 hp => ?_)
            obtain ⟨rfl, rfl, w689, F690, f686, f687⟩ := hp
            clear gt685
            have je691 : σ683 = jP T xb (σ.2.1 57 a) (w32 (v11 + 1)) _ := f687
            show Tn _ _ 387 T σ683 [(3, .int (iI (w32 (v11 + 1)))), (2, .int (iI v66)), (1, .int (iI v11)), (0, .ref a)] [] _
            refine tn_iload_n dX7_step_387 rfl 1 rfl ?_
            refine tn_bipush dX7_step_388 (by decide) ?_
            refine tn_icmp_ne (tgt := 397) dX7_step_390 (by decide) ⟨by omega, by omega⟩ ⟨by decide, by decide⟩ (fun h692 => ?_) (fun h692 => absurd h692 (by omega))
            refine tn_iconst dX7_step_397 ?_
            have q693 : σ683.2.1 56 a = σ.2.1 56 a := rc_F F690 (Or.inl (by decide)) (by decide) (rc_F F680 (Or.inl (by decide)) (by decide) (rc_o (by decide) (rfl)))
            have q694 : σ683.2.1 57 a = σ.2.1 57 a := rc_F F690 (Or.inl (by decide)) (by decide) (rc_F F680 (Or.inl (by decide)) (by decide) (rc_o (by decide) (rfl)))
            have q695 : σ683.2.1 58 a = σ.2.1 58 a := rc_F F690 (Or.inl (by decide)) (by decide) (rc_F F680 (Or.inl (by decide)) (by decide) (rc_o (by decide) (rfl)))
            exact tn_zret (v := 0) rfl (by decide) dX7_step_398 ⟨_, rfl, rfl, w689, (((FrC.rfl.put (by decide) (by decide)).trans (FrC.sub F680 (by decide))).trans (FrC.sub F690 (by decide))), by omega, (((CHX.rfl.fld (by simp) (by decide)).trans (CHX.sub f676 (by simp) (by simp) (by simp))).trans (CHX.sub f686 (by simp) (by simp) (by simp))), by unfold PIv at *; rw [q693, q694, q695]; omega, ⟨_, v66, f10, Or.inr ⟨xq13, xq55, ⟨hx12, hx56⟩, f65⟩, Or.inr ⟨by omega, Or.inr (Or.inr (Or.inr (Or.inr (Or.inr (Or.inr (Or.inr (Or.inr (Or.inr ((⟨by omega, rfl, _, f677, je691⟩))))))))))⟩⟩, (((FA.rfl.put).trans (FA.of F680 (by decide))).trans (FA.of F690 (by decide)))⟩
          · refine tn_tableIn (tgt := 369) (off := 301) dX7_step_68 (x := v66) ⟨by omega, by omega⟩ (by omega) (by omega) (by rw [h633]; rfl) (by decide) ?_
            refine tn_aload_n dX7_step_369 rfl 3 rfl ?_
            refine tn_iload_n dX7_step_370 rfl 2 rfl ?_
            refine tn_iload_n dX7_step_371 rfl 1 rfl ?_
            obtain ⟨hk698, hl699⟩ : AR T xe 1 1728 1728 := ar_of (wf_63 hw ha) hxe
            have hk698i : IA T xe := by unfold IA; omega
            refine tn_callV (M := m_X7_step) (pc := 372) (ix := 129) (ci := 7) (M' := m_X7_reckonAt) (As := [.int (iI v11), .int (iI v66)]) (rest := []) dX7_step_372 ok_X7_reckonAt im_X7_reckonAt se_X7_reckonAt ml7_129 np_X7_reckonAt rfl rfl ha rfl (Nat.le_of_ble_eq_true rfl) (Nat.le_of_ble_eq_true rfl) rfl (k_X7_reckonAt_j (d + 1) (T := T) (σ := (sA 67 a (w32 ((σ.2.1 67 a) + 1)) σ)) (a := a) (k := v11) (e := v66) (xe := xe) ha (by omega) (by omega) (hw.put (by decide) (by decide) (fo_67 (by omega))) (rc_o (by decide) (hxe)) (by rw [show (sA 67 a (w32 ((σ.2.1 67 a) + 1)) σ).2.1 69 a = _ from rc_o (by decide) (hx12)]; omega)) (fun r700 T702 σ701 gt703 hp => ?_)
            obtain ⟨rfl, rfl, w707, F708, f704, f705⟩ := hp
            clear gt703
            show Tn _ _ 375 T σ701 [(3, .int (iI (w32 (v11 + 1)))), (2, .int (iI v66)), (1, .int (iI v11)), (0, .ref a)] [] _
            refine tn_aload_n dX7_step_375 rfl 3 rfl ?_
            refine tn_getR (ci := 7) (i := 5) (n := 60) (x := xb) dX7_step_376 rfl lay_7 (by decide) fl7_15 ha rfl rfl (rc_F F708 (Or.inl (by decide)) (by decide) (rc_o (by decide) (hxb))) ?_
            refine tn_aload_n dX7_step_379 rfl 3 rfl ?_
            refine tn_getI (ci := 7) (i := 2) (n := 57) (t := σ.2.1 57 a) dX7_step_380 rfl lay_7 (by decide) fl7_65 ha rfl rfl (rc_F F708 (Or.inl (by decide)) (by decide) (rc_o (by decide) (rfl))) ?_
            have g709 : ((0 : Int) ≤ σ.2.1 57 a ∧ σ.2.1 57 a ≤ 11184800) ∧ ((T a).1 = 57 → σ.2.1 57 a ≤ 8) := wf_57 hw ha
            have g709x := g709.2
            replace g709 := g709.1
            have g709x := g709x hta
            refine tn_iload_n dX7_step_383 rfl 0 rfl ?_
            refine tn_callSN (M := m_X7_step) (pc := 384) (ix := 61) (M' := m_X11_put) (As := [.ref xb, .int (iI (σ.2.1 57 a)), .int (iI (w32 (v11 + 1)))]) (rest := []) dX7_step_384 ok_X11_put stt_X11_put nl7_61 np_X11_put rfl (Nat.le_of_ble_eq_true rfl) (Nat.le_of_ble_eq_true rfl) rfl (k_X11_put_x (d + 3) (T := T) (σ := σ701) (x := xb) (i := σ.2.1 57 a) (y := w32 (v11 + 1)) hk3i (by omega) (by omega) (by omega) w707 (nh_k hk3 (by unfold HT; omega)) (vok_1 (by have q9 := hk3; omega) (by omega))) (fun r710 T712 σ711 gt713 hp => ?_)
            obtain ⟨rfl, rfl, w717, F718, f714, f715⟩ := hp
            clear gt713
            have je719 : σ711 = jP T xb (σ.2.1 57 a) (w32 (v11 + 1)) _ := f715
            show Tn _ _ 387 T σ711 [(3, .int (iI (w32 (v11 + 1)))), (2, .int (iI v66)), (1, .int (iI v11)), (0, .ref a)] [] _
            refine tn_iload_n dX7_step_387 rfl 1 rfl ?_
            refine tn_bipush dX7_step_388 (by decide) ?_
            refine tn_icmp_ne (tgt := 397) dX7_step_390 (by decide) ⟨by omega, by omega⟩ ⟨by decide, by decide⟩ (fun h720 => ?_) (fun h720 => absurd h720 (by omega))
            refine tn_iconst dX7_step_397 ?_
            have q721 : σ711.2.1 56 a = σ.2.1 56 a := rc_F F718 (Or.inl (by decide)) (by decide) (rc_F F708 (Or.inl (by decide)) (by decide) (rc_o (by decide) (rfl)))
            have q722 : σ711.2.1 57 a = σ.2.1 57 a := rc_F F718 (Or.inl (by decide)) (by decide) (rc_F F708 (Or.inl (by decide)) (by decide) (rc_o (by decide) (rfl)))
            have q723 : σ711.2.1 58 a = σ.2.1 58 a := rc_F F718 (Or.inl (by decide)) (by decide) (rc_F F708 (Or.inl (by decide)) (by decide) (rc_o (by decide) (rfl)))
            exact tn_zret (v := 0) rfl (by decide) dX7_step_398 ⟨_, rfl, rfl, w717, (((FrC.rfl.put (by decide) (by decide)).trans (FrC.sub F708 (by decide))).trans (FrC.sub F718 (by decide))), by omega, (((CHX.rfl.fld (by simp) (by decide)).trans (CHX.sub f704 (by simp) (by simp) (by simp))).trans (CHX.sub f714 (by simp) (by simp) (by simp))), by unfold PIv at *; rw [q721, q722, q723]; omega, ⟨_, v66, f10, Or.inr ⟨xq13, xq55, ⟨hx12, hx56⟩, f65⟩, Or.inr ⟨by omega, Or.inr (Or.inr (Or.inr (Or.inr (Or.inr (Or.inr (Or.inr (Or.inr (Or.inr ((⟨by omega, rfl, _, f705, je719⟩))))))))))⟩⟩, (((FA.rfl.put).trans (FA.of F708 (by decide))).trans (FA.of F718 (by decide)))⟩
          · refine tn_tableIn (tgt := 369) (off := 301) dX7_step_68 (x := v66) ⟨by omega, by omega⟩ (by omega) (by omega) (by rw [h633]; rfl) (by decide) ?_
            refine tn_aload_n dX7_step_369 rfl 3 rfl ?_
            refine tn_iload_n dX7_step_370 rfl 2 rfl ?_
            refine tn_iload_n dX7_step_371 rfl 1 rfl ?_
            obtain ⟨hk726, hl727⟩ : AR T xe 1 1728 1728 := ar_of (wf_63 hw ha) hxe
            have hk726i : IA T xe := by unfold IA; omega
            refine tn_callV (M := m_X7_step) (pc := 372) (ix := 129) (ci := 7) (M' := m_X7_reckonAt) (As := [.int (iI v11), .int (iI v66)]) (rest := []) dX7_step_372 ok_X7_reckonAt im_X7_reckonAt se_X7_reckonAt ml7_129 np_X7_reckonAt rfl rfl ha rfl (Nat.le_of_ble_eq_true rfl) (Nat.le_of_ble_eq_true rfl) rfl (k_X7_reckonAt_j (d + 1) (T := T) (σ := (sA 67 a (w32 ((σ.2.1 67 a) + 1)) σ)) (a := a) (k := v11) (e := v66) (xe := xe) ha (by omega) (by omega) (hw.put (by decide) (by decide) (fo_67 (by omega))) (rc_o (by decide) (hxe)) (by rw [show (sA 67 a (w32 ((σ.2.1 67 a) + 1)) σ).2.1 69 a = _ from rc_o (by decide) (hx12)]; omega)) (fun r728 T730 σ729 gt731 hp => ?_)
            obtain ⟨rfl, rfl, w735, F736, f732, f733⟩ := hp
            clear gt731
            show Tn _ _ 375 T σ729 [(3, .int (iI (w32 (v11 + 1)))), (2, .int (iI v66)), (1, .int (iI v11)), (0, .ref a)] [] _
            refine tn_aload_n dX7_step_375 rfl 3 rfl ?_
            refine tn_getR (ci := 7) (i := 5) (n := 60) (x := xb) dX7_step_376 rfl lay_7 (by decide) fl7_15 ha rfl rfl (rc_F F736 (Or.inl (by decide)) (by decide) (rc_o (by decide) (hxb))) ?_
            refine tn_aload_n dX7_step_379 rfl 3 rfl ?_
            refine tn_getI (ci := 7) (i := 2) (n := 57) (t := σ.2.1 57 a) dX7_step_380 rfl lay_7 (by decide) fl7_65 ha rfl rfl (rc_F F736 (Or.inl (by decide)) (by decide) (rc_o (by decide) (rfl))) ?_
            have g737 : ((0 : Int) ≤ σ.2.1 57 a ∧ σ.2.1 57 a ≤ 11184800) ∧ ((T a).1 = 57 → σ.2.1 57 a ≤ 8) := wf_57 hw ha
            have g737x := g737.2
            replace g737 := g737.1
            have g737x := g737x hta
            refine tn_iload_n dX7_step_383 rfl 0 rfl ?_
            refine tn_callSN (M := m_X7_step) (pc := 384) (ix := 61) (M' := m_X11_put) (As := [.ref xb, .int (iI (σ.2.1 57 a)), .int (iI (w32 (v11 + 1)))]) (rest := []) dX7_step_384 ok_X11_put stt_X11_put nl7_61 np_X11_put rfl (Nat.le_of_ble_eq_true rfl) (Nat.le_of_ble_eq_true rfl) rfl (k_X11_put_x (d + 3) (T := T) (σ := σ729) (x := xb) (i := σ.2.1 57 a) (y := w32 (v11 + 1)) hk3i (by omega) (by omega) (by omega) w735 (nh_k hk3 (by unfold HT; omega)) (vok_1 (by have q9 := hk3; omega) (by omega))) (fun r738 T740 σ739 gt741 hp => ?_)
            obtain ⟨rfl, rfl, w745, F746, f742, f743⟩ := hp
            clear gt741
            have je747 : σ739 = jP T xb (σ.2.1 57 a) (w32 (v11 + 1)) _ := f743
            show Tn _ _ 387 T σ739 [(3, .int (iI (w32 (v11 + 1)))), (2, .int (iI v66)), (1, .int (iI v11)), (0, .ref a)] [] _
            refine tn_iload_n dX7_step_387 rfl 1 rfl ?_
            refine tn_bipush dX7_step_388 (by decide) ?_
            refine tn_icmp_ne (tgt := 397) dX7_step_390 (by decide) ⟨by omega, by omega⟩ ⟨by decide, by decide⟩ (fun h748 => ?_) (fun h748 => absurd h748 (by omega))
            refine tn_iconst dX7_step_397 ?_
            have q749 : σ739.2.1 56 a = σ.2.1 56 a := rc_F F746 (Or.inl (by decide)) (by decide) (rc_F F736 (Or.inl (by decide)) (by decide) (rc_o (by decide) (rfl)))
            have q750 : σ739.2.1 57 a = σ.2.1 57 a := rc_F F746 (Or.inl (by decide)) (by decide) (rc_F F736 (Or.inl (by decide)) (by decide) (rc_o (by decide) (rfl)))
            have q751 : σ739.2.1 58 a = σ.2.1 58 a := rc_F F746 (Or.inl (by decide)) (by decide) (rc_F F736 (Or.inl (by decide)) (by decide) (rc_o (by decide) (rfl)))
            exact tn_zret (v := 0) rfl (by decide) dX7_step_398 ⟨_, rfl, rfl, w745, (((FrC.rfl.put (by decide) (by decide)).trans (FrC.sub F736 (by decide))).trans (FrC.sub F746 (by decide))), by omega, (((CHX.rfl.fld (by simp) (by decide)).trans (CHX.sub f732 (by simp) (by simp) (by simp))).trans (CHX.sub f742 (by simp) (by simp) (by simp))), by unfold PIv at *; rw [q749, q750, q751]; omega, ⟨_, v66, f10, Or.inr ⟨xq13, xq55, ⟨hx12, hx56⟩, f65⟩, Or.inr ⟨by omega, Or.inr (Or.inr (Or.inr (Or.inr (Or.inr (Or.inr (Or.inr (Or.inr (Or.inr ((⟨by omega, rfl, _, f733, je747⟩))))))))))⟩⟩, (((FA.rfl.put).trans (FA.of F736 (by decide))).trans (FA.of F746 (by decide)))⟩
          · refine tn_tableIn (tgt := 369) (off := 301) dX7_step_68 (x := v66) ⟨by omega, by omega⟩ (by omega) (by omega) (by rw [h633]; rfl) (by decide) ?_
            refine tn_aload_n dX7_step_369 rfl 3 rfl ?_
            refine tn_iload_n dX7_step_370 rfl 2 rfl ?_
            refine tn_iload_n dX7_step_371 rfl 1 rfl ?_
            obtain ⟨hk754, hl755⟩ : AR T xe 1 1728 1728 := ar_of (wf_63 hw ha) hxe
            have hk754i : IA T xe := by unfold IA; omega
            refine tn_callV (M := m_X7_step) (pc := 372) (ix := 129) (ci := 7) (M' := m_X7_reckonAt) (As := [.int (iI v11), .int (iI v66)]) (rest := []) dX7_step_372 ok_X7_reckonAt im_X7_reckonAt se_X7_reckonAt ml7_129 np_X7_reckonAt rfl rfl ha rfl (Nat.le_of_ble_eq_true rfl) (Nat.le_of_ble_eq_true rfl) rfl (k_X7_reckonAt_j (d + 1) (T := T) (σ := (sA 67 a (w32 ((σ.2.1 67 a) + 1)) σ)) (a := a) (k := v11) (e := v66) (xe := xe) ha (by omega) (by omega) (hw.put (by decide) (by decide) (fo_67 (by omega))) (rc_o (by decide) (hxe)) (by rw [show (sA 67 a (w32 ((σ.2.1 67 a) + 1)) σ).2.1 69 a = _ from rc_o (by decide) (hx12)]; omega)) (fun r756 T758 σ757 gt759 hp => ?_)
            obtain ⟨rfl, rfl, w763, F764, f760, f761⟩ := hp
            clear gt759
            show Tn _ _ 375 T σ757 [(3, .int (iI (w32 (v11 + 1)))), (2, .int (iI v66)), (1, .int (iI v11)), (0, .ref a)] [] _
            refine tn_aload_n dX7_step_375 rfl 3 rfl ?_
            refine tn_getR (ci := 7) (i := 5) (n := 60) (x := xb) dX7_step_376 rfl lay_7 (by decide) fl7_15 ha rfl rfl (rc_F F764 (Or.inl (by decide)) (by decide) (rc_o (by decide) (hxb))) ?_
            refine tn_aload_n dX7_step_379 rfl 3 rfl ?_
            refine tn_getI (ci := 7) (i := 2) (n := 57) (t := σ.2.1 57 a) dX7_step_380 rfl lay_7 (by decide) fl7_65 ha rfl rfl (rc_F F764 (Or.inl (by decide)) (by decide) (rc_o (by decide) (rfl))) ?_
            have g765 : ((0 : Int) ≤ σ.2.1 57 a ∧ σ.2.1 57 a ≤ 11184800) ∧ ((T a).1 = 57 → σ.2.1 57 a ≤ 8) := wf_57 hw ha
            have g765x := g765.2
            replace g765 := g765.1
            have g765x := g765x hta
            refine tn_iload_n dX7_step_383 rfl 0 rfl ?_
            refine tn_callSN (M := m_X7_step) (pc := 384) (ix := 61) (M' := m_X11_put) (As := [.ref xb, .int (iI (σ.2.1 57 a)), .int (iI (w32 (v11 + 1)))]) (rest := []) dX7_step_384 ok_X11_put stt_X11_put nl7_61 np_X11_put rfl (Nat.le_of_ble_eq_true rfl) (Nat.le_of_ble_eq_true rfl) rfl (k_X11_put_x (d + 3) (T := T) (σ := σ757) (x := xb) (i := σ.2.1 57 a) (y := w32 (v11 + 1)) hk3i (by omega) (by omega) (by omega) w763 (nh_k hk3 (by unfold HT; omega)) (vok_1 (by have q9 := hk3; omega) (by omega))) (fun r766 T768 σ767 gt769 hp => ?_)
            obtain ⟨rfl, rfl, w773, F774, f770, f771⟩ := hp
            clear gt769
            have je775 : σ767 = jP T xb (σ.2.1 57 a) (w32 (v11 + 1)) _ := f771
            show Tn _ _ 387 T σ767 [(3, .int (iI (w32 (v11 + 1)))), (2, .int (iI v66)), (1, .int (iI v11)), (0, .ref a)] [] _
            refine tn_iload_n dX7_step_387 rfl 1 rfl ?_
            refine tn_bipush dX7_step_388 (by decide) ?_
            refine tn_icmp_ne (tgt := 397) dX7_step_390 (by decide) ⟨by omega, by omega⟩ ⟨by decide, by decide⟩ (fun h776 => ?_) (fun h776 => absurd h776 (by omega))
            refine tn_iconst dX7_step_397 ?_
            have q777 : σ767.2.1 56 a = σ.2.1 56 a := rc_F F774 (Or.inl (by decide)) (by decide) (rc_F F764 (Or.inl (by decide)) (by decide) (rc_o (by decide) (rfl)))
            have q778 : σ767.2.1 57 a = σ.2.1 57 a := rc_F F774 (Or.inl (by decide)) (by decide) (rc_F F764 (Or.inl (by decide)) (by decide) (rc_o (by decide) (rfl)))
            have q779 : σ767.2.1 58 a = σ.2.1 58 a := rc_F F774 (Or.inl (by decide)) (by decide) (rc_F F764 (Or.inl (by decide)) (by decide) (rc_o (by decide) (rfl)))
            exact tn_zret (v := 0) rfl (by decide) dX7_step_398 ⟨_, rfl, rfl, w773, (((FrC.rfl.put (by decide) (by decide)).trans (FrC.sub F764 (by decide))).trans (FrC.sub F774 (by decide))), by omega, (((CHX.rfl.fld (by simp) (by decide)).trans (CHX.sub f760 (by simp) (by simp) (by simp))).trans (CHX.sub f770 (by simp) (by simp) (by simp))), by unfold PIv at *; rw [q777, q778, q779]; omega, ⟨_, v66, f10, Or.inr ⟨xq13, xq55, ⟨hx12, hx56⟩, f65⟩, Or.inr ⟨by omega, Or.inr (Or.inr (Or.inr (Or.inr (Or.inr (Or.inr (Or.inr (Or.inr (Or.inr ((⟨by omega, rfl, _, f761, je775⟩))))))))))⟩⟩, (((FA.rfl.put).trans (FA.of F764 (by decide))).trans (FA.of F774 (by decide)))⟩
          · refine tn_tableIn (tgt := 369) (off := 301) dX7_step_68 (x := v66) ⟨by omega, by omega⟩ (by omega) (by omega) (by rw [h633]; rfl) (by decide) ?_
            refine tn_aload_n dX7_step_369 rfl 3 rfl ?_
            refine tn_iload_n dX7_step_370 rfl 2 rfl ?_
            refine tn_iload_n dX7_step_371 rfl 1 rfl ?_
            obtain ⟨hk782, hl783⟩ : AR T xe 1 1728 1728 := ar_of (wf_63 hw ha) hxe
            have hk782i : IA T xe := by unfold IA; omega
            refine tn_callV (M := m_X7_step) (pc := 372) (ix := 129) (ci := 7) (M' := m_X7_reckonAt) (As := [.int (iI v11), .int (iI v66)]) (rest := []) dX7_step_372 ok_X7_reckonAt im_X7_reckonAt se_X7_reckonAt ml7_129 np_X7_reckonAt rfl rfl ha rfl (Nat.le_of_ble_eq_true rfl) (Nat.le_of_ble_eq_true rfl) rfl (k_X7_reckonAt_j (d + 1) (T := T) (σ := (sA 67 a (w32 ((σ.2.1 67 a) + 1)) σ)) (a := a) (k := v11) (e := v66) (xe := xe) ha (by omega) (by omega) (hw.put (by decide) (by decide) (fo_67 (by omega))) (rc_o (by decide) (hxe)) (by rw [show (sA 67 a (w32 ((σ.2.1 67 a) + 1)) σ).2.1 69 a = _ from rc_o (by decide) (hx12)]; omega)) (fun r784 T786 σ785 gt787 hp => ?_)
            obtain ⟨rfl, rfl, w791, F792, f788, f789⟩ := hp
            clear gt787
            show Tn _ _ 375 T σ785 [(3, .int (iI (w32 (v11 + 1)))), (2, .int (iI v66)), (1, .int (iI v11)), (0, .ref a)] [] _
            refine tn_aload_n dX7_step_375 rfl 3 rfl ?_
            refine tn_getR (ci := 7) (i := 5) (n := 60) (x := xb) dX7_step_376 rfl lay_7 (by decide) fl7_15 ha rfl rfl (rc_F F792 (Or.inl (by decide)) (by decide) (rc_o (by decide) (hxb))) ?_
            refine tn_aload_n dX7_step_379 rfl 3 rfl ?_
            refine tn_getI (ci := 7) (i := 2) (n := 57) (t := σ.2.1 57 a) dX7_step_380 rfl lay_7 (by decide) fl7_65 ha rfl rfl (rc_F F792 (Or.inl (by decide)) (by decide) (rc_o (by decide) (rfl))) ?_
            have g793 : ((0 : Int) ≤ σ.2.1 57 a ∧ σ.2.1 57 a ≤ 11184800) ∧ ((T a).1 = 57 → σ.2.1 57 a ≤ 8) := wf_57 hw ha
            have g793x := g793.2
            replace g793 := g793.1
            have g793x := g793x hta
            refine tn_iload_n dX7_step_383 rfl 0 rfl ?_
            refine tn_callSN (M := m_X7_step) (pc := 384) (ix := 61) (M' := m_X11_put) (As := [.ref xb, .int (iI (σ.2.1 57 a)), .int (iI (w32 (v11 + 1)))]) (rest := []) dX7_step_384 ok_X11_put stt_X11_put nl7_61 np_X11_put rfl (Nat.le_of_ble_eq_true rfl) (Nat.le_of_ble_eq_true rfl) rfl (k_X11_put_x (d + 3) (T := T) (σ := σ785) (x := xb) (i := σ.2.1 57 a) (y := w32 (v11 + 1)) hk3i (by omega) (by omega) (by omega) w791 (nh_k hk3 (by unfold HT; omega)) (vok_1 (by have q9 := hk3; omega) (by omega))) (fun r794 T796 σ795 gt797 hp => ?_)
            obtain ⟨rfl, rfl, w801, F802, f798, f799⟩ := hp
            clear gt797
            have je803 : σ795 = jP T xb (σ.2.1 57 a) (w32 (v11 + 1)) _ := f799
            show Tn _ _ 387 T σ795 [(3, .int (iI (w32 (v11 + 1)))), (2, .int (iI v66)), (1, .int (iI v11)), (0, .ref a)] [] _
            refine tn_iload_n dX7_step_387 rfl 1 rfl ?_
            refine tn_bipush dX7_step_388 (by decide) ?_
            refine tn_icmp_ne (tgt := 397) dX7_step_390 (by decide) ⟨by omega, by omega⟩ ⟨by decide, by decide⟩ (fun h804 => ?_) (fun h804 => absurd h804 (by omega))
            refine tn_iconst dX7_step_397 ?_
            have q805 : σ795.2.1 56 a = σ.2.1 56 a := rc_F F802 (Or.inl (by decide)) (by decide) (rc_F F792 (Or.inl (by decide)) (by decide) (rc_o (by decide) (rfl)))
            have q806 : σ795.2.1 57 a = σ.2.1 57 a := rc_F F802 (Or.inl (by decide)) (by decide) (rc_F F792 (Or.inl (by decide)) (by decide) (rc_o (by decide) (rfl)))
            have q807 : σ795.2.1 58 a = σ.2.1 58 a := rc_F F802 (Or.inl (by decide)) (by decide) (rc_F F792 (Or.inl (by decide)) (by decide) (rc_o (by decide) (rfl)))
            exact tn_zret (v := 0) rfl (by decide) dX7_step_398 ⟨_, rfl, rfl, w801, (((FrC.rfl.put (by decide) (by decide)).trans (FrC.sub F792 (by decide))).trans (FrC.sub F802 (by decide))), by omega, (((CHX.rfl.fld (by simp) (by decide)).trans (CHX.sub f788 (by simp) (by simp) (by simp))).trans (CHX.sub f798 (by simp) (by simp) (by simp))), by unfold PIv at *; rw [q805, q806, q807]; omega, ⟨_, v66, f10, Or.inr ⟨xq13, xq55, ⟨hx12, hx56⟩, f65⟩, Or.inr ⟨by omega, Or.inr (Or.inr (Or.inr (Or.inr (Or.inr (Or.inr (Or.inr (Or.inr (Or.inr ((⟨by omega, rfl, _, f789, je803⟩))))))))))⟩⟩, (((FA.rfl.put).trans (FA.of F792 (by decide))).trans (FA.of F802 (by decide)))⟩
          · refine tn_tableIn (tgt := 369) (off := 301) dX7_step_68 (x := v66) ⟨by omega, by omega⟩ (by omega) (by omega) (by rw [h633]; rfl) (by decide) ?_
            refine tn_aload_n dX7_step_369 rfl 3 rfl ?_
            refine tn_iload_n dX7_step_370 rfl 2 rfl ?_
            refine tn_iload_n dX7_step_371 rfl 1 rfl ?_
            obtain ⟨hk810, hl811⟩ : AR T xe 1 1728 1728 := ar_of (wf_63 hw ha) hxe
            have hk810i : IA T xe := by unfold IA; omega
            refine tn_callV (M := m_X7_step) (pc := 372) (ix := 129) (ci := 7) (M' := m_X7_reckonAt) (As := [.int (iI v11), .int (iI v66)]) (rest := []) dX7_step_372 ok_X7_reckonAt im_X7_reckonAt se_X7_reckonAt ml7_129 np_X7_reckonAt rfl rfl ha rfl (Nat.le_of_ble_eq_true rfl) (Nat.le_of_ble_eq_true rfl) rfl (k_X7_reckonAt_j (d + 1) (T := T) (σ := (sA 67 a (w32 ((σ.2.1 67 a) + 1)) σ)) (a := a) (k := v11) (e := v66) (xe := xe) ha (by omega) (by omega) (hw.put (by decide) (by decide) (fo_67 (by omega))) (rc_o (by decide) (hxe)) (by rw [show (sA 67 a (w32 ((σ.2.1 67 a) + 1)) σ).2.1 69 a = _ from rc_o (by decide) (hx12)]; omega)) (fun r812 T814 σ813 gt815 hp => ?_)
            obtain ⟨rfl, rfl, w819, F820, f816, f817⟩ := hp
            clear gt815
            show Tn _ _ 375 T σ813 [(3, .int (iI (w32 (v11 + 1)))), (2, .int (iI v66)), (1, .int (iI v11)), (0, .ref a)] [] _
            refine tn_aload_n dX7_step_375 rfl 3 rfl ?_
            refine tn_getR (ci := 7) (i := 5) (n := 60) (x := xb) dX7_step_376 rfl lay_7 (by decide) fl7_15 ha rfl rfl (rc_F F820 (Or.inl (by decide)) (by decide) (rc_o (by decide) (hxb))) ?_
            refine tn_aload_n dX7_step_379 rfl 3 rfl ?_
            refine tn_getI (ci := 7) (i := 2) (n := 57) (t := σ.2.1 57 a) dX7_step_380 rfl lay_7 (by decide) fl7_65 ha rfl rfl (rc_F F820 (Or.inl (by decide)) (by decide) (rc_o (by decide) (rfl))) ?_
            have g821 : ((0 : Int) ≤ σ.2.1 57 a ∧ σ.2.1 57 a ≤ 11184800) ∧ ((T a).1 = 57 → σ.2.1 57 a ≤ 8) := wf_57 hw ha
            have g821x := g821.2
            replace g821 := g821.1
            have g821x := g821x hta
            refine tn_iload_n dX7_step_383 rfl 0 rfl ?_
            refine tn_callSN (M := m_X7_step) (pc := 384) (ix := 61) (M' := m_X11_put) (As := [.ref xb, .int (iI (σ.2.1 57 a)), .int (iI (w32 (v11 + 1)))]) (rest := []) dX7_step_384 ok_X11_put stt_X11_put nl7_61 np_X11_put rfl (Nat.le_of_ble_eq_true rfl) (Nat.le_of_ble_eq_true rfl) rfl (k_X11_put_x (d + 3) (T := T) (σ := σ813) (x := xb) (i := σ.2.1 57 a) (y := w32 (v11 + 1)) hk3i (by omega) (by omega) (by omega) w819 (nh_k hk3 (by unfold HT; omega)) (vok_1 (by have q9 := hk3; omega) (by omega))) (fun r822 T824 σ823 gt825 hp => ?_)
            obtain ⟨rfl, rfl, w829, F830, f826, f827⟩ := hp
            clear gt825
            have je831 : σ823 = jP T xb (σ.2.1 57 a) (w32 (v11 + 1)) _ := f827
            show Tn _ _ 387 T σ823 [(3, .int (iI (w32 (v11 + 1)))), (2, .int (iI v66)), (1, .int (iI v11)), (0, .ref a)] [] _
            refine tn_iload_n dX7_step_387 rfl 1 rfl ?_
            refine tn_bipush dX7_step_388 (by decide) ?_
            refine tn_icmp_ne (tgt := 397) dX7_step_390 (by decide) ⟨by omega, by omega⟩ ⟨by decide, by decide⟩ (fun h832 => ?_) (fun h832 => absurd h832 (by omega))
            refine tn_iconst dX7_step_397 ?_
            have q833 : σ823.2.1 56 a = σ.2.1 56 a := rc_F F830 (Or.inl (by decide)) (by decide) (rc_F F820 (Or.inl (by decide)) (by decide) (rc_o (by decide) (rfl)))
            have q834 : σ823.2.1 57 a = σ.2.1 57 a := rc_F F830 (Or.inl (by decide)) (by decide) (rc_F F820 (Or.inl (by decide)) (by decide) (rc_o (by decide) (rfl)))
            have q835 : σ823.2.1 58 a = σ.2.1 58 a := rc_F F830 (Or.inl (by decide)) (by decide) (rc_F F820 (Or.inl (by decide)) (by decide) (rc_o (by decide) (rfl)))
            exact tn_zret (v := 0) rfl (by decide) dX7_step_398 ⟨_, rfl, rfl, w829, (((FrC.rfl.put (by decide) (by decide)).trans (FrC.sub F820 (by decide))).trans (FrC.sub F830 (by decide))), by omega, (((CHX.rfl.fld (by simp) (by decide)).trans (CHX.sub f816 (by simp) (by simp) (by simp))).trans (CHX.sub f826 (by simp) (by simp) (by simp))), by unfold PIv at *; rw [q833, q834, q835]; omega, ⟨_, v66, f10, Or.inr ⟨xq13, xq55, ⟨hx12, hx56⟩, f65⟩, Or.inr ⟨by omega, Or.inr (Or.inr (Or.inr (Or.inr (Or.inr (Or.inr (Or.inr (Or.inr (Or.inr ((⟨by omega, rfl, _, f817, je831⟩))))))))))⟩⟩, (((FA.rfl.put).trans (FA.of F820 (by decide))).trans (FA.of F830 (by decide)))⟩
          · refine tn_tableIn (tgt := 152) (off := 84) dX7_step_68 (x := v66) ⟨by omega, by omega⟩ (by omega) (by omega) (by rw [h633]; rfl) (by decide) ?_
            refine tn_aload_n dX7_step_152 rfl 3 rfl ?_
            refine tn_aload_n dX7_step_153 rfl 3 rfl ?_
            refine tn_iload_n dX7_step_154 rfl 2 rfl ?_
            refine tn_iconst dX7_step_155 ?_
            obtain ⟨hk838, hl839⟩ : AR T xe 1 1728 1728 := ar_of (wf_63 hw ha) hxe
            have hk838i : IA T xe := by unfold IA; omega
            refine tn_callV (M := m_X7_step) (pc := 156) (ix := 110) (ci := 7) (M' := m_X7_operand) (As := [.int (iI v11), .int (iI 3)]) (rest := [.ref a]) dX7_step_156 ok_X7_operand im_X7_operand se_X7_operand ml7_110 np_X7_operand rfl rfl ha rfl (Nat.le_of_ble_eq_true rfl) (Nat.le_of_ble_eq_true rfl) rfl (k_X7_operand_j (d + 2) (T := T) (σ := (sA 67 a (w32 ((σ.2.1 67 a) + 1)) σ)) (a := a) (k := v11) (c := 3) (xe := xe) ha (by omega) (by decide) (hw.put (by decide) (by decide) (fo_67 (by omega))) (rc_o (by decide) (hxe)) (by rw [show (sA 67 a (w32 ((σ.2.1 67 a) + 1)) σ).2.1 69 a = _ from rc_o (by decide) (hx12)]; omega) (by omega)) (fun r840 T842 σ841 gt843 hp => ?_)
            obtain ⟨v846, rfl, rfl, rfl, f844, f845⟩ := hp
            clear gt843
            show Tn _ _ 159 T (sA 67 a (w32 ((σ.2.1 67 a) + 1)) σ) [(3, .int (iI (w32 (v11 + 1)))), (2, .int (iI v66)), (1, .int (iI v11)), (0, .ref a)] [.int (iI v846), .ref a] _
            obtain ⟨hk849, hl850⟩ : AR T xf 1 200 200 := ar_of (wf_64 hw ha) hxf
            have hk849i : IA T xf := by unfold IA; omega
            refine tn_callV (M := m_X7_step) (pc := 159) (ix := 113) (ci := 7) (M' := m_X7_emit) (As := [.int (iI v846)]) (rest := []) dX7_step_159 ok_X7_emit im_X7_emit se_X7_emit ml7_113 np_X7_emit rfl rfl ha rfl (Nat.le_of_ble_eq_true rfl) (Nat.le_of_ble_eq_true rfl) rfl (k_X7_emit_j (d + 2) (T := T) (σ := (sA 67 a (w32 ((σ.2.1 67 a) + 1)) σ)) (a := a) (p1 := v846) (xf := xf) ha (by omega) (hw.put (by decide) (by decide) (fo_67 (by omega))) (rc_o (by decide) (hxf))) (fun r851 T853 σ852 gt854 hp => ?_)
            obtain ⟨rfl, rfl, w859, F860, f855, f856, f857⟩ := hp
            clear gt854
            show Tn _ _ 162 T σ852 [(3, .int (iI (w32 (v11 + 1)))), (2, .int (iI v66)), (1, .int (iI v11)), (0, .ref a)] [] _
            refine tn_goto (tgt := 375) dX7_step_162 (by decide) ?_
            refine tn_aload_n dX7_step_375 rfl 3 rfl ?_
            refine tn_getR (ci := 7) (i := 5) (n := 60) (x := xb) dX7_step_376 rfl lay_7 (by decide) fl7_15 ha rfl rfl (rc_F F860 (Or.inl (by decide)) (by decide) (rc_o (by decide) (hxb))) ?_
            refine tn_aload_n dX7_step_379 rfl 3 rfl ?_
            refine tn_getI (ci := 7) (i := 2) (n := 57) (t := σ.2.1 57 a) dX7_step_380 rfl lay_7 (by decide) fl7_65 ha rfl rfl (rc_F F860 (Or.inl (by decide)) (by decide) (rc_o (by decide) (rfl))) ?_
            have g861 : ((0 : Int) ≤ σ.2.1 57 a ∧ σ.2.1 57 a ≤ 11184800) ∧ ((T a).1 = 57 → σ.2.1 57 a ≤ 8) := wf_57 hw ha
            have g861x := g861.2
            replace g861 := g861.1
            have g861x := g861x hta
            refine tn_iload_n dX7_step_383 rfl 0 rfl ?_
            refine tn_callSN (M := m_X7_step) (pc := 384) (ix := 61) (M' := m_X11_put) (As := [.ref xb, .int (iI (σ.2.1 57 a)), .int (iI (w32 (v11 + 1)))]) (rest := []) dX7_step_384 ok_X11_put stt_X11_put nl7_61 np_X11_put rfl (Nat.le_of_ble_eq_true rfl) (Nat.le_of_ble_eq_true rfl) rfl (k_X11_put_x (d + 3) (T := T) (σ := σ852) (x := xb) (i := σ.2.1 57 a) (y := w32 (v11 + 1)) hk3i (by omega) (by omega) (by omega) w859 (nh_k hk3 (by unfold HT; omega)) (vok_1 (by have q9 := hk3; omega) (by omega))) (fun r862 T864 σ863 gt865 hp => ?_)
            obtain ⟨rfl, rfl, w869, F870, f866, f867⟩ := hp
            clear gt865
            have je871 : σ863 = jP T xb (σ.2.1 57 a) (w32 (v11 + 1)) _ := f867
            show Tn _ _ 387 T σ863 [(3, .int (iI (w32 (v11 + 1)))), (2, .int (iI v66)), (1, .int (iI v11)), (0, .ref a)] [] _
            refine tn_iload_n dX7_step_387 rfl 1 rfl ?_
            refine tn_bipush dX7_step_388 (by decide) ?_
            refine tn_icmp_ne (tgt := 397) dX7_step_390 (by decide) ⟨by omega, by omega⟩ ⟨by decide, by decide⟩ (fun h872 => ?_) (fun h872 => absurd h872 (by omega))
            refine tn_iconst dX7_step_397 ?_
            have q873 : σ863.2.1 56 a = σ.2.1 56 a := rc_F F870 (Or.inl (by decide)) (by decide) (rc_F F860 (Or.inl (by decide)) (by decide) (rc_o (by decide) (rfl)))
            have q874 : σ863.2.1 57 a = σ.2.1 57 a := rc_F F870 (Or.inl (by decide)) (by decide) (rc_F F860 (Or.inl (by decide)) (by decide) (rc_o (by decide) (rfl)))
            have q875 : σ863.2.1 58 a = σ.2.1 58 a := rc_F F870 (Or.inl (by decide)) (by decide) (rc_F F860 (Or.inl (by decide)) (by decide) (rc_o (by decide) (rfl)))
            exact tn_zret (v := 0) rfl (by decide) dX7_step_398 ⟨_, rfl, rfl, w869, (((FrC.rfl.put (by decide) (by decide)).trans (FrC.sub F860 (by decide))).trans (FrC.sub F870 (by decide))), by omega, (((CHX.rfl.fld (by simp) (by decide)).trans (CHX.sub f855 (by simp) (by simp) (by simp))).trans (CHX.sub f866 (by simp) (by simp) (by simp))), by unfold PIv at *; rw [q873, q874, q875]; omega, ⟨_, v66, f10, Or.inr ⟨xq13, xq55, ⟨hx12, hx56⟩, f65⟩, Or.inr ⟨by omega, Or.inl (⟨by omega, rfl, _, _, f845, f856, je871⟩)⟩⟩, (((FA.rfl.put).trans f857).trans (FA.of F870 (by decide)))⟩
          · refine tn_tableIn (tgt := 213) (off := 145) dX7_step_68 (x := v66) ⟨by omega, by omega⟩ (by omega) (by omega) (by rw [h633]; rfl) (by decide) ?_
            refine tn_aload_n dX7_step_213 rfl 3 rfl ?_
            refine tn_aload_n dX7_step_214 rfl 3 rfl ?_
            refine tn_iload_n dX7_step_215 rfl 2 rfl ?_
            refine tn_iconst dX7_step_216 ?_
            obtain ⟨hk878, hl879⟩ : AR T xe 1 1728 1728 := ar_of (wf_63 hw ha) hxe
            have hk878i : IA T xe := by unfold IA; omega
            refine tn_callV (M := m_X7_step) (pc := 217) (ix := 110) (ci := 7) (M' := m_X7_operand) (As := [.int (iI v11), .int (iI 3)]) (rest := [.ref a]) dX7_step_217 ok_X7_operand im_X7_operand se_X7_operand ml7_110 np_X7_operand rfl rfl ha rfl (Nat.le_of_ble_eq_true rfl) (Nat.le_of_ble_eq_true rfl) rfl (k_X7_operand_j (d + 2) (T := T) (σ := (sA 67 a (w32 ((σ.2.1 67 a) + 1)) σ)) (a := a) (k := v11) (c := 3) (xe := xe) ha (by omega) (by decide) (hw.put (by decide) (by decide) (fo_67 (by omega))) (rc_o (by decide) (hxe)) (by rw [show (sA 67 a (w32 ((σ.2.1 67 a) + 1)) σ).2.1 69 a = _ from rc_o (by decide) (hx12)]; omega) (by omega)) (fun r880 T882 σ881 gt883 hp => ?_)
            obtain ⟨v886, rfl, rfl, rfl, f884, f885⟩ := hp
            clear gt883
            show Tn _ _ 220 T (sA 67 a (w32 ((σ.2.1 67 a) + 1)) σ) [(3, .int (iI (w32 (v11 + 1)))), (2, .int (iI v66)), (1, .int (iI v11)), (0, .ref a)] [.int (iI v886), .ref a] _
            obtain ⟨hk889, hl890⟩ : AR T xa 15 9 9 := ar_of (wf_59 hw ha) hxa
            have hk889i : IA T xa := by unfold IA; omega
            obtain ⟨hl894, hk893a, hk893b⟩ := ex_at (wf_61 hw ha) hxc
            have hk893 : (T xc).1 = 14 := hk893a (by omega)
            clear hk893a hk893b
            have hk893i : IA T xc := by unfold IA; omega
            obtain ⟨hk897, hl898⟩ : AR T xd 1 108 108 := ar_of (wf_62 hw ha) hxd
            have hk897i : IA T xd := by unfold IA; omega
            obtain ⟨hl902, hk901a, hk901b⟩ := ex_at (wf_55 hw ha) hy
            have hk901i : (T y).1 = 4 ∨ (T y).1 = 5 := by omega
            have hk901c : RROW T a y := ⟨hk901a, hk901b⟩
            clear hk901a hk901b
            refine tn_callV (M := m_X7_step) (pc := 220) (ix := 123) (ci := 7) (M' := m_X7_giveBack) (As := [.int (iI v886)]) (rest := []) dX7_step_220 ok_X7_giveBack im_X7_giveBack se_X7_giveBack ml7_123 np_X7_giveBack rfl rfl ha rfl (Nat.le_of_ble_eq_true rfl) (Nat.le_of_ble_eq_true rfl) rfl (k_X7_giveBack_j57 (d + 1) (T := T) (σ := (sA 67 a (w32 ((σ.2.1 67 a) + 1)) σ)) (a := a) (n := v886) (xa := xa) (xb := xb) (xc := xc) (xd := xd) (xe := xe) (y := y) ha hta (by omega) (hw.put (by decide) (by decide) (fo_67 (by omega))) (rc_o (by decide) (hxa)) (rc_o (by decide) (hxb)) (rc_o (by decide) (hxc)) (rc_o (by decide) (hxd)) (rc_o (by decide) (hxe)) (rc_o (by decide) (hy)) (by rw [show (sA 67 a (w32 ((σ.2.1 67 a) + 1)) σ).2.1 58 a = σ.2.1 58 a from rc_o (by decide) (rfl), show (sA 67 a (w32 ((σ.2.1 67 a) + 1)) σ).2.1 57 a = σ.2.1 57 a from rc_o (by decide) (rfl)]; omega)) (fun r903 T905 σ904 gt906 hp => ?_)
            obtain ⟨rfl, rfl, w912, F913, f907, f908, f909, f910⟩ := hp
            clear gt906
            show Tn _ _ 223 T σ904 [(3, .int (iI (w32 (v11 + 1)))), (2, .int (iI v66)), (1, .int (iI v11)), (0, .ref a)] [] _
            refine tn_iconst dX7_step_223 ?_
            have q914 : σ904.2.1 56 a = σ904.2.1 56 a := rfl
            have q915 : σ904.2.1 57 a = σ904.2.1 57 a := rfl
            have q916 : σ904.2.1 58 a = σ904.2.1 58 a := rfl
            exact tn_zret (v := 0) rfl (by decide) dX7_step_224 ⟨_, rfl, rfl, w912, ((FrC.rfl.put (by decide) (by decide)).trans (FrC.sub F913 (by decide))), by omega, ((CHX.rfl.fld (by simp) (by decide)).trans (CHX.sub f907 (by simp) (by simp) (by simp))), by unfold PIv at *; rw [q914, q915, q916]; omega, ⟨_, v66, f10, Or.inr ⟨xq13, xq55, ⟨hx12, hx56⟩, f65⟩, Or.inr ⟨by omega, Or.inr (Or.inr (Or.inr (Or.inr (Or.inl (⟨by omega, rfl, _, f885, f909⟩)))))⟩⟩, ((FA.rfl.put).trans f910)⟩
          · refine tn_tableIn (tgt := 165) (off := 97) dX7_step_68 (x := v66) ⟨by omega, by omega⟩ (by omega) (by omega) (by rw [h633]; rfl) (by decide) ?_
            refine tn_aload_n dX7_step_165 rfl 3 rfl ?_
            refine tn_getR (ci := 7) (i := 14) (n := 69) (x := xq13) dX7_step_166 rfl lay_7 (by decide) fl7_72 ha rfl rfl (rc_o (by decide) (hx12)) ?_
            refine tn_iload_n dX7_step_169 rfl 2 rfl ?_
            refine tn_bipush dX7_step_170 (by decide) ?_
            refine tn_callV (M := m_X7_step) (pc := 172) (ix := 117) (ci := 1) (M' := m_X1_get) (As := [.int (iI v11), .int (iI 12)]) (rest := []) dX7_step_172 ok_X1_get im_X1_get se_X1_get ml7_117 np_X1_get rfl rfl hk14o rfl (Nat.le_of_ble_eq_true rfl) (Nat.le_of_ble_eq_true rfl) rfl (k_X1_get_j (d + 3) (T := T) (σ := (sA 67 a (w32 ((σ.2.1 67 a) + 1)) σ)) (a := xq13) (k := v11) (c := 12) (x := xq55) hk14o (by omega) (by decide) (hw.put (by decide) (by decide) (fo_67 (by omega))) (rc_o (by decide) (hx56)) (by omega)) (fun r917 T919 σ918 gt920 hp => ?_)
            obtain ⟨v923, rfl, rfl, rfl, f921, f922⟩ := hp
            clear gt920
            show Tn _ _ 175 T (sA 67 a (w32 ((σ.2.1 67 a) + 1)) σ) [(3, .int (iI (w32 (v11 + 1)))), (2, .int (iI v66)), (1, .int (iI v11)), (0, .ref a)] [.int (iI v923)] _
            refine tn_istore_n (L' := [(3, .int (iI v923)), (2, .int (iI v66)), (1, .int (iI v11)), (0, .ref a)]) dX7_step_175 rfl (by decide) rfl ?_
            refine tn_goto (tgt := 375) dX7_step_176 (by decide) ?_
            refine tn_aload_n dX7_step_375 rfl 3 rfl ?_
            refine tn_getR (ci := 7) (i := 5) (n := 60) (x := xb) dX7_step_376 rfl lay_7 (by decide) fl7_15 ha rfl rfl (rc_o (by decide) (hxb)) ?_
            refine tn_aload_n dX7_step_379 rfl 3 rfl ?_
            refine tn_getI (ci := 7) (i := 2) (n := 57) (t := σ.2.1 57 a) dX7_step_380 rfl lay_7 (by decide) fl7_65 ha rfl rfl (rc_o (by decide) (rfl)) ?_
            have g924 : ((0 : Int) ≤ σ.2.1 57 a ∧ σ.2.1 57 a ≤ 11184800) ∧ ((T a).1 = 57 → σ.2.1 57 a ≤ 8) := wf_57 hw ha
            have g924x := g924.2
            replace g924 := g924.1
            have g924x := g924x hta
            refine tn_iload_n dX7_step_383 rfl 0 rfl ?_
            refine tn_callSN (M := m_X7_step) (pc := 384) (ix := 61) (M' := m_X11_put) (As := [.ref xb, .int (iI (σ.2.1 57 a)), .int (iI v923)]) (rest := []) dX7_step_384 ok_X11_put stt_X11_put nl7_61 np_X11_put rfl (Nat.le_of_ble_eq_true rfl) (Nat.le_of_ble_eq_true rfl) rfl (k_X11_put_x (d + 3) (T := T) (σ := (sA 67 a (w32 ((σ.2.1 67 a) + 1)) σ)) (x := xb) (i := σ.2.1 57 a) (y := v923) hk3i (by omega) (by omega) (by omega) (hw.put (by decide) (by decide) (fo_67 (by omega))) (nh_k hk3 (by unfold HT; omega)) (vok_1 (by have q9 := hk3; omega) (by omega))) (fun r925 T927 σ926 gt928 hp => ?_)
            obtain ⟨rfl, rfl, w932, F933, f929, f930⟩ := hp
            clear gt928
            have je934 : σ926 = jP T xb (σ.2.1 57 a) (v923) _ := f930
            show Tn _ _ 387 T σ926 [(3, .int (iI v923)), (2, .int (iI v66)), (1, .int (iI v11)), (0, .ref a)] [] _
            refine tn_iload_n dX7_step_387 rfl 1 rfl ?_
            refine tn_bipush dX7_step_388 (by decide) ?_
            refine tn_icmp_ne (tgt := 397) dX7_step_390 (by decide) ⟨by omega, by omega⟩ ⟨by decide, by decide⟩ (fun h935 => ?_) (fun h935 => absurd h935 (by omega))
            refine tn_iconst dX7_step_397 ?_
            have q936 : σ926.2.1 56 a = σ.2.1 56 a := rc_F F933 (Or.inl (by decide)) (by decide) (rc_o (by decide) (rfl))
            have q937 : σ926.2.1 57 a = σ.2.1 57 a := rc_F F933 (Or.inl (by decide)) (by decide) (rc_o (by decide) (rfl))
            have q938 : σ926.2.1 58 a = σ.2.1 58 a := rc_F F933 (Or.inl (by decide)) (by decide) (rc_o (by decide) (rfl))
            exact tn_zret (v := 0) rfl (by decide) dX7_step_398 ⟨_, rfl, rfl, w932, ((FrC.rfl.put (by decide) (by decide)).trans (FrC.sub F933 (by decide))), by omega, ((CHX.rfl.fld (by simp) (by decide)).trans (CHX.sub f929 (by simp) (by simp) (by simp))), by unfold PIv at *; rw [q936, q937, q938]; omega, ⟨_, v66, f10, Or.inr ⟨xq13, xq55, ⟨hx12, hx56⟩, f65⟩, Or.inr ⟨by omega, Or.inr (Or.inl (⟨by omega, rfl, xq13, xq55, ⟨hx12, hx56⟩, by rw [← f922]; exact je934⟩))⟩⟩, ((FA.rfl.put).trans (FA.of F933 (by decide)))⟩
          · refine tn_tableIn (tgt := 179) (off := 111) dX7_step_68 (x := v66) ⟨by omega, by omega⟩ (by omega) (by omega) (by rw [h633]; rfl) (by decide) ?_
            refine tn_aload_n dX7_step_179 rfl 3 rfl ?_
            refine tn_iload_n dX7_step_180 rfl 2 rfl ?_
            refine tn_iconst dX7_step_181 ?_
            obtain ⟨hk941, hl942⟩ : AR T xe 1 1728 1728 := ar_of (wf_63 hw ha) hxe
            have hk941i : IA T xe := by unfold IA; omega
            refine tn_callV (M := m_X7_step) (pc := 182) (ix := 110) (ci := 7) (M' := m_X7_operand) (As := [.int (iI v11), .int (iI 3)]) (rest := []) dX7_step_182 ok_X7_operand im_X7_operand se_X7_operand ml7_110 np_X7_operand rfl rfl ha rfl (Nat.le_of_ble_eq_true rfl) (Nat.le_of_ble_eq_true rfl) rfl (k_X7_operand_j (d + 2) (T := T) (σ := (sA 67 a (w32 ((σ.2.1 67 a) + 1)) σ)) (a := a) (k := v11) (c := 3) (xe := xe) ha (by omega) (by decide) (hw.put (by decide) (by decide) (fo_67 (by omega))) (rc_o (by decide) (hxe)) (by rw [show (sA 67 a (w32 ((σ.2.1 67 a) + 1)) σ).2.1 69 a = _ from rc_o (by decide) (hx12)]; omega) (by omega)) (fun r943 T945 σ944 gt946 hp => ?_)
            obtain ⟨v949, rfl, rfl, rfl, f947, f948⟩ := hp
            clear gt946
            show Tn _ _ 185 T (sA 67 a (w32 ((σ.2.1 67 a) + 1)) σ) [(3, .int (iI (w32 (v11 + 1)))), (2, .int (iI v66)), (1, .int (iI v11)), (0, .ref a)] [.int (iI v949)] _
            refine tn_if_ne (tgt := 201) dX7_step_185 (by decide) ⟨by omega, by omega⟩ (fun h950 => ?_) (fun h950 => ?_)
            · refine tn_iload_n dX7_step_201 rfl 0 rfl ?_
              refine tn_istore_n (L' := [(3, .int (iI (w32 (v11 + 1)))), (2, .int (iI v66)), (1, .int (iI v11)), (0, .ref a)]) dX7_step_202 rfl (by decide) rfl ?_
              refine tn_goto (tgt := 375) dX7_step_203 (by decide) ?_
              refine tn_aload_n dX7_step_375 rfl 3 rfl ?_
              refine tn_getR (ci := 7) (i := 5) (n := 60) (x := xb) dX7_step_376 rfl lay_7 (by decide) fl7_15 ha rfl rfl (rc_o (by decide) (hxb)) ?_
              refine tn_aload_n dX7_step_379 rfl 3 rfl ?_
              refine tn_getI (ci := 7) (i := 2) (n := 57) (t := σ.2.1 57 a) dX7_step_380 rfl lay_7 (by decide) fl7_65 ha rfl rfl (rc_o (by decide) (rfl)) ?_
              have g951 : ((0 : Int) ≤ σ.2.1 57 a ∧ σ.2.1 57 a ≤ 11184800) ∧ ((T a).1 = 57 → σ.2.1 57 a ≤ 8) := wf_57 hw ha
              have g951x := g951.2
              replace g951 := g951.1
              have g951x := g951x hta
              refine tn_iload_n dX7_step_383 rfl 0 rfl ?_
              refine tn_callSN (M := m_X7_step) (pc := 384) (ix := 61) (M' := m_X11_put) (As := [.ref xb, .int (iI (σ.2.1 57 a)), .int (iI (w32 (v11 + 1)))]) (rest := []) dX7_step_384 ok_X11_put stt_X11_put nl7_61 np_X11_put rfl (Nat.le_of_ble_eq_true rfl) (Nat.le_of_ble_eq_true rfl) rfl (k_X11_put_x (d + 3) (T := T) (σ := (sA 67 a (w32 ((σ.2.1 67 a) + 1)) σ)) (x := xb) (i := σ.2.1 57 a) (y := w32 (v11 + 1)) hk3i (by omega) (by omega) (by omega) (hw.put (by decide) (by decide) (fo_67 (by omega))) (nh_k hk3 (by unfold HT; omega)) (vok_1 (by have q9 := hk3; omega) (by omega))) (fun r952 T954 σ953 gt955 hp => ?_)
              obtain ⟨rfl, rfl, w959, F960, f956, f957⟩ := hp
              clear gt955
              have je961 : σ953 = jP T xb (σ.2.1 57 a) (w32 (v11 + 1)) _ := f957
              show Tn _ _ 387 T σ953 [(3, .int (iI (w32 (v11 + 1)))), (2, .int (iI v66)), (1, .int (iI v11)), (0, .ref a)] [] _
              refine tn_iload_n dX7_step_387 rfl 1 rfl ?_
              refine tn_bipush dX7_step_388 (by decide) ?_
              refine tn_icmp_ne (tgt := 397) dX7_step_390 (by decide) ⟨by omega, by omega⟩ ⟨by decide, by decide⟩ (fun h962 => ?_) (fun h962 => absurd h962 (by omega))
              refine tn_iconst dX7_step_397 ?_
              have q963 : σ953.2.1 56 a = σ.2.1 56 a := rc_F F960 (Or.inl (by decide)) (by decide) (rc_o (by decide) (rfl))
              have q964 : σ953.2.1 57 a = σ.2.1 57 a := rc_F F960 (Or.inl (by decide)) (by decide) (rc_o (by decide) (rfl))
              have q965 : σ953.2.1 58 a = σ.2.1 58 a := rc_F F960 (Or.inl (by decide)) (by decide) (rc_o (by decide) (rfl))
              exact tn_zret (v := 0) rfl (by decide) dX7_step_398 ⟨_, rfl, rfl, w959, ((FrC.rfl.put (by decide) (by decide)).trans (FrC.sub F960 (by decide))), by omega, ((CHX.rfl.fld (by simp) (by decide)).trans (CHX.sub f956 (by simp) (by simp) (by simp))), by unfold PIv at *; rw [q963, q964, q965]; omega, ⟨_, v66, f10, Or.inr ⟨xq13, xq55, ⟨hx12, hx56⟩, f65⟩, Or.inr ⟨by omega, Or.inr (Or.inr (Or.inl (⟨by omega, rfl, _, f948, Or.inr ⟨by omega, je961⟩⟩)))⟩⟩, ((FA.rfl.put).trans (FA.of F960 (by decide)))⟩
            · refine tn_aload_n dX7_step_188 rfl 3 rfl ?_
              refine tn_getR (ci := 7) (i := 14) (n := 69) (x := xq13) dX7_step_189 rfl lay_7 (by decide) fl7_72 ha rfl rfl (rc_o (by decide) (hx12)) ?_
              refine tn_iload_n dX7_step_192 rfl 2 rfl ?_
              refine tn_bipush dX7_step_193 (by decide) ?_
              refine tn_callV (M := m_X7_step) (pc := 195) (ix := 117) (ci := 1) (M' := m_X1_get) (As := [.int (iI v11), .int (iI 12)]) (rest := []) dX7_step_195 ok_X1_get im_X1_get se_X1_get ml7_117 np_X1_get rfl rfl hk14o rfl (Nat.le_of_ble_eq_true rfl) (Nat.le_of_ble_eq_true rfl) rfl (k_X1_get_j (d + 3) (T := T) (σ := (sA 67 a (w32 ((σ.2.1 67 a) + 1)) σ)) (a := xq13) (k := v11) (c := 12) (x := xq55) hk14o (by omega) (by decide) (hw.put (by decide) (by decide) (fo_67 (by omega))) (rc_o (by decide) (hx56)) (by omega)) (fun r966 T968 σ967 gt969 hp => ?_)
              obtain ⟨v972, rfl, rfl, rfl, f970, f971⟩ := hp
              clear gt969
              show Tn _ _ 198 T (sA 67 a (w32 ((σ.2.1 67 a) + 1)) σ) [(3, .int (iI (w32 (v11 + 1)))), (2, .int (iI v66)), (1, .int (iI v11)), (0, .ref a)] [.int (iI v972)] _
              refine tn_goto (tgt := 202) dX7_step_198 (by decide) ?_
              refine tn_istore_n (L' := [(3, .int (iI v972)), (2, .int (iI v66)), (1, .int (iI v11)), (0, .ref a)]) dX7_step_202 rfl (by decide) rfl ?_
              refine tn_goto (tgt := 375) dX7_step_203 (by decide) ?_
              refine tn_aload_n dX7_step_375 rfl 3 rfl ?_
              refine tn_getR (ci := 7) (i := 5) (n := 60) (x := xb) dX7_step_376 rfl lay_7 (by decide) fl7_15 ha rfl rfl (rc_o (by decide) (hxb)) ?_
              refine tn_aload_n dX7_step_379 rfl 3 rfl ?_
              refine tn_getI (ci := 7) (i := 2) (n := 57) (t := σ.2.1 57 a) dX7_step_380 rfl lay_7 (by decide) fl7_65 ha rfl rfl (rc_o (by decide) (rfl)) ?_
              have g973 : ((0 : Int) ≤ σ.2.1 57 a ∧ σ.2.1 57 a ≤ 11184800) ∧ ((T a).1 = 57 → σ.2.1 57 a ≤ 8) := wf_57 hw ha
              have g973x := g973.2
              replace g973 := g973.1
              have g973x := g973x hta
              refine tn_iload_n dX7_step_383 rfl 0 rfl ?_
              refine tn_callSN (M := m_X7_step) (pc := 384) (ix := 61) (M' := m_X11_put) (As := [.ref xb, .int (iI (σ.2.1 57 a)), .int (iI v972)]) (rest := []) dX7_step_384 ok_X11_put stt_X11_put nl7_61 np_X11_put rfl (Nat.le_of_ble_eq_true rfl) (Nat.le_of_ble_eq_true rfl) rfl (k_X11_put_x (d + 3) (T := T) (σ := (sA 67 a (w32 ((σ.2.1 67 a) + 1)) σ)) (x := xb) (i := σ.2.1 57 a) (y := v972) hk3i (by omega) (by omega) (by omega) (hw.put (by decide) (by decide) (fo_67 (by omega))) (nh_k hk3 (by unfold HT; omega)) (vok_1 (by have q9 := hk3; omega) (by omega))) (fun r974 T976 σ975 gt977 hp => ?_)
              obtain ⟨rfl, rfl, w981, F982, f978, f979⟩ := hp
              clear gt977
              have je983 : σ975 = jP T xb (σ.2.1 57 a) (v972) _ := f979
              show Tn _ _ 387 T σ975 [(3, .int (iI v972)), (2, .int (iI v66)), (1, .int (iI v11)), (0, .ref a)] [] _
              refine tn_iload_n dX7_step_387 rfl 1 rfl ?_
              refine tn_bipush dX7_step_388 (by decide) ?_
              refine tn_icmp_ne (tgt := 397) dX7_step_390 (by decide) ⟨by omega, by omega⟩ ⟨by decide, by decide⟩ (fun h984 => ?_) (fun h984 => absurd h984 (by omega))
              refine tn_iconst dX7_step_397 ?_
              have q985 : σ975.2.1 56 a = σ.2.1 56 a := rc_F F982 (Or.inl (by decide)) (by decide) (rc_o (by decide) (rfl))
              have q986 : σ975.2.1 57 a = σ.2.1 57 a := rc_F F982 (Or.inl (by decide)) (by decide) (rc_o (by decide) (rfl))
              have q987 : σ975.2.1 58 a = σ.2.1 58 a := rc_F F982 (Or.inl (by decide)) (by decide) (rc_o (by decide) (rfl))
              exact tn_zret (v := 0) rfl (by decide) dX7_step_398 ⟨_, rfl, rfl, w981, ((FrC.rfl.put (by decide) (by decide)).trans (FrC.sub F982 (by decide))), by omega, ((CHX.rfl.fld (by simp) (by decide)).trans (CHX.sub f978 (by simp) (by simp) (by simp))), by unfold PIv at *; rw [q985, q986, q987]; omega, ⟨_, v66, f10, Or.inr ⟨xq13, xq55, ⟨hx12, hx56⟩, f65⟩, Or.inr ⟨by omega, Or.inr (Or.inr (Or.inl (⟨by omega, rfl, _, f948, Or.inl ⟨by omega, xq13, xq55, ⟨hx12, hx56⟩, by rw [← f971]; exact je983⟩⟩)))⟩⟩, ((FA.rfl.put).trans (FA.of F982 (by decide)))⟩
          · refine tn_tableIn (tgt := 206) (off := 138) dX7_step_68 (x := v66) ⟨by omega, by omega⟩ (by omega) (by omega) (by rw [h633]; rfl) (by decide) ?_
            refine tn_aload_n dX7_step_206 rfl 3 rfl ?_
            refine tn_iload_n dX7_step_207 rfl 2 rfl ?_
            obtain ⟨hk990, hl991⟩ : AR T xa 15 9 9 := ar_of (wf_59 hw ha) hxa
            have hk990i : IA T xa := by unfold IA; omega
            obtain ⟨hl995, hk994a, hk994b⟩ := ex_at (wf_61 hw ha) hxc
            have hk994 : (T xc).1 = 14 := hk994a (by omega)
            clear hk994a hk994b
            have hk994i : IA T xc := by unfold IA; omega
            obtain ⟨hk998, hl999⟩ : AR T xd 1 108 108 := ar_of (wf_62 hw ha) hxd
            have hk998i : IA T xd := by unfold IA; omega
            obtain ⟨hk1002, hl1003⟩ : AR T xe 1 1728 1728 := ar_of (wf_63 hw ha) hxe
            have hk1002i : IA T xe := by unfold IA; omega
            obtain ⟨hl1007, hk1006a, hk1006b⟩ := ex_at (wf_55 hw ha) hy
            have hk1006i : (T y).1 = 4 ∨ (T y).1 = 5 := by omega
            have hk1006c : RROW T a y := ⟨hk1006a, hk1006b⟩
            clear hk1006a hk1006b
            have q1012 : (sA 67 a (w32 ((σ.2.1 67 a) + 1)) σ).2.1 57 a = σ.2.1 57 a := rc_o (by decide) (rfl)
            have q1013 : (sA 67 a (w32 ((σ.2.1 67 a) + 1)) σ).2.1 58 a = σ.2.1 58 a := rc_o (by decide) (rfl)
            refine tn_callV (M := m_X7_step) (pc := 208) (ix := 120) (ci := 7) (M' := m_X7_callFrom) (As := [.int (iI v11)]) (rest := []) dX7_step_208 ok_X7_callFrom im_X7_callFrom se_X7_callFrom ml7_120 np_X7_callFrom rfl rfl ha rfl (Nat.le_of_ble_eq_true rfl) (Nat.le_of_ble_eq_true rfl) rfl (k_X7_callFrom_j57 (d) (T := T) (σ := (sA 67 a (w32 ((σ.2.1 67 a) + 1)) σ)) (a := a) (k := v11) (xa := xa) (xb := xb) (xc := xc) (xd := xd) (xe := xe) (y := y) ha hta (by omega) (hw.put (by decide) (by decide) (fo_67 (by omega))) (rc_o (by decide) (hxa)) (rc_o (by decide) (hxb)) (rc_o (by decide) (hxc)) (rc_o (by decide) (hxd)) (rc_o (by decide) (hxe)) (rc_o (by decide) (hy)) (by rw [show (sA 67 a (w32 ((σ.2.1 67 a) + 1)) σ).2.1 69 a = _ from rc_o (by decide) (hx12)]; omega) (by rw [show (sA 67 a (w32 ((σ.2.1 67 a) + 1)) σ).2.1 57 a = σ.2.1 57 a from rc_o (by decide) (rfl)]; omega) (by rw [show (sA 67 a (w32 ((σ.2.1 67 a) + 1)) σ).2.1 58 a = σ.2.1 58 a from rc_o (by decide) (rfl)]; omega)) (fun r1008 T1010 σ1009 gt1011 hp => ?_)
            obtain ⟨rfl, rfl, w1020, F1021, f1014, f1015, f1016, f1017, f1018⟩ := hp
            clear gt1011
            show Tn _ _ 211 T σ1009 [(3, .int (iI (w32 (v11 + 1)))), (2, .int (iI v66)), (1, .int (iI v11)), (0, .ref a)] [] _
            refine tn_iconst dX7_step_211 ?_
            have q1022 : σ1009.2.1 56 a = σ.2.1 56 a := rc_F F1021 (Or.inl (by decide)) (by decide) (rc_o (by decide) (rfl))
            have q1023 : σ1009.2.1 57 a = σ1009.2.1 57 a := rfl
            have q1024 : σ1009.2.1 58 a = σ1009.2.1 58 a := rfl
            exact tn_zret (v := 0) rfl (by decide) dX7_step_212 ⟨_, rfl, rfl, w1020, ((FrC.rfl.put (by decide) (by decide)).trans (FrC.sub F1021 (by decide))), by omega, ((CHX.rfl.fld (by simp) (by decide)).trans (CHX.sub f1014 (by simp) (by simp) (by simp))), by unfold PIv at *; rw [q1022, q1023, q1024]; omega, ⟨_, v66, f10, Or.inr ⟨xq13, xq55, ⟨hx12, hx56⟩, f65⟩, Or.inr ⟨by omega, Or.inr (Or.inr (Or.inr (Or.inl (⟨by omega, rfl, f1017⟩))))⟩⟩, ((FA.rfl.put).trans f1018)⟩
          · refine tn_tableIn (tgt := 225) (off := 157) dX7_step_68 (x := v66) ⟨by omega, by omega⟩ (by omega) (by omega) (by rw [h633]; rfl) (by decide) ?_
            refine tn_aload_n dX7_step_225 rfl 3 rfl ?_
            obtain ⟨hk1027, hl1028⟩ : AR T xd 1 108 108 := ar_of (wf_62 hw ha) hxd
            have hk1027i : IA T xd := by unfold IA; omega
            refine tn_getR (ci := 7) (i := 7) (n := 62) (x := xd) dX7_step_226 rfl lay_7 (by decide) fl7_21 ha rfl rfl (rc_o (by decide) (hxd)) ?_
            refine tn_aload_n dX7_step_229 rfl 3 rfl ?_
            refine tn_getI (ci := 7) (i := 2) (n := 57) (t := σ.2.1 57 a) dX7_step_230 rfl lay_7 (by decide) fl7_65 ha rfl rfl (rc_o (by decide) (rfl)) ?_
            have g1029 : ((0 : Int) ≤ σ.2.1 57 a ∧ σ.2.1 57 a ≤ 11184800) ∧ ((T a).1 = 57 → σ.2.1 57 a ≤ 8) := wf_57 hw ha
            have g1029x := g1029.2
            replace g1029 := g1029.1
            have g1029x := g1029x hta
            refine tn_bipush dX7_step_233 (by decide) ?_
            refine tn_imul dX7_step_235 ?_
            refine tn_aload_n dX7_step_236 rfl 3 rfl ?_
            refine tn_getR (ci := 7) (i := 14) (n := 69) (x := xq13) dX7_step_237 rfl lay_7 (by decide) fl7_72 ha rfl rfl (rc_o (by decide) (hx12)) ?_
            refine tn_iload_n dX7_step_240 rfl 2 rfl ?_
            refine tn_iconst dX7_step_241 ?_
            refine tn_callV (M := m_X7_step) (pc := 242) (ix := 117) (ci := 1) (M' := m_X1_get) (As := [.int (iI v11), .int (iI 2)]) (rest := [.int (iI ((σ.2.1 57 a) * 12)), .ref xd]) dX7_step_242 ok_X1_get im_X1_get se_X1_get ml7_117 np_X1_get rfl rfl hk14o rfl (Nat.le_of_ble_eq_true rfl) (Nat.le_of_ble_eq_true rfl) rfl (k_X1_get_j (d + 3) (T := T) (σ := (sA 67 a (w32 ((σ.2.1 67 a) + 1)) σ)) (a := xq13) (k := v11) (c := 2) (x := xq55) hk14o (by omega) (by decide) (hw.put (by decide) (by decide) (fo_67 (by omega))) (rc_o (by decide) (hx56)) (by omega)) (fun r1030 T1032 σ1031 gt1033 hp => ?_)
            obtain ⟨v1036, rfl, rfl, rfl, f1034, f1035⟩ := hp
            clear gt1033
            show Tn _ _ 245 T (sA 67 a (w32 ((σ.2.1 67 a) + 1)) σ) [(3, .int (iI (w32 (v11 + 1)))), (2, .int (iI v66)), (1, .int (iI v11)), (0, .ref a)] [.int (iI v1036), .int (iI ((σ.2.1 57 a) * 12)), .ref xd] _
            refine tn_iadd dX7_step_245 ?_
            rw [show iI (((σ.2.1 57 a) * 12) + v1036) = iI (w32 (((σ.2.1 57 a) * 12) + v1036)) from (iI_self _).symm]
            have g1037r : -2147483648 ≤ w32 (((σ.2.1 57 a) * 12) + v1036) ∧ w32 (((σ.2.1 57 a) * 12) + v1036) ≤ 2147483647 := inR_toInt _
            refine tn_aload_n dX7_step_246 rfl 3 rfl ?_
            refine tn_getR (ci := 7) (i := 14) (n := 69) (x := xq13) dX7_step_247 rfl lay_7 (by decide) fl7_72 ha rfl rfl (rc_o (by decide) (hx12)) ?_
            refine tn_iload_n dX7_step_250 rfl 2 rfl ?_
            refine tn_iconst dX7_step_251 ?_
            refine tn_callV (M := m_X7_step) (pc := 252) (ix := 117) (ci := 1) (M' := m_X1_get) (As := [.int (iI v11), .int (iI 1)]) (rest := [.int (iI (w32 (((σ.2.1 57 a) * 12) + v1036))), .ref xd]) dX7_step_252 ok_X1_get im_X1_get se_X1_get ml7_117 np_X1_get rfl rfl hk14o rfl (Nat.le_of_ble_eq_true rfl) (Nat.le_of_ble_eq_true rfl) rfl (k_X1_get_j (d + 3) (T := T) (σ := (sA 67 a (w32 ((σ.2.1 67 a) + 1)) σ)) (a := xq13) (k := v11) (c := 1) (x := xq55) hk14o (by omega) (by decide) (hw.put (by decide) (by decide) (fo_67 (by omega))) (rc_o (by decide) (hx56)) (by omega)) (fun r1038 T1040 σ1039 gt1041 hp => ?_)
            obtain ⟨v1044, rfl, rfl, rfl, f1042, f1043⟩ := hp
            clear gt1041
            show Tn _ _ 255 T (sA 67 a (w32 ((σ.2.1 67 a) + 1)) σ) [(3, .int (iI (w32 (v11 + 1)))), (2, .int (iI v66)), (1, .int (iI v11)), (0, .ref a)] [.int (iI v1044), .int (iI (w32 (((σ.2.1 57 a) * 12) + v1036))), .ref xd] _
            refine tn_callSN (M := m_X7_step) (pc := 255) (ix := 61) (M' := m_X11_put) (As := [.ref xd, .int (iI (w32 (((σ.2.1 57 a) * 12) + v1036))), .int (iI v1044)]) (rest := []) dX7_step_255 ok_X11_put stt_X11_put nl7_61 np_X11_put rfl (Nat.le_of_ble_eq_true rfl) (Nat.le_of_ble_eq_true rfl) rfl (k_X11_put_x (d + 3) (T := T) (σ := (sA 67 a (w32 ((σ.2.1 67 a) + 1)) σ)) (x := xd) (i := w32 (((σ.2.1 57 a) * 12) + v1036)) (y := v1044) hk1027i (by omega) (by omega) (by omega) (hw.put (by decide) (by decide) (fo_67 (by omega))) (nh_k hk1027 (by unfold HT; omega)) (vok_1 (by have q9 := hk1027; omega) (by omega))) (fun r1045 T1047 σ1046 gt1048 hp => ?_)
            obtain ⟨rfl, rfl, w1052, F1053, f1049, f1050⟩ := hp
            clear gt1048
            have je1054 : σ1046 = jP T xd (w32 (((σ.2.1 57 a) * 12) + v1036)) (v1044) _ := f1050
            show Tn _ _ 258 T σ1046 [(3, .int (iI (w32 (v11 + 1)))), (2, .int (iI v66)), (1, .int (iI v11)), (0, .ref a)] [] _
            refine tn_goto (tgt := 375) dX7_step_258 (by decide) ?_
            refine tn_aload_n dX7_step_375 rfl 3 rfl ?_
            refine tn_getR (ci := 7) (i := 5) (n := 60) (x := xb) dX7_step_376 rfl lay_7 (by decide) fl7_15 ha rfl rfl (rc_F F1053 (Or.inl (by decide)) (by decide) (rc_o (by decide) (hxb))) ?_
            refine tn_aload_n dX7_step_379 rfl 3 rfl ?_
            refine tn_getI (ci := 7) (i := 2) (n := 57) (t := σ.2.1 57 a) dX7_step_380 rfl lay_7 (by decide) fl7_65 ha rfl rfl (rc_F F1053 (Or.inl (by decide)) (by decide) (rc_o (by decide) (rfl))) ?_
            refine tn_iload_n dX7_step_383 rfl 0 rfl ?_
            refine tn_callSN (M := m_X7_step) (pc := 384) (ix := 61) (M' := m_X11_put) (As := [.ref xb, .int (iI (σ.2.1 57 a)), .int (iI (w32 (v11 + 1)))]) (rest := []) dX7_step_384 ok_X11_put stt_X11_put nl7_61 np_X11_put rfl (Nat.le_of_ble_eq_true rfl) (Nat.le_of_ble_eq_true rfl) rfl (k_X11_put_x (d + 3) (T := T) (σ := σ1046) (x := xb) (i := σ.2.1 57 a) (y := w32 (v11 + 1)) hk3i (by omega) (by omega) (by omega) w1052 (nh_k hk3 (by unfold HT; omega)) (vok_1 (by have q9 := hk3; omega) (by omega))) (fun r1055 T1057 σ1056 gt1058 hp => ?_)
            obtain ⟨rfl, rfl, w1062, F1063, f1059, f1060⟩ := hp
            clear gt1058
            have je1064 : σ1056 = jP T xb (σ.2.1 57 a) (w32 (v11 + 1)) _ := f1060
            show Tn _ _ 387 T σ1056 [(3, .int (iI (w32 (v11 + 1)))), (2, .int (iI v66)), (1, .int (iI v11)), (0, .ref a)] [] _
            refine tn_iload_n dX7_step_387 rfl 1 rfl ?_
            refine tn_bipush dX7_step_388 (by decide) ?_
            refine tn_icmp_ne (tgt := 397) dX7_step_390 (by decide) ⟨by omega, by omega⟩ ⟨by decide, by decide⟩ (fun h1065 => absurd h1065 (by omega)) (fun h1065 => ?_)
            refine tn_iconst dX7_step_393 ?_
            refine tn_goto (tgt := 398) dX7_step_394 (by decide) ?_
            have q1066 : σ1056.2.1 56 a = σ.2.1 56 a := rc_F F1063 (Or.inl (by decide)) (by decide) (rc_F F1053 (Or.inl (by decide)) (by decide) (rc_o (by decide) (rfl)))
            have q1067 : σ1056.2.1 57 a = σ.2.1 57 a := rc_F F1063 (Or.inl (by decide)) (by decide) (rc_F F1053 (Or.inl (by decide)) (by decide) (rc_o (by decide) (rfl)))
            have q1068 : σ1056.2.1 58 a = σ.2.1 58 a := rc_F F1063 (Or.inl (by decide)) (by decide) (rc_F F1053 (Or.inl (by decide)) (by decide) (rc_o (by decide) (rfl)))
            exact tn_zret (v := 1) rfl (by decide) dX7_step_398 ⟨_, rfl, rfl, w1062, (((FrC.rfl.put (by decide) (by decide)).trans (FrC.sub F1053 (by decide))).trans (FrC.sub F1063 (by decide))), by omega, (((CHX.rfl.fld (by simp) (by decide)).trans (CHX.sub f1049 (by simp) (by simp) (by simp))).trans (CHX.sub f1059 (by simp) (by simp) (by simp))), by unfold PIv at *; rw [q1066, q1067, q1068]; omega, ⟨_, v66, f10, Or.inr ⟨xq13, xq55, ⟨hx12, hx56⟩, f65⟩, Or.inr ⟨by omega, Or.inr (Or.inr (Or.inr (Or.inr (Or.inr (Or.inl (⟨by omega, rfl, xq13, xq55, σ1046, ⟨hx12, hx56⟩, by rw [← f1035, ← f1043]; exact je1054, je1064⟩))))))⟩⟩, (((FA.rfl.put).trans (FA.of F1053 (by decide))).trans (FA.of F1063 (by decide)))⟩
          · refine tn_tableIn (tgt := 369) (off := 301) dX7_step_68 (x := v66) ⟨by omega, by omega⟩ (by omega) (by omega) (by rw [h633]; rfl) (by decide) ?_
            refine tn_aload_n dX7_step_369 rfl 3 rfl ?_
            refine tn_iload_n dX7_step_370 rfl 2 rfl ?_
            refine tn_iload_n dX7_step_371 rfl 1 rfl ?_
            obtain ⟨hk1071, hl1072⟩ : AR T xe 1 1728 1728 := ar_of (wf_63 hw ha) hxe
            have hk1071i : IA T xe := by unfold IA; omega
            refine tn_callV (M := m_X7_step) (pc := 372) (ix := 129) (ci := 7) (M' := m_X7_reckonAt) (As := [.int (iI v11), .int (iI v66)]) (rest := []) dX7_step_372 ok_X7_reckonAt im_X7_reckonAt se_X7_reckonAt ml7_129 np_X7_reckonAt rfl rfl ha rfl (Nat.le_of_ble_eq_true rfl) (Nat.le_of_ble_eq_true rfl) rfl (k_X7_reckonAt_j (d + 1) (T := T) (σ := (sA 67 a (w32 ((σ.2.1 67 a) + 1)) σ)) (a := a) (k := v11) (e := v66) (xe := xe) ha (by omega) (by omega) (hw.put (by decide) (by decide) (fo_67 (by omega))) (rc_o (by decide) (hxe)) (by rw [show (sA 67 a (w32 ((σ.2.1 67 a) + 1)) σ).2.1 69 a = _ from rc_o (by decide) (hx12)]; omega)) (fun r1073 T1075 σ1074 gt1076 hp => ?_)
            obtain ⟨rfl, rfl, w1080, F1081, f1077, f1078⟩ := hp
            clear gt1076
            show Tn _ _ 375 T σ1074 [(3, .int (iI (w32 (v11 + 1)))), (2, .int (iI v66)), (1, .int (iI v11)), (0, .ref a)] [] _
            refine tn_aload_n dX7_step_375 rfl 3 rfl ?_
            refine tn_getR (ci := 7) (i := 5) (n := 60) (x := xb) dX7_step_376 rfl lay_7 (by decide) fl7_15 ha rfl rfl (rc_F F1081 (Or.inl (by decide)) (by decide) (rc_o (by decide) (hxb))) ?_
            refine tn_aload_n dX7_step_379 rfl 3 rfl ?_
            refine tn_getI (ci := 7) (i := 2) (n := 57) (t := σ.2.1 57 a) dX7_step_380 rfl lay_7 (by decide) fl7_65 ha rfl rfl (rc_F F1081 (Or.inl (by decide)) (by decide) (rc_o (by decide) (rfl))) ?_
            have g1082 : ((0 : Int) ≤ σ.2.1 57 a ∧ σ.2.1 57 a ≤ 11184800) ∧ ((T a).1 = 57 → σ.2.1 57 a ≤ 8) := wf_57 hw ha
            have g1082x := g1082.2
            replace g1082 := g1082.1
            have g1082x := g1082x hta
            refine tn_iload_n dX7_step_383 rfl 0 rfl ?_
            refine tn_callSN (M := m_X7_step) (pc := 384) (ix := 61) (M' := m_X11_put) (As := [.ref xb, .int (iI (σ.2.1 57 a)), .int (iI (w32 (v11 + 1)))]) (rest := []) dX7_step_384 ok_X11_put stt_X11_put nl7_61 np_X11_put rfl (Nat.le_of_ble_eq_true rfl) (Nat.le_of_ble_eq_true rfl) rfl (k_X11_put_x (d + 3) (T := T) (σ := σ1074) (x := xb) (i := σ.2.1 57 a) (y := w32 (v11 + 1)) hk3i (by omega) (by omega) (by omega) w1080 (nh_k hk3 (by unfold HT; omega)) (vok_1 (by have q9 := hk3; omega) (by omega))) (fun r1083 T1085 σ1084 gt1086 hp => ?_)
            obtain ⟨rfl, rfl, w1090, F1091, f1087, f1088⟩ := hp
            clear gt1086
            have je1092 : σ1084 = jP T xb (σ.2.1 57 a) (w32 (v11 + 1)) _ := f1088
            show Tn _ _ 387 T σ1084 [(3, .int (iI (w32 (v11 + 1)))), (2, .int (iI v66)), (1, .int (iI v11)), (0, .ref a)] [] _
            refine tn_iload_n dX7_step_387 rfl 1 rfl ?_
            refine tn_bipush dX7_step_388 (by decide) ?_
            refine tn_icmp_ne (tgt := 397) dX7_step_390 (by decide) ⟨by omega, by omega⟩ ⟨by decide, by decide⟩ (fun h1093 => ?_) (fun h1093 => absurd h1093 (by omega))
            refine tn_iconst dX7_step_397 ?_
            have q1094 : σ1084.2.1 56 a = σ.2.1 56 a := rc_F F1091 (Or.inl (by decide)) (by decide) (rc_F F1081 (Or.inl (by decide)) (by decide) (rc_o (by decide) (rfl)))
            have q1095 : σ1084.2.1 57 a = σ.2.1 57 a := rc_F F1091 (Or.inl (by decide)) (by decide) (rc_F F1081 (Or.inl (by decide)) (by decide) (rc_o (by decide) (rfl)))
            have q1096 : σ1084.2.1 58 a = σ.2.1 58 a := rc_F F1091 (Or.inl (by decide)) (by decide) (rc_F F1081 (Or.inl (by decide)) (by decide) (rc_o (by decide) (rfl)))
            exact tn_zret (v := 0) rfl (by decide) dX7_step_398 ⟨_, rfl, rfl, w1090, (((FrC.rfl.put (by decide) (by decide)).trans (FrC.sub F1081 (by decide))).trans (FrC.sub F1091 (by decide))), by omega, (((CHX.rfl.fld (by simp) (by decide)).trans (CHX.sub f1077 (by simp) (by simp) (by simp))).trans (CHX.sub f1087 (by simp) (by simp) (by simp))), by unfold PIv at *; rw [q1094, q1095, q1096]; omega, ⟨_, v66, f10, Or.inr ⟨xq13, xq55, ⟨hx12, hx56⟩, f65⟩, Or.inr ⟨by omega, Or.inr (Or.inr (Or.inr (Or.inr (Or.inr (Or.inr (Or.inr (Or.inr (Or.inr ((⟨by omega, rfl, _, f1078, je1092⟩))))))))))⟩⟩, (((FA.rfl.put).trans (FA.of F1081 (by decide))).trans (FA.of F1091 (by decide)))⟩
          · refine tn_tableIn (tgt := 369) (off := 301) dX7_step_68 (x := v66) ⟨by omega, by omega⟩ (by omega) (by omega) (by rw [h633]; rfl) (by decide) ?_
            refine tn_aload_n dX7_step_369 rfl 3 rfl ?_
            refine tn_iload_n dX7_step_370 rfl 2 rfl ?_
            refine tn_iload_n dX7_step_371 rfl 1 rfl ?_
            obtain ⟨hk1099, hl1100⟩ : AR T xe 1 1728 1728 := ar_of (wf_63 hw ha) hxe
            have hk1099i : IA T xe := by unfold IA; omega
            refine tn_callV (M := m_X7_step) (pc := 372) (ix := 129) (ci := 7) (M' := m_X7_reckonAt) (As := [.int (iI v11), .int (iI v66)]) (rest := []) dX7_step_372 ok_X7_reckonAt im_X7_reckonAt se_X7_reckonAt ml7_129 np_X7_reckonAt rfl rfl ha rfl (Nat.le_of_ble_eq_true rfl) (Nat.le_of_ble_eq_true rfl) rfl (k_X7_reckonAt_j (d + 1) (T := T) (σ := (sA 67 a (w32 ((σ.2.1 67 a) + 1)) σ)) (a := a) (k := v11) (e := v66) (xe := xe) ha (by omega) (by omega) (hw.put (by decide) (by decide) (fo_67 (by omega))) (rc_o (by decide) (hxe)) (by rw [show (sA 67 a (w32 ((σ.2.1 67 a) + 1)) σ).2.1 69 a = _ from rc_o (by decide) (hx12)]; omega)) (fun r1101 T1103 σ1102 gt1104 hp => ?_)
            obtain ⟨rfl, rfl, w1108, F1109, f1105, f1106⟩ := hp
            clear gt1104
            show Tn _ _ 375 T σ1102 [(3, .int (iI (w32 (v11 + 1)))), (2, .int (iI v66)), (1, .int (iI v11)), (0, .ref a)] [] _
            refine tn_aload_n dX7_step_375 rfl 3 rfl ?_
            refine tn_getR (ci := 7) (i := 5) (n := 60) (x := xb) dX7_step_376 rfl lay_7 (by decide) fl7_15 ha rfl rfl (rc_F F1109 (Or.inl (by decide)) (by decide) (rc_o (by decide) (hxb))) ?_
            refine tn_aload_n dX7_step_379 rfl 3 rfl ?_
            refine tn_getI (ci := 7) (i := 2) (n := 57) (t := σ.2.1 57 a) dX7_step_380 rfl lay_7 (by decide) fl7_65 ha rfl rfl (rc_F F1109 (Or.inl (by decide)) (by decide) (rc_o (by decide) (rfl))) ?_
            have g1110 : ((0 : Int) ≤ σ.2.1 57 a ∧ σ.2.1 57 a ≤ 11184800) ∧ ((T a).1 = 57 → σ.2.1 57 a ≤ 8) := wf_57 hw ha
            have g1110x := g1110.2
            replace g1110 := g1110.1
            have g1110x := g1110x hta
            refine tn_iload_n dX7_step_383 rfl 0 rfl ?_
            refine tn_callSN (M := m_X7_step) (pc := 384) (ix := 61) (M' := m_X11_put) (As := [.ref xb, .int (iI (σ.2.1 57 a)), .int (iI (w32 (v11 + 1)))]) (rest := []) dX7_step_384 ok_X11_put stt_X11_put nl7_61 np_X11_put rfl (Nat.le_of_ble_eq_true rfl) (Nat.le_of_ble_eq_true rfl) rfl (k_X11_put_x (d + 3) (T := T) (σ := σ1102) (x := xb) (i := σ.2.1 57 a) (y := w32 (v11 + 1)) hk3i (by omega) (by omega) (by omega) w1108 (nh_k hk3 (by unfold HT; omega)) (vok_1 (by have q9 := hk3; omega) (by omega))) (fun r1111 T1113 σ1112 gt1114 hp => ?_)
            obtain ⟨rfl, rfl, w1118, F1119, f1115, f1116⟩ := hp
            clear gt1114
            have je1120 : σ1112 = jP T xb (σ.2.1 57 a) (w32 (v11 + 1)) _ := f1116
            show Tn _ _ 387 T σ1112 [(3, .int (iI (w32 (v11 + 1)))), (2, .int (iI v66)), (1, .int (iI v11)), (0, .ref a)] [] _
            refine tn_iload_n dX7_step_387 rfl 1 rfl ?_
            refine tn_bipush dX7_step_388 (by decide) ?_
            refine tn_icmp_ne (tgt := 397) dX7_step_390 (by decide) ⟨by omega, by omega⟩ ⟨by decide, by decide⟩ (fun h1121 => ?_) (fun h1121 => absurd h1121 (by omega))
            refine tn_iconst dX7_step_397 ?_
            have q1122 : σ1112.2.1 56 a = σ.2.1 56 a := rc_F F1119 (Or.inl (by decide)) (by decide) (rc_F F1109 (Or.inl (by decide)) (by decide) (rc_o (by decide) (rfl)))
            have q1123 : σ1112.2.1 57 a = σ.2.1 57 a := rc_F F1119 (Or.inl (by decide)) (by decide) (rc_F F1109 (Or.inl (by decide)) (by decide) (rc_o (by decide) (rfl)))
            have q1124 : σ1112.2.1 58 a = σ.2.1 58 a := rc_F F1119 (Or.inl (by decide)) (by decide) (rc_F F1109 (Or.inl (by decide)) (by decide) (rc_o (by decide) (rfl)))
            exact tn_zret (v := 0) rfl (by decide) dX7_step_398 ⟨_, rfl, rfl, w1118, (((FrC.rfl.put (by decide) (by decide)).trans (FrC.sub F1109 (by decide))).trans (FrC.sub F1119 (by decide))), by omega, (((CHX.rfl.fld (by simp) (by decide)).trans (CHX.sub f1105 (by simp) (by simp) (by simp))).trans (CHX.sub f1115 (by simp) (by simp) (by simp))), by unfold PIv at *; rw [q1122, q1123, q1124]; omega, ⟨_, v66, f10, Or.inr ⟨xq13, xq55, ⟨hx12, hx56⟩, f65⟩, Or.inr ⟨by omega, Or.inr (Or.inr (Or.inr (Or.inr (Or.inr (Or.inr (Or.inr (Or.inr (Or.inr ((⟨by omega, rfl, _, f1106, je1120⟩))))))))))⟩⟩, (((FA.rfl.put).trans (FA.of F1109 (by decide))).trans (FA.of F1119 (by decide)))⟩
          · refine tn_tableIn (tgt := 261) (off := 193) dX7_step_68 (x := v66) ⟨by omega, by omega⟩ (by omega) (by omega) (by rw [h633]; rfl) (by decide) ?_
            exact absurd True.intro (by omega)
          · refine tn_tableIn (tgt := 319) (off := 251) dX7_step_68 (x := v66) ⟨by omega, by omega⟩ (by omega) (by omega) (by rw [h633]; rfl) (by decide) ?_
            exact absurd True.intro (by omega)
      · refine tn_aload_n dX7_step_37 rfl 2 rfl ?_
        refine tn_getI (ci := 7) (i := 3) (n := 58) (t := σ.2.1 58 a) dX7_step_38 rfl lay_7 (by decide) fl7_38 ha rfl rfl (rfl) ?_
        have g1125 : ((-2147483648 : Int) ≤ σ.2.1 58 a ∧ σ.2.1 58 a ≤ 2147483647) := wf_58 hw ha
        refine tn_bipush dX7_step_41 (by decide) ?_
        refine tn_icmp_le (tgt := 53) dX7_step_43 (by decide) ⟨by omega, by omega⟩ ⟨by decide, by decide⟩ (fun h1126 => ?_) (fun h1126 => ?_)
        · refine tn_aload_n dX7_step_53 rfl 2 rfl ?_
          refine tn_dup dX7_step_54 rfl ?_
          refine tn_getI (ci := 7) (i := 12) (n := 67) (t := σ.2.1 67 a) dX7_step_55 rfl lay_7 (by decide) fl7_47 ha rfl rfl (rfl) ?_
          have g1127 : ((-2147483648 : Int) ≤ σ.2.1 67 a ∧ σ.2.1 67 a ≤ 2147483647) := wf_67 hw ha
          refine tn_iconst dX7_step_58 ?_
          refine tn_iadd dX7_step_59 ?_
          rw [show iI ((σ.2.1 67 a) + 1) = iI (w32 ((σ.2.1 67 a) + 1)) from (iI_self _).symm]
          have g1128r : -2147483648 ≤ w32 ((σ.2.1 67 a) + 1) ∧ w32 ((σ.2.1 67 a) + 1) ≤ 2147483647 := inR_toInt _
          refine tn_putV (ci := 7) (i := 12) (n := 67) (r := false) (v := w32 ((σ.2.1 67 a) + 1)) tyX7 tyX7_ok nmX7 dX7_step_60 rfl lay_7 (by decide) fl7_47 rfl (tyX7_ok 12 (by decide)) rfl rfl rfl ha rfl rfl ?_
          refine tn_iload_n dX7_step_63 rfl 1 rfl ?_
          refine tn_iconst dX7_step_64 ?_
          refine tn_iadd dX7_step_65 ?_
          rw [show iI (v11 + 1) = iI (w32 (v11 + 1)) from (iI_self _).symm]
          have g1129r : -2147483648 ≤ w32 (v11 + 1) ∧ w32 (v11 + 1) ≤ 2147483647 := inR_toInt _
          refine tn_istore_n (L' := [(3, .int (iI (w32 (v11 + 1)))), (2, .int (iI v66)), (1, .int (iI v11)), (0, .ref a)]) dX7_step_66 rfl (by decide) rfl ?_
          refine tn_iload_n dX7_step_67 rfl 1 rfl ?_
          by_cases h1130 : v66 < -1 ∨ 15 < v66
          · refine tn_tableOut (tgt := 369) dX7_step_68 (x := v66) ⟨by omega, by omega⟩ h1130 (by decide) ?_
            refine tn_aload_n dX7_step_369 rfl 3 rfl ?_
            refine tn_iload_n dX7_step_370 rfl 2 rfl ?_
            refine tn_iload_n dX7_step_371 rfl 1 rfl ?_
            obtain ⟨hk1133, hl1134⟩ : AR T xe 1 1728 1728 := ar_of (wf_63 hw ha) hxe
            have hk1133i : IA T xe := by unfold IA; omega
            refine tn_callV (M := m_X7_step) (pc := 372) (ix := 129) (ci := 7) (M' := m_X7_reckonAt) (As := [.int (iI v11), .int (iI v66)]) (rest := []) dX7_step_372 ok_X7_reckonAt im_X7_reckonAt se_X7_reckonAt ml7_129 np_X7_reckonAt rfl rfl ha rfl (Nat.le_of_ble_eq_true rfl) (Nat.le_of_ble_eq_true rfl) rfl (k_X7_reckonAt_j (d + 1) (T := T) (σ := (sA 67 a (w32 ((σ.2.1 67 a) + 1)) σ)) (a := a) (k := v11) (e := v66) (xe := xe) ha (by omega) (by omega) (hw.put (by decide) (by decide) (fo_67 (by omega))) (rc_o (by decide) (hxe)) (by rw [show (sA 67 a (w32 ((σ.2.1 67 a) + 1)) σ).2.1 69 a = _ from rc_o (by decide) (hx12)]; omega)) (fun r1135 T1137 σ1136 gt1138 hp => ?_)
            obtain ⟨rfl, rfl, w1142, F1143, f1139, f1140⟩ := hp
            clear gt1138
            show Tn _ _ 375 T σ1136 [(3, .int (iI (w32 (v11 + 1)))), (2, .int (iI v66)), (1, .int (iI v11)), (0, .ref a)] [] _
            refine tn_aload_n dX7_step_375 rfl 3 rfl ?_
            refine tn_getR (ci := 7) (i := 5) (n := 60) (x := xb) dX7_step_376 rfl lay_7 (by decide) fl7_15 ha rfl rfl (rc_F F1143 (Or.inl (by decide)) (by decide) (rc_o (by decide) (hxb))) ?_
            refine tn_aload_n dX7_step_379 rfl 3 rfl ?_
            refine tn_getI (ci := 7) (i := 2) (n := 57) (t := σ.2.1 57 a) dX7_step_380 rfl lay_7 (by decide) fl7_65 ha rfl rfl (rc_F F1143 (Or.inl (by decide)) (by decide) (rc_o (by decide) (rfl))) ?_
            have g1144 : ((0 : Int) ≤ σ.2.1 57 a ∧ σ.2.1 57 a ≤ 11184800) ∧ ((T a).1 = 57 → σ.2.1 57 a ≤ 8) := wf_57 hw ha
            have g1144x := g1144.2
            replace g1144 := g1144.1
            have g1144x := g1144x hta
            refine tn_iload_n dX7_step_383 rfl 0 rfl ?_
            refine tn_callSN (M := m_X7_step) (pc := 384) (ix := 61) (M' := m_X11_put) (As := [.ref xb, .int (iI (σ.2.1 57 a)), .int (iI (w32 (v11 + 1)))]) (rest := []) dX7_step_384 ok_X11_put stt_X11_put nl7_61 np_X11_put rfl (Nat.le_of_ble_eq_true rfl) (Nat.le_of_ble_eq_true rfl) rfl (k_X11_put_x (d + 3) (T := T) (σ := σ1136) (x := xb) (i := σ.2.1 57 a) (y := w32 (v11 + 1)) hk3i (by omega) (by omega) (by omega) w1142 (nh_k hk3 (by unfold HT; omega)) (vok_1 (by have q9 := hk3; omega) (by omega))) (fun r1145 T1147 σ1146 gt1148 hp => ?_)
            obtain ⟨rfl, rfl, w1152, F1153, f1149, f1150⟩ := hp
            clear gt1148
            have je1154 : σ1146 = jP T xb (σ.2.1 57 a) (w32 (v11 + 1)) _ := f1150
            show Tn _ _ 387 T σ1146 [(3, .int (iI (w32 (v11 + 1)))), (2, .int (iI v66)), (1, .int (iI v11)), (0, .ref a)] [] _
            refine tn_iload_n dX7_step_387 rfl 1 rfl ?_
            refine tn_bipush dX7_step_388 (by decide) ?_
            refine tn_icmp_ne (tgt := 397) dX7_step_390 (by decide) ⟨by omega, by omega⟩ ⟨by decide, by decide⟩ (fun h1155 => ?_) (fun h1155 => absurd h1155 (by omega))
            refine tn_iconst dX7_step_397 ?_
            have q1156 : σ1146.2.1 56 a = σ.2.1 56 a := rc_F F1153 (Or.inl (by decide)) (by decide) (rc_F F1143 (Or.inl (by decide)) (by decide) (rc_o (by decide) (rfl)))
            have q1157 : σ1146.2.1 57 a = σ.2.1 57 a := rc_F F1153 (Or.inl (by decide)) (by decide) (rc_F F1143 (Or.inl (by decide)) (by decide) (rc_o (by decide) (rfl)))
            have q1158 : σ1146.2.1 58 a = σ.2.1 58 a := rc_F F1153 (Or.inl (by decide)) (by decide) (rc_F F1143 (Or.inl (by decide)) (by decide) (rc_o (by decide) (rfl)))
            exact tn_zret (v := 0) rfl (by decide) dX7_step_398 ⟨_, rfl, rfl, w1152, (((FrC.rfl.put (by decide) (by decide)).trans (FrC.sub F1143 (by decide))).trans (FrC.sub F1153 (by decide))), by omega, (((CHX.rfl.fld (by simp) (by decide)).trans (CHX.sub f1139 (by simp) (by simp) (by simp))).trans (CHX.sub f1149 (by simp) (by simp) (by simp))), by unfold PIv at *; rw [q1156, q1157, q1158]; omega, ⟨_, v66, f10, Or.inr ⟨xq13, xq55, ⟨hx12, hx56⟩, f65⟩, Or.inr ⟨by omega, Or.inr (Or.inr (Or.inr (Or.inr (Or.inr (Or.inr (Or.inr (Or.inr (Or.inr ((⟨by omega, rfl, _, f1140, je1154⟩))))))))))⟩⟩, (((FA.rfl.put).trans (FA.of F1143 (by decide))).trans (FA.of F1153 (by decide)))⟩
          · have h1159 : v66 = -1 ∨ v66 = 0 ∨ v66 = 1 ∨ v66 = 2 ∨ v66 = 3 ∨ v66 = 4 ∨ v66 = 5 ∨ v66 = 6 ∨ v66 = 7 ∨ v66 = 8 ∨ v66 = 9 ∨ v66 = 10 ∨ v66 = 11 ∨ v66 = 12 ∨ v66 = 13 ∨ v66 = 14 ∨ v66 = 15 := by omega
            rcases h1159 with h1159 | h1159 | h1159 | h1159 | h1159 | h1159 | h1159 | h1159 | h1159 | h1159 | h1159 | h1159 | h1159 | h1159 | h1159 | h1159 | h1159
            · refine tn_tableIn (tgt := 362) (off := 294) dX7_step_68 (x := v66) ⟨by omega, by omega⟩ (by omega) (by omega) (by rw [h1159]; rfl) (by decide) ?_
              refine tn_aload_n dX7_step_362 rfl 3 rfl ?_
              refine tn_iconst dX7_step_363 ?_
              obtain ⟨hk1162, hl1163⟩ : AR T xa 15 9 9 := ar_of (wf_59 hw ha) hxa
              have hk1162i : IA T xa := by unfold IA; omega
              obtain ⟨hl1167, hk1166a, hk1166b⟩ := ex_at (wf_61 hw ha) hxc
              have hk1166 : (T xc).1 = 14 := hk1166a (by omega)
              clear hk1166a hk1166b
              have hk1166i : IA T xc := by unfold IA; omega
              obtain ⟨hk1170, hl1171⟩ : AR T xd 1 108 108 := ar_of (wf_62 hw ha) hxd
              have hk1170i : IA T xd := by unfold IA; omega
              obtain ⟨hk1174, hl1175⟩ : AR T xe 1 1728 1728 := ar_of (wf_63 hw ha) hxe
              have hk1174i : IA T xe := by unfold IA; omega
              obtain ⟨hl1179, hk1178a, hk1178b⟩ := ex_at (wf_55 hw ha) hy
              have hk1178i : (T y).1 = 4 ∨ (T y).1 = 5 := by omega
              have hk1178c : RROW T a y := ⟨hk1178a, hk1178b⟩
              clear hk1178a hk1178b
              refine tn_callV (M := m_X7_step) (pc := 364) (ix := 123) (ci := 7) (M' := m_X7_giveBack) (As := [.int (iI 0)]) (rest := []) dX7_step_364 ok_X7_giveBack im_X7_giveBack se_X7_giveBack ml7_123 np_X7_giveBack rfl rfl ha rfl (Nat.le_of_ble_eq_true rfl) (Nat.le_of_ble_eq_true rfl) rfl (k_X7_giveBack_j57 (d + 1) (T := T) (σ := (sA 67 a (w32 ((σ.2.1 67 a) + 1)) σ)) (a := a) (n := 0) (xa := xa) (xb := xb) (xc := xc) (xd := xd) (xe := xe) (y := y) ha hta (by decide) (hw.put (by decide) (by decide) (fo_67 (by omega))) (rc_o (by decide) (hxa)) (rc_o (by decide) (hxb)) (rc_o (by decide) (hxc)) (rc_o (by decide) (hxd)) (rc_o (by decide) (hxe)) (rc_o (by decide) (hy)) (by rw [show (sA 67 a (w32 ((σ.2.1 67 a) + 1)) σ).2.1 58 a = σ.2.1 58 a from rc_o (by decide) (rfl), show (sA 67 a (w32 ((σ.2.1 67 a) + 1)) σ).2.1 57 a = σ.2.1 57 a from rc_o (by decide) (rfl)]; omega)) (fun r1180 T1182 σ1181 gt1183 hp => ?_)
              obtain ⟨rfl, rfl, w1189, F1190, f1184, f1185, f1186, f1187⟩ := hp
              clear gt1183
              show Tn _ _ 367 T σ1181 [(3, .int (iI (w32 (v11 + 1)))), (2, .int (iI v66)), (1, .int (iI v11)), (0, .ref a)] [] _
              refine tn_iconst dX7_step_367 ?_
              have q1191 : σ1181.2.1 56 a = σ1181.2.1 56 a := rfl
              have q1192 : σ1181.2.1 57 a = σ1181.2.1 57 a := rfl
              have q1193 : σ1181.2.1 58 a = σ1181.2.1 58 a := rfl
              exact tn_zret (v := 0) rfl (by decide) dX7_step_368 ⟨_, rfl, rfl, w1189, ((FrC.rfl.put (by decide) (by decide)).trans (FrC.sub F1190 (by decide))), by omega, ((CHX.rfl.fld (by simp) (by decide)).trans (CHX.sub f1184 (by simp) (by simp) (by simp))), by unfold PIv at *; rw [q1191, q1192, q1193]; omega, ⟨_, v66, f10, Or.inr ⟨xq13, xq55, ⟨hx12, hx56⟩, f65⟩, Or.inr ⟨by omega, Or.inr (Or.inr (Or.inr (Or.inr (Or.inr (Or.inr (Or.inr (Or.inr (Or.inl (⟨by omega, rfl, f1186⟩)))))))))⟩⟩, ((FA.rfl.put).trans f1187)⟩
            · refine tn_tableIn (tgt := 369) (off := 301) dX7_step_68 (x := v66) ⟨by omega, by omega⟩ (by omega) (by omega) (by rw [h1159]; rfl) (by decide) ?_
              refine tn_aload_n dX7_step_369 rfl 3 rfl ?_
              refine tn_iload_n dX7_step_370 rfl 2 rfl ?_
              refine tn_iload_n dX7_step_371 rfl 1 rfl ?_
              obtain ⟨hk1196, hl1197⟩ : AR T xe 1 1728 1728 := ar_of (wf_63 hw ha) hxe
              have hk1196i : IA T xe := by unfold IA; omega
              refine tn_callV (M := m_X7_step) (pc := 372) (ix := 129) (ci := 7) (M' := m_X7_reckonAt) (As := [.int (iI v11), .int (iI v66)]) (rest := []) dX7_step_372 ok_X7_reckonAt im_X7_reckonAt se_X7_reckonAt ml7_129 np_X7_reckonAt rfl rfl ha rfl (Nat.le_of_ble_eq_true rfl) (Nat.le_of_ble_eq_true rfl) rfl (k_X7_reckonAt_j (d + 1) (T := T) (σ := (sA 67 a (w32 ((σ.2.1 67 a) + 1)) σ)) (a := a) (k := v11) (e := v66) (xe := xe) ha (by omega) (by omega) (hw.put (by decide) (by decide) (fo_67 (by omega))) (rc_o (by decide) (hxe)) (by rw [show (sA 67 a (w32 ((σ.2.1 67 a) + 1)) σ).2.1 69 a = _ from rc_o (by decide) (hx12)]; omega)) (fun r1198 T1200 σ1199 gt1201 hp => ?_)
              obtain ⟨rfl, rfl, w1205, F1206, f1202, f1203⟩ := hp
              clear gt1201
              show Tn _ _ 375 T σ1199 [(3, .int (iI (w32 (v11 + 1)))), (2, .int (iI v66)), (1, .int (iI v11)), (0, .ref a)] [] _
              refine tn_aload_n dX7_step_375 rfl 3 rfl ?_
              refine tn_getR (ci := 7) (i := 5) (n := 60) (x := xb) dX7_step_376 rfl lay_7 (by decide) fl7_15 ha rfl rfl (rc_F F1206 (Or.inl (by decide)) (by decide) (rc_o (by decide) (hxb))) ?_
              refine tn_aload_n dX7_step_379 rfl 3 rfl ?_
              refine tn_getI (ci := 7) (i := 2) (n := 57) (t := σ.2.1 57 a) dX7_step_380 rfl lay_7 (by decide) fl7_65 ha rfl rfl (rc_F F1206 (Or.inl (by decide)) (by decide) (rc_o (by decide) (rfl))) ?_
              have g1207 : ((0 : Int) ≤ σ.2.1 57 a ∧ σ.2.1 57 a ≤ 11184800) ∧ ((T a).1 = 57 → σ.2.1 57 a ≤ 8) := wf_57 hw ha
              have g1207x := g1207.2
              replace g1207 := g1207.1
              have g1207x := g1207x hta
              refine tn_iload_n dX7_step_383 rfl 0 rfl ?_
              refine tn_callSN (M := m_X7_step) (pc := 384) (ix := 61) (M' := m_X11_put) (As := [.ref xb, .int (iI (σ.2.1 57 a)), .int (iI (w32 (v11 + 1)))]) (rest := []) dX7_step_384 ok_X11_put stt_X11_put nl7_61 np_X11_put rfl (Nat.le_of_ble_eq_true rfl) (Nat.le_of_ble_eq_true rfl) rfl (k_X11_put_x (d + 3) (T := T) (σ := σ1199) (x := xb) (i := σ.2.1 57 a) (y := w32 (v11 + 1)) hk3i (by omega) (by omega) (by omega) w1205 (nh_k hk3 (by unfold HT; omega)) (vok_1 (by have q9 := hk3; omega) (by omega))) (fun r1208 T1210 σ1209 gt1211 hp => ?_)
              obtain ⟨rfl, rfl, w1215, F1216, f1212, f1213⟩ := hp
              clear gt1211
              have je1217 : σ1209 = jP T xb (σ.2.1 57 a) (w32 (v11 + 1)) _ := f1213
              show Tn _ _ 387 T σ1209 [(3, .int (iI (w32 (v11 + 1)))), (2, .int (iI v66)), (1, .int (iI v11)), (0, .ref a)] [] _
              refine tn_iload_n dX7_step_387 rfl 1 rfl ?_
              refine tn_bipush dX7_step_388 (by decide) ?_
              refine tn_icmp_ne (tgt := 397) dX7_step_390 (by decide) ⟨by omega, by omega⟩ ⟨by decide, by decide⟩ (fun h1218 => ?_) (fun h1218 => absurd h1218 (by omega))
              refine tn_iconst dX7_step_397 ?_
              have q1219 : σ1209.2.1 56 a = σ.2.1 56 a := rc_F F1216 (Or.inl (by decide)) (by decide) (rc_F F1206 (Or.inl (by decide)) (by decide) (rc_o (by decide) (rfl)))
              have q1220 : σ1209.2.1 57 a = σ.2.1 57 a := rc_F F1216 (Or.inl (by decide)) (by decide) (rc_F F1206 (Or.inl (by decide)) (by decide) (rc_o (by decide) (rfl)))
              have q1221 : σ1209.2.1 58 a = σ.2.1 58 a := rc_F F1216 (Or.inl (by decide)) (by decide) (rc_F F1206 (Or.inl (by decide)) (by decide) (rc_o (by decide) (rfl)))
              exact tn_zret (v := 0) rfl (by decide) dX7_step_398 ⟨_, rfl, rfl, w1215, (((FrC.rfl.put (by decide) (by decide)).trans (FrC.sub F1206 (by decide))).trans (FrC.sub F1216 (by decide))), by omega, (((CHX.rfl.fld (by simp) (by decide)).trans (CHX.sub f1202 (by simp) (by simp) (by simp))).trans (CHX.sub f1212 (by simp) (by simp) (by simp))), by unfold PIv at *; rw [q1219, q1220, q1221]; omega, ⟨_, v66, f10, Or.inr ⟨xq13, xq55, ⟨hx12, hx56⟩, f65⟩, Or.inr ⟨by omega, Or.inr (Or.inr (Or.inr (Or.inr (Or.inr (Or.inr (Or.inr (Or.inr (Or.inr ((⟨by omega, rfl, _, f1203, je1217⟩))))))))))⟩⟩, (((FA.rfl.put).trans (FA.of F1206 (by decide))).trans (FA.of F1216 (by decide)))⟩
            · refine tn_tableIn (tgt := 369) (off := 301) dX7_step_68 (x := v66) ⟨by omega, by omega⟩ (by omega) (by omega) (by rw [h1159]; rfl) (by decide) ?_
              refine tn_aload_n dX7_step_369 rfl 3 rfl ?_
              refine tn_iload_n dX7_step_370 rfl 2 rfl ?_
              refine tn_iload_n dX7_step_371 rfl 1 rfl ?_
              obtain ⟨hk1224, hl1225⟩ : AR T xe 1 1728 1728 := ar_of (wf_63 hw ha) hxe
              have hk1224i : IA T xe := by unfold IA; omega
              refine tn_callV (M := m_X7_step) (pc := 372) (ix := 129) (ci := 7) (M' := m_X7_reckonAt) (As := [.int (iI v11), .int (iI v66)]) (rest := []) dX7_step_372 ok_X7_reckonAt im_X7_reckonAt se_X7_reckonAt ml7_129 np_X7_reckonAt rfl rfl ha rfl (Nat.le_of_ble_eq_true rfl) (Nat.le_of_ble_eq_true rfl) rfl (k_X7_reckonAt_j (d + 1) (T := T) (σ := (sA 67 a (w32 ((σ.2.1 67 a) + 1)) σ)) (a := a) (k := v11) (e := v66) (xe := xe) ha (by omega) (by omega) (hw.put (by decide) (by decide) (fo_67 (by omega))) (rc_o (by decide) (hxe)) (by rw [show (sA 67 a (w32 ((σ.2.1 67 a) + 1)) σ).2.1 69 a = _ from rc_o (by decide) (hx12)]; omega)) (fun r1226 T1228 σ1227 gt1229 hp => ?_)
              obtain ⟨rfl, rfl, w1233, F1234, f1230, f1231⟩ := hp
              clear gt1229
              show Tn _ _ 375 T σ1227 [(3, .int (iI (w32 (v11 + 1)))), (2, .int (iI v66)), (1, .int (iI v11)), (0, .ref a)] [] _
              refine tn_aload_n dX7_step_375 rfl 3 rfl ?_
              refine tn_getR (ci := 7) (i := 5) (n := 60) (x := xb) dX7_step_376 rfl lay_7 (by decide) fl7_15 ha rfl rfl (rc_F F1234 (Or.inl (by decide)) (by decide) (rc_o (by decide) (hxb))) ?_
              refine tn_aload_n dX7_step_379 rfl 3 rfl ?_
              refine tn_getI (ci := 7) (i := 2) (n := 57) (t := σ.2.1 57 a) dX7_step_380 rfl lay_7 (by decide) fl7_65 ha rfl rfl (rc_F F1234 (Or.inl (by decide)) (by decide) (rc_o (by decide) (rfl))) ?_
              have g1235 : ((0 : Int) ≤ σ.2.1 57 a ∧ σ.2.1 57 a ≤ 11184800) ∧ ((T a).1 = 57 → σ.2.1 57 a ≤ 8) := wf_57 hw ha
              have g1235x := g1235.2
              replace g1235 := g1235.1
              have g1235x := g1235x hta
              refine tn_iload_n dX7_step_383 rfl 0 rfl ?_
              refine tn_callSN (M := m_X7_step) (pc := 384) (ix := 61) (M' := m_X11_put) (As := [.ref xb, .int (iI (σ.2.1 57 a)), .int (iI (w32 (v11 + 1)))]) (rest := []) dX7_step_384 ok_X11_put stt_X11_put nl7_61 np_X11_put rfl (Nat.le_of_ble_eq_true rfl) (Nat.le_of_ble_eq_true rfl) rfl (k_X11_put_x (d + 3) (T := T) (σ := σ1227) (x := xb) (i := σ.2.1 57 a) (y := w32 (v11 + 1)) hk3i (by omega) (by omega) (by omega) w1233 (nh_k hk3 (by unfold HT; omega)) (vok_1 (by have q9 := hk3; omega) (by omega))) (fun r1236 T1238 σ1237 gt1239 hp => ?_)
              obtain ⟨rfl, rfl, w1243, F1244, f1240, f1241⟩ := hp
              clear gt1239
              have je1245 : σ1237 = jP T xb (σ.2.1 57 a) (w32 (v11 + 1)) _ := f1241
              show Tn _ _ 387 T σ1237 [(3, .int (iI (w32 (v11 + 1)))), (2, .int (iI v66)), (1, .int (iI v11)), (0, .ref a)] [] _
              refine tn_iload_n dX7_step_387 rfl 1 rfl ?_
              refine tn_bipush dX7_step_388 (by decide) ?_
              refine tn_icmp_ne (tgt := 397) dX7_step_390 (by decide) ⟨by omega, by omega⟩ ⟨by decide, by decide⟩ (fun h1246 => ?_) (fun h1246 => absurd h1246 (by omega))
              refine tn_iconst dX7_step_397 ?_
              have q1247 : σ1237.2.1 56 a = σ.2.1 56 a := rc_F F1244 (Or.inl (by decide)) (by decide) (rc_F F1234 (Or.inl (by decide)) (by decide) (rc_o (by decide) (rfl)))
              have q1248 : σ1237.2.1 57 a = σ.2.1 57 a := rc_F F1244 (Or.inl (by decide)) (by decide) (rc_F F1234 (Or.inl (by decide)) (by decide) (rc_o (by decide) (rfl)))
              have q1249 : σ1237.2.1 58 a = σ.2.1 58 a := rc_F F1244 (Or.inl (by decide)) (by decide) (rc_F F1234 (Or.inl (by decide)) (by decide) (rc_o (by decide) (rfl)))
              exact tn_zret (v := 0) rfl (by decide) dX7_step_398 ⟨_, rfl, rfl, w1243, (((FrC.rfl.put (by decide) (by decide)).trans (FrC.sub F1234 (by decide))).trans (FrC.sub F1244 (by decide))), by omega, (((CHX.rfl.fld (by simp) (by decide)).trans (CHX.sub f1230 (by simp) (by simp) (by simp))).trans (CHX.sub f1240 (by simp) (by simp) (by simp))), by unfold PIv at *; rw [q1247, q1248, q1249]; omega, ⟨_, v66, f10, Or.inr ⟨xq13, xq55, ⟨hx12, hx56⟩, f65⟩, Or.inr ⟨by omega, Or.inr (Or.inr (Or.inr (Or.inr (Or.inr (Or.inr (Or.inr (Or.inr (Or.inr ((⟨by omega, rfl, _, f1231, je1245⟩))))))))))⟩⟩, (((FA.rfl.put).trans (FA.of F1234 (by decide))).trans (FA.of F1244 (by decide)))⟩
            · refine tn_tableIn (tgt := 369) (off := 301) dX7_step_68 (x := v66) ⟨by omega, by omega⟩ (by omega) (by omega) (by rw [h1159]; rfl) (by decide) ?_
              refine tn_aload_n dX7_step_369 rfl 3 rfl ?_
              refine tn_iload_n dX7_step_370 rfl 2 rfl ?_
              refine tn_iload_n dX7_step_371 rfl 1 rfl ?_
              obtain ⟨hk1252, hl1253⟩ : AR T xe 1 1728 1728 := ar_of (wf_63 hw ha) hxe
              have hk1252i : IA T xe := by unfold IA; omega
              refine tn_callV (M := m_X7_step) (pc := 372) (ix := 129) (ci := 7) (M' := m_X7_reckonAt) (As := [.int (iI v11), .int (iI v66)]) (rest := []) dX7_step_372 ok_X7_reckonAt im_X7_reckonAt se_X7_reckonAt ml7_129 np_X7_reckonAt rfl rfl ha rfl (Nat.le_of_ble_eq_true rfl) (Nat.le_of_ble_eq_true rfl) rfl (k_X7_reckonAt_j (d + 1) (T := T) (σ := (sA 67 a (w32 ((σ.2.1 67 a) + 1)) σ)) (a := a) (k := v11) (e := v66) (xe := xe) ha (by omega) (by omega) (hw.put (by decide) (by decide) (fo_67 (by omega))) (rc_o (by decide) (hxe)) (by rw [show (sA 67 a (w32 ((σ.2.1 67 a) + 1)) σ).2.1 69 a = _ from rc_o (by decide) (hx12)]; omega)) (fun r1254 T1256 σ1255 gt1257 hp => ?_)
              obtain ⟨rfl, rfl, w1261, F1262, f1258, f1259⟩ := hp
              clear gt1257
              show Tn _ _ 375 T σ1255 [(3, .int (iI (w32 (v11 + 1)))), (2, .int (iI v66)), (1, .int (iI v11)), (0, .ref a)] [] _
              refine tn_aload_n dX7_step_375 rfl 3 rfl ?_
              refine tn_getR (ci := 7) (i := 5) (n := 60) (x := xb) dX7_step_376 rfl lay_7 (by decide) fl7_15 ha rfl rfl (rc_F F1262 (Or.inl (by decide)) (by decide) (rc_o (by decide) (hxb))) ?_
              refine tn_aload_n dX7_step_379 rfl 3 rfl ?_
              refine tn_getI (ci := 7) (i := 2) (n := 57) (t := σ.2.1 57 a) dX7_step_380 rfl lay_7 (by decide) fl7_65 ha rfl rfl (rc_F F1262 (Or.inl (by decide)) (by decide) (rc_o (by decide) (rfl))) ?_
              have g1263 : ((0 : Int) ≤ σ.2.1 57 a ∧ σ.2.1 57 a ≤ 11184800) ∧ ((T a).1 = 57 → σ.2.1 57 a ≤ 8) := wf_57 hw ha
              have g1263x := g1263.2
              replace g1263 := g1263.1
              have g1263x := g1263x hta
              refine tn_iload_n dX7_step_383 rfl 0 rfl ?_
              refine tn_callSN (M := m_X7_step) (pc := 384) (ix := 61) (M' := m_X11_put) (As := [.ref xb, .int (iI (σ.2.1 57 a)), .int (iI (w32 (v11 + 1)))]) (rest := []) dX7_step_384 ok_X11_put stt_X11_put nl7_61 np_X11_put rfl (Nat.le_of_ble_eq_true rfl) (Nat.le_of_ble_eq_true rfl) rfl (k_X11_put_x (d + 3) (T := T) (σ := σ1255) (x := xb) (i := σ.2.1 57 a) (y := w32 (v11 + 1)) hk3i (by omega) (by omega) (by omega) w1261 (nh_k hk3 (by unfold HT; omega)) (vok_1 (by have q9 := hk3; omega) (by omega))) (fun r1264 T1266 σ1265 gt1267 hp => ?_)
              obtain ⟨rfl, rfl, w1271, F1272, f1268, f1269⟩ := hp
              clear gt1267
              have je1273 : σ1265 = jP T xb (σ.2.1 57 a) (w32 (v11 + 1)) _ := f1269
              show Tn _ _ 387 T σ1265 [(3, .int (iI (w32 (v11 + 1)))), (2, .int (iI v66)), (1, .int (iI v11)), (0, .ref a)] [] _
              refine tn_iload_n dX7_step_387 rfl 1 rfl ?_
              refine tn_bipush dX7_step_388 (by decide) ?_
              refine tn_icmp_ne (tgt := 397) dX7_step_390 (by decide) ⟨by omega, by omega⟩ ⟨by decide, by decide⟩ (fun h1274 => ?_) (fun h1274 => absurd h1274 (by omega))
              refine tn_iconst dX7_step_397 ?_
              have q1275 : σ1265.2.1 56 a = σ.2.1 56 a := rc_F F1272 (Or.inl (by decide)) (by decide) (rc_F F1262 (Or.inl (by decide)) (by decide) (rc_o (by decide) (rfl)))
              have q1276 : σ1265.2.1 57 a = σ.2.1 57 a := rc_F F1272 (Or.inl (by decide)) (by decide) (rc_F F1262 (Or.inl (by decide)) (by decide) (rc_o (by decide) (rfl)))
              have q1277 : σ1265.2.1 58 a = σ.2.1 58 a := rc_F F1272 (Or.inl (by decide)) (by decide) (rc_F F1262 (Or.inl (by decide)) (by decide) (rc_o (by decide) (rfl)))
              exact tn_zret (v := 0) rfl (by decide) dX7_step_398 ⟨_, rfl, rfl, w1271, (((FrC.rfl.put (by decide) (by decide)).trans (FrC.sub F1262 (by decide))).trans (FrC.sub F1272 (by decide))), by omega, (((CHX.rfl.fld (by simp) (by decide)).trans (CHX.sub f1258 (by simp) (by simp) (by simp))).trans (CHX.sub f1268 (by simp) (by simp) (by simp))), by unfold PIv at *; rw [q1275, q1276, q1277]; omega, ⟨_, v66, f10, Or.inr ⟨xq13, xq55, ⟨hx12, hx56⟩, f65⟩, Or.inr ⟨by omega, Or.inr (Or.inr (Or.inr (Or.inr (Or.inr (Or.inr (Or.inr (Or.inr (Or.inr ((⟨by omega, rfl, _, f1259, je1273⟩))))))))))⟩⟩, (((FA.rfl.put).trans (FA.of F1262 (by decide))).trans (FA.of F1272 (by decide)))⟩
            · refine tn_tableIn (tgt := 369) (off := 301) dX7_step_68 (x := v66) ⟨by omega, by omega⟩ (by omega) (by omega) (by rw [h1159]; rfl) (by decide) ?_
              refine tn_aload_n dX7_step_369 rfl 3 rfl ?_
              refine tn_iload_n dX7_step_370 rfl 2 rfl ?_
              refine tn_iload_n dX7_step_371 rfl 1 rfl ?_
              obtain ⟨hk1280, hl1281⟩ : AR T xe 1 1728 1728 := ar_of (wf_63 hw ha) hxe
              have hk1280i : IA T xe := by unfold IA; omega
              refine tn_callV (M := m_X7_step) (pc := 372) (ix := 129) (ci := 7) (M' := m_X7_reckonAt) (As := [.int (iI v11), .int (iI v66)]) (rest := []) dX7_step_372 ok_X7_reckonAt im_X7_reckonAt se_X7_reckonAt ml7_129 np_X7_reckonAt rfl rfl ha rfl (Nat.le_of_ble_eq_true rfl) (Nat.le_of_ble_eq_true rfl) rfl (k_X7_reckonAt_j (d + 1) (T := T) (σ := (sA 67 a (w32 ((σ.2.1 67 a) + 1)) σ)) (a := a) (k := v11) (e := v66) (xe := xe) ha (by omega) (by omega) (hw.put (by decide) (by decide) (fo_67 (by omega))) (rc_o (by decide) (hxe)) (by rw [show (sA 67 a (w32 ((σ.2.1 67 a) + 1)) σ).2.1 69 a = _ from rc_o (by decide) (hx12)]; omega)) (fun r1282 T1284 σ1283 gt1285 hp => ?_)
              obtain ⟨rfl, rfl, w1289, F1290, f1286, f1287⟩ := hp
              clear gt1285
              show Tn _ _ 375 T σ1283 [(3, .int (iI (w32 (v11 + 1)))), (2, .int (iI v66)), (1, .int (iI v11)), (0, .ref a)] [] _
              refine tn_aload_n dX7_step_375 rfl 3 rfl ?_
              refine tn_getR (ci := 7) (i := 5) (n := 60) (x := xb) dX7_step_376 rfl lay_7 (by decide) fl7_15 ha rfl rfl (rc_F F1290 (Or.inl (by decide)) (by decide) (rc_o (by decide) (hxb))) ?_
              refine tn_aload_n dX7_step_379 rfl 3 rfl ?_
              refine tn_getI (ci := 7) (i := 2) (n := 57) (t := σ.2.1 57 a) dX7_step_380 rfl lay_7 (by decide) fl7_65 ha rfl rfl (rc_F F1290 (Or.inl (by decide)) (by decide) (rc_o (by decide) (rfl))) ?_
              have g1291 : ((0 : Int) ≤ σ.2.1 57 a ∧ σ.2.1 57 a ≤ 11184800) ∧ ((T a).1 = 57 → σ.2.1 57 a ≤ 8) := wf_57 hw ha
              have g1291x := g1291.2
              replace g1291 := g1291.1
              have g1291x := g1291x hta
              refine tn_iload_n dX7_step_383 rfl 0 rfl ?_
              refine tn_callSN (M := m_X7_step) (pc := 384) (ix := 61) (M' := m_X11_put) (As := [.ref xb, .int (iI (σ.2.1 57 a)), .int (iI (w32 (v11 + 1)))]) (rest := []) dX7_step_384 ok_X11_put stt_X11_put nl7_61 np_X11_put rfl (Nat.le_of_ble_eq_true rfl) (Nat.le_of_ble_eq_true rfl) rfl (k_X11_put_x (d + 3) (T := T) (σ := σ1283) (x := xb) (i := σ.2.1 57 a) (y := w32 (v11 + 1)) hk3i (by omega) (by omega) (by omega) w1289 (nh_k hk3 (by unfold HT; omega)) (vok_1 (by have q9 := hk3; omega) (by omega))) (fun r1292 T1294 σ1293 gt1295 hp => ?_)
              obtain ⟨rfl, rfl, w1299, F1300, f1296, f1297⟩ := hp
              clear gt1295
              have je1301 : σ1293 = jP T xb (σ.2.1 57 a) (w32 (v11 + 1)) _ := f1297
              show Tn _ _ 387 T σ1293 [(3, .int (iI (w32 (v11 + 1)))), (2, .int (iI v66)), (1, .int (iI v11)), (0, .ref a)] [] _
              refine tn_iload_n dX7_step_387 rfl 1 rfl ?_
              refine tn_bipush dX7_step_388 (by decide) ?_
              refine tn_icmp_ne (tgt := 397) dX7_step_390 (by decide) ⟨by omega, by omega⟩ ⟨by decide, by decide⟩ (fun h1302 => ?_) (fun h1302 => absurd h1302 (by omega))
              refine tn_iconst dX7_step_397 ?_
              have q1303 : σ1293.2.1 56 a = σ.2.1 56 a := rc_F F1300 (Or.inl (by decide)) (by decide) (rc_F F1290 (Or.inl (by decide)) (by decide) (rc_o (by decide) (rfl)))
              have q1304 : σ1293.2.1 57 a = σ.2.1 57 a := rc_F F1300 (Or.inl (by decide)) (by decide) (rc_F F1290 (Or.inl (by decide)) (by decide) (rc_o (by decide) (rfl)))
              have q1305 : σ1293.2.1 58 a = σ.2.1 58 a := rc_F F1300 (Or.inl (by decide)) (by decide) (rc_F F1290 (Or.inl (by decide)) (by decide) (rc_o (by decide) (rfl)))
              exact tn_zret (v := 0) rfl (by decide) dX7_step_398 ⟨_, rfl, rfl, w1299, (((FrC.rfl.put (by decide) (by decide)).trans (FrC.sub F1290 (by decide))).trans (FrC.sub F1300 (by decide))), by omega, (((CHX.rfl.fld (by simp) (by decide)).trans (CHX.sub f1286 (by simp) (by simp) (by simp))).trans (CHX.sub f1296 (by simp) (by simp) (by simp))), by unfold PIv at *; rw [q1303, q1304, q1305]; omega, ⟨_, v66, f10, Or.inr ⟨xq13, xq55, ⟨hx12, hx56⟩, f65⟩, Or.inr ⟨by omega, Or.inr (Or.inr (Or.inr (Or.inr (Or.inr (Or.inr (Or.inr (Or.inr (Or.inr ((⟨by omega, rfl, _, f1287, je1301⟩))))))))))⟩⟩, (((FA.rfl.put).trans (FA.of F1290 (by decide))).trans (FA.of F1300 (by decide)))⟩
            · refine tn_tableIn (tgt := 369) (off := 301) dX7_step_68 (x := v66) ⟨by omega, by omega⟩ (by omega) (by omega) (by rw [h1159]; rfl) (by decide) ?_
              refine tn_aload_n dX7_step_369 rfl 3 rfl ?_
              refine tn_iload_n dX7_step_370 rfl 2 rfl ?_
              refine tn_iload_n dX7_step_371 rfl 1 rfl ?_
              obtain ⟨hk1308, hl1309⟩ : AR T xe 1 1728 1728 := ar_of (wf_63 hw ha) hxe
              have hk1308i : IA T xe := by unfold IA; omega
              refine tn_callV (M := m_X7_step) (pc := 372) (ix := 129) (ci := 7) (M' := m_X7_reckonAt) (As := [.int (iI v11), .int (iI v66)]) (rest := []) dX7_step_372 ok_X7_reckonAt im_X7_reckonAt se_X7_reckonAt ml7_129 np_X7_reckonAt rfl rfl ha rfl (Nat.le_of_ble_eq_true rfl) (Nat.le_of_ble_eq_true rfl) rfl (k_X7_reckonAt_j (d + 1) (T := T) (σ := (sA 67 a (w32 ((σ.2.1 67 a) + 1)) σ)) (a := a) (k := v11) (e := v66) (xe := xe) ha (by omega) (by omega) (hw.put (by decide) (by decide) (fo_67 (by omega))) (rc_o (by decide) (hxe)) (by rw [show (sA 67 a (w32 ((σ.2.1 67 a) + 1)) σ).2.1 69 a = _ from rc_o (by decide) (hx12)]; omega)) (fun r1310 T1312 σ1311 gt1313 hp => ?_)
              obtain ⟨rfl, rfl, w1317, F1318, f1314, f1315⟩ := hp
              clear gt1313
              show Tn _ _ 375 T σ1311 [(3, .int (iI (w32 (v11 + 1)))), (2, .int (iI v66)), (1, .int (iI v11)), (0, .ref a)] [] _
              refine tn_aload_n dX7_step_375 rfl 3 rfl ?_
              refine tn_getR (ci := 7) (i := 5) (n := 60) (x := xb) dX7_step_376 rfl lay_7 (by decide) fl7_15 ha rfl rfl (rc_F F1318 (Or.inl (by decide)) (by decide) (rc_o (by decide) (hxb))) ?_
              refine tn_aload_n dX7_step_379 rfl 3 rfl ?_
              refine tn_getI (ci := 7) (i := 2) (n := 57) (t := σ.2.1 57 a) dX7_step_380 rfl lay_7 (by decide) fl7_65 ha rfl rfl (rc_F F1318 (Or.inl (by decide)) (by decide) (rc_o (by decide) (rfl))) ?_
              have g1319 : ((0 : Int) ≤ σ.2.1 57 a ∧ σ.2.1 57 a ≤ 11184800) ∧ ((T a).1 = 57 → σ.2.1 57 a ≤ 8) := wf_57 hw ha
              have g1319x := g1319.2
              replace g1319 := g1319.1
              have g1319x := g1319x hta
              refine tn_iload_n dX7_step_383 rfl 0 rfl ?_
              refine tn_callSN (M := m_X7_step) (pc := 384) (ix := 61) (M' := m_X11_put) (As := [.ref xb, .int (iI (σ.2.1 57 a)), .int (iI (w32 (v11 + 1)))]) (rest := []) dX7_step_384 ok_X11_put stt_X11_put nl7_61 np_X11_put rfl (Nat.le_of_ble_eq_true rfl) (Nat.le_of_ble_eq_true rfl) rfl (k_X11_put_x (d + 3) (T := T) (σ := σ1311) (x := xb) (i := σ.2.1 57 a) (y := w32 (v11 + 1)) hk3i (by omega) (by omega) (by omega) w1317 (nh_k hk3 (by unfold HT; omega)) (vok_1 (by have q9 := hk3; omega) (by omega))) (fun r1320 T1322 σ1321 gt1323 hp => ?_)
              obtain ⟨rfl, rfl, w1327, F1328, f1324, f1325⟩ := hp
              clear gt1323
              have je1329 : σ1321 = jP T xb (σ.2.1 57 a) (w32 (v11 + 1)) _ := f1325
              show Tn _ _ 387 T σ1321 [(3, .int (iI (w32 (v11 + 1)))), (2, .int (iI v66)), (1, .int (iI v11)), (0, .ref a)] [] _
              refine tn_iload_n dX7_step_387 rfl 1 rfl ?_
              refine tn_bipush dX7_step_388 (by decide) ?_
              refine tn_icmp_ne (tgt := 397) dX7_step_390 (by decide) ⟨by omega, by omega⟩ ⟨by decide, by decide⟩ (fun h1330 => ?_) (fun h1330 => absurd h1330 (by omega))
              refine tn_iconst dX7_step_397 ?_
              have q1331 : σ1321.2.1 56 a = σ.2.1 56 a := rc_F F1328 (Or.inl (by decide)) (by decide) (rc_F F1318 (Or.inl (by decide)) (by decide) (rc_o (by decide) (rfl)))
              have q1332 : σ1321.2.1 57 a = σ.2.1 57 a := rc_F F1328 (Or.inl (by decide)) (by decide) (rc_F F1318 (Or.inl (by decide)) (by decide) (rc_o (by decide) (rfl)))
              have q1333 : σ1321.2.1 58 a = σ.2.1 58 a := rc_F F1328 (Or.inl (by decide)) (by decide) (rc_F F1318 (Or.inl (by decide)) (by decide) (rc_o (by decide) (rfl)))
              exact tn_zret (v := 0) rfl (by decide) dX7_step_398 ⟨_, rfl, rfl, w1327, (((FrC.rfl.put (by decide) (by decide)).trans (FrC.sub F1318 (by decide))).trans (FrC.sub F1328 (by decide))), by omega, (((CHX.rfl.fld (by simp) (by decide)).trans (CHX.sub f1314 (by simp) (by simp) (by simp))).trans (CHX.sub f1324 (by simp) (by simp) (by simp))), by unfold PIv at *; rw [q1331, q1332, q1333]; omega, ⟨_, v66, f10, Or.inr ⟨xq13, xq55, ⟨hx12, hx56⟩, f65⟩, Or.inr ⟨by omega, Or.inr (Or.inr (Or.inr (Or.inr (Or.inr (Or.inr (Or.inr (Or.inr (Or.inr ((⟨by omega, rfl, _, f1315, je1329⟩))))))))))⟩⟩, (((FA.rfl.put).trans (FA.of F1318 (by decide))).trans (FA.of F1328 (by decide)))⟩
            · refine tn_tableIn (tgt := 369) (off := 301) dX7_step_68 (x := v66) ⟨by omega, by omega⟩ (by omega) (by omega) (by rw [h1159]; rfl) (by decide) ?_
              refine tn_aload_n dX7_step_369 rfl 3 rfl ?_
              refine tn_iload_n dX7_step_370 rfl 2 rfl ?_
              refine tn_iload_n dX7_step_371 rfl 1 rfl ?_
              obtain ⟨hk1336, hl1337⟩ : AR T xe 1 1728 1728 := ar_of (wf_63 hw ha) hxe
              have hk1336i : IA T xe := by unfold IA; omega
              refine tn_callV (M := m_X7_step) (pc := 372) (ix := 129) (ci := 7) (M' := m_X7_reckonAt) (As := [.int (iI v11), .int (iI v66)]) (rest := []) dX7_step_372 ok_X7_reckonAt im_X7_reckonAt se_X7_reckonAt ml7_129 np_X7_reckonAt rfl rfl ha rfl (Nat.le_of_ble_eq_true rfl) (Nat.le_of_ble_eq_true rfl) rfl (k_X7_reckonAt_j (d + 1) (T := T) (σ := (sA 67 a (w32 ((σ.2.1 67 a) + 1)) σ)) (a := a) (k := v11) (e := v66) (xe := xe) ha (by omega) (by omega) (hw.put (by decide) (by decide) (fo_67 (by omega))) (rc_o (by decide) (hxe)) (by rw [show (sA 67 a (w32 ((σ.2.1 67 a) + 1)) σ).2.1 69 a = _ from rc_o (by decide) (hx12)]; omega)) (fun r1338 T1340 σ1339 gt1341 hp => ?_)
              obtain ⟨rfl, rfl, w1345, F1346, f1342, f1343⟩ := hp
              clear gt1341
              show Tn _ _ 375 T σ1339 [(3, .int (iI (w32 (v11 + 1)))), (2, .int (iI v66)), (1, .int (iI v11)), (0, .ref a)] [] _
              refine tn_aload_n dX7_step_375 rfl 3 rfl ?_
              refine tn_getR (ci := 7) (i := 5) (n := 60) (x := xb) dX7_step_376 rfl lay_7 (by decide) fl7_15 ha rfl rfl (rc_F F1346 (Or.inl (by decide)) (by decide) (rc_o (by decide) (hxb))) ?_
              refine tn_aload_n dX7_step_379 rfl 3 rfl ?_
              refine tn_getI (ci := 7) (i := 2) (n := 57) (t := σ.2.1 57 a) dX7_step_380 rfl lay_7 (by decide) fl7_65 ha rfl rfl (rc_F F1346 (Or.inl (by decide)) (by decide) (rc_o (by decide) (rfl))) ?_
              have g1347 : ((0 : Int) ≤ σ.2.1 57 a ∧ σ.2.1 57 a ≤ 11184800) ∧ ((T a).1 = 57 → σ.2.1 57 a ≤ 8) := wf_57 hw ha
              have g1347x := g1347.2
              replace g1347 := g1347.1
              have g1347x := g1347x hta
              refine tn_iload_n dX7_step_383 rfl 0 rfl ?_
              refine tn_callSN (M := m_X7_step) (pc := 384) (ix := 61) (M' := m_X11_put) (As := [.ref xb, .int (iI (σ.2.1 57 a)), .int (iI (w32 (v11 + 1)))]) (rest := []) dX7_step_384 ok_X11_put stt_X11_put nl7_61 np_X11_put rfl (Nat.le_of_ble_eq_true rfl) (Nat.le_of_ble_eq_true rfl) rfl (k_X11_put_x (d + 3) (T := T) (σ := σ1339) (x := xb) (i := σ.2.1 57 a) (y := w32 (v11 + 1)) hk3i (by omega) (by omega) (by omega) w1345 (nh_k hk3 (by unfold HT; omega)) (vok_1 (by have q9 := hk3; omega) (by omega))) (fun r1348 T1350 σ1349 gt1351 hp => ?_)
              obtain ⟨rfl, rfl, w1355, F1356, f1352, f1353⟩ := hp
              clear gt1351
              have je1357 : σ1349 = jP T xb (σ.2.1 57 a) (w32 (v11 + 1)) _ := f1353
              show Tn _ _ 387 T σ1349 [(3, .int (iI (w32 (v11 + 1)))), (2, .int (iI v66)), (1, .int (iI v11)), (0, .ref a)] [] _
              refine tn_iload_n dX7_step_387 rfl 1 rfl ?_
              refine tn_bipush dX7_step_388 (by decide) ?_
              refine tn_icmp_ne (tgt := 397) dX7_step_390 (by decide) ⟨by omega, by omega⟩ ⟨by decide, by decide⟩ (fun h1358 => ?_) (fun h1358 => absurd h1358 (by omega))
              refine tn_iconst dX7_step_397 ?_
              have q1359 : σ1349.2.1 56 a = σ.2.1 56 a := rc_F F1356 (Or.inl (by decide)) (by decide) (rc_F F1346 (Or.inl (by decide)) (by decide) (rc_o (by decide) (rfl)))
              have q1360 : σ1349.2.1 57 a = σ.2.1 57 a := rc_F F1356 (Or.inl (by decide)) (by decide) (rc_F F1346 (Or.inl (by decide)) (by decide) (rc_o (by decide) (rfl)))
              have q1361 : σ1349.2.1 58 a = σ.2.1 58 a := rc_F F1356 (Or.inl (by decide)) (by decide) (rc_F F1346 (Or.inl (by decide)) (by decide) (rc_o (by decide) (rfl)))
              exact tn_zret (v := 0) rfl (by decide) dX7_step_398 ⟨_, rfl, rfl, w1355, (((FrC.rfl.put (by decide) (by decide)).trans (FrC.sub F1346 (by decide))).trans (FrC.sub F1356 (by decide))), by omega, (((CHX.rfl.fld (by simp) (by decide)).trans (CHX.sub f1342 (by simp) (by simp) (by simp))).trans (CHX.sub f1352 (by simp) (by simp) (by simp))), by unfold PIv at *; rw [q1359, q1360, q1361]; omega, ⟨_, v66, f10, Or.inr ⟨xq13, xq55, ⟨hx12, hx56⟩, f65⟩, Or.inr ⟨by omega, Or.inr (Or.inr (Or.inr (Or.inr (Or.inr (Or.inr (Or.inr (Or.inr (Or.inr ((⟨by omega, rfl, _, f1343, je1357⟩))))))))))⟩⟩, (((FA.rfl.put).trans (FA.of F1346 (by decide))).trans (FA.of F1356 (by decide)))⟩
            · refine tn_tableIn (tgt := 152) (off := 84) dX7_step_68 (x := v66) ⟨by omega, by omega⟩ (by omega) (by omega) (by rw [h1159]; rfl) (by decide) ?_
              refine tn_aload_n dX7_step_152 rfl 3 rfl ?_
              refine tn_aload_n dX7_step_153 rfl 3 rfl ?_
              refine tn_iload_n dX7_step_154 rfl 2 rfl ?_
              refine tn_iconst dX7_step_155 ?_
              obtain ⟨hk1364, hl1365⟩ : AR T xe 1 1728 1728 := ar_of (wf_63 hw ha) hxe
              have hk1364i : IA T xe := by unfold IA; omega
              refine tn_callV (M := m_X7_step) (pc := 156) (ix := 110) (ci := 7) (M' := m_X7_operand) (As := [.int (iI v11), .int (iI 3)]) (rest := [.ref a]) dX7_step_156 ok_X7_operand im_X7_operand se_X7_operand ml7_110 np_X7_operand rfl rfl ha rfl (Nat.le_of_ble_eq_true rfl) (Nat.le_of_ble_eq_true rfl) rfl (k_X7_operand_j (d + 2) (T := T) (σ := (sA 67 a (w32 ((σ.2.1 67 a) + 1)) σ)) (a := a) (k := v11) (c := 3) (xe := xe) ha (by omega) (by decide) (hw.put (by decide) (by decide) (fo_67 (by omega))) (rc_o (by decide) (hxe)) (by rw [show (sA 67 a (w32 ((σ.2.1 67 a) + 1)) σ).2.1 69 a = _ from rc_o (by decide) (hx12)]; omega) (by omega)) (fun r1366 T1368 σ1367 gt1369 hp => ?_)
              obtain ⟨v1372, rfl, rfl, rfl, f1370, f1371⟩ := hp
              clear gt1369
              show Tn _ _ 159 T (sA 67 a (w32 ((σ.2.1 67 a) + 1)) σ) [(3, .int (iI (w32 (v11 + 1)))), (2, .int (iI v66)), (1, .int (iI v11)), (0, .ref a)] [.int (iI v1372), .ref a] _
              obtain ⟨hk1375, hl1376⟩ : AR T xf 1 200 200 := ar_of (wf_64 hw ha) hxf
              have hk1375i : IA T xf := by unfold IA; omega
              refine tn_callV (M := m_X7_step) (pc := 159) (ix := 113) (ci := 7) (M' := m_X7_emit) (As := [.int (iI v1372)]) (rest := []) dX7_step_159 ok_X7_emit im_X7_emit se_X7_emit ml7_113 np_X7_emit rfl rfl ha rfl (Nat.le_of_ble_eq_true rfl) (Nat.le_of_ble_eq_true rfl) rfl (k_X7_emit_j (d + 2) (T := T) (σ := (sA 67 a (w32 ((σ.2.1 67 a) + 1)) σ)) (a := a) (p1 := v1372) (xf := xf) ha (by omega) (hw.put (by decide) (by decide) (fo_67 (by omega))) (rc_o (by decide) (hxf))) (fun r1377 T1379 σ1378 gt1380 hp => ?_)
              obtain ⟨rfl, rfl, w1385, F1386, f1381, f1382, f1383⟩ := hp
              clear gt1380
              show Tn _ _ 162 T σ1378 [(3, .int (iI (w32 (v11 + 1)))), (2, .int (iI v66)), (1, .int (iI v11)), (0, .ref a)] [] _
              refine tn_goto (tgt := 375) dX7_step_162 (by decide) ?_
              refine tn_aload_n dX7_step_375 rfl 3 rfl ?_
              refine tn_getR (ci := 7) (i := 5) (n := 60) (x := xb) dX7_step_376 rfl lay_7 (by decide) fl7_15 ha rfl rfl (rc_F F1386 (Or.inl (by decide)) (by decide) (rc_o (by decide) (hxb))) ?_
              refine tn_aload_n dX7_step_379 rfl 3 rfl ?_
              refine tn_getI (ci := 7) (i := 2) (n := 57) (t := σ.2.1 57 a) dX7_step_380 rfl lay_7 (by decide) fl7_65 ha rfl rfl (rc_F F1386 (Or.inl (by decide)) (by decide) (rc_o (by decide) (rfl))) ?_
              have g1387 : ((0 : Int) ≤ σ.2.1 57 a ∧ σ.2.1 57 a ≤ 11184800) ∧ ((T a).1 = 57 → σ.2.1 57 a ≤ 8) := wf_57 hw ha
              have g1387x := g1387.2
              replace g1387 := g1387.1
              have g1387x := g1387x hta
              refine tn_iload_n dX7_step_383 rfl 0 rfl ?_
              refine tn_callSN (M := m_X7_step) (pc := 384) (ix := 61) (M' := m_X11_put) (As := [.ref xb, .int (iI (σ.2.1 57 a)), .int (iI (w32 (v11 + 1)))]) (rest := []) dX7_step_384 ok_X11_put stt_X11_put nl7_61 np_X11_put rfl (Nat.le_of_ble_eq_true rfl) (Nat.le_of_ble_eq_true rfl) rfl (k_X11_put_x (d + 3) (T := T) (σ := σ1378) (x := xb) (i := σ.2.1 57 a) (y := w32 (v11 + 1)) hk3i (by omega) (by omega) (by omega) w1385 (nh_k hk3 (by unfold HT; omega)) (vok_1 (by have q9 := hk3; omega) (by omega))) (fun r1388 T1390 σ1389 gt1391 hp => ?_)
              obtain ⟨rfl, rfl, w1395, F1396, f1392, f1393⟩ := hp
              clear gt1391
              have je1397 : σ1389 = jP T xb (σ.2.1 57 a) (w32 (v11 + 1)) _ := f1393
              show Tn _ _ 387 T σ1389 [(3, .int (iI (w32 (v11 + 1)))), (2, .int (iI v66)), (1, .int (iI v11)), (0, .ref a)] [] _
              refine tn_iload_n dX7_step_387 rfl 1 rfl ?_
              refine tn_bipush dX7_step_388 (by decide) ?_
              refine tn_icmp_ne (tgt := 397) dX7_step_390 (by decide) ⟨by omega, by omega⟩ ⟨by decide, by decide⟩ (fun h1398 => ?_) (fun h1398 => absurd h1398 (by omega))
              refine tn_iconst dX7_step_397 ?_
              have q1399 : σ1389.2.1 56 a = σ.2.1 56 a := rc_F F1396 (Or.inl (by decide)) (by decide) (rc_F F1386 (Or.inl (by decide)) (by decide) (rc_o (by decide) (rfl)))
              have q1400 : σ1389.2.1 57 a = σ.2.1 57 a := rc_F F1396 (Or.inl (by decide)) (by decide) (rc_F F1386 (Or.inl (by decide)) (by decide) (rc_o (by decide) (rfl)))
              have q1401 : σ1389.2.1 58 a = σ.2.1 58 a := rc_F F1396 (Or.inl (by decide)) (by decide) (rc_F F1386 (Or.inl (by decide)) (by decide) (rc_o (by decide) (rfl)))
              exact tn_zret (v := 0) rfl (by decide) dX7_step_398 ⟨_, rfl, rfl, w1395, (((FrC.rfl.put (by decide) (by decide)).trans (FrC.sub F1386 (by decide))).trans (FrC.sub F1396 (by decide))), by omega, (((CHX.rfl.fld (by simp) (by decide)).trans (CHX.sub f1381 (by simp) (by simp) (by simp))).trans (CHX.sub f1392 (by simp) (by simp) (by simp))), by unfold PIv at *; rw [q1399, q1400, q1401]; omega, ⟨_, v66, f10, Or.inr ⟨xq13, xq55, ⟨hx12, hx56⟩, f65⟩, Or.inr ⟨by omega, Or.inl (⟨by omega, rfl, _, _, f1371, f1382, je1397⟩)⟩⟩, (((FA.rfl.put).trans f1383).trans (FA.of F1396 (by decide)))⟩
            · refine tn_tableIn (tgt := 213) (off := 145) dX7_step_68 (x := v66) ⟨by omega, by omega⟩ (by omega) (by omega) (by rw [h1159]; rfl) (by decide) ?_
              refine tn_aload_n dX7_step_213 rfl 3 rfl ?_
              refine tn_aload_n dX7_step_214 rfl 3 rfl ?_
              refine tn_iload_n dX7_step_215 rfl 2 rfl ?_
              refine tn_iconst dX7_step_216 ?_
              obtain ⟨hk1404, hl1405⟩ : AR T xe 1 1728 1728 := ar_of (wf_63 hw ha) hxe
              have hk1404i : IA T xe := by unfold IA; omega
              refine tn_callV (M := m_X7_step) (pc := 217) (ix := 110) (ci := 7) (M' := m_X7_operand) (As := [.int (iI v11), .int (iI 3)]) (rest := [.ref a]) dX7_step_217 ok_X7_operand im_X7_operand se_X7_operand ml7_110 np_X7_operand rfl rfl ha rfl (Nat.le_of_ble_eq_true rfl) (Nat.le_of_ble_eq_true rfl) rfl (k_X7_operand_j (d + 2) (T := T) (σ := (sA 67 a (w32 ((σ.2.1 67 a) + 1)) σ)) (a := a) (k := v11) (c := 3) (xe := xe) ha (by omega) (by decide) (hw.put (by decide) (by decide) (fo_67 (by omega))) (rc_o (by decide) (hxe)) (by rw [show (sA 67 a (w32 ((σ.2.1 67 a) + 1)) σ).2.1 69 a = _ from rc_o (by decide) (hx12)]; omega) (by omega)) (fun r1406 T1408 σ1407 gt1409 hp => ?_)
              obtain ⟨v1412, rfl, rfl, rfl, f1410, f1411⟩ := hp
              clear gt1409
              show Tn _ _ 220 T (sA 67 a (w32 ((σ.2.1 67 a) + 1)) σ) [(3, .int (iI (w32 (v11 + 1)))), (2, .int (iI v66)), (1, .int (iI v11)), (0, .ref a)] [.int (iI v1412), .ref a] _
              obtain ⟨hk1415, hl1416⟩ : AR T xa 15 9 9 := ar_of (wf_59 hw ha) hxa
              have hk1415i : IA T xa := by unfold IA; omega
              obtain ⟨hl1420, hk1419a, hk1419b⟩ := ex_at (wf_61 hw ha) hxc
              have hk1419 : (T xc).1 = 14 := hk1419a (by omega)
              clear hk1419a hk1419b
              have hk1419i : IA T xc := by unfold IA; omega
              obtain ⟨hk1423, hl1424⟩ : AR T xd 1 108 108 := ar_of (wf_62 hw ha) hxd
              have hk1423i : IA T xd := by unfold IA; omega
              obtain ⟨hl1428, hk1427a, hk1427b⟩ := ex_at (wf_55 hw ha) hy
              have hk1427i : (T y).1 = 4 ∨ (T y).1 = 5 := by omega
              have hk1427c : RROW T a y := ⟨hk1427a, hk1427b⟩
              clear hk1427a hk1427b
              refine tn_callV (M := m_X7_step) (pc := 220) (ix := 123) (ci := 7) (M' := m_X7_giveBack) (As := [.int (iI v1412)]) (rest := []) dX7_step_220 ok_X7_giveBack im_X7_giveBack se_X7_giveBack ml7_123 np_X7_giveBack rfl rfl ha rfl (Nat.le_of_ble_eq_true rfl) (Nat.le_of_ble_eq_true rfl) rfl (k_X7_giveBack_j57 (d + 1) (T := T) (σ := (sA 67 a (w32 ((σ.2.1 67 a) + 1)) σ)) (a := a) (n := v1412) (xa := xa) (xb := xb) (xc := xc) (xd := xd) (xe := xe) (y := y) ha hta (by omega) (hw.put (by decide) (by decide) (fo_67 (by omega))) (rc_o (by decide) (hxa)) (rc_o (by decide) (hxb)) (rc_o (by decide) (hxc)) (rc_o (by decide) (hxd)) (rc_o (by decide) (hxe)) (rc_o (by decide) (hy)) (by rw [show (sA 67 a (w32 ((σ.2.1 67 a) + 1)) σ).2.1 58 a = σ.2.1 58 a from rc_o (by decide) (rfl), show (sA 67 a (w32 ((σ.2.1 67 a) + 1)) σ).2.1 57 a = σ.2.1 57 a from rc_o (by decide) (rfl)]; omega)) (fun r1429 T1431 σ1430 gt1432 hp => ?_)
              obtain ⟨rfl, rfl, w1438, F1439, f1433, f1434, f1435, f1436⟩ := hp
              clear gt1432
              show Tn _ _ 223 T σ1430 [(3, .int (iI (w32 (v11 + 1)))), (2, .int (iI v66)), (1, .int (iI v11)), (0, .ref a)] [] _
              refine tn_iconst dX7_step_223 ?_
              have q1440 : σ1430.2.1 56 a = σ1430.2.1 56 a := rfl
              have q1441 : σ1430.2.1 57 a = σ1430.2.1 57 a := rfl
              have q1442 : σ1430.2.1 58 a = σ1430.2.1 58 a := rfl
              exact tn_zret (v := 0) rfl (by decide) dX7_step_224 ⟨_, rfl, rfl, w1438, ((FrC.rfl.put (by decide) (by decide)).trans (FrC.sub F1439 (by decide))), by omega, ((CHX.rfl.fld (by simp) (by decide)).trans (CHX.sub f1433 (by simp) (by simp) (by simp))), by unfold PIv at *; rw [q1440, q1441, q1442]; omega, ⟨_, v66, f10, Or.inr ⟨xq13, xq55, ⟨hx12, hx56⟩, f65⟩, Or.inr ⟨by omega, Or.inr (Or.inr (Or.inr (Or.inr (Or.inl (⟨by omega, rfl, _, f1411, f1435⟩)))))⟩⟩, ((FA.rfl.put).trans f1436)⟩
            · refine tn_tableIn (tgt := 165) (off := 97) dX7_step_68 (x := v66) ⟨by omega, by omega⟩ (by omega) (by omega) (by rw [h1159]; rfl) (by decide) ?_
              refine tn_aload_n dX7_step_165 rfl 3 rfl ?_
              refine tn_getR (ci := 7) (i := 14) (n := 69) (x := xq13) dX7_step_166 rfl lay_7 (by decide) fl7_72 ha rfl rfl (rc_o (by decide) (hx12)) ?_
              refine tn_iload_n dX7_step_169 rfl 2 rfl ?_
              refine tn_bipush dX7_step_170 (by decide) ?_
              refine tn_callV (M := m_X7_step) (pc := 172) (ix := 117) (ci := 1) (M' := m_X1_get) (As := [.int (iI v11), .int (iI 12)]) (rest := []) dX7_step_172 ok_X1_get im_X1_get se_X1_get ml7_117 np_X1_get rfl rfl hk14o rfl (Nat.le_of_ble_eq_true rfl) (Nat.le_of_ble_eq_true rfl) rfl (k_X1_get_j (d + 3) (T := T) (σ := (sA 67 a (w32 ((σ.2.1 67 a) + 1)) σ)) (a := xq13) (k := v11) (c := 12) (x := xq55) hk14o (by omega) (by decide) (hw.put (by decide) (by decide) (fo_67 (by omega))) (rc_o (by decide) (hx56)) (by omega)) (fun r1443 T1445 σ1444 gt1446 hp => ?_)
              obtain ⟨v1449, rfl, rfl, rfl, f1447, f1448⟩ := hp
              clear gt1446
              show Tn _ _ 175 T (sA 67 a (w32 ((σ.2.1 67 a) + 1)) σ) [(3, .int (iI (w32 (v11 + 1)))), (2, .int (iI v66)), (1, .int (iI v11)), (0, .ref a)] [.int (iI v1449)] _
              refine tn_istore_n (L' := [(3, .int (iI v1449)), (2, .int (iI v66)), (1, .int (iI v11)), (0, .ref a)]) dX7_step_175 rfl (by decide) rfl ?_
              refine tn_goto (tgt := 375) dX7_step_176 (by decide) ?_
              refine tn_aload_n dX7_step_375 rfl 3 rfl ?_
              refine tn_getR (ci := 7) (i := 5) (n := 60) (x := xb) dX7_step_376 rfl lay_7 (by decide) fl7_15 ha rfl rfl (rc_o (by decide) (hxb)) ?_
              refine tn_aload_n dX7_step_379 rfl 3 rfl ?_
              refine tn_getI (ci := 7) (i := 2) (n := 57) (t := σ.2.1 57 a) dX7_step_380 rfl lay_7 (by decide) fl7_65 ha rfl rfl (rc_o (by decide) (rfl)) ?_
              have g1450 : ((0 : Int) ≤ σ.2.1 57 a ∧ σ.2.1 57 a ≤ 11184800) ∧ ((T a).1 = 57 → σ.2.1 57 a ≤ 8) := wf_57 hw ha
              have g1450x := g1450.2
              replace g1450 := g1450.1
              have g1450x := g1450x hta
              refine tn_iload_n dX7_step_383 rfl 0 rfl ?_
              refine tn_callSN (M := m_X7_step) (pc := 384) (ix := 61) (M' := m_X11_put) (As := [.ref xb, .int (iI (σ.2.1 57 a)), .int (iI v1449)]) (rest := []) dX7_step_384 ok_X11_put stt_X11_put nl7_61 np_X11_put rfl (Nat.le_of_ble_eq_true rfl) (Nat.le_of_ble_eq_true rfl) rfl (k_X11_put_x (d + 3) (T := T) (σ := (sA 67 a (w32 ((σ.2.1 67 a) + 1)) σ)) (x := xb) (i := σ.2.1 57 a) (y := v1449) hk3i (by omega) (by omega) (by omega) (hw.put (by decide) (by decide) (fo_67 (by omega))) (nh_k hk3 (by unfold HT; omega)) (vok_1 (by have q9 := hk3; omega) (by omega))) (fun r1451 T1453 σ1452 gt1454 hp => ?_)
              obtain ⟨rfl, rfl, w1458, F1459, f1455, f1456⟩ := hp
              clear gt1454
              have je1460 : σ1452 = jP T xb (σ.2.1 57 a) (v1449) _ := f1456
              show Tn _ _ 387 T σ1452 [(3, .int (iI v1449)), (2, .int (iI v66)), (1, .int (iI v11)), (0, .ref a)] [] _
              refine tn_iload_n dX7_step_387 rfl 1 rfl ?_
              refine tn_bipush dX7_step_388 (by decide) ?_
              refine tn_icmp_ne (tgt := 397) dX7_step_390 (by decide) ⟨by omega, by omega⟩ ⟨by decide, by decide⟩ (fun h1461 => ?_) (fun h1461 => absurd h1461 (by omega))
              refine tn_iconst dX7_step_397 ?_
              have q1462 : σ1452.2.1 56 a = σ.2.1 56 a := rc_F F1459 (Or.inl (by decide)) (by decide) (rc_o (by decide) (rfl))
              have q1463 : σ1452.2.1 57 a = σ.2.1 57 a := rc_F F1459 (Or.inl (by decide)) (by decide) (rc_o (by decide) (rfl))
              have q1464 : σ1452.2.1 58 a = σ.2.1 58 a := rc_F F1459 (Or.inl (by decide)) (by decide) (rc_o (by decide) (rfl))
              exact tn_zret (v := 0) rfl (by decide) dX7_step_398 ⟨_, rfl, rfl, w1458, ((FrC.rfl.put (by decide) (by decide)).trans (FrC.sub F1459 (by decide))), by omega, ((CHX.rfl.fld (by simp) (by decide)).trans (CHX.sub f1455 (by simp) (by simp) (by simp))), by unfold PIv at *; rw [q1462, q1463, q1464]; omega, ⟨_, v66, f10, Or.inr ⟨xq13, xq55, ⟨hx12, hx56⟩, f65⟩, Or.inr ⟨by omega, Or.inr (Or.inl (⟨by omega, rfl, xq13, xq55, ⟨hx12, hx56⟩, by rw [← f1448]; exact je1460⟩))⟩⟩, ((FA.rfl.put).trans (FA.of F1459 (by decide)))⟩
            · refine tn_tableIn (tgt := 179) (off := 111) dX7_step_68 (x := v66) ⟨by omega, by omega⟩ (by omega) (by omega) (by rw [h1159]; rfl) (by decide) ?_
              refine tn_aload_n dX7_step_179 rfl 3 rfl ?_
              refine tn_iload_n dX7_step_180 rfl 2 rfl ?_
              refine tn_iconst dX7_step_181 ?_
              obtain ⟨hk1467, hl1468⟩ : AR T xe 1 1728 1728 := ar_of (wf_63 hw ha) hxe
              have hk1467i : IA T xe := by unfold IA; omega
              refine tn_callV (M := m_X7_step) (pc := 182) (ix := 110) (ci := 7) (M' := m_X7_operand) (As := [.int (iI v11), .int (iI 3)]) (rest := []) dX7_step_182 ok_X7_operand im_X7_operand se_X7_operand ml7_110 np_X7_operand rfl rfl ha rfl (Nat.le_of_ble_eq_true rfl) (Nat.le_of_ble_eq_true rfl) rfl (k_X7_operand_j (d + 2) (T := T) (σ := (sA 67 a (w32 ((σ.2.1 67 a) + 1)) σ)) (a := a) (k := v11) (c := 3) (xe := xe) ha (by omega) (by decide) (hw.put (by decide) (by decide) (fo_67 (by omega))) (rc_o (by decide) (hxe)) (by rw [show (sA 67 a (w32 ((σ.2.1 67 a) + 1)) σ).2.1 69 a = _ from rc_o (by decide) (hx12)]; omega) (by omega)) (fun r1469 T1471 σ1470 gt1472 hp => ?_)
              obtain ⟨v1475, rfl, rfl, rfl, f1473, f1474⟩ := hp
              clear gt1472
              show Tn _ _ 185 T (sA 67 a (w32 ((σ.2.1 67 a) + 1)) σ) [(3, .int (iI (w32 (v11 + 1)))), (2, .int (iI v66)), (1, .int (iI v11)), (0, .ref a)] [.int (iI v1475)] _
              refine tn_if_ne (tgt := 201) dX7_step_185 (by decide) ⟨by omega, by omega⟩ (fun h1476 => ?_) (fun h1476 => ?_)
              · refine tn_iload_n dX7_step_201 rfl 0 rfl ?_
                refine tn_istore_n (L' := [(3, .int (iI (w32 (v11 + 1)))), (2, .int (iI v66)), (1, .int (iI v11)), (0, .ref a)]) dX7_step_202 rfl (by decide) rfl ?_
                refine tn_goto (tgt := 375) dX7_step_203 (by decide) ?_
                refine tn_aload_n dX7_step_375 rfl 3 rfl ?_
                refine tn_getR (ci := 7) (i := 5) (n := 60) (x := xb) dX7_step_376 rfl lay_7 (by decide) fl7_15 ha rfl rfl (rc_o (by decide) (hxb)) ?_
                refine tn_aload_n dX7_step_379 rfl 3 rfl ?_
                refine tn_getI (ci := 7) (i := 2) (n := 57) (t := σ.2.1 57 a) dX7_step_380 rfl lay_7 (by decide) fl7_65 ha rfl rfl (rc_o (by decide) (rfl)) ?_
                have g1477 : ((0 : Int) ≤ σ.2.1 57 a ∧ σ.2.1 57 a ≤ 11184800) ∧ ((T a).1 = 57 → σ.2.1 57 a ≤ 8) := wf_57 hw ha
                have g1477x := g1477.2
                replace g1477 := g1477.1
                have g1477x := g1477x hta
                refine tn_iload_n dX7_step_383 rfl 0 rfl ?_
                refine tn_callSN (M := m_X7_step) (pc := 384) (ix := 61) (M' := m_X11_put) (As := [.ref xb, .int (iI (σ.2.1 57 a)), .int (iI (w32 (v11 + 1)))]) (rest := []) dX7_step_384 ok_X11_put stt_X11_put nl7_61 np_X11_put rfl (Nat.le_of_ble_eq_true rfl) (Nat.le_of_ble_eq_true rfl) rfl (k_X11_put_x (d + 3) (T := T) (σ := (sA 67 a (w32 ((σ.2.1 67 a) + 1)) σ)) (x := xb) (i := σ.2.1 57 a) (y := w32 (v11 + 1)) hk3i (by omega) (by omega) (by omega) (hw.put (by decide) (by decide) (fo_67 (by omega))) (nh_k hk3 (by unfold HT; omega)) (vok_1 (by have q9 := hk3; omega) (by omega))) (fun r1478 T1480 σ1479 gt1481 hp => ?_)
                obtain ⟨rfl, rfl, w1485, F1486, f1482, f1483⟩ := hp
                clear gt1481
                have je1487 : σ1479 = jP T xb (σ.2.1 57 a) (w32 (v11 + 1)) _ := f1483
                show Tn _ _ 387 T σ1479 [(3, .int (iI (w32 (v11 + 1)))), (2, .int (iI v66)), (1, .int (iI v11)), (0, .ref a)] [] _
                refine tn_iload_n dX7_step_387 rfl 1 rfl ?_
                refine tn_bipush dX7_step_388 (by decide) ?_
                refine tn_icmp_ne (tgt := 397) dX7_step_390 (by decide) ⟨by omega, by omega⟩ ⟨by decide, by decide⟩ (fun h1488 => ?_) (fun h1488 => absurd h1488 (by omega))
                refine tn_iconst dX7_step_397 ?_
                have q1489 : σ1479.2.1 56 a = σ.2.1 56 a := rc_F F1486 (Or.inl (by decide)) (by decide) (rc_o (by decide) (rfl))
                have q1490 : σ1479.2.1 57 a = σ.2.1 57 a := rc_F F1486 (Or.inl (by decide)) (by decide) (rc_o (by decide) (rfl))
                have q1491 : σ1479.2.1 58 a = σ.2.1 58 a := rc_F F1486 (Or.inl (by decide)) (by decide) (rc_o (by decide) (rfl))
                exact tn_zret (v := 0) rfl (by decide) dX7_step_398 ⟨_, rfl, rfl, w1485, ((FrC.rfl.put (by decide) (by decide)).trans (FrC.sub F1486 (by decide))), by omega, ((CHX.rfl.fld (by simp) (by decide)).trans (CHX.sub f1482 (by simp) (by simp) (by simp))), by unfold PIv at *; rw [q1489, q1490, q1491]; omega, ⟨_, v66, f10, Or.inr ⟨xq13, xq55, ⟨hx12, hx56⟩, f65⟩, Or.inr ⟨by omega, Or.inr (Or.inr (Or.inl (⟨by omega, rfl, _, f1474, Or.inr ⟨by omega, je1487⟩⟩)))⟩⟩, ((FA.rfl.put).trans (FA.of F1486 (by decide)))⟩
              · refine tn_aload_n dX7_step_188 rfl 3 rfl ?_
                refine tn_getR (ci := 7) (i := 14) (n := 69) (x := xq13) dX7_step_189 rfl lay_7 (by decide) fl7_72 ha rfl rfl (rc_o (by decide) (hx12)) ?_
                refine tn_iload_n dX7_step_192 rfl 2 rfl ?_
                refine tn_bipush dX7_step_193 (by decide) ?_
                refine tn_callV (M := m_X7_step) (pc := 195) (ix := 117) (ci := 1) (M' := m_X1_get) (As := [.int (iI v11), .int (iI 12)]) (rest := []) dX7_step_195 ok_X1_get im_X1_get se_X1_get ml7_117 np_X1_get rfl rfl hk14o rfl (Nat.le_of_ble_eq_true rfl) (Nat.le_of_ble_eq_true rfl) rfl (k_X1_get_j (d + 3) (T := T) (σ := (sA 67 a (w32 ((σ.2.1 67 a) + 1)) σ)) (a := xq13) (k := v11) (c := 12) (x := xq55) hk14o (by omega) (by decide) (hw.put (by decide) (by decide) (fo_67 (by omega))) (rc_o (by decide) (hx56)) (by omega)) (fun r1492 T1494 σ1493 gt1495 hp => ?_)
                obtain ⟨v1498, rfl, rfl, rfl, f1496, f1497⟩ := hp
                clear gt1495
                show Tn _ _ 198 T (sA 67 a (w32 ((σ.2.1 67 a) + 1)) σ) [(3, .int (iI (w32 (v11 + 1)))), (2, .int (iI v66)), (1, .int (iI v11)), (0, .ref a)] [.int (iI v1498)] _
                refine tn_goto (tgt := 202) dX7_step_198 (by decide) ?_
                refine tn_istore_n (L' := [(3, .int (iI v1498)), (2, .int (iI v66)), (1, .int (iI v11)), (0, .ref a)]) dX7_step_202 rfl (by decide) rfl ?_
                refine tn_goto (tgt := 375) dX7_step_203 (by decide) ?_
                refine tn_aload_n dX7_step_375 rfl 3 rfl ?_
                refine tn_getR (ci := 7) (i := 5) (n := 60) (x := xb) dX7_step_376 rfl lay_7 (by decide) fl7_15 ha rfl rfl (rc_o (by decide) (hxb)) ?_
                refine tn_aload_n dX7_step_379 rfl 3 rfl ?_
                refine tn_getI (ci := 7) (i := 2) (n := 57) (t := σ.2.1 57 a) dX7_step_380 rfl lay_7 (by decide) fl7_65 ha rfl rfl (rc_o (by decide) (rfl)) ?_
                have g1499 : ((0 : Int) ≤ σ.2.1 57 a ∧ σ.2.1 57 a ≤ 11184800) ∧ ((T a).1 = 57 → σ.2.1 57 a ≤ 8) := wf_57 hw ha
                have g1499x := g1499.2
                replace g1499 := g1499.1
                have g1499x := g1499x hta
                refine tn_iload_n dX7_step_383 rfl 0 rfl ?_
                refine tn_callSN (M := m_X7_step) (pc := 384) (ix := 61) (M' := m_X11_put) (As := [.ref xb, .int (iI (σ.2.1 57 a)), .int (iI v1498)]) (rest := []) dX7_step_384 ok_X11_put stt_X11_put nl7_61 np_X11_put rfl (Nat.le_of_ble_eq_true rfl) (Nat.le_of_ble_eq_true rfl) rfl (k_X11_put_x (d + 3) (T := T) (σ := (sA 67 a (w32 ((σ.2.1 67 a) + 1)) σ)) (x := xb) (i := σ.2.1 57 a) (y := v1498) hk3i (by omega) (by omega) (by omega) (hw.put (by decide) (by decide) (fo_67 (by omega))) (nh_k hk3 (by unfold HT; omega)) (vok_1 (by have q9 := hk3; omega) (by omega))) (fun r1500 T1502 σ1501 gt1503 hp => ?_)
                obtain ⟨rfl, rfl, w1507, F1508, f1504, f1505⟩ := hp
                clear gt1503
                have je1509 : σ1501 = jP T xb (σ.2.1 57 a) (v1498) _ := f1505
                show Tn _ _ 387 T σ1501 [(3, .int (iI v1498)), (2, .int (iI v66)), (1, .int (iI v11)), (0, .ref a)] [] _
                refine tn_iload_n dX7_step_387 rfl 1 rfl ?_
                refine tn_bipush dX7_step_388 (by decide) ?_
                refine tn_icmp_ne (tgt := 397) dX7_step_390 (by decide) ⟨by omega, by omega⟩ ⟨by decide, by decide⟩ (fun h1510 => ?_) (fun h1510 => absurd h1510 (by omega))
                refine tn_iconst dX7_step_397 ?_
                have q1511 : σ1501.2.1 56 a = σ.2.1 56 a := rc_F F1508 (Or.inl (by decide)) (by decide) (rc_o (by decide) (rfl))
                have q1512 : σ1501.2.1 57 a = σ.2.1 57 a := rc_F F1508 (Or.inl (by decide)) (by decide) (rc_o (by decide) (rfl))
                have q1513 : σ1501.2.1 58 a = σ.2.1 58 a := rc_F F1508 (Or.inl (by decide)) (by decide) (rc_o (by decide) (rfl))
                exact tn_zret (v := 0) rfl (by decide) dX7_step_398 ⟨_, rfl, rfl, w1507, ((FrC.rfl.put (by decide) (by decide)).trans (FrC.sub F1508 (by decide))), by omega, ((CHX.rfl.fld (by simp) (by decide)).trans (CHX.sub f1504 (by simp) (by simp) (by simp))), by unfold PIv at *; rw [q1511, q1512, q1513]; omega, ⟨_, v66, f10, Or.inr ⟨xq13, xq55, ⟨hx12, hx56⟩, f65⟩, Or.inr ⟨by omega, Or.inr (Or.inr (Or.inl (⟨by omega, rfl, _, f1474, Or.inl ⟨by omega, xq13, xq55, ⟨hx12, hx56⟩, by rw [← f1497]; exact je1509⟩⟩)))⟩⟩, ((FA.rfl.put).trans (FA.of F1508 (by decide)))⟩
            · refine tn_tableIn (tgt := 206) (off := 138) dX7_step_68 (x := v66) ⟨by omega, by omega⟩ (by omega) (by omega) (by rw [h1159]; rfl) (by decide) ?_
              refine tn_aload_n dX7_step_206 rfl 3 rfl ?_
              refine tn_iload_n dX7_step_207 rfl 2 rfl ?_
              obtain ⟨hk1516, hl1517⟩ : AR T xa 15 9 9 := ar_of (wf_59 hw ha) hxa
              have hk1516i : IA T xa := by unfold IA; omega
              obtain ⟨hl1521, hk1520a, hk1520b⟩ := ex_at (wf_61 hw ha) hxc
              have hk1520 : (T xc).1 = 14 := hk1520a (by omega)
              clear hk1520a hk1520b
              have hk1520i : IA T xc := by unfold IA; omega
              obtain ⟨hk1524, hl1525⟩ : AR T xd 1 108 108 := ar_of (wf_62 hw ha) hxd
              have hk1524i : IA T xd := by unfold IA; omega
              obtain ⟨hk1528, hl1529⟩ : AR T xe 1 1728 1728 := ar_of (wf_63 hw ha) hxe
              have hk1528i : IA T xe := by unfold IA; omega
              obtain ⟨hl1533, hk1532a, hk1532b⟩ := ex_at (wf_55 hw ha) hy
              have hk1532i : (T y).1 = 4 ∨ (T y).1 = 5 := by omega
              have hk1532c : RROW T a y := ⟨hk1532a, hk1532b⟩
              clear hk1532a hk1532b
              have q1538 : (sA 67 a (w32 ((σ.2.1 67 a) + 1)) σ).2.1 57 a = σ.2.1 57 a := rc_o (by decide) (rfl)
              have q1539 : (sA 67 a (w32 ((σ.2.1 67 a) + 1)) σ).2.1 58 a = σ.2.1 58 a := rc_o (by decide) (rfl)
              refine tn_callV (M := m_X7_step) (pc := 208) (ix := 120) (ci := 7) (M' := m_X7_callFrom) (As := [.int (iI v11)]) (rest := []) dX7_step_208 ok_X7_callFrom im_X7_callFrom se_X7_callFrom ml7_120 np_X7_callFrom rfl rfl ha rfl (Nat.le_of_ble_eq_true rfl) (Nat.le_of_ble_eq_true rfl) rfl (k_X7_callFrom_j57 (d) (T := T) (σ := (sA 67 a (w32 ((σ.2.1 67 a) + 1)) σ)) (a := a) (k := v11) (xa := xa) (xb := xb) (xc := xc) (xd := xd) (xe := xe) (y := y) ha hta (by omega) (hw.put (by decide) (by decide) (fo_67 (by omega))) (rc_o (by decide) (hxa)) (rc_o (by decide) (hxb)) (rc_o (by decide) (hxc)) (rc_o (by decide) (hxd)) (rc_o (by decide) (hxe)) (rc_o (by decide) (hy)) (by rw [show (sA 67 a (w32 ((σ.2.1 67 a) + 1)) σ).2.1 69 a = _ from rc_o (by decide) (hx12)]; omega) (by rw [show (sA 67 a (w32 ((σ.2.1 67 a) + 1)) σ).2.1 57 a = σ.2.1 57 a from rc_o (by decide) (rfl)]; omega) (by rw [show (sA 67 a (w32 ((σ.2.1 67 a) + 1)) σ).2.1 58 a = σ.2.1 58 a from rc_o (by decide) (rfl)]; omega)) (fun r1534 T1536 σ1535 gt1537 hp => ?_)
              obtain ⟨rfl, rfl, w1546, F1547, f1540, f1541, f1542, f1543, f1544⟩ := hp
              clear gt1537
              show Tn _ _ 211 T σ1535 [(3, .int (iI (w32 (v11 + 1)))), (2, .int (iI v66)), (1, .int (iI v11)), (0, .ref a)] [] _
              refine tn_iconst dX7_step_211 ?_
              have q1548 : σ1535.2.1 56 a = σ.2.1 56 a := rc_F F1547 (Or.inl (by decide)) (by decide) (rc_o (by decide) (rfl))
              have q1549 : σ1535.2.1 57 a = σ1535.2.1 57 a := rfl
              have q1550 : σ1535.2.1 58 a = σ1535.2.1 58 a := rfl
              exact tn_zret (v := 0) rfl (by decide) dX7_step_212 ⟨_, rfl, rfl, w1546, ((FrC.rfl.put (by decide) (by decide)).trans (FrC.sub F1547 (by decide))), by omega, ((CHX.rfl.fld (by simp) (by decide)).trans (CHX.sub f1540 (by simp) (by simp) (by simp))), by unfold PIv at *; rw [q1548, q1549, q1550]; omega, ⟨_, v66, f10, Or.inr ⟨xq13, xq55, ⟨hx12, hx56⟩, f65⟩, Or.inr ⟨by omega, Or.inr (Or.inr (Or.inr (Or.inl (⟨by omega, rfl, f1543⟩))))⟩⟩, ((FA.rfl.put).trans f1544)⟩
            · refine tn_tableIn (tgt := 225) (off := 157) dX7_step_68 (x := v66) ⟨by omega, by omega⟩ (by omega) (by omega) (by rw [h1159]; rfl) (by decide) ?_
              refine tn_aload_n dX7_step_225 rfl 3 rfl ?_
              obtain ⟨hk1553, hl1554⟩ : AR T xd 1 108 108 := ar_of (wf_62 hw ha) hxd
              have hk1553i : IA T xd := by unfold IA; omega
              refine tn_getR (ci := 7) (i := 7) (n := 62) (x := xd) dX7_step_226 rfl lay_7 (by decide) fl7_21 ha rfl rfl (rc_o (by decide) (hxd)) ?_
              refine tn_aload_n dX7_step_229 rfl 3 rfl ?_
              refine tn_getI (ci := 7) (i := 2) (n := 57) (t := σ.2.1 57 a) dX7_step_230 rfl lay_7 (by decide) fl7_65 ha rfl rfl (rc_o (by decide) (rfl)) ?_
              have g1555 : ((0 : Int) ≤ σ.2.1 57 a ∧ σ.2.1 57 a ≤ 11184800) ∧ ((T a).1 = 57 → σ.2.1 57 a ≤ 8) := wf_57 hw ha
              have g1555x := g1555.2
              replace g1555 := g1555.1
              have g1555x := g1555x hta
              refine tn_bipush dX7_step_233 (by decide) ?_
              refine tn_imul dX7_step_235 ?_
              refine tn_aload_n dX7_step_236 rfl 3 rfl ?_
              refine tn_getR (ci := 7) (i := 14) (n := 69) (x := xq13) dX7_step_237 rfl lay_7 (by decide) fl7_72 ha rfl rfl (rc_o (by decide) (hx12)) ?_
              refine tn_iload_n dX7_step_240 rfl 2 rfl ?_
              refine tn_iconst dX7_step_241 ?_
              refine tn_callV (M := m_X7_step) (pc := 242) (ix := 117) (ci := 1) (M' := m_X1_get) (As := [.int (iI v11), .int (iI 2)]) (rest := [.int (iI ((σ.2.1 57 a) * 12)), .ref xd]) dX7_step_242 ok_X1_get im_X1_get se_X1_get ml7_117 np_X1_get rfl rfl hk14o rfl (Nat.le_of_ble_eq_true rfl) (Nat.le_of_ble_eq_true rfl) rfl (k_X1_get_j (d + 3) (T := T) (σ := (sA 67 a (w32 ((σ.2.1 67 a) + 1)) σ)) (a := xq13) (k := v11) (c := 2) (x := xq55) hk14o (by omega) (by decide) (hw.put (by decide) (by decide) (fo_67 (by omega))) (rc_o (by decide) (hx56)) (by omega)) (fun r1556 T1558 σ1557 gt1559 hp => ?_)
              obtain ⟨v1562, rfl, rfl, rfl, f1560, f1561⟩ := hp
              clear gt1559
              show Tn _ _ 245 T (sA 67 a (w32 ((σ.2.1 67 a) + 1)) σ) [(3, .int (iI (w32 (v11 + 1)))), (2, .int (iI v66)), (1, .int (iI v11)), (0, .ref a)] [.int (iI v1562), .int (iI ((σ.2.1 57 a) * 12)), .ref xd] _
              refine tn_iadd dX7_step_245 ?_
              rw [show iI (((σ.2.1 57 a) * 12) + v1562) = iI (w32 (((σ.2.1 57 a) * 12) + v1562)) from (iI_self _).symm]
              have g1563r : -2147483648 ≤ w32 (((σ.2.1 57 a) * 12) + v1562) ∧ w32 (((σ.2.1 57 a) * 12) + v1562) ≤ 2147483647 := inR_toInt _
              refine tn_aload_n dX7_step_246 rfl 3 rfl ?_
              refine tn_getR (ci := 7) (i := 14) (n := 69) (x := xq13) dX7_step_247 rfl lay_7 (by decide) fl7_72 ha rfl rfl (rc_o (by decide) (hx12)) ?_
              refine tn_iload_n dX7_step_250 rfl 2 rfl ?_
              refine tn_iconst dX7_step_251 ?_
              refine tn_callV (M := m_X7_step) (pc := 252) (ix := 117) (ci := 1) (M' := m_X1_get) (As := [.int (iI v11), .int (iI 1)]) (rest := [.int (iI (w32 (((σ.2.1 57 a) * 12) + v1562))), .ref xd]) dX7_step_252 ok_X1_get im_X1_get se_X1_get ml7_117 np_X1_get rfl rfl hk14o rfl (Nat.le_of_ble_eq_true rfl) (Nat.le_of_ble_eq_true rfl) rfl (k_X1_get_j (d + 3) (T := T) (σ := (sA 67 a (w32 ((σ.2.1 67 a) + 1)) σ)) (a := xq13) (k := v11) (c := 1) (x := xq55) hk14o (by omega) (by decide) (hw.put (by decide) (by decide) (fo_67 (by omega))) (rc_o (by decide) (hx56)) (by omega)) (fun r1564 T1566 σ1565 gt1567 hp => ?_)
              obtain ⟨v1570, rfl, rfl, rfl, f1568, f1569⟩ := hp
              clear gt1567
              show Tn _ _ 255 T (sA 67 a (w32 ((σ.2.1 67 a) + 1)) σ) [(3, .int (iI (w32 (v11 + 1)))), (2, .int (iI v66)), (1, .int (iI v11)), (0, .ref a)] [.int (iI v1570), .int (iI (w32 (((σ.2.1 57 a) * 12) + v1562))), .ref xd] _
              refine tn_callSN (M := m_X7_step) (pc := 255) (ix := 61) (M' := m_X11_put) (As := [.ref xd, .int (iI (w32 (((σ.2.1 57 a) * 12) + v1562))), .int (iI v1570)]) (rest := []) dX7_step_255 ok_X11_put stt_X11_put nl7_61 np_X11_put rfl (Nat.le_of_ble_eq_true rfl) (Nat.le_of_ble_eq_true rfl) rfl (k_X11_put_x (d + 3) (T := T) (σ := (sA 67 a (w32 ((σ.2.1 67 a) + 1)) σ)) (x := xd) (i := w32 (((σ.2.1 57 a) * 12) + v1562)) (y := v1570) hk1553i (by omega) (by omega) (by omega) (hw.put (by decide) (by decide) (fo_67 (by omega))) (nh_k hk1553 (by unfold HT; omega)) (vok_1 (by have q9 := hk1553; omega) (by omega))) (fun r1571 T1573 σ1572 gt1574 hp => ?_)
              obtain ⟨rfl, rfl, w1578, F1579, f1575, f1576⟩ := hp
              clear gt1574
              have je1580 : σ1572 = jP T xd (w32 (((σ.2.1 57 a) * 12) + v1562)) (v1570) _ := f1576
              show Tn _ _ 258 T σ1572 [(3, .int (iI (w32 (v11 + 1)))), (2, .int (iI v66)), (1, .int (iI v11)), (0, .ref a)] [] _
              refine tn_goto (tgt := 375) dX7_step_258 (by decide) ?_
              refine tn_aload_n dX7_step_375 rfl 3 rfl ?_
              refine tn_getR (ci := 7) (i := 5) (n := 60) (x := xb) dX7_step_376 rfl lay_7 (by decide) fl7_15 ha rfl rfl (rc_F F1579 (Or.inl (by decide)) (by decide) (rc_o (by decide) (hxb))) ?_
              refine tn_aload_n dX7_step_379 rfl 3 rfl ?_
              refine tn_getI (ci := 7) (i := 2) (n := 57) (t := σ.2.1 57 a) dX7_step_380 rfl lay_7 (by decide) fl7_65 ha rfl rfl (rc_F F1579 (Or.inl (by decide)) (by decide) (rc_o (by decide) (rfl))) ?_
              refine tn_iload_n dX7_step_383 rfl 0 rfl ?_
              refine tn_callSN (M := m_X7_step) (pc := 384) (ix := 61) (M' := m_X11_put) (As := [.ref xb, .int (iI (σ.2.1 57 a)), .int (iI (w32 (v11 + 1)))]) (rest := []) dX7_step_384 ok_X11_put stt_X11_put nl7_61 np_X11_put rfl (Nat.le_of_ble_eq_true rfl) (Nat.le_of_ble_eq_true rfl) rfl (k_X11_put_x (d + 3) (T := T) (σ := σ1572) (x := xb) (i := σ.2.1 57 a) (y := w32 (v11 + 1)) hk3i (by omega) (by omega) (by omega) w1578 (nh_k hk3 (by unfold HT; omega)) (vok_1 (by have q9 := hk3; omega) (by omega))) (fun r1581 T1583 σ1582 gt1584 hp => ?_)
              obtain ⟨rfl, rfl, w1588, F1589, f1585, f1586⟩ := hp
              clear gt1584
              have je1590 : σ1582 = jP T xb (σ.2.1 57 a) (w32 (v11 + 1)) _ := f1586
              show Tn _ _ 387 T σ1582 [(3, .int (iI (w32 (v11 + 1)))), (2, .int (iI v66)), (1, .int (iI v11)), (0, .ref a)] [] _
              refine tn_iload_n dX7_step_387 rfl 1 rfl ?_
              refine tn_bipush dX7_step_388 (by decide) ?_
              refine tn_icmp_ne (tgt := 397) dX7_step_390 (by decide) ⟨by omega, by omega⟩ ⟨by decide, by decide⟩ (fun h1591 => absurd h1591 (by omega)) (fun h1591 => ?_)
              refine tn_iconst dX7_step_393 ?_
              refine tn_goto (tgt := 398) dX7_step_394 (by decide) ?_
              have q1592 : σ1582.2.1 56 a = σ.2.1 56 a := rc_F F1589 (Or.inl (by decide)) (by decide) (rc_F F1579 (Or.inl (by decide)) (by decide) (rc_o (by decide) (rfl)))
              have q1593 : σ1582.2.1 57 a = σ.2.1 57 a := rc_F F1589 (Or.inl (by decide)) (by decide) (rc_F F1579 (Or.inl (by decide)) (by decide) (rc_o (by decide) (rfl)))
              have q1594 : σ1582.2.1 58 a = σ.2.1 58 a := rc_F F1589 (Or.inl (by decide)) (by decide) (rc_F F1579 (Or.inl (by decide)) (by decide) (rc_o (by decide) (rfl)))
              exact tn_zret (v := 1) rfl (by decide) dX7_step_398 ⟨_, rfl, rfl, w1588, (((FrC.rfl.put (by decide) (by decide)).trans (FrC.sub F1579 (by decide))).trans (FrC.sub F1589 (by decide))), by omega, (((CHX.rfl.fld (by simp) (by decide)).trans (CHX.sub f1575 (by simp) (by simp) (by simp))).trans (CHX.sub f1585 (by simp) (by simp) (by simp))), by unfold PIv at *; rw [q1592, q1593, q1594]; omega, ⟨_, v66, f10, Or.inr ⟨xq13, xq55, ⟨hx12, hx56⟩, f65⟩, Or.inr ⟨by omega, Or.inr (Or.inr (Or.inr (Or.inr (Or.inr (Or.inl (⟨by omega, rfl, xq13, xq55, σ1572, ⟨hx12, hx56⟩, by rw [← f1561, ← f1569]; exact je1580, je1590⟩))))))⟩⟩, (((FA.rfl.put).trans (FA.of F1579 (by decide))).trans (FA.of F1589 (by decide)))⟩
            · refine tn_tableIn (tgt := 369) (off := 301) dX7_step_68 (x := v66) ⟨by omega, by omega⟩ (by omega) (by omega) (by rw [h1159]; rfl) (by decide) ?_
              refine tn_aload_n dX7_step_369 rfl 3 rfl ?_
              refine tn_iload_n dX7_step_370 rfl 2 rfl ?_
              refine tn_iload_n dX7_step_371 rfl 1 rfl ?_
              obtain ⟨hk1597, hl1598⟩ : AR T xe 1 1728 1728 := ar_of (wf_63 hw ha) hxe
              have hk1597i : IA T xe := by unfold IA; omega
              refine tn_callV (M := m_X7_step) (pc := 372) (ix := 129) (ci := 7) (M' := m_X7_reckonAt) (As := [.int (iI v11), .int (iI v66)]) (rest := []) dX7_step_372 ok_X7_reckonAt im_X7_reckonAt se_X7_reckonAt ml7_129 np_X7_reckonAt rfl rfl ha rfl (Nat.le_of_ble_eq_true rfl) (Nat.le_of_ble_eq_true rfl) rfl (k_X7_reckonAt_j (d + 1) (T := T) (σ := (sA 67 a (w32 ((σ.2.1 67 a) + 1)) σ)) (a := a) (k := v11) (e := v66) (xe := xe) ha (by omega) (by omega) (hw.put (by decide) (by decide) (fo_67 (by omega))) (rc_o (by decide) (hxe)) (by rw [show (sA 67 a (w32 ((σ.2.1 67 a) + 1)) σ).2.1 69 a = _ from rc_o (by decide) (hx12)]; omega)) (fun r1599 T1601 σ1600 gt1602 hp => ?_)
              obtain ⟨rfl, rfl, w1606, F1607, f1603, f1604⟩ := hp
              clear gt1602
              show Tn _ _ 375 T σ1600 [(3, .int (iI (w32 (v11 + 1)))), (2, .int (iI v66)), (1, .int (iI v11)), (0, .ref a)] [] _
              refine tn_aload_n dX7_step_375 rfl 3 rfl ?_
              refine tn_getR (ci := 7) (i := 5) (n := 60) (x := xb) dX7_step_376 rfl lay_7 (by decide) fl7_15 ha rfl rfl (rc_F F1607 (Or.inl (by decide)) (by decide) (rc_o (by decide) (hxb))) ?_
              refine tn_aload_n dX7_step_379 rfl 3 rfl ?_
              refine tn_getI (ci := 7) (i := 2) (n := 57) (t := σ.2.1 57 a) dX7_step_380 rfl lay_7 (by decide) fl7_65 ha rfl rfl (rc_F F1607 (Or.inl (by decide)) (by decide) (rc_o (by decide) (rfl))) ?_
              have g1608 : ((0 : Int) ≤ σ.2.1 57 a ∧ σ.2.1 57 a ≤ 11184800) ∧ ((T a).1 = 57 → σ.2.1 57 a ≤ 8) := wf_57 hw ha
              have g1608x := g1608.2
              replace g1608 := g1608.1
              have g1608x := g1608x hta
              refine tn_iload_n dX7_step_383 rfl 0 rfl ?_
              refine tn_callSN (M := m_X7_step) (pc := 384) (ix := 61) (M' := m_X11_put) (As := [.ref xb, .int (iI (σ.2.1 57 a)), .int (iI (w32 (v11 + 1)))]) (rest := []) dX7_step_384 ok_X11_put stt_X11_put nl7_61 np_X11_put rfl (Nat.le_of_ble_eq_true rfl) (Nat.le_of_ble_eq_true rfl) rfl (k_X11_put_x (d + 3) (T := T) (σ := σ1600) (x := xb) (i := σ.2.1 57 a) (y := w32 (v11 + 1)) hk3i (by omega) (by omega) (by omega) w1606 (nh_k hk3 (by unfold HT; omega)) (vok_1 (by have q9 := hk3; omega) (by omega))) (fun r1609 T1611 σ1610 gt1612 hp => ?_)
              obtain ⟨rfl, rfl, w1616, F1617, f1613, f1614⟩ := hp
              clear gt1612
              have je1618 : σ1610 = jP T xb (σ.2.1 57 a) (w32 (v11 + 1)) _ := f1614
              show Tn _ _ 387 T σ1610 [(3, .int (iI (w32 (v11 + 1)))), (2, .int (iI v66)), (1, .int (iI v11)), (0, .ref a)] [] _
              refine tn_iload_n dX7_step_387 rfl 1 rfl ?_
              refine tn_bipush dX7_step_388 (by decide) ?_
              refine tn_icmp_ne (tgt := 397) dX7_step_390 (by decide) ⟨by omega, by omega⟩ ⟨by decide, by decide⟩ (fun h1619 => ?_) (fun h1619 => absurd h1619 (by omega))
              refine tn_iconst dX7_step_397 ?_
              have q1620 : σ1610.2.1 56 a = σ.2.1 56 a := rc_F F1617 (Or.inl (by decide)) (by decide) (rc_F F1607 (Or.inl (by decide)) (by decide) (rc_o (by decide) (rfl)))
              have q1621 : σ1610.2.1 57 a = σ.2.1 57 a := rc_F F1617 (Or.inl (by decide)) (by decide) (rc_F F1607 (Or.inl (by decide)) (by decide) (rc_o (by decide) (rfl)))
              have q1622 : σ1610.2.1 58 a = σ.2.1 58 a := rc_F F1617 (Or.inl (by decide)) (by decide) (rc_F F1607 (Or.inl (by decide)) (by decide) (rc_o (by decide) (rfl)))
              exact tn_zret (v := 0) rfl (by decide) dX7_step_398 ⟨_, rfl, rfl, w1616, (((FrC.rfl.put (by decide) (by decide)).trans (FrC.sub F1607 (by decide))).trans (FrC.sub F1617 (by decide))), by omega, (((CHX.rfl.fld (by simp) (by decide)).trans (CHX.sub f1603 (by simp) (by simp) (by simp))).trans (CHX.sub f1613 (by simp) (by simp) (by simp))), by unfold PIv at *; rw [q1620, q1621, q1622]; omega, ⟨_, v66, f10, Or.inr ⟨xq13, xq55, ⟨hx12, hx56⟩, f65⟩, Or.inr ⟨by omega, Or.inr (Or.inr (Or.inr (Or.inr (Or.inr (Or.inr (Or.inr (Or.inr (Or.inr ((⟨by omega, rfl, _, f1604, je1618⟩))))))))))⟩⟩, (((FA.rfl.put).trans (FA.of F1607 (by decide))).trans (FA.of F1617 (by decide)))⟩
            · refine tn_tableIn (tgt := 369) (off := 301) dX7_step_68 (x := v66) ⟨by omega, by omega⟩ (by omega) (by omega) (by rw [h1159]; rfl) (by decide) ?_
              refine tn_aload_n dX7_step_369 rfl 3 rfl ?_
              refine tn_iload_n dX7_step_370 rfl 2 rfl ?_
              refine tn_iload_n dX7_step_371 rfl 1 rfl ?_
              obtain ⟨hk1625, hl1626⟩ : AR T xe 1 1728 1728 := ar_of (wf_63 hw ha) hxe
              have hk1625i : IA T xe := by unfold IA; omega
              refine tn_callV (M := m_X7_step) (pc := 372) (ix := 129) (ci := 7) (M' := m_X7_reckonAt) (As := [.int (iI v11), .int (iI v66)]) (rest := []) dX7_step_372 ok_X7_reckonAt im_X7_reckonAt se_X7_reckonAt ml7_129 np_X7_reckonAt rfl rfl ha rfl (Nat.le_of_ble_eq_true rfl) (Nat.le_of_ble_eq_true rfl) rfl (k_X7_reckonAt_j (d + 1) (T := T) (σ := (sA 67 a (w32 ((σ.2.1 67 a) + 1)) σ)) (a := a) (k := v11) (e := v66) (xe := xe) ha (by omega) (by omega) (hw.put (by decide) (by decide) (fo_67 (by omega))) (rc_o (by decide) (hxe)) (by rw [show (sA 67 a (w32 ((σ.2.1 67 a) + 1)) σ).2.1 69 a = _ from rc_o (by decide) (hx12)]; omega)) (fun r1627 T1629 σ1628 gt1630 hp => ?_)
              obtain ⟨rfl, rfl, w1634, F1635, f1631, f1632⟩ := hp
              clear gt1630
              show Tn _ _ 375 T σ1628 [(3, .int (iI (w32 (v11 + 1)))), (2, .int (iI v66)), (1, .int (iI v11)), (0, .ref a)] [] _
              refine tn_aload_n dX7_step_375 rfl 3 rfl ?_
              refine tn_getR (ci := 7) (i := 5) (n := 60) (x := xb) dX7_step_376 rfl lay_7 (by decide) fl7_15 ha rfl rfl (rc_F F1635 (Or.inl (by decide)) (by decide) (rc_o (by decide) (hxb))) ?_
              refine tn_aload_n dX7_step_379 rfl 3 rfl ?_
              refine tn_getI (ci := 7) (i := 2) (n := 57) (t := σ.2.1 57 a) dX7_step_380 rfl lay_7 (by decide) fl7_65 ha rfl rfl (rc_F F1635 (Or.inl (by decide)) (by decide) (rc_o (by decide) (rfl))) ?_
              have g1636 : ((0 : Int) ≤ σ.2.1 57 a ∧ σ.2.1 57 a ≤ 11184800) ∧ ((T a).1 = 57 → σ.2.1 57 a ≤ 8) := wf_57 hw ha
              have g1636x := g1636.2
              replace g1636 := g1636.1
              have g1636x := g1636x hta
              refine tn_iload_n dX7_step_383 rfl 0 rfl ?_
              refine tn_callSN (M := m_X7_step) (pc := 384) (ix := 61) (M' := m_X11_put) (As := [.ref xb, .int (iI (σ.2.1 57 a)), .int (iI (w32 (v11 + 1)))]) (rest := []) dX7_step_384 ok_X11_put stt_X11_put nl7_61 np_X11_put rfl (Nat.le_of_ble_eq_true rfl) (Nat.le_of_ble_eq_true rfl) rfl (k_X11_put_x (d + 3) (T := T) (σ := σ1628) (x := xb) (i := σ.2.1 57 a) (y := w32 (v11 + 1)) hk3i (by omega) (by omega) (by omega) w1634 (nh_k hk3 (by unfold HT; omega)) (vok_1 (by have q9 := hk3; omega) (by omega))) (fun r1637 T1639 σ1638 gt1640 hp => ?_)
              obtain ⟨rfl, rfl, w1644, F1645, f1641, f1642⟩ := hp
              clear gt1640
              have je1646 : σ1638 = jP T xb (σ.2.1 57 a) (w32 (v11 + 1)) _ := f1642
              show Tn _ _ 387 T σ1638 [(3, .int (iI (w32 (v11 + 1)))), (2, .int (iI v66)), (1, .int (iI v11)), (0, .ref a)] [] _
              refine tn_iload_n dX7_step_387 rfl 1 rfl ?_
              refine tn_bipush dX7_step_388 (by decide) ?_
              refine tn_icmp_ne (tgt := 397) dX7_step_390 (by decide) ⟨by omega, by omega⟩ ⟨by decide, by decide⟩ (fun h1647 => ?_) (fun h1647 => absurd h1647 (by omega))
              refine tn_iconst dX7_step_397 ?_
              have q1648 : σ1638.2.1 56 a = σ.2.1 56 a := rc_F F1645 (Or.inl (by decide)) (by decide) (rc_F F1635 (Or.inl (by decide)) (by decide) (rc_o (by decide) (rfl)))
              have q1649 : σ1638.2.1 57 a = σ.2.1 57 a := rc_F F1645 (Or.inl (by decide)) (by decide) (rc_F F1635 (Or.inl (by decide)) (by decide) (rc_o (by decide) (rfl)))
              have q1650 : σ1638.2.1 58 a = σ.2.1 58 a := rc_F F1645 (Or.inl (by decide)) (by decide) (rc_F F1635 (Or.inl (by decide)) (by decide) (rc_o (by decide) (rfl)))
              exact tn_zret (v := 0) rfl (by decide) dX7_step_398 ⟨_, rfl, rfl, w1644, (((FrC.rfl.put (by decide) (by decide)).trans (FrC.sub F1635 (by decide))).trans (FrC.sub F1645 (by decide))), by omega, (((CHX.rfl.fld (by simp) (by decide)).trans (CHX.sub f1631 (by simp) (by simp) (by simp))).trans (CHX.sub f1641 (by simp) (by simp) (by simp))), by unfold PIv at *; rw [q1648, q1649, q1650]; omega, ⟨_, v66, f10, Or.inr ⟨xq13, xq55, ⟨hx12, hx56⟩, f65⟩, Or.inr ⟨by omega, Or.inr (Or.inr (Or.inr (Or.inr (Or.inr (Or.inr (Or.inr (Or.inr (Or.inr ((⟨by omega, rfl, _, f1632, je1646⟩))))))))))⟩⟩, (((FA.rfl.put).trans (FA.of F1635 (by decide))).trans (FA.of F1645 (by decide)))⟩
            · refine tn_tableIn (tgt := 261) (off := 193) dX7_step_68 (x := v66) ⟨by omega, by omega⟩ (by omega) (by omega) (by rw [h1159]; rfl) (by decide) ?_
              exact absurd True.intro (by omega)
            · refine tn_tableIn (tgt := 319) (off := 251) dX7_step_68 (x := v66) ⟨by omega, by omega⟩ (by omega) (by omega) (by rw [h1159]; rfl) (by decide) ?_
              exact absurd True.intro (by omega)
        · refine tn_aload_n dX7_step_46 rfl 2 rfl ?_
          refine tn_iconst dX7_step_47 ?_
          refine tn_putV (ci := 7) (i := 1) (n := 56) (r := false) (v := 3) tyX7 tyX7_ok nmX7 dX7_step_48 rfl lay_7 (by decide) fl7_34 rfl (tyX7_ok 1 (by decide)) rfl rfl rfl ha rfl rfl ?_
          refine tn_iconst dX7_step_51 ?_
          have q1651 : (sA 56 a (3) σ).2.1 56 a = 3 := ra_eq
          have q1652 : (sA 56 a (3) σ).2.1 57 a = σ.2.1 57 a := rc_o (by decide) (rfl)
          have q1653 : (sA 56 a (3) σ).2.1 58 a = σ.2.1 58 a := rc_o (by decide) (rfl)
          exact tn_zret (v := 0) rfl (by decide) dX7_step_52 ⟨_, rfl, rfl, (hw.put (by decide) (by decide) (fo_56 (by omega))), (FrC.rfl.put (by decide) (by decide)), by omega, (CHX.rfl.fld (by simp) (by decide)), by unfold PIv at *; rw [q1651, q1652, q1653]; omega, ⟨_, v66, f10, Or.inr ⟨xq13, xq55, ⟨hx12, hx56⟩, f65⟩, Or.inl ⟨by omega, by omega, rfl, rfl⟩⟩, (FA.rfl.put)⟩
end
