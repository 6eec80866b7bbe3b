section
set_option maxHeartbeats 1000000 in
set_option maxRecDepth 20000 in
theorem k_X7_step_j (d : Nat) {T : CT} {σ : MS} {a : Nat} {xa : Nat} {xb : Nat} {xc : Nat} {xd : Nat} {xe : Nat} {xf : Nat} {y : Nat} (ha : OB T a 7) (hta : (T a).1 = 37) (hw : WT T σ) (hxa : σ.2.1 59 a = (xa : Int)) (hxb : σ.2.1 60 a = (xb : Int)) (hxc : σ.2.1 61 a = (xc : Int)) (hxd : σ.2.1 62 a = (xd : Int)) (hxe : σ.2.1 63 a = (xe : Int)) (hxf : σ.2.1 64 a = (xf : Int)) (hy : σ.2.1 55 a = (y : Int)) (h8 : σ.2.1 57 a ≤ 11184799) : Tn (d + 5) m_X7_step 0 T σ [(0, .ref a)] [] (fun ro T2 σ2 => ∃ v : Int, ro = some (.int (iI v)) ∧ T = T2 ∧ WT T2 σ2 ∧ FrC T [56, 57, 58, 65, 66, 67, 68, 69, 515] σ σ2 ∧ (v = 0 ∨ v = 1) ∧ (CHX [(56, a), (57, a), (58, a), (65, a), (66, a), (67, a), (68, a), (69, a), (70, a), (71, a)] [xa, xb, xc, xd, xe, xf] [] σ σ2) ∧ (σ2.2.1 57 a ≤ σ.2.1 57 a + 1) ∧ (JST T σ a xa xb xc xd xe xf y v σ2) ∧ (FA a σ σ2)) := by
  refine tn_aload_n dX7_step_0 rfl 0 rfl ?_
  obtain ⟨hk3, hl4⟩ : AR T xb 1 9 9 := ar_of (wf_60 hw ha) hxb
  have hk3i : IA T xb := by unfold IA; omega
  refine tn_callV (M := m_X7_step) (pc := 1) (ix := 103) (ci := 7) (M' := m_X7_place) (As := []) (rest := []) dX7_step_1 ok_X7_place im_X7_place se_X7_place ml7_103 np_X7_place rfl rfl ha rfl (Nat.le_of_ble_eq_true rfl) (Nat.le_of_ble_eq_true rfl) rfl (k_X7_place_j (d + 2) (T := T) (σ := σ) (a := a) (xb := xb) ha hw (hxb)) (fun r5 T7 σ6 gt8 hp => ?_)
  obtain ⟨v11, rfl, rfl, rfl, f9, f10⟩ := hp
  clear gt8
  show Tn _ _ 4 T σ [(0, .ref a)] [.int (iI v11)] _
  refine tn_istore_n (L' := [(1, .int (iI v11)), (0, .ref a)]) dX7_step_4 rfl (by decide) rfl ?_
  refine tn_aload_n dX7_step_5 rfl 1 rfl ?_
  rcases wf_69 hw ha with hx12 | ⟨xq13, hx12, hk14a, hk14b⟩
  · refine tn_getN (ci := 7) (i := 14) (n := 69) dX7_step_6 rfl lay_7 (by decide) fl7_72 ha rfl rfl (Int.lt_of_le_of_lt (Int.le_of_eq (Eq.refl _)) hx12) ?_
    refine tn_ifnonnullN dX7_step_9 ?_
    refine tn_iconst dX7_step_12 ?_
    refine tn_goto (tgt := 24) dX7_step_13 (by decide) ?_
    refine tn_istore_n (L' := [(2, .int (iI (-1))), (1, .int (iI v11)), (0, .ref a)]) dX7_step_24 rfl (by decide) rfl ?_
    refine tn_iload_n dX7_step_25 rfl 0 rfl ?_
    refine tn_bipush dX7_step_26 (by decide) ?_
    refine tn_icmp_eq (tgt := 37) dX7_step_28 (by decide) ⟨by decide, by decide⟩ ⟨by decide, by decide⟩ (fun h => absurd h (by decide)) (fun _ => ?_)
    refine tn_iload_n dX7_step_31 rfl 0 rfl ?_
    refine tn_bipush dX7_step_32 (by decide) ?_
    refine tn_icmp_ne (tgt := 53) dX7_step_34 (by decide) ⟨by decide, by decide⟩ ⟨by decide, by decide⟩ (fun _ => ?_) (fun h => absurd h (by decide))
    refine tn_aload_n dX7_step_53 rfl 2 rfl ?_
    refine tn_dup dX7_step_54 rfl ?_
    refine tn_getI (ci := 7) (i := 12) (n := 67) (t := σ.2.1 67 a) dX7_step_55 rfl lay_7 (by decide) fl7_47 ha rfl rfl (rfl) ?_
    have g18 : ((-2147483648 : Int) ≤ σ.2.1 67 a ∧ σ.2.1 67 a ≤ 2147483647) := wf_67 hw ha
    refine tn_iconst dX7_step_58 ?_
    refine tn_iadd dX7_step_59 ?_
    rw [show iI ((σ.2.1 67 a) + 1) = iI (w32 ((σ.2.1 67 a) + 1)) from (iI_self _).symm]
    have g19r : -2147483648 ≤ w32 ((σ.2.1 67 a) + 1) ∧ w32 ((σ.2.1 67 a) + 1) ≤ 2147483647 := inR_toInt _
    refine tn_putV (ci := 7) (i := 12) (n := 67) (r := false) (v := w32 ((σ.2.1 67 a) + 1)) tyX7 tyX7_ok nmX7 dX7_step_60 rfl lay_7 (by decide) fl7_47 rfl (tyX7_ok 12 (by decide)) rfl rfl rfl ha rfl rfl ?_
    refine tn_iload_n dX7_step_63 rfl 1 rfl ?_
    refine tn_iconst dX7_step_64 ?_
    refine tn_iadd dX7_step_65 ?_
    rw [show iI (v11 + 1) = iI (w32 (v11 + 1)) from (iI_self _).symm]
    have g20r : -2147483648 ≤ w32 (v11 + 1) ∧ w32 (v11 + 1) ≤ 2147483647 := inR_toInt _
    refine tn_istore_n (L' := [(3, .int (iI (w32 (v11 + 1)))), (2, .int (iI (-1))), (1, .int (iI v11)), (0, .ref a)]) dX7_step_66 rfl (by decide) rfl ?_
    refine tn_iload_n dX7_step_67 rfl 1 rfl ?_
    refine tn_tableIn (tgt := 362) dX7_step_68 (x := -1) ⟨by decide, by decide⟩ (by decide) (by decide) rfl (by decide) ?_
    refine tn_aload_n dX7_step_362 rfl 3 rfl ?_
    refine tn_iconst dX7_step_363 ?_
    obtain ⟨hk23, hl24⟩ : AR T xa 15 9 9 := ar_of (wf_59 hw ha) hxa
    have hk23i : IA T xa := by unfold IA; omega
    obtain ⟨hl28, hk27a, hk27b⟩ := ex_at (wf_61 hw ha) hxc
    have hk27 : (T xc).1 = 1 := hk27b (by omega)
    clear hk27a hk27b
    have hk27i : IA T xc := by unfold IA; omega
    obtain ⟨hk31, hl32⟩ : AR T xd 1 108 108 := ar_of (wf_62 hw ha) hxd
    have hk31i : IA T xd := by unfold IA; omega
    obtain ⟨hk35, hl36⟩ : AR T xe 1 1728 1728 := ar_of (wf_63 hw ha) hxe
    have hk35i : IA T xe := by unfold IA; omega
    obtain ⟨hl40, hk39a, hk39b⟩ := ex_at (wf_55 hw ha) hy
    have hk39i : (T y).1 = 4 ∨ (T y).1 = 5 := by omega
    have hk39c : RROW T a y := ⟨hk39a, hk39b⟩
    clear hk39a hk39b
    have q45 : (sA 67 a (w32 ((σ.2.1 67 a) + 1)) σ).2.1 57 a = σ.2.1 57 a := rc_o (by decide) (rfl)
    refine tn_callV (M := m_X7_step) (pc := 364) (ix := 123) (ci := 7) (M' := m_X7_giveBack) (As := [.int (iI 0)]) (rest := []) dX7_step_364 ok_X7_giveBack im_X7_giveBack se_X7_giveBack ml7_123 np_X7_giveBack rfl rfl ha rfl (Nat.le_of_ble_eq_true rfl) (Nat.le_of_ble_eq_true rfl) rfl (k_X7_giveBack_j (d + 1) (T := T) (σ := (sA 67 a (w32 ((σ.2.1 67 a) + 1)) σ)) (a := a) (n := 0) (xa := xa) (xb := xb) (xc := xc) (xd := xd) (xe := xe) (y := y) ha hta (by decide) (hw.put (by decide) (by decide) (fo_67 (by omega))) (rc_o (by decide) (hxa)) (rc_o (by decide) (hxb)) (rc_o (by decide) (hxc)) (rc_o (by decide) (hxd)) (rc_o (by decide) (hxe)) (rc_o (by decide) (hy))) (fun r41 T43 σ42 gt44 hp => ?_)
    obtain ⟨rfl, rfl, w51, F52, f46, f47, f48, f49⟩ := hp
    clear gt44
    show Tn _ _ 367 T σ42 [(3, .int (iI (w32 (v11 + 1)))), (2, .int (iI (-1))), (1, .int (iI v11)), (0, .ref a)] [] _
    refine tn_iconst dX7_step_367 ?_
    have q53 : σ42.2.1 57 a = σ42.2.1 57 a := rfl
    exact tn_zret (v := 0) rfl (by decide) dX7_step_368 ⟨_, rfl, rfl, w51, ((FrC.rfl.put (by decide) (by decide)).trans (FrC.sub F52 (by decide))), by omega, ((CHX.rfl.fld (by simp) (by decide)).trans (CHX.sub f46 (by simp) (by simp) (by simp))), by omega, ⟨_, -1, f10, Or.inl ⟨by omega, by omega⟩, Or.inr ⟨by omega, Or.inr (Or.inr (Or.inr (Or.inr (Or.inr (Or.inr (Or.inr (Or.inr (Or.inl (⟨by omega, rfl, f48⟩)))))))))⟩⟩, ((FA.rfl.put).trans f49)⟩
  · have hk14 : (T xq13).1 = 50 := hk14b (by omega)
    have hk14o : OB T xq13 1 := ⟨by omega, by rw [hk14]; rfl, by omega⟩
    refine tn_getR (ci := 7) (i := 14) (n := 69) (x := xq13) dX7_step_6 rfl lay_7 (by decide) fl7_72 ha rfl rfl (hx12) ?_
    refine tn_ifnonnull (tgt := 16) dX7_step_9 (by decide) ?_
    refine tn_aload_n dX7_step_16 rfl 1 rfl ?_
    refine tn_getR (ci := 7) (i := 14) (n := 69) (x := xq13) dX7_step_17 rfl lay_7 (by decide) fl7_72 ha rfl rfl (hx12) ?_
    refine tn_iload_n dX7_step_20 rfl 0 rfl ?_
    obtain ⟨xq54, hx55, hl57, hk56a, hk56b⟩ := wf_5 hw hk14o
    have hk56 : (T xq54).1 = 1 := hk56a (by omega)
    clear hk56a hk56b
    have hk56i : IA T xq54 := by unfold IA; omega
    refine tn_callV (M := m_X7_step) (pc := 21) (ix := 107) (ci := 1) (M' := m_X1_kindAt) (As := [.int (iI v11)]) (rest := []) dX7_step_21 ok_X1_kindAt im_X1_kindAt se_X1_kindAt ml7_107 np_X1_kindAt rfl rfl hk14o rfl (Nat.le_of_ble_eq_true rfl) (Nat.le_of_ble_eq_true rfl) rfl (k_X1_kindAt_j (d + 3) (T := T) (σ := σ) (a := xq13) (k := v11) (x := xq54) hk14o (by omega) hw (hx55)) (fun r58 T60 σ59 gt61 hp => ?_)
    obtain ⟨v64, rfl, rfl, rfl, f62, f63⟩ := hp
    clear gt61
    show Tn _ _ 24 T σ [(1, .int (iI v11)), (0, .ref a)] [.int (iI v64)] _
    refine tn_istore_n (L' := [(2, .int (iI v64)), (1, .int (iI v11)), (0, .ref a)]) dX7_step_24 rfl (by decide) rfl ?_
    refine tn_iload_n dX7_step_25 rfl 0 rfl ?_
    refine tn_bipush dX7_step_26 (by decide) ?_
    refine tn_icmp_eq (tgt := 37) dX7_step_28 (by decide) ⟨by omega, by omega⟩ ⟨by decide, by decide⟩ (fun h65 => ?_) (fun h65 => ?_)
    · refine tn_aload_n dX7_step_37 rfl 2 rfl ?_
      refine tn_getI (ci := 7) (i := 3) (n := 58) (t := σ.2.1 58 a) dX7_step_38 rfl lay_7 (by decide) fl7_38 ha rfl rfl (rfl) ?_
      have g66 : ((-2147483648 : Int) ≤ σ.2.1 58 a ∧ σ.2.1 58 a ≤ 2147483647) := wf_58 hw ha
      refine tn_bipush dX7_step_41 (by decide) ?_
      refine tn_icmp_le (tgt := 53) dX7_step_43 (by decide) ⟨by omega, by omega⟩ ⟨by decide, by decide⟩ (fun h67 => ?_) (fun h67 => ?_)
      · refine tn_aload_n dX7_step_53 rfl 2 rfl ?_
        refine tn_dup dX7_step_54 rfl ?_
        refine tn_getI (ci := 7) (i := 12) (n := 67) (t := σ.2.1 67 a) dX7_step_55 rfl lay_7 (by decide) fl7_47 ha rfl rfl (rfl) ?_
        have g68 : ((-2147483648 : Int) ≤ σ.2.1 67 a ∧ σ.2.1 67 a ≤ 2147483647) := wf_67 hw ha
        refine tn_iconst dX7_step_58 ?_
        refine tn_iadd dX7_step_59 ?_
        rw [show iI ((σ.2.1 67 a) + 1) = iI (w32 ((σ.2.1 67 a) + 1)) from (iI_self _).symm]
        have g69r : -2147483648 ≤ w32 ((σ.2.1 67 a) + 1) ∧ w32 ((σ.2.1 67 a) + 1) ≤ 2147483647 := inR_toInt _
        refine tn_putV (ci := 7) (i := 12) (n := 67) (r := false) (v := w32 ((σ.2.1 67 a) + 1)) tyX7 tyX7_ok nmX7 dX7_step_60 rfl lay_7 (by decide) fl7_47 rfl (tyX7_ok 12 (by decide)) rfl rfl rfl ha rfl rfl ?_
        refine tn_iload_n dX7_step_63 rfl 1 rfl ?_
        refine tn_iconst dX7_step_64 ?_
        refine tn_iadd dX7_step_65 ?_
        rw [show iI (v11 + 1) = iI (w32 (v11 + 1)) from (iI_self _).symm]
        have g70r : -2147483648 ≤ w32 (v11 + 1) ∧ w32 (v11 + 1) ≤ 2147483647 := inR_toInt _
        refine tn_istore_n (L' := [(3, .int (iI (w32 (v11 + 1)))), (2, .int (iI v64)), (1, .int (iI v11)), (0, .ref a)]) dX7_step_66 rfl (by decide) rfl ?_
        refine tn_iload_n dX7_step_67 rfl 1 rfl ?_
        by_cases h71 : v64 < -1 ∨ 15 < v64
        · refine tn_tableOut (tgt := 369) dX7_step_68 (x := v64) ⟨by omega, by omega⟩ h71 (by decide) ?_
          refine tn_aload_n dX7_step_369 rfl 3 rfl ?_
          refine tn_iload_n dX7_step_370 rfl 2 rfl ?_
          refine tn_iload_n dX7_step_371 rfl 1 rfl ?_
          obtain ⟨hk74, hl75⟩ : AR T xe 1 1728 1728 := ar_of (wf_63 hw ha) hxe
          have hk74i : IA T xe := by unfold IA; omega
          refine tn_callV (M := m_X7_step) (pc := 372) (ix := 129) (ci := 7) (M' := m_X7_reckonAt) (As := [.int (iI v11), .int (iI v64)]) (rest := []) dX7_step_372 ok_X7_reckonAt im_X7_reckonAt se_X7_reckonAt ml7_129 np_X7_reckonAt rfl rfl ha rfl (Nat.le_of_ble_eq_true rfl) (Nat.le_of_ble_eq_true rfl) rfl (k_X7_reckonAt_j (d + 1) (T := T) (σ := (sA 67 a (w32 ((σ.2.1 67 a) + 1)) σ)) (a := a) (k := v11) (e := v64) (xe := xe) ha (by omega) (by omega) (hw.put (by decide) (by decide) (fo_67 (by omega))) (rc_o (by decide) (hxe)) (by rw [show (sA 67 a (w32 ((σ.2.1 67 a) + 1)) σ).2.1 69 a = _ from rc_o (by decide) (hx12)]; omega)) (fun r76 T78 σ77 gt79 hp => ?_)
          obtain ⟨rfl, rfl, w83, F84, f80, f81⟩ := hp
          clear gt79
          show Tn _ _ 375 T σ77 [(3, .int (iI (w32 (v11 + 1)))), (2, .int (iI v64)), (1, .int (iI v11)), (0, .ref a)] [] _
          refine tn_aload_n dX7_step_375 rfl 3 rfl ?_
          refine tn_getR (ci := 7) (i := 5) (n := 60) (x := xb) dX7_step_376 rfl lay_7 (by decide) fl7_15 ha rfl rfl (rc_F F84 (Or.inl (by decide)) (by decide) (rc_o (by decide) (hxb))) ?_
          refine tn_aload_n dX7_step_379 rfl 3 rfl ?_
          refine tn_getI (ci := 7) (i := 2) (n := 57) (t := σ.2.1 57 a) dX7_step_380 rfl lay_7 (by decide) fl7_65 ha rfl rfl (rc_F F84 (Or.inl (by decide)) (by decide) (rc_o (by decide) (rfl))) ?_
          have g85 : ((0 : Int) ≤ σ.2.1 57 a ∧ σ.2.1 57 a ≤ 11184800) ∧ ((T a).1 = 57 → σ.2.1 57 a ≤ 8) := wf_57 hw ha
          have g85x := g85.2
          replace g85 := g85.1
          clear g85x
          refine tn_iload_n dX7_step_383 rfl 0 rfl ?_
          refine tn_callSN (M := m_X7_step) (pc := 384) (ix := 61) (M' := m_X11_put) (As := [.ref xb, .int (iI (σ.2.1 57 a)), .int (iI (w32 (v11 + 1)))]) (rest := []) dX7_step_384 ok_X11_put stt_X11_put nl7_61 np_X11_put rfl (Nat.le_of_ble_eq_true rfl) (Nat.le_of_ble_eq_true rfl) rfl (k_X11_put_x (d + 3) (T := T) (σ := σ77) (x := xb) (i := σ.2.1 57 a) (y := w32 (v11 + 1)) hk3i (by omega) (by omega) (by omega) w83 (nh_k hk3 (by unfold HT; omega)) (vok_1 (by have q9 := hk3; omega) (by omega))) (fun r86 T88 σ87 gt89 hp => ?_)
          obtain ⟨rfl, rfl, w93, F94, f90, f91⟩ := hp
          clear gt89
          have je95 : σ87 = jP T xb (σ.2.1 57 a) (w32 (v11 + 1)) _ := f91
          show Tn _ _ 387 T σ87 [(3, .int (iI (w32 (v11 + 1)))), (2, .int (iI v64)), (1, .int (iI v11)), (0, .ref a)] [] _
          refine tn_iload_n dX7_step_387 rfl 1 rfl ?_
          refine tn_bipush dX7_step_388 (by decide) ?_
          refine tn_icmp_ne (tgt := 397) dX7_step_390 (by decide) ⟨by omega, by omega⟩ ⟨by decide, by decide⟩ (fun h96 => ?_) (fun h96 => absurd h96 (by omega))
          refine tn_iconst dX7_step_397 ?_
          have q97 : σ87.2.1 57 a = σ.2.1 57 a := rc_F F94 (Or.inl (by decide)) (by decide) (rc_F F84 (Or.inl (by decide)) (by decide) (rc_o (by decide) (rfl)))
          exact tn_zret (v := 0) rfl (by decide) dX7_step_398 ⟨_, rfl, rfl, w93, (((FrC.rfl.put (by decide) (by decide)).trans (FrC.sub F84 (by decide))).trans (FrC.sub F94 (by decide))), by omega, (((CHX.rfl.fld (by simp) (by decide)).trans (CHX.sub f80 (by simp) (by simp) (by simp))).trans (CHX.sub f90 (by simp) (by simp) (by simp))), by omega, ⟨_, v64, f10, Or.inr ⟨xq13, xq54, ⟨hx12, hx55⟩, f63⟩, Or.inr ⟨by omega, Or.inr (Or.inr (Or.inr (Or.inr (Or.inr (Or.inr (Or.inr (Or.inr (Or.inr ((⟨by omega, rfl, _, f81, je95⟩))))))))))⟩⟩, (((FA.rfl.put).trans (FA.of F84 (by decide))).trans (FA.of F94 (by decide)))⟩
        · have h98 : v64 = -1 ∨ v64 = 0 ∨ v64 = 1 ∨ v64 = 2 ∨ v64 = 3 ∨ v64 = 4 ∨ v64 = 5 ∨ v64 = 6 ∨ v64 = 7 ∨ v64 = 8 ∨ v64 = 9 ∨ v64 = 10 ∨ v64 = 11 ∨ v64 = 12 ∨ v64 = 13 ∨ v64 = 14 ∨ v64 = 15 := by omega
          rcases h98 with h98 | h98 | h98 | h98 | h98 | h98 | h98 | h98 | h98 | h98 | h98 | h98 | h98 | h98 | h98 | h98 | h98
          · refine tn_tableIn (tgt := 362) (off := 294) dX7_step_68 (x := v64) ⟨by omega, by omega⟩ (by omega) (by omega) (by rw [h98]; rfl) (by decide) ?_
            refine tn_aload_n dX7_step_362 rfl 3 rfl ?_
            refine tn_iconst dX7_step_363 ?_
            obtain ⟨hk101, hl102⟩ : AR T xa 15 9 9 := ar_of (wf_59 hw ha) hxa
            have hk101i : IA T xa := by unfold IA; omega
            obtain ⟨hl106, hk105a, hk105b⟩ := ex_at (wf_61 hw ha) hxc
            have hk105 : (T xc).1 = 1 := hk105b (by omega)
            clear hk105a hk105b
            have hk105i : IA T xc := by unfold IA; omega
            obtain ⟨hk109, hl110⟩ : AR T xd 1 108 108 := ar_of (wf_62 hw ha) hxd
            have hk109i : IA T xd := by unfold IA; omega
            obtain ⟨hk113, hl114⟩ : AR T xe 1 1728 1728 := ar_of (wf_63 hw ha) hxe
            have hk113i : IA T xe := by unfold IA; omega
            obtain ⟨hl118, hk117a, hk117b⟩ := ex_at (wf_55 hw ha) hy
            have hk117i : (T y).1 = 4 ∨ (T y).1 = 5 := by omega
            have hk117c : RROW T a y := ⟨hk117a, hk117b⟩
            clear hk117a hk117b
            have q123 : (sA 67 a (w32 ((σ.2.1 67 a) + 1)) σ).2.1 57 a = σ.2.1 57 a := rc_o (by decide) (rfl)
            refine tn_callV (M := m_X7_step) (pc := 364) (ix := 123) (ci := 7) (M' := m_X7_giveBack) (As := [.int (iI 0)]) (rest := []) dX7_step_364 ok_X7_giveBack im_X7_giveBack se_X7_giveBack ml7_123 np_X7_giveBack rfl rfl ha rfl (Nat.le_of_ble_eq_true rfl) (Nat.le_of_ble_eq_true rfl) rfl (k_X7_giveBack_j (d + 1) (T := T) (σ := (sA 67 a (w32 ((σ.2.1 67 a) + 1)) σ)) (a := a) (n := 0) (xa := xa) (xb := xb) (xc := xc) (xd := xd) (xe := xe) (y := y) ha hta (by decide) (hw.put (by decide) (by decide) (fo_67 (by omega))) (rc_o (by decide) (hxa)) (rc_o (by decide) (hxb)) (rc_o (by decide) (hxc)) (rc_o (by decide) (hxd)) (rc_o (by decide) (hxe)) (rc_o (by decide) (hy))) (fun r119 T121 σ120 gt122 hp => ?_)
            obtain ⟨rfl, rfl, w129, F130, f124, f125, f126, f127⟩ := hp
            clear gt122
            show Tn _ _ 367 T σ120 [(3, .int (iI (w32 (v11 + 1)))), (2, .int (iI v64)), (1, .int (iI v11)), (0, .ref a)] [] _
            refine tn_iconst dX7_step_367 ?_
            have q131 : σ120.2.1 57 a = σ120.2.1 57 a := rfl
            exact tn_zret (v := 0) rfl (by decide) dX7_step_368 ⟨_, rfl, rfl, w129, ((FrC.rfl.put (by decide) (by decide)).trans (FrC.sub F130 (by decide))), by omega, ((CHX.rfl.fld (by simp) (by decide)).trans (CHX.sub f124 (by simp) (by simp) (by simp))), by omega, ⟨_, v64, f10, Or.inr ⟨xq13, xq54, ⟨hx12, hx55⟩, f63⟩, Or.inr ⟨by omega, Or.inr (Or.inr (Or.inr (Or.inr (Or.inr (Or.inr (Or.inr (Or.inr (Or.inl (⟨by omega, rfl, f126⟩)))))))))⟩⟩, ((FA.rfl.put).trans f127)⟩
          · refine tn_tableIn (tgt := 369) (off := 301) dX7_step_68 (x := v64) ⟨by omega, by omega⟩ (by omega) (by omega) (by rw [h98]; rfl) (by decide) ?_
            refine tn_aload_n dX7_step_369 rfl 3 rfl ?_
            refine tn_iload_n dX7_step_370 rfl 2 rfl ?_
            refine tn_iload_n dX7_step_371 rfl 1 rfl ?_
            obtain ⟨hk134, hl135⟩ : AR T xe 1 1728 1728 := ar_of (wf_63 hw ha) hxe
            have hk134i : IA T xe := by unfold IA; omega
            refine tn_callV (M := m_X7_step) (pc := 372) (ix := 129) (ci := 7) (M' := m_X7_reckonAt) (As := [.int (iI v11), .int (iI v64)]) (rest := []) dX7_step_372 ok_X7_reckonAt im_X7_reckonAt se_X7_reckonAt ml7_129 np_X7_reckonAt rfl rfl ha rfl (Nat.le_of_ble_eq_true rfl) (Nat.le_of_ble_eq_true rfl) rfl (k_X7_reckonAt_j (d + 1) (T := T) (σ := (sA 67 a (w32 ((σ.2.1 67 a) + 1)) σ)) (a := a) (k := v11) (e := v64) (xe := xe) ha (by omega) (by omega) (hw.put (by decide) (by decide) (fo_67 (by omega))) (rc_o (by decide) (hxe)) (by rw [show (sA 67 a (w32 ((σ.2.1 67 a) + 1)) σ).2.1 69 a = _ from rc_o (by decide) (hx12)]; omega)) (fun r136 T138 σ137 gt139 hp => ?_)
            obtain ⟨rfl, rfl, w143, F144, f140, f141⟩ := hp
            clear gt139
            show Tn _ _ 375 T σ137 [(3, .int (iI (w32 (v11 + 1)))), (2, .int (iI v64)), (1, .int (iI v11)), (0, .ref a)] [] _
            refine tn_aload_n dX7_step_375 rfl 3 rfl ?_
            refine tn_getR (ci := 7) (i := 5) (n := 60) (x := xb) dX7_step_376 rfl lay_7 (by decide) fl7_15 ha rfl rfl (rc_F F144 (Or.inl (by decide)) (by decide) (rc_o (by decide) (hxb))) ?_
            refine tn_aload_n dX7_step_379 rfl 3 rfl ?_
            refine tn_getI (ci := 7) (i := 2) (n := 57) (t := σ.2.1 57 a) dX7_step_380 rfl lay_7 (by decide) fl7_65 ha rfl rfl (rc_F F144 (Or.inl (by decide)) (by decide) (rc_o (by decide) (rfl))) ?_
            have g145 : ((0 : Int) ≤ σ.2.1 57 a ∧ σ.2.1 57 a ≤ 11184800) ∧ ((T a).1 = 57 → σ.2.1 57 a ≤ 8) := wf_57 hw ha
            have g145x := g145.2
            replace g145 := g145.1
            clear g145x
            refine tn_iload_n dX7_step_383 rfl 0 rfl ?_
            refine tn_callSN (M := m_X7_step) (pc := 384) (ix := 61) (M' := m_X11_put) (As := [.ref xb, .int (iI (σ.2.1 57 a)), .int (iI (w32 (v11 + 1)))]) (rest := []) dX7_step_384 ok_X11_put stt_X11_put nl7_61 np_X11_put rfl (Nat.le_of_ble_eq_true rfl) (Nat.le_of_ble_eq_true rfl) rfl (k_X11_put_x (d + 3) (T := T) (σ := σ137) (x := xb) (i := σ.2.1 57 a) (y := w32 (v11 + 1)) hk3i (by omega) (by omega) (by omega) w143 (nh_k hk3 (by unfold HT; omega)) (vok_1 (by have q9 := hk3; omega) (by omega))) (fun r146 T148 σ147 gt149 hp => ?_)
            obtain ⟨rfl, rfl, w153, F154, f150, f151⟩ := hp
            clear gt149
            have je155 : σ147 = jP T xb (σ.2.1 57 a) (w32 (v11 + 1)) _ := f151
            show Tn _ _ 387 T σ147 [(3, .int (iI (w32 (v11 + 1)))), (2, .int (iI v64)), (1, .int (iI v11)), (0, .ref a)] [] _
            refine tn_iload_n dX7_step_387 rfl 1 rfl ?_
            refine tn_bipush dX7_step_388 (by decide) ?_
            refine tn_icmp_ne (tgt := 397) dX7_step_390 (by decide) ⟨by omega, by omega⟩ ⟨by decide, by decide⟩ (fun h156 => ?_) (fun h156 => absurd h156 (by omega))
            refine tn_iconst dX7_step_397 ?_
            have q157 : σ147.2.1 57 a = σ.2.1 57 a := rc_F F154 (Or.inl (by decide)) (by decide) (rc_F F144 (Or.inl (by decide)) (by decide) (rc_o (by decide) (rfl)))
            exact tn_zret (v := 0) rfl (by decide) dX7_step_398 ⟨_, rfl, rfl, w153, (((FrC.rfl.put (by decide) (by decide)).trans (FrC.sub F144 (by decide))).trans (FrC.sub F154 (by decide))), by omega, (((CHX.rfl.fld (by simp) (by decide)).trans (CHX.sub f140 (by simp) (by simp) (by simp))).trans (CHX.sub f150 (by simp) (by simp) (by simp))), by omega, ⟨_, v64, f10, Or.inr ⟨xq13, xq54, ⟨hx12, hx55⟩, f63⟩, Or.inr ⟨by omega, Or.inr (Or.inr (Or.inr (Or.inr (Or.inr (Or.inr (Or.inr (Or.inr (Or.inr ((⟨by omega, rfl, _, f141, je155⟩))))))))))⟩⟩, (((FA.rfl.put).trans (FA.of F144 (by decide))).trans (FA.of F154 (by decide)))⟩
          · refine tn_tableIn (tgt := 369) (off := 301) dX7_step_68 (x := v64) ⟨by omega, by omega⟩ (by omega) (by omega) (by rw [h98]; rfl) (by decide) ?_
            refine tn_aload_n dX7_step_369 rfl 3 rfl ?_
            refine tn_iload_n dX7_step_370 rfl 2 rfl ?_
            refine tn_iload_n dX7_step_371 rfl 1 rfl ?_
            obtain ⟨hk160, hl161⟩ : AR T xe 1 1728 1728 := ar_of (wf_63 hw ha) hxe
            have hk160i : IA T xe := by unfold IA; omega
            refine tn_callV (M := m_X7_step) (pc := 372) (ix := 129) (ci := 7) (M' := m_X7_reckonAt) (As := [.int (iI v11), .int (iI v64)]) (rest := []) dX7_step_372 ok_X7_reckonAt im_X7_reckonAt se_X7_reckonAt ml7_129 np_X7_reckonAt rfl rfl ha rfl (Nat.le_of_ble_eq_true rfl) (Nat.le_of_ble_eq_true rfl) rfl (k_X7_reckonAt_j (d + 1) (T := T) (σ := (sA 67 a (w32 ((σ.2.1 67 a) + 1)) σ)) (a := a) (k := v11) (e := v64) (xe := xe) ha (by omega) (by omega) (hw.put (by decide) (by decide) (fo_67 (by omega))) (rc_o (by decide) (hxe)) (by rw [show (sA 67 a (w32 ((σ.2.1 67 a) + 1)) σ).2.1 69 a = _ from rc_o (by decide) (hx12)]; omega)) (fun r162 T164 σ163 gt165 hp => ?_)
            obtain ⟨rfl, rfl, w169, F170, f166, f167⟩ := hp
            clear gt165
            show Tn _ _ 375 T σ163 [(3, .int (iI (w32 (v11 + 1)))), (2, .int (iI v64)), (1, .int (iI v11)), (0, .ref a)] [] _
            refine tn_aload_n dX7_step_375 rfl 3 rfl ?_
            refine tn_getR (ci := 7) (i := 5) (n := 60) (x := xb) dX7_step_376 rfl lay_7 (by decide) fl7_15 ha rfl rfl (rc_F F170 (Or.inl (by decide)) (by decide) (rc_o (by decide) (hxb))) ?_
            refine tn_aload_n dX7_step_379 rfl 3 rfl ?_
            refine tn_getI (ci := 7) (i := 2) (n := 57) (t := σ.2.1 57 a) dX7_step_380 rfl lay_7 (by decide) fl7_65 ha rfl rfl (rc_F F170 (Or.inl (by decide)) (by decide) (rc_o (by decide) (rfl))) ?_
            have g171 : ((0 : Int) ≤ σ.2.1 57 a ∧ σ.2.1 57 a ≤ 11184800) ∧ ((T a).1 = 57 → σ.2.1 57 a ≤ 8) := wf_57 hw ha
            have g171x := g171.2
            replace g171 := g171.1
            clear g171x
            refine tn_iload_n dX7_step_383 rfl 0 rfl ?_
            refine tn_callSN (M := m_X7_step) (pc := 384) (ix := 61) (M' := m_X11_put) (As := [.ref xb, .int (iI (σ.2.1 57 a)), .int (iI (w32 (v11 + 1)))]) (rest := []) dX7_step_384 ok_X11_put stt_X11_put nl7_61 np_X11_put rfl (Nat.le_of_ble_eq_true rfl) (Nat.le_of_ble_eq_true rfl) rfl (k_X11_put_x (d + 3) (T := T) (σ := σ163) (x := xb) (i := σ.2.1 57 a) (y := w32 (v11 + 1)) hk3i (by omega) (by omega) (by omega) w169 (nh_k hk3 (by unfold HT; omega)) (vok_1 (by have q9 := hk3; omega) (by omega))) (fun r172 T174 σ173 gt175 hp => ?_)
            obtain ⟨rfl, rfl, w179, F180, f176, f177⟩ := hp
            clear gt175
            have je181 : σ173 = jP T xb (σ.2.1 57 a) (w32 (v11 + 1)) _ := f177
            show Tn _ _ 387 T σ173 [(3, .int (iI (w32 (v11 + 1)))), (2, .int (iI v64)), (1, .int (iI v11)), (0, .ref a)] [] _
            refine tn_iload_n dX7_step_387 rfl 1 rfl ?_
            refine tn_bipush dX7_step_388 (by decide) ?_
            refine tn_icmp_ne (tgt := 397) dX7_step_390 (by decide) ⟨by omega, by omega⟩ ⟨by decide, by decide⟩ (fun h182 => ?_) (fun h182 => absurd h182 (by omega))
            refine tn_iconst dX7_step_397 ?_
            have q183 : σ173.2.1 57 a = σ.2.1 57 a := rc_F F180 (Or.inl (by decide)) (by decide) (rc_F F170 (Or.inl (by decide)) (by decide) (rc_o (by decide) (rfl)))
            exact tn_zret (v := 0) rfl (by decide) dX7_step_398 ⟨_, rfl, rfl, w179, (((FrC.rfl.put (by decide) (by decide)).trans (FrC.sub F170 (by decide))).trans (FrC.sub F180 (by decide))), by omega, (((CHX.rfl.fld (by simp) (by decide)).trans (CHX.sub f166 (by simp) (by simp) (by simp))).trans (CHX.sub f176 (by simp) (by simp) (by simp))), by omega, ⟨_, v64, f10, Or.inr ⟨xq13, xq54, ⟨hx12, hx55⟩, f63⟩, Or.inr ⟨by omega, Or.inr (Or.inr (Or.inr (Or.inr (Or.inr (Or.inr (Or.inr (Or.inr (Or.inr ((⟨by omega, rfl, _, f167, je181⟩))))))))))⟩⟩, (((FA.rfl.put).trans (FA.of F170 (by decide))).trans (FA.of F180 (by decide)))⟩
          · refine tn_tableIn (tgt := 369) (off := 301) dX7_step_68 (x := v64) ⟨by omega, by omega⟩ (by omega) (by omega) (by rw [h98]; rfl) (by decide) ?_
            refine tn_aload_n dX7_step_369 rfl 3 rfl ?_
            refine tn_iload_n dX7_step_370 rfl 2 rfl ?_
            refine tn_iload_n dX7_step_371 rfl 1 rfl ?_
            obtain ⟨hk186, hl187⟩ : AR T xe 1 1728 1728 := ar_of (wf_63 hw ha) hxe
            have hk186i : IA T xe := by unfold IA; omega
            refine tn_callV (M := m_X7_step) (pc := 372) (ix := 129) (ci := 7) (M' := m_X7_reckonAt) (As := [.int (iI v11), .int (iI v64)]) (rest := []) dX7_step_372 ok_X7_reckonAt im_X7_reckonAt se_X7_reckonAt ml7_129 np_X7_reckonAt rfl rfl ha rfl (Nat.le_of_ble_eq_true rfl) (Nat.le_of_ble_eq_true rfl) rfl (k_X7_reckonAt_j (d + 1) (T := T) (σ := (sA 67 a (w32 ((σ.2.1 67 a) + 1)) σ)) (a := a) (k := v11) (e := v64) (xe := xe) ha (by omega) (by omega) (hw.put (by decide) (by decide) (fo_67 (by omega))) (rc_o (by decide) (hxe)) (by rw [show (sA 67 a (w32 ((σ.2.1 67 a) + 1)) σ).2.1 69 a = _ from rc_o (by decide) (hx12)]; omega)) (fun r188 T190 σ189 gt191 hp => ?_)
            obtain ⟨rfl, rfl, w195, F196, f192, f193⟩ := hp
            clear gt191
            show Tn _ _ 375 T σ189 [(3, .int (iI (w32 (v11 + 1)))), (2, .int (iI v64)), (1, .int (iI v11)), (0, .ref a)] [] _
            refine tn_aload_n dX7_step_375 rfl 3 rfl ?_
            refine tn_getR (ci := 7) (i := 5) (n := 60) (x := xb) dX7_step_376 rfl lay_7 (by decide) fl7_15 ha rfl rfl (rc_F F196 (Or.inl (by decide)) (by decide) (rc_o (by decide) (hxb))) ?_
            refine tn_aload_n dX7_step_379 rfl 3 rfl ?_
            refine tn_getI (ci := 7) (i := 2) (n := 57) (t := σ.2.1 57 a) dX7_step_380 rfl lay_7 (by decide) fl7_65 ha rfl rfl (rc_F F196 (Or.inl (by decide)) (by decide) (rc_o (by decide) (rfl))) ?_
            have g197 : ((0 : Int) ≤ σ.2.1 57 a ∧ σ.2.1 57 a ≤ 11184800) ∧ ((T a).1 = 57 → σ.2.1 57 a ≤ 8) := wf_57 hw ha
            have g197x := g197.2
            replace g197 := g197.1
            clear g197x
            refine tn_iload_n dX7_step_383 rfl 0 rfl ?_
            refine tn_callSN (M := m_X7_step) (pc := 384) (ix := 61) (M' := m_X11_put) (As := [.ref xb, .int (iI (σ.2.1 57 a)), .int (iI (w32 (v11 + 1)))]) (rest := []) dX7_step_384 ok_X11_put stt_X11_put nl7_61 np_X11_put rfl (Nat.le_of_ble_eq_true rfl) (Nat.le_of_ble_eq_true rfl) rfl (k_X11_put_x (d + 3) (T := T) (σ := σ189) (x := xb) (i := σ.2.1 57 a) (y := w32 (v11 + 1)) hk3i (by omega) (by omega) (by omega) w195 (nh_k hk3 (by unfold HT; omega)) (vok_1 (by have q9 := hk3; omega) (by omega))) (fun r198 T200 σ199 gt201 hp => ?_)
            obtain ⟨rfl, rfl, w205, F206, f202, f203⟩ := hp
            clear gt201
            have je207 : σ199 = jP T xb (σ.2.1 57 a) (w32 (v11 + 1)) _ := f203
            show Tn _ _ 387 T σ199 [(3, .int (iI (w32 (v11 + 1)))), (2, .int (iI v64)), (1, .int (iI v11)), (0, .ref a)] [] _
            refine tn_iload_n dX7_step_387 rfl 1 rfl ?_
            refine tn_bipush dX7_step_388 (by decide) ?_
            refine tn_icmp_ne (tgt := 397) dX7_step_390 (by decide) ⟨by omega, by omega⟩ ⟨by decide, by decide⟩ (fun h208 => ?_) (fun h208 => absurd h208 (by omega))
            refine tn_iconst dX7_step_397 ?_
            have q209 : σ199.2.1 57 a = σ.2.1 57 a := rc_F F206 (Or.inl (by decide)) (by decide) (rc_F F196 (Or.inl (by decide)) (by decide) (rc_o (by decide) (rfl)))
            exact tn_zret (v := 0) rfl (by decide) dX7_step_398 ⟨_, rfl, rfl, w205, (((FrC.rfl.put (by decide) (by decide)).trans (FrC.sub F196 (by decide))).trans (FrC.sub F206 (by decide))), by omega, (((CHX.rfl.fld (by simp) (by decide)).trans (CHX.sub f192 (by simp) (by simp) (by simp))).trans (CHX.sub f202 (by simp) (by simp) (by simp))), by omega, ⟨_, v64, f10, Or.inr ⟨xq13, xq54, ⟨hx12, hx55⟩, f63⟩, Or.inr ⟨by omega, Or.inr (Or.inr (Or.inr (Or.inr (Or.inr (Or.inr (Or.inr (Or.inr (Or.inr ((⟨by omega, rfl, _, f193, je207⟩))))))))))⟩⟩, (((FA.rfl.put).trans (FA.of F196 (by decide))).trans (FA.of F206 (by decide)))⟩
          · refine tn_tableIn (tgt := 369) (off := 301) dX7_step_68 (x := v64) ⟨by omega, by omega⟩ (by omega) (by omega) (by rw [h98]; rfl) (by decide) ?_
            refine tn_aload_n dX7_step_369 rfl 3 rfl ?_
            refine tn_iload_n dX7_step_370 rfl 2 rfl ?_
            refine tn_iload_n dX7_step_371 rfl 1 rfl ?_
            obtain ⟨hk212, hl213⟩ : AR T xe 1 1728 1728 := ar_of (wf_63 hw ha) hxe
            have hk212i : IA T xe := by unfold IA; omega
            refine tn_callV (M := m_X7_step) (pc := 372) (ix := 129) (ci := 7) (M' := m_X7_reckonAt) (As := [.int (iI v11), .int (iI v64)]) (rest := []) dX7_step_372 ok_X7_reckonAt im_X7_reckonAt se_X7_reckonAt ml7_129 np_X7_reckonAt rfl rfl ha rfl (Nat.le_of_ble_eq_true rfl) (Nat.le_of_ble_eq_true rfl) rfl (k_X7_reckonAt_j (d + 1) (T := T) (σ := (sA 67 a (w32 ((σ.2.1 67 a) + 1)) σ)) (a := a) (k := v11) (e := v64) (xe := xe) ha (by omega) (by omega) (hw.put (by decide) (by decide) (fo_67 (by omega))) (rc_o (by decide) (hxe)) (by rw [show (sA 67 a (w32 ((σ.2.1 67 a) + 1)) σ).2.1 69 a = _ from rc_o (by decide) (hx12)]; omega)) (fun r214 T216 σ215 gt217 hp => ?_)
            obtain ⟨rfl, rfl, w221, F222, f218, f219⟩ := hp
            clear gt217
            show Tn _ _ 375 T σ215 [(3, .int (iI (w32 (v11 + 1)))), (2, .int (iI v64)), (1, .int (iI v11)), (0, .ref a)] [] _
            refine tn_aload_n dX7_step_375 rfl 3 rfl ?_
            refine tn_getR (ci := 7) (i := 5) (n := 60) (x := xb) dX7_step_376 rfl lay_7 (by decide) fl7_15 ha rfl rfl (rc_F F222 (Or.inl (by decide)) (by decide) (rc_o (by decide) (hxb))) ?_
            refine tn_aload_n dX7_step_379 rfl 3 rfl ?_
            refine tn_getI (ci := 7) (i := 2) (n := 57) (t := σ.2.1 57 a) dX7_step_380 rfl lay_7 (by decide) fl7_65 ha rfl rfl (rc_F F222 (Or.inl (by decide)) (by decide) (rc_o (by decide) (rfl))) ?_
            have g223 : ((0 : Int) ≤ σ.2.1 57 a ∧ σ.2.1 57 a ≤ 11184800) ∧ ((T a).1 = 57 → σ.2.1 57 a ≤ 8) := wf_57 hw ha
            have g223x := g223.2
            replace g223 := g223.1
            clear g223x
            refine tn_iload_n dX7_step_383 rfl 0 rfl ?_
            refine tn_callSN (M := m_X7_step) (pc := 384) (ix := 61) (M' := m_X11_put) (As := [.ref xb, .int (iI (σ.2.1 57 a)), .int (iI (w32 (v11 + 1)))]) (rest := []) dX7_step_384 ok_X11_put stt_X11_put nl7_61 np_X11_put rfl (Nat.le_of_ble_eq_true rfl) (Nat.le_of_ble_eq_true rfl) rfl (k_X11_put_x (d + 3) (T := T) (σ := σ215) (x := xb) (i := σ.2.1 57 a) (y := w32 (v11 + 1)) hk3i (by omega) (by omega) (by omega) w221 (nh_k hk3 (by unfold HT; omega)) (vok_1 (by have q9 := hk3; omega) (by omega))) (fun r224 T226 σ225 gt227 hp => ?_)
            obtain ⟨rfl, rfl, w231, F232, f228, f229⟩ := hp
            clear gt227
            have je233 : σ225 = jP T xb (σ.2.1 57 a) (w32 (v11 + 1)) _ := f229
            show Tn _ _ 387 T σ225 [(3, .int (iI (w32 (v11 + 1)))), (2, .int (iI v64)), (1, .int (iI v11)), (0, .ref a)] [] _
            refine tn_iload_n dX7_step_387 rfl 1 rfl ?_
            refine tn_bipush dX7_step_388 (by decide) ?_
            refine tn_icmp_ne (tgt := 397) dX7_step_390 (by decide) ⟨by omega, by omega⟩ ⟨by decide, by decide⟩ (fun h234 => ?_) (fun h234 => absurd h234 (by omega))
            refine tn_iconst dX7_step_397 ?_
            have q235 : σ225.2.1 57 a = σ.2.1 57 a := rc_F F232 (Or.inl (by decide)) (by decide) (rc_F F222 (Or.inl (by decide)) (by decide) (rc_o (by decide) (rfl)))
            exact tn_zret (v := 0) rfl (by decide) dX7_step_398 ⟨_, rfl, rfl, w231, (((FrC.rfl.put (by decide) (by decide)).trans (FrC.sub F222 (by decide))).trans (FrC.sub F232 (by decide))), by omega, (((CHX.rfl.fld (by simp) (by decide)).trans (CHX.sub f218 (by simp) (by simp) (by simp))).trans (CHX.sub f228 (by simp) (by simp) (by simp))), by omega, ⟨_, v64, f10, Or.inr ⟨xq13, xq54, ⟨hx12, hx55⟩, f63⟩, Or.inr ⟨by omega, Or.inr (Or.inr (Or.inr (Or.inr (Or.inr (Or.inr (Or.inr (Or.inr (Or.inr ((⟨by omega, rfl, _, f219, je233⟩))))))))))⟩⟩, (((FA.rfl.put).trans (FA.of F222 (by decide))).trans (FA.of F232 (by decide)))⟩
          · refine tn_tableIn (tgt := 369) (off := 301) dX7_step_68 (x := v64) ⟨by omega, by omega⟩ (by omega) (by omega) (by rw [h98]; rfl) (by decide) ?_
            refine tn_aload_n dX7_step_369 rfl 3 rfl ?_
            refine tn_iload_n dX7_step_370 rfl 2 rfl ?_
            refine tn_iload_n dX7_step_371 rfl 1 rfl ?_
            obtain ⟨hk238, hl239⟩ : AR T xe 1 1728 1728 := ar_of (wf_63 hw ha) hxe
            have hk238i : IA T xe := by unfold IA; omega
            refine tn_callV (M := m_X7_step) (pc := 372) (ix := 129) (ci := 7) (M' := m_X7_reckonAt) (As := [.int (iI v11), .int (iI v64)]) (rest := []) dX7_step_372 ok_X7_reckonAt im_X7_reckonAt se_X7_reckonAt ml7_129 np_X7_reckonAt rfl rfl ha rfl (Nat.le_of_ble_eq_true rfl) (Nat.le_of_ble_eq_true rfl) rfl (k_X7_reckonAt_j (d + 1) (T := T) (σ := (sA 67 a (w32 ((σ.2.1 67 a) + 1)) σ)) (a := a) (k := v11) (e := v64) (xe := xe) ha (by omega) (by omega) (hw.put (by decide) (by decide) (fo_67 (by omega))) (rc_o (by decide) (hxe)) (by rw [show (sA 67 a (w32 ((σ.2.1 67 a) + 1)) σ).2.1 69 a = _ from rc_o (by decide) (hx12)]; omega)) (fun r240 T242 σ241 gt243 hp => ?_)
            obtain ⟨rfl, rfl, w247, F248, f244, f245⟩ := hp
            clear gt243
            show Tn _ _ 375 T σ241 [(3, .int (iI (w32 (v11 + 1)))), (2, .int (iI v64)), (1, .int (iI v11)), (0, .ref a)] [] _
            refine tn_aload_n dX7_step_375 rfl 3 rfl ?_
            refine tn_getR (ci := 7) (i := 5) (n := 60) (x := xb) dX7_step_376 rfl lay_7 (by decide) fl7_15 ha rfl rfl (rc_F F248 (Or.inl (by decide)) (by decide) (rc_o (by decide) (hxb))) ?_
            refine tn_aload_n dX7_step_379 rfl 3 rfl ?_
            refine tn_getI (ci := 7) (i := 2) (n := 57) (t := σ.2.1 57 a) dX7_step_380 rfl lay_7 (by decide) fl7_65 ha rfl rfl (rc_F F248 (Or.inl (by decide)) (by decide) (rc_o (by decide) (rfl))) ?_
            have g249 : ((0 : Int) ≤ σ.2.1 57 a ∧ σ.2.1 57 a ≤ 11184800) ∧ ((T a).1 = 57 → σ.2.1 57 a ≤ 8) := wf_57 hw ha
            have g249x := g249.2
            replace g249 := g249.1
            clear g249x
            refine tn_iload_n dX7_step_383 rfl 0 rfl ?_
            refine tn_callSN (M := m_X7_step) (pc := 384) (ix := 61) (M' := m_X11_put) (As := [.ref xb, .int (iI (σ.2.1 57 a)), .int (iI (w32 (v11 + 1)))]) (rest := []) dX7_step_384 ok_X11_put stt_X11_put nl7_61 np_X11_put rfl (Nat.le_of_ble_eq_true rfl) (Nat.le_of_ble_eq_true rfl) rfl (k_X11_put_x (d + 3) (T := T) (σ := σ241) (x := xb) (i := σ.2.1 57 a) (y := w32 (v11 + 1)) hk3i (by omega) (by omega) (by omega) w247 (nh_k hk3 (by unfold HT; omega)) (vok_1 (by have q9 := hk3; omega) (by omega))) (fun r250 T252 σ251 gt253 hp => ?_)
            obtain ⟨rfl, rfl, w257, F258, f254, f255⟩ := hp
            clear gt253
            have je259 : σ251 = jP T xb (σ.2.1 57 a) (w32 (v11 + 1)) _ := f255
            show Tn _ _ 387 T σ251 [(3, .int (iI (w32 (v11 + 1)))), (2, .int (iI v64)), (1, .int (iI v11)), (0, .ref a)] [] _
            refine tn_iload_n dX7_step_387 rfl 1 rfl ?_
            refine tn_bipush dX7_step_388 (by decide) ?_
            refine tn_icmp_ne (tgt := 397) dX7_step_390 (by decide) ⟨by omega, by omega⟩ ⟨by decide, by decide⟩ (fun h260 => ?_) (fun h260 => absurd h260 (by omega))
            refine tn_iconst dX7_step_397 ?_
            have q261 : σ251.2.1 57 a = σ.2.1 57 a := rc_F F258 (Or.inl (by decide)) (by decide) (rc_F F248 (Or.inl (by decide)) (by decide) (rc_o (by decide) (rfl)))
            exact tn_zret (v := 0) rfl (by decide) dX7_step_398 ⟨_, rfl, rfl, w257, (((FrC.rfl.put (by decide) (by decide)).trans (FrC.sub F248 (by decide))).trans (FrC.sub F258 (by decide))), by omega, (((CHX.rfl.fld (by simp) (by decide)).trans (CHX.sub f244 (by simp) (by simp) (by simp))).trans (CHX.sub f254 (by simp) (by simp) (by simp))), by omega, ⟨_, v64, f10, Or.inr ⟨xq13, xq54, ⟨hx12, hx55⟩, f63⟩, Or.inr ⟨by omega, Or.inr (Or.inr (Or.inr (Or.inr (Or.inr (Or.inr (Or.inr (Or.inr (Or.inr ((⟨by omega, rfl, _, f245, je259⟩))))))))))⟩⟩, (((FA.rfl.put).trans (FA.of F248 (by decide))).trans (FA.of F258 (by decide)))⟩
          · refine tn_tableIn (tgt := 369) (off := 301) dX7_step_68 (x := v64) ⟨by omega, by omega⟩ (by omega) (by omega) (by rw [h98]; rfl) (by decide) ?_
            refine tn_aload_n dX7_step_369 rfl 3 rfl ?_
            refine tn_iload_n dX7_step_370 rfl 2 rfl ?_
            refine tn_iload_n dX7_step_371 rfl 1 rfl ?_
            obtain ⟨hk264, hl265⟩ : AR T xe 1 1728 1728 := ar_of (wf_63 hw ha) hxe
            have hk264i : IA T xe := by unfold IA; omega
            refine tn_callV (M := m_X7_step) (pc := 372) (ix := 129) (ci := 7) (M' := m_X7_reckonAt) (As := [.int (iI v11), .int (iI v64)]) (rest := []) dX7_step_372 ok_X7_reckonAt im_X7_reckonAt se_X7_reckonAt ml7_129 np_X7_reckonAt rfl rfl ha rfl (Nat.le_of_ble_eq_true rfl) (Nat.le_of_ble_eq_true rfl) rfl (k_X7_reckonAt_j (d + 1) (T := T) (σ := (sA 67 a (w32 ((σ.2.1 67 a) + 1)) σ)) (a := a) (k := v11) (e := v64) (xe := xe) ha (by omega) (by omega) (hw.put (by decide) (by decide) (fo_67 (by omega))) (rc_o (by decide) (hxe)) (by rw [show (sA 67 a (w32 ((σ.2.1 67 a) + 1)) σ).2.1 69 a = _ from rc_o (by decide) (hx12)]; omega)) (fun r266 T268 σ267 gt269 hp => ?_)
            obtain ⟨rfl, rfl, w273, F274, f270, f271⟩ := hp
            clear gt269
            show Tn _ _ 375 T σ267 [(3, .int (iI (w32 (v11 + 1)))), (2, .int (iI v64)), (1, .int (iI v11)), (0, .ref a)] [] _
            refine tn_aload_n dX7_step_375 rfl 3 rfl ?_
            refine tn_getR (ci := 7) (i := 5) (n := 60) (x := xb) dX7_step_376 rfl lay_7 (by decide) fl7_15 ha rfl rfl (rc_F F274 (Or.inl (by decide)) (by decide) (rc_o (by decide) (hxb))) ?_
            refine tn_aload_n dX7_step_379 rfl 3 rfl ?_
            refine tn_getI (ci := 7) (i := 2) (n := 57) (t := σ.2.1 57 a) dX7_step_380 rfl lay_7 (by decide) fl7_65 ha rfl rfl (rc_F F274 (Or.inl (by decide)) (by decide) (rc_o (by decide) (rfl))) ?_
            have g275 : ((0 : Int) ≤ σ.2.1 57 a ∧ σ.2.1 57 a ≤ 11184800) ∧ ((T a).1 = 57 → σ.2.1 57 a ≤ 8) := wf_57 hw ha
            have g275x := g275.2
            replace g275 := g275.1
            clear g275x
            refine tn_iload_n dX7_step_383 rfl 0 rfl ?_
            refine tn_callSN (M := m_X7_step) (pc := 384) (ix := 61) (M' := m_X11_put) (As := [.ref xb, .int (iI (σ.2.1 57 a)), .int (iI (w32 (v11 + 1)))]) (rest := []) dX7_step_384 ok_X11_put stt_X11_put nl7_61 np_X11_put rfl (Nat.le_of_ble_eq_true rfl) (Nat.le_of_ble_eq_true rfl) rfl (k_X11_put_x (d + 3) (T := T) (σ := σ267) (x := xb) (i := σ.2.1 57 a) (y := w32 (v11 + 1)) hk3i (by omega) (by omega) (by omega) w273 (nh_k hk3 (by unfold HT; omega)) (vok_1 (by have q9 := hk3; omega) (by omega))) (fun r276 T278 σ277 gt279 hp => ?_)
            obtain ⟨rfl, rfl, w283, F284, f280, f281⟩ := hp
            clear gt279
            have je285 : σ277 = jP T xb (σ.2.1 57 a) (w32 (v11 + 1)) _ := f281
            show Tn _ _ 387 T σ277 [(3, .int (iI (w32 (v11 + 1)))), (2, .int (iI v64)), (1, .int (iI v11)), (0, .ref a)] [] _
            refine tn_iload_n dX7_step_387 rfl 1 rfl ?_
            refine tn_bipush dX7_step_388 (by decide) ?_
            refine tn_icmp_ne (tgt := 397) dX7_step_390 (by decide) ⟨by omega, by omega⟩ ⟨by decide, by decide⟩ (fun h286 => ?_) (fun h286 => absurd h286 (by omega))
            refine tn_iconst dX7_step_397 ?_
            have q287 : σ277.2.1 57 a = σ.2.1 57 a := rc_F F284 (Or.inl (by decide)) (by decide) (rc_F F274 (Or.inl (by decide)) (by decide) (rc_o (by decide) (rfl)))
            exact tn_zret (v := 0) rfl (by decide) dX7_step_398 ⟨_, rfl, rfl, w283, (((FrC.rfl.put (by decide) (by decide)).trans (FrC.sub F274 (by decide))).trans (FrC.sub F284 (by decide))), by omega, (((CHX.rfl.fld (by simp) (by decide)).trans (CHX.sub f270 (by simp) (by simp) (by simp))).trans (CHX.sub f280 (by simp) (by simp) (by simp))), by omega, ⟨_, v64, f10, Or.inr ⟨xq13, xq54, ⟨hx12, hx55⟩, f63⟩, Or.inr ⟨by omega, Or.inr (Or.inr (Or.inr (Or.inr (Or.inr (Or.inr (Or.inr (Or.inr (Or.inr ((⟨by omega, rfl, _, f271, je285⟩))))))))))⟩⟩, (((FA.rfl.put).trans (FA.of F274 (by decide))).trans (FA.of F284 (by decide)))⟩
          · refine tn_tableIn (tgt := 152) (off := 84) dX7_step_68 (x := v64) ⟨by omega, by omega⟩ (by omega) (by omega) (by rw [h98]; rfl) (by decide) ?_
            refine tn_aload_n dX7_step_152 rfl 3 rfl ?_
            refine tn_aload_n dX7_step_153 rfl 3 rfl ?_
            refine tn_iload_n dX7_step_154 rfl 2 rfl ?_
            refine tn_iconst dX7_step_155 ?_
            obtain ⟨hk290, hl291⟩ : AR T xe 1 1728 1728 := ar_of (wf_63 hw ha) hxe
            have hk290i : IA T xe := by unfold IA; omega
            refine tn_callV (M := m_X7_step) (pc := 156) (ix := 110) (ci := 7) (M' := m_X7_operand) (As := [.int (iI v11), .int (iI 3)]) (rest := [.ref a]) dX7_step_156 ok_X7_operand im_X7_operand se_X7_operand ml7_110 np_X7_operand rfl rfl ha rfl (Nat.le_of_ble_eq_true rfl) (Nat.le_of_ble_eq_true rfl) rfl (k_X7_operand_j (d + 2) (T := T) (σ := (sA 67 a (w32 ((σ.2.1 67 a) + 1)) σ)) (a := a) (k := v11) (c := 3) (xe := xe) ha (by omega) (by decide) (hw.put (by decide) (by decide) (fo_67 (by omega))) (rc_o (by decide) (hxe)) (by rw [show (sA 67 a (w32 ((σ.2.1 67 a) + 1)) σ).2.1 69 a = _ from rc_o (by decide) (hx12)]; omega) (by omega)) (fun r292 T294 σ293 gt295 hp => ?_)
            obtain ⟨v298, rfl, rfl, rfl, f296, f297⟩ := hp
            clear gt295
            show Tn _ _ 159 T (sA 67 a (w32 ((σ.2.1 67 a) + 1)) σ) [(3, .int (iI (w32 (v11 + 1)))), (2, .int (iI v64)), (1, .int (iI v11)), (0, .ref a)] [.int (iI v298), .ref a] _
            obtain ⟨hk301, hl302⟩ : AR T xf 1 200 200 := ar_of (wf_64 hw ha) hxf
            have hk301i : IA T xf := by unfold IA; omega
            refine tn_callV (M := m_X7_step) (pc := 159) (ix := 113) (ci := 7) (M' := m_X7_emit) (As := [.int (iI v298)]) (rest := []) dX7_step_159 ok_X7_emit im_X7_emit se_X7_emit ml7_113 np_X7_emit rfl rfl ha rfl (Nat.le_of_ble_eq_true rfl) (Nat.le_of_ble_eq_true rfl) rfl (k_X7_emit_j (d + 2) (T := T) (σ := (sA 67 a (w32 ((σ.2.1 67 a) + 1)) σ)) (a := a) (p1 := v298) (xf := xf) ha (by omega) (hw.put (by decide) (by decide) (fo_67 (by omega))) (rc_o (by decide) (hxf))) (fun r303 T305 σ304 gt306 hp => ?_)
            obtain ⟨rfl, rfl, w311, F312, f307, f308, f309⟩ := hp
            clear gt306
            show Tn _ _ 162 T σ304 [(3, .int (iI (w32 (v11 + 1)))), (2, .int (iI v64)), (1, .int (iI v11)), (0, .ref a)] [] _
            refine tn_goto (tgt := 375) dX7_step_162 (by decide) ?_
            refine tn_aload_n dX7_step_375 rfl 3 rfl ?_
            refine tn_getR (ci := 7) (i := 5) (n := 60) (x := xb) dX7_step_376 rfl lay_7 (by decide) fl7_15 ha rfl rfl (rc_F F312 (Or.inl (by decide)) (by decide) (rc_o (by decide) (hxb))) ?_
            refine tn_aload_n dX7_step_379 rfl 3 rfl ?_
            refine tn_getI (ci := 7) (i := 2) (n := 57) (t := σ.2.1 57 a) dX7_step_380 rfl lay_7 (by decide) fl7_65 ha rfl rfl (rc_F F312 (Or.inl (by decide)) (by decide) (rc_o (by decide) (rfl))) ?_
            have g313 : ((0 : Int) ≤ σ.2.1 57 a ∧ σ.2.1 57 a ≤ 11184800) ∧ ((T a).1 = 57 → σ.2.1 57 a ≤ 8) := wf_57 hw ha
            have g313x := g313.2
            replace g313 := g313.1
            clear g313x
            refine tn_iload_n dX7_step_383 rfl 0 rfl ?_
            refine tn_callSN (M := m_X7_step) (pc := 384) (ix := 61) (M' := m_X11_put) (As := [.ref xb, .int (iI (σ.2.1 57 a)), .int (iI (w32 (v11 + 1)))]) (rest := []) dX7_step_384 ok_X11_put stt_X11_put nl7_61 np_X11_put rfl (Nat.le_of_ble_eq_true rfl) (Nat.le_of_ble_eq_true rfl) rfl (k_X11_put_x (d + 3) (T := T) (σ := σ304) (x := xb) (i := σ.2.1 57 a) (y := w32 (v11 + 1)) hk3i (by omega) (by omega) (by omega) w311 (nh_k hk3 (by unfold HT; omega)) (vok_1 (by have q9 := hk3; omega) (by omega))) (fun r314 T316 σ315 gt317 hp => ?_)
            obtain ⟨rfl, rfl, w321, F322, f318, f319⟩ := hp
            clear gt317
            have je323 : σ315 = jP T xb (σ.2.1 57 a) (w32 (v11 + 1)) _ := f319
            show Tn _ _ 387 T σ315 [(3, .int (iI (w32 (v11 + 1)))), (2, .int (iI v64)), (1, .int (iI v11)), (0, .ref a)] [] _
            refine tn_iload_n dX7_step_387 rfl 1 rfl ?_
            refine tn_bipush dX7_step_388 (by decide) ?_
            refine tn_icmp_ne (tgt := 397) dX7_step_390 (by decide) ⟨by omega, by omega⟩ ⟨by decide, by decide⟩ (fun h324 => ?_) (fun h324 => absurd h324 (by omega))
            refine tn_iconst dX7_step_397 ?_
            have q325 : σ315.2.1 57 a = σ.2.1 57 a := rc_F F322 (Or.inl (by decide)) (by decide) (rc_F F312 (Or.inl (by decide)) (by decide) (rc_o (by decide) (rfl)))
            exact tn_zret (v := 0) rfl (by decide) dX7_step_398 ⟨_, rfl, rfl, w321, (((FrC.rfl.put (by decide) (by decide)).trans (FrC.sub F312 (by decide))).trans (FrC.sub F322 (by decide))), by omega, (((CHX.rfl.fld (by simp) (by decide)).trans (CHX.sub f307 (by simp) (by simp) (by simp))).trans (CHX.sub f318 (by simp) (by simp) (by simp))), by omega, ⟨_, v64, f10, Or.inr ⟨xq13, xq54, ⟨hx12, hx55⟩, f63⟩, Or.inr ⟨by omega, Or.inl (⟨by omega, rfl, _, _, f297, f308, je323⟩)⟩⟩, (((FA.rfl.put).trans f309).trans (FA.of F322 (by decide)))⟩
          · refine tn_tableIn (tgt := 213) (off := 145) dX7_step_68 (x := v64) ⟨by omega, by omega⟩ (by omega) (by omega) (by rw [h98]; rfl) (by decide) ?_
            refine tn_aload_n dX7_step_213 rfl 3 rfl ?_
            refine tn_aload_n dX7_step_214 rfl 3 rfl ?_
            refine tn_iload_n dX7_step_215 rfl 2 rfl ?_
            refine tn_iconst dX7_step_216 ?_
            obtain ⟨hk328, hl329⟩ : AR T xe 1 1728 1728 := ar_of (wf_63 hw ha) hxe
            have hk328i : IA T xe := by unfold IA; omega
            refine tn_callV (M := m_X7_step) (pc := 217) (ix := 110) (ci := 7) (M' := m_X7_operand) (As := [.int (iI v11), .int (iI 3)]) (rest := [.ref a]) dX7_step_217 ok_X7_operand im_X7_operand se_X7_operand ml7_110 np_X7_operand rfl rfl ha rfl (Nat.le_of_ble_eq_true rfl) (Nat.le_of_ble_eq_true rfl) rfl (k_X7_operand_j (d + 2) (T := T) (σ := (sA 67 a (w32 ((σ.2.1 67 a) + 1)) σ)) (a := a) (k := v11) (c := 3) (xe := xe) ha (by omega) (by decide) (hw.put (by decide) (by decide) (fo_67 (by omega))) (rc_o (by decide) (hxe)) (by rw [show (sA 67 a (w32 ((σ.2.1 67 a) + 1)) σ).2.1 69 a = _ from rc_o (by decide) (hx12)]; omega) (by omega)) (fun r330 T332 σ331 gt333 hp => ?_)
            obtain ⟨v336, rfl, rfl, rfl, f334, f335⟩ := hp
            clear gt333
            show Tn _ _ 220 T (sA 67 a (w32 ((σ.2.1 67 a) + 1)) σ) [(3, .int (iI (w32 (v11 + 1)))), (2, .int (iI v64)), (1, .int (iI v11)), (0, .ref a)] [.int (iI v336), .ref a] _
            obtain ⟨hk339, hl340⟩ : AR T xa 15 9 9 := ar_of (wf_59 hw ha) hxa
            have hk339i : IA T xa := by unfold IA; omega
            obtain ⟨hl344, hk343a, hk343b⟩ := ex_at (wf_61 hw ha) hxc
            have hk343 : (T xc).1 = 1 := hk343b (by omega)
            clear hk343a hk343b
            have hk343i : IA T xc := by unfold IA; omega
            obtain ⟨hk347, hl348⟩ : AR T xd 1 108 108 := ar_of (wf_62 hw ha) hxd
            have hk347i : IA T xd := by unfold IA; omega
            obtain ⟨hl352, hk351a, hk351b⟩ := ex_at (wf_55 hw ha) hy
            have hk351i : (T y).1 = 4 ∨ (T y).1 = 5 := by omega
            have hk351c : RROW T a y := ⟨hk351a, hk351b⟩
            clear hk351a hk351b
            have q357 : (sA 67 a (w32 ((σ.2.1 67 a) + 1)) σ).2.1 57 a = σ.2.1 57 a := rc_o (by decide) (rfl)
            refine tn_callV (M := m_X7_step) (pc := 220) (ix := 123) (ci := 7) (M' := m_X7_giveBack) (As := [.int (iI v336)]) (rest := []) dX7_step_220 ok_X7_giveBack im_X7_giveBack se_X7_giveBack ml7_123 np_X7_giveBack rfl rfl ha rfl (Nat.le_of_ble_eq_true rfl) (Nat.le_of_ble_eq_true rfl) rfl (k_X7_giveBack_j (d + 1) (T := T) (σ := (sA 67 a (w32 ((σ.2.1 67 a) + 1)) σ)) (a := a) (n := v336) (xa := xa) (xb := xb) (xc := xc) (xd := xd) (xe := xe) (y := y) ha hta (by omega) (hw.put (by decide) (by decide) (fo_67 (by omega))) (rc_o (by decide) (hxa)) (rc_o (by decide) (hxb)) (rc_o (by decide) (hxc)) (rc_o (by decide) (hxd)) (rc_o (by decide) (hxe)) (rc_o (by decide) (hy))) (fun r353 T355 σ354 gt356 hp => ?_)
            obtain ⟨rfl, rfl, w363, F364, f358, f359, f360, f361⟩ := hp
            clear gt356
            show Tn _ _ 223 T σ354 [(3, .int (iI (w32 (v11 + 1)))), (2, .int (iI v64)), (1, .int (iI v11)), (0, .ref a)] [] _
            refine tn_iconst dX7_step_223 ?_
            have q365 : σ354.2.1 57 a = σ354.2.1 57 a := rfl
            exact tn_zret (v := 0) rfl (by decide) dX7_step_224 ⟨_, rfl, rfl, w363, ((FrC.rfl.put (by decide) (by decide)).trans (FrC.sub F364 (by decide))), by omega, ((CHX.rfl.fld (by simp) (by decide)).trans (CHX.sub f358 (by simp) (by simp) (by simp))), by omega, ⟨_, v64, f10, Or.inr ⟨xq13, xq54, ⟨hx12, hx55⟩, f63⟩, Or.inr ⟨by omega, Or.inr (Or.inr (Or.inr (Or.inr (Or.inl (⟨by omega, rfl, _, f335, f360⟩)))))⟩⟩, ((FA.rfl.put).trans f361)⟩
          · refine tn_tableIn (tgt := 165) (off := 97) dX7_step_68 (x := v64) ⟨by omega, by omega⟩ (by omega) (by omega) (by rw [h98]; rfl) (by decide) ?_
            refine tn_aload_n dX7_step_165 rfl 3 rfl ?_
            refine tn_getR (ci := 7) (i := 14) (n := 69) (x := xq13) dX7_step_166 rfl lay_7 (by decide) fl7_72 ha rfl rfl (rc_o (by decide) (hx12)) ?_
            refine tn_iload_n dX7_step_169 rfl 2 rfl ?_
            refine tn_bipush dX7_step_170 (by decide) ?_
            refine tn_callV (M := m_X7_step) (pc := 172) (ix := 117) (ci := 1) (M' := m_X1_get) (As := [.int (iI v11), .int (iI 12)]) (rest := []) dX7_step_172 ok_X1_get im_X1_get se_X1_get ml7_117 np_X1_get rfl rfl hk14o rfl (Nat.le_of_ble_eq_true rfl) (Nat.le_of_ble_eq_true rfl) rfl (k_X1_get_j (d + 3) (T := T) (σ := (sA 67 a (w32 ((σ.2.1 67 a) + 1)) σ)) (a := xq13) (k := v11) (c := 12) (x := xq54) hk14o (by omega) (by decide) (hw.put (by decide) (by decide) (fo_67 (by omega))) (rc_o (by decide) (hx55)) (by omega)) (fun r366 T368 σ367 gt369 hp => ?_)
            obtain ⟨v372, rfl, rfl, rfl, f370, f371⟩ := hp
            clear gt369
            show Tn _ _ 175 T (sA 67 a (w32 ((σ.2.1 67 a) + 1)) σ) [(3, .int (iI (w32 (v11 + 1)))), (2, .int (iI v64)), (1, .int (iI v11)), (0, .ref a)] [.int (iI v372)] _
            refine tn_istore_n (L' := [(3, .int (iI v372)), (2, .int (iI v64)), (1, .int (iI v11)), (0, .ref a)]) dX7_step_175 rfl (by decide) rfl ?_
            refine tn_goto (tgt := 375) dX7_step_176 (by decide) ?_
            refine tn_aload_n dX7_step_375 rfl 3 rfl ?_
            refine tn_getR (ci := 7) (i := 5) (n := 60) (x := xb) dX7_step_376 rfl lay_7 (by decide) fl7_15 ha rfl rfl (rc_o (by decide) (hxb)) ?_
            refine tn_aload_n dX7_step_379 rfl 3 rfl ?_
            refine tn_getI (ci := 7) (i := 2) (n := 57) (t := σ.2.1 57 a) dX7_step_380 rfl lay_7 (by decide) fl7_65 ha rfl rfl (rc_o (by decide) (rfl)) ?_
            have g373 : ((0 : Int) ≤ σ.2.1 57 a ∧ σ.2.1 57 a ≤ 11184800) ∧ ((T a).1 = 57 → σ.2.1 57 a ≤ 8) := wf_57 hw ha
            have g373x := g373.2
            replace g373 := g373.1
            clear g373x
            refine tn_iload_n dX7_step_383 rfl 0 rfl ?_
            refine tn_callSN (M := m_X7_step) (pc := 384) (ix := 61) (M' := m_X11_put) (As := [.ref xb, .int (iI (σ.2.1 57 a)), .int (iI v372)]) (rest := []) dX7_step_384 ok_X11_put stt_X11_put nl7_61 np_X11_put rfl (Nat.le_of_ble_eq_true rfl) (Nat.le_of_ble_eq_true rfl) rfl (k_X11_put_x (d + 3) (T := T) (σ := (sA 67 a (w32 ((σ.2.1 67 a) + 1)) σ)) (x := xb) (i := σ.2.1 57 a) (y := v372) hk3i (by omega) (by omega) (by omega) (hw.put (by decide) (by decide) (fo_67 (by omega))) (nh_k hk3 (by unfold HT; omega)) (vok_1 (by have q9 := hk3; omega) (by omega))) (fun r374 T376 σ375 gt377 hp => ?_)
            obtain ⟨rfl, rfl, w381, F382, f378, f379⟩ := hp
            clear gt377
            have je383 : σ375 = jP T xb (σ.2.1 57 a) (v372) _ := f379
            show Tn _ _ 387 T σ375 [(3, .int (iI v372)), (2, .int (iI v64)), (1, .int (iI v11)), (0, .ref a)] [] _
            refine tn_iload_n dX7_step_387 rfl 1 rfl ?_
            refine tn_bipush dX7_step_388 (by decide) ?_
            refine tn_icmp_ne (tgt := 397) dX7_step_390 (by decide) ⟨by omega, by omega⟩ ⟨by decide, by decide⟩ (fun h384 => ?_) (fun h384 => absurd h384 (by omega))
            refine tn_iconst dX7_step_397 ?_
            have q385 : σ375.2.1 57 a = σ.2.1 57 a := rc_F F382 (Or.inl (by decide)) (by decide) (rc_o (by decide) (rfl))
            exact tn_zret (v := 0) rfl (by decide) dX7_step_398 ⟨_, rfl, rfl, w381, ((FrC.rfl.put (by decide) (by decide)).trans (FrC.sub F382 (by decide))), by omega, ((CHX.rfl.fld (by simp) (by decide)).trans (CHX.sub f378 (by simp) (by simp) (by simp))), by omega, ⟨_, v64, f10, Or.inr ⟨xq13, xq54, ⟨hx12, hx55⟩, f63⟩, Or.inr ⟨by omega, Or.inr (Or.inl (⟨by omega, rfl, xq13, xq54, ⟨hx12, hx55⟩, by rw [← f371]; exact je383⟩))⟩⟩, ((FA.rfl.put).trans (FA.of F382 (by decide)))⟩
          · refine tn_tableIn (tgt := 179) (off := 111) dX7_step_68 (x := v64) ⟨by omega, by omega⟩ (by omega) (by omega) (by rw [h98]; rfl) (by decide) ?_
            refine tn_aload_n dX7_step_179 rfl 3 rfl ?_
            refine tn_iload_n dX7_step_180 rfl 2 rfl ?_
            refine tn_iconst dX7_step_181 ?_
            obtain ⟨hk388, hl389⟩ : AR T xe 1 1728 1728 := ar_of (wf_63 hw ha) hxe
            have hk388i : IA T xe := by unfold IA; omega
            refine tn_callV (M := m_X7_step) (pc := 182) (ix := 110) (ci := 7) (M' := m_X7_operand) (As := [.int (iI v11), .int (iI 3)]) (rest := []) dX7_step_182 ok_X7_operand im_X7_operand se_X7_operand ml7_110 np_X7_operand rfl rfl ha rfl (Nat.le_of_ble_eq_true rfl) (Nat.le_of_ble_eq_true rfl) rfl (k_X7_operand_j (d + 2) (T := T) (σ := (sA 67 a (w32 ((σ.2.1 67 a) + 1)) σ)) (a := a) (k := v11) (c := 3) (xe := xe) ha (by omega) (by decide) (hw.put (by decide) (by decide) (fo_67 (by omega))) (rc_o (by decide) (hxe)) (by rw [show (sA 67 a (w32 ((σ.2.1 67 a) + 1)) σ).2.1 69 a = _ from rc_o (by decide) (hx12)]; omega) (by omega)) (fun r390 T392 σ391 gt393 hp => ?_)
            obtain ⟨v396, rfl, rfl, rfl, f394, f395⟩ := hp
            clear gt393
            show Tn _ _ 185 T (sA 67 a (w32 ((σ.2.1 67 a) + 1)) σ) [(3, .int (iI (w32 (v11 + 1)))), (2, .int (iI v64)), (1, .int (iI v11)), (0, .ref a)] [.int (iI v396)] _
            refine tn_if_ne (tgt := 201) dX7_step_185 (by decide) ⟨by omega, by omega⟩ (fun h397 => ?_) (fun h397 => ?_)
            · refine tn_iload_n dX7_step_201 rfl 0 rfl ?_
              refine tn_istore_n (L' := [(3, .int (iI (w32 (v11 + 1)))), (2, .int (iI v64)), (1, .int (iI v11)), (0, .ref a)]) dX7_step_202 rfl (by decide) rfl ?_
              refine tn_goto (tgt := 375) dX7_step_203 (by decide) ?_
              refine tn_aload_n dX7_step_375 rfl 3 rfl ?_
              refine tn_getR (ci := 7) (i := 5) (n := 60) (x := xb) dX7_step_376 rfl lay_7 (by decide) fl7_15 ha rfl rfl (rc_o (by decide) (hxb)) ?_
              refine tn_aload_n dX7_step_379 rfl 3 rfl ?_
              refine tn_getI (ci := 7) (i := 2) (n := 57) (t := σ.2.1 57 a) dX7_step_380 rfl lay_7 (by decide) fl7_65 ha rfl rfl (rc_o (by decide) (rfl)) ?_
              have g398 : ((0 : Int) ≤ σ.2.1 57 a ∧ σ.2.1 57 a ≤ 11184800) ∧ ((T a).1 = 57 → σ.2.1 57 a ≤ 8) := wf_57 hw ha
              have g398x := g398.2
              replace g398 := g398.1
              clear g398x
              refine tn_iload_n dX7_step_383 rfl 0 rfl ?_
              refine tn_callSN (M := m_X7_step) (pc := 384) (ix := 61) (M' := m_X11_put) (As := [.ref xb, .int (iI (σ.2.1 57 a)), .int (iI (w32 (v11 + 1)))]) (rest := []) dX7_step_384 ok_X11_put stt_X11_put nl7_61 np_X11_put rfl (Nat.le_of_ble_eq_true rfl) (Nat.le_of_ble_eq_true rfl) rfl (k_X11_put_x (d + 3) (T := T) (σ := (sA 67 a (w32 ((σ.2.1 67 a) + 1)) σ)) (x := xb) (i := σ.2.1 57 a) (y := w32 (v11 + 1)) hk3i (by omega) (by omega) (by omega) (hw.put (by decide) (by decide) (fo_67 (by omega))) (nh_k hk3 (by unfold HT; omega)) (vok_1 (by have q9 := hk3; omega) (by omega))) (fun r399 T401 σ400 gt402 hp => ?_)
              obtain ⟨rfl, rfl, w406, F407, f403, f404⟩ := hp
              clear gt402
              have je408 : σ400 = jP T xb (σ.2.1 57 a) (w32 (v11 + 1)) _ := f404
              show Tn _ _ 387 T σ400 [(3, .int (iI (w32 (v11 + 1)))), (2, .int (iI v64)), (1, .int (iI v11)), (0, .ref a)] [] _
              refine tn_iload_n dX7_step_387 rfl 1 rfl ?_
              refine tn_bipush dX7_step_388 (by decide) ?_
              refine tn_icmp_ne (tgt := 397) dX7_step_390 (by decide) ⟨by omega, by omega⟩ ⟨by decide, by decide⟩ (fun h409 => ?_) (fun h409 => absurd h409 (by omega))
              refine tn_iconst dX7_step_397 ?_
              have q410 : σ400.2.1 57 a = σ.2.1 57 a := rc_F F407 (Or.inl (by decide)) (by decide) (rc_o (by decide) (rfl))
              exact tn_zret (v := 0) rfl (by decide) dX7_step_398 ⟨_, rfl, rfl, w406, ((FrC.rfl.put (by decide) (by decide)).trans (FrC.sub F407 (by decide))), by omega, ((CHX.rfl.fld (by simp) (by decide)).trans (CHX.sub f403 (by simp) (by simp) (by simp))), by omega, ⟨_, v64, f10, Or.inr ⟨xq13, xq54, ⟨hx12, hx55⟩, f63⟩, Or.inr ⟨by omega, Or.inr (Or.inr (Or.inl (⟨by omega, rfl, _, f395, Or.inr ⟨by omega, je408⟩⟩)))⟩⟩, ((FA.rfl.put).trans (FA.of F407 (by decide)))⟩
            · refine tn_aload_n dX7_step_188 rfl 3 rfl ?_
              refine tn_getR (ci := 7) (i := 14) (n := 69) (x := xq13) dX7_step_189 rfl lay_7 (by decide) fl7_72 ha rfl rfl (rc_o (by decide) (hx12)) ?_
              refine tn_iload_n dX7_step_192 rfl 2 rfl ?_
              refine tn_bipush dX7_step_193 (by decide) ?_
              refine tn_callV (M := m_X7_step) (pc := 195) (ix := 117) (ci := 1) (M' := m_X1_get) (As := [.int (iI v11), .int (iI 12)]) (rest := []) dX7_step_195 ok_X1_get im_X1_get se_X1_get ml7_117 np_X1_get rfl rfl hk14o rfl (Nat.le_of_ble_eq_true rfl) (Nat.le_of_ble_eq_true rfl) rfl (k_X1_get_j (d + 3) (T := T) (σ := (sA 67 a (w32 ((σ.2.1 67 a) + 1)) σ)) (a := xq13) (k := v11) (c := 12) (x := xq54) hk14o (by omega) (by decide) (hw.put (by decide) (by decide) (fo_67 (by omega))) (rc_o (by decide) (hx55)) (by omega)) (fun r411 T413 σ412 gt414 hp => ?_)
              obtain ⟨v417, rfl, rfl, rfl, f415, f416⟩ := hp
              clear gt414
              show Tn _ _ 198 T (sA 67 a (w32 ((σ.2.1 67 a) + 1)) σ) [(3, .int (iI (w32 (v11 + 1)))), (2, .int (iI v64)), (1, .int (iI v11)), (0, .ref a)] [.int (iI v417)] _
              refine tn_goto (tgt := 202) dX7_step_198 (by decide) ?_
              refine tn_istore_n (L' := [(3, .int (iI v417)), (2, .int (iI v64)), (1, .int (iI v11)), (0, .ref a)]) dX7_step_202 rfl (by decide) rfl ?_
              refine tn_goto (tgt := 375) dX7_step_203 (by decide) ?_
              refine tn_aload_n dX7_step_375 rfl 3 rfl ?_
              refine tn_getR (ci := 7) (i := 5) (n := 60) (x := xb) dX7_step_376 rfl lay_7 (by decide) fl7_15 ha rfl rfl (rc_o (by decide) (hxb)) ?_
              refine tn_aload_n dX7_step_379 rfl 3 rfl ?_
              refine tn_getI (ci := 7) (i := 2) (n := 57) (t := σ.2.1 57 a) dX7_step_380 rfl lay_7 (by decide) fl7_65 ha rfl rfl (rc_o (by decide) (rfl)) ?_
              have g418 : ((0 : Int) ≤ σ.2.1 57 a ∧ σ.2.1 57 a ≤ 11184800) ∧ ((T a).1 = 57 → σ.2.1 57 a ≤ 8) := wf_57 hw ha
              have g418x := g418.2
              replace g418 := g418.1
              clear g418x
              refine tn_iload_n dX7_step_383 rfl 0 rfl ?_
              refine tn_callSN (M := m_X7_step) (pc := 384) (ix := 61) (M' := m_X11_put) (As := [.ref xb, .int (iI (σ.2.1 57 a)), .int (iI v417)]) (rest := []) dX7_step_384 ok_X11_put stt_X11_put nl7_61 np_X11_put rfl (Nat.le_of_ble_eq_true rfl) (Nat.le_of_ble_eq_true rfl) rfl (k_X11_put_x (d + 3) (T := T) (σ := (sA 67 a (w32 ((σ.2.1 67 a) + 1)) σ)) (x := xb) (i := σ.2.1 57 a) (y := v417) hk3i (by omega) (by omega) (by omega) (hw.put (by decide) (by decide) (fo_67 (by omega))) (nh_k hk3 (by unfold HT; omega)) (vok_1 (by have q9 := hk3; omega) (by omega))) (fun r419 T421 σ420 gt422 hp => ?_)
              obtain ⟨rfl, rfl, w426, F427, f423, f424⟩ := hp
              clear gt422
              have je428 : σ420 = jP T xb (σ.2.1 57 a) (v417) _ := f424
              show Tn _ _ 387 T σ420 [(3, .int (iI v417)), (2, .int (iI v64)), (1, .int (iI v11)), (0, .ref a)] [] _
              refine tn_iload_n dX7_step_387 rfl 1 rfl ?_
              refine tn_bipush dX7_step_388 (by decide) ?_
              refine tn_icmp_ne (tgt := 397) dX7_step_390 (by decide) ⟨by omega, by omega⟩ ⟨by decide, by decide⟩ (fun h429 => ?_) (fun h429 => absurd h429 (by omega))
              refine tn_iconst dX7_step_397 ?_
              have q430 : σ420.2.1 57 a = σ.2.1 57 a := rc_F F427 (Or.inl (by decide)) (by decide) (rc_o (by decide) (rfl))
              exact tn_zret (v := 0) rfl (by decide) dX7_step_398 ⟨_, rfl, rfl, w426, ((FrC.rfl.put (by decide) (by decide)).trans (FrC.sub F427 (by decide))), by omega, ((CHX.rfl.fld (by simp) (by decide)).trans (CHX.sub f423 (by simp) (by simp) (by simp))), by omega, ⟨_, v64, f10, Or.inr ⟨xq13, xq54, ⟨hx12, hx55⟩, f63⟩, Or.inr ⟨by omega, Or.inr (Or.inr (Or.inl (⟨by omega, rfl, _, f395, Or.inl ⟨by omega, xq13, xq54, ⟨hx12, hx55⟩, by rw [← f416]; exact je428⟩⟩)))⟩⟩, ((FA.rfl.put).trans (FA.of F427 (by decide)))⟩
          · refine tn_tableIn (tgt := 206) (off := 138) dX7_step_68 (x := v64) ⟨by omega, by omega⟩ (by omega) (by omega) (by rw [h98]; rfl) (by decide) ?_
            refine tn_aload_n dX7_step_206 rfl 3 rfl ?_
            refine tn_iload_n dX7_step_207 rfl 2 rfl ?_
            obtain ⟨hk433, hl434⟩ : AR T xa 15 9 9 := ar_of (wf_59 hw ha) hxa
            have hk433i : IA T xa := by unfold IA; omega
            obtain ⟨hl438, hk437a, hk437b⟩ := ex_at (wf_61 hw ha) hxc
            have hk437 : (T xc).1 = 1 := hk437b (by omega)
            clear hk437a hk437b
            have hk437i : IA T xc := by unfold IA; omega
            obtain ⟨hk441, hl442⟩ : AR T xd 1 108 108 := ar_of (wf_62 hw ha) hxd
            have hk441i : IA T xd := by unfold IA; omega
            obtain ⟨hk445, hl446⟩ : AR T xe 1 1728 1728 := ar_of (wf_63 hw ha) hxe
            have hk445i : IA T xe := by unfold IA; omega
            obtain ⟨hl450, hk449a, hk449b⟩ := ex_at (wf_55 hw ha) hy
            have hk449i : (T y).1 = 4 ∨ (T y).1 = 5 := by omega
            have hk449c : RROW T a y := ⟨hk449a, hk449b⟩
            clear hk449a hk449b
            have q455 : (sA 67 a (w32 ((σ.2.1 67 a) + 1)) σ).2.1 57 a = σ.2.1 57 a := rc_o (by decide) (rfl)
            refine tn_callV (M := m_X7_step) (pc := 208) (ix := 120) (ci := 7) (M' := m_X7_callFrom) (As := [.int (iI v11)]) (rest := []) dX7_step_208 ok_X7_callFrom im_X7_callFrom se_X7_callFrom ml7_120 np_X7_callFrom rfl rfl ha rfl (Nat.le_of_ble_eq_true rfl) (Nat.le_of_ble_eq_true rfl) rfl (k_X7_callFrom_j (d) (T := T) (σ := (sA 67 a (w32 ((σ.2.1 67 a) + 1)) σ)) (a := a) (k := v11) (xa := xa) (xb := xb) (xc := xc) (xd := xd) (xe := xe) (y := y) ha hta (by omega) (hw.put (by decide) (by decide) (fo_67 (by omega))) (rc_o (by decide) (hxa)) (rc_o (by decide) (hxb)) (rc_o (by decide) (hxc)) (rc_o (by decide) (hxd)) (rc_o (by decide) (hxe)) (rc_o (by decide) (hy)) (by rw [show (sA 67 a (w32 ((σ.2.1 67 a) + 1)) σ).2.1 69 a = _ from rc_o (by decide) (hx12)]; omega) (by rw [show (sA 67 a (w32 ((σ.2.1 67 a) + 1)) σ).2.1 57 a = σ.2.1 57 a from rc_o (by decide) (rfl)]; omega)) (fun r451 T453 σ452 gt454 hp => ?_)
            obtain ⟨rfl, rfl, w461, F462, f456, f457, f458, f459⟩ := hp
            clear gt454
            show Tn _ _ 211 T σ452 [(3, .int (iI (w32 (v11 + 1)))), (2, .int (iI v64)), (1, .int (iI v11)), (0, .ref a)] [] _
            refine tn_iconst dX7_step_211 ?_
            have q463 : σ452.2.1 57 a = σ452.2.1 57 a := rfl
            exact tn_zret (v := 0) rfl (by decide) dX7_step_212 ⟨_, rfl, rfl, w461, ((FrC.rfl.put (by decide) (by decide)).trans (FrC.sub F462 (by decide))), by omega, ((CHX.rfl.fld (by simp) (by decide)).trans (CHX.sub f456 (by simp) (by simp) (by simp))), by omega, ⟨_, v64, f10, Or.inr ⟨xq13, xq54, ⟨hx12, hx55⟩, f63⟩, Or.inr ⟨by omega, Or.inr (Or.inr (Or.inr (Or.inl (⟨by omega, rfl, f458⟩))))⟩⟩, ((FA.rfl.put).trans f459)⟩
          · refine tn_tableIn (tgt := 225) (off := 157) dX7_step_68 (x := v64) ⟨by omega, by omega⟩ (by omega) (by omega) (by rw [h98]; rfl) (by decide) ?_
            refine tn_aload_n dX7_step_225 rfl 3 rfl ?_
            obtain ⟨hk466, hl467⟩ : AR T xd 1 108 108 := ar_of (wf_62 hw ha) hxd
            have hk466i : IA T xd := by unfold IA; omega
            refine tn_getR (ci := 7) (i := 7) (n := 62) (x := xd) dX7_step_226 rfl lay_7 (by decide) fl7_21 ha rfl rfl (rc_o (by decide) (hxd)) ?_
            refine tn_aload_n dX7_step_229 rfl 3 rfl ?_
            refine tn_getI (ci := 7) (i := 2) (n := 57) (t := σ.2.1 57 a) dX7_step_230 rfl lay_7 (by decide) fl7_65 ha rfl rfl (rc_o (by decide) (rfl)) ?_
            have g468 : ((0 : Int) ≤ σ.2.1 57 a ∧ σ.2.1 57 a ≤ 11184800) ∧ ((T a).1 = 57 → σ.2.1 57 a ≤ 8) := wf_57 hw ha
            have g468x := g468.2
            replace g468 := g468.1
            clear g468x
            refine tn_bipush dX7_step_233 (by decide) ?_
            refine tn_imul dX7_step_235 ?_
            refine tn_aload_n dX7_step_236 rfl 3 rfl ?_
            refine tn_getR (ci := 7) (i := 14) (n := 69) (x := xq13) dX7_step_237 rfl lay_7 (by decide) fl7_72 ha rfl rfl (rc_o (by decide) (hx12)) ?_
            refine tn_iload_n dX7_step_240 rfl 2 rfl ?_
            refine tn_iconst dX7_step_241 ?_
            refine tn_callV (M := m_X7_step) (pc := 242) (ix := 117) (ci := 1) (M' := m_X1_get) (As := [.int (iI v11), .int (iI 2)]) (rest := [.int (iI ((σ.2.1 57 a) * 12)), .ref xd]) dX7_step_242 ok_X1_get im_X1_get se_X1_get ml7_117 np_X1_get rfl rfl hk14o rfl (Nat.le_of_ble_eq_true rfl) (Nat.le_of_ble_eq_true rfl) rfl (k_X1_get_j (d + 3) (T := T) (σ := (sA 67 a (w32 ((σ.2.1 67 a) + 1)) σ)) (a := xq13) (k := v11) (c := 2) (x := xq54) hk14o (by omega) (by decide) (hw.put (by decide) (by decide) (fo_67 (by omega))) (rc_o (by decide) (hx55)) (by omega)) (fun r469 T471 σ470 gt472 hp => ?_)
            obtain ⟨v475, rfl, rfl, rfl, f473, f474⟩ := hp
            clear gt472
            show Tn _ _ 245 T (sA 67 a (w32 ((σ.2.1 67 a) + 1)) σ) [(3, .int (iI (w32 (v11 + 1)))), (2, .int (iI v64)), (1, .int (iI v11)), (0, .ref a)] [.int (iI v475), .int (iI ((σ.2.1 57 a) * 12)), .ref xd] _
            refine tn_iadd dX7_step_245 ?_
            rw [show iI (((σ.2.1 57 a) * 12) + v475) = iI (w32 (((σ.2.1 57 a) * 12) + v475)) from (iI_self _).symm]
            have g476r : -2147483648 ≤ w32 (((σ.2.1 57 a) * 12) + v475) ∧ w32 (((σ.2.1 57 a) * 12) + v475) ≤ 2147483647 := inR_toInt _
            refine tn_aload_n dX7_step_246 rfl 3 rfl ?_
            refine tn_getR (ci := 7) (i := 14) (n := 69) (x := xq13) dX7_step_247 rfl lay_7 (by decide) fl7_72 ha rfl rfl (rc_o (by decide) (hx12)) ?_
            refine tn_iload_n dX7_step_250 rfl 2 rfl ?_
            refine tn_iconst dX7_step_251 ?_
            refine tn_callV (M := m_X7_step) (pc := 252) (ix := 117) (ci := 1) (M' := m_X1_get) (As := [.int (iI v11), .int (iI 1)]) (rest := [.int (iI (w32 (((σ.2.1 57 a) * 12) + v475))), .ref xd]) dX7_step_252 ok_X1_get im_X1_get se_X1_get ml7_117 np_X1_get rfl rfl hk14o rfl (Nat.le_of_ble_eq_true rfl) (Nat.le_of_ble_eq_true rfl) rfl (k_X1_get_j (d + 3) (T := T) (σ := (sA 67 a (w32 ((σ.2.1 67 a) + 1)) σ)) (a := xq13) (k := v11) (c := 1) (x := xq54) hk14o (by omega) (by decide) (hw.put (by decide) (by decide) (fo_67 (by omega))) (rc_o (by decide) (hx55)) (by omega)) (fun r477 T479 σ478 gt480 hp => ?_)
            obtain ⟨v483, rfl, rfl, rfl, f481, f482⟩ := hp
            clear gt480
            show Tn _ _ 255 T (sA 67 a (w32 ((σ.2.1 67 a) + 1)) σ) [(3, .int (iI (w32 (v11 + 1)))), (2, .int (iI v64)), (1, .int (iI v11)), (0, .ref a)] [.int (iI v483), .int (iI (w32 (((σ.2.1 57 a) * 12) + v475))), .ref xd] _
            refine tn_callSN (M := m_X7_step) (pc := 255) (ix := 61) (M' := m_X11_put) (As := [.ref xd, .int (iI (w32 (((σ.2.1 57 a) * 12) + v475))), .int (iI v483)]) (rest := []) dX7_step_255 ok_X11_put stt_X11_put nl7_61 np_X11_put rfl (Nat.le_of_ble_eq_true rfl) (Nat.le_of_ble_eq_true rfl) rfl (k_X11_put_x (d + 3) (T := T) (σ := (sA 67 a (w32 ((σ.2.1 67 a) + 1)) σ)) (x := xd) (i := w32 (((σ.2.1 57 a) * 12) + v475)) (y := v483) hk466i (by omega) (by omega) (by omega) (hw.put (by decide) (by decide) (fo_67 (by omega))) (nh_k hk466 (by unfold HT; omega)) (vok_1 (by have q9 := hk466; omega) (by omega))) (fun r484 T486 σ485 gt487 hp => ?_)
            obtain ⟨rfl, rfl, w491, F492, f488, f489⟩ := hp
            clear gt487
            have je493 : σ485 = jP T xd (w32 (((σ.2.1 57 a) * 12) + v475)) (v483) _ := f489
            show Tn _ _ 258 T σ485 [(3, .int (iI (w32 (v11 + 1)))), (2, .int (iI v64)), (1, .int (iI v11)), (0, .ref a)] [] _
            refine tn_goto (tgt := 375) dX7_step_258 (by decide) ?_
            refine tn_aload_n dX7_step_375 rfl 3 rfl ?_
            refine tn_getR (ci := 7) (i := 5) (n := 60) (x := xb) dX7_step_376 rfl lay_7 (by decide) fl7_15 ha rfl rfl (rc_F F492 (Or.inl (by decide)) (by decide) (rc_o (by decide) (hxb))) ?_
            refine tn_aload_n dX7_step_379 rfl 3 rfl ?_
            refine tn_getI (ci := 7) (i := 2) (n := 57) (t := σ.2.1 57 a) dX7_step_380 rfl lay_7 (by decide) fl7_65 ha rfl rfl (rc_F F492 (Or.inl (by decide)) (by decide) (rc_o (by decide) (rfl))) ?_
            refine tn_iload_n dX7_step_383 rfl 0 rfl ?_
            refine tn_callSN (M := m_X7_step) (pc := 384) (ix := 61) (M' := m_X11_put) (As := [.ref xb, .int (iI (σ.2.1 57 a)), .int (iI (w32 (v11 + 1)))]) (rest := []) dX7_step_384 ok_X11_put stt_X11_put nl7_61 np_X11_put rfl (Nat.le_of_ble_eq_true rfl) (Nat.le_of_ble_eq_true rfl) rfl (k_X11_put_x (d + 3) (T := T) (σ := σ485) (x := xb) (i := σ.2.1 57 a) (y := w32 (v11 + 1)) hk3i (by omega) (by omega) (by omega) w491 (nh_k hk3 (by unfold HT; omega)) (vok_1 (by have q9 := hk3; omega) (by omega))) (fun r494 T496 σ495 gt497 hp => ?_)
            obtain ⟨rfl, rfl, w501, F502, f498, f499⟩ := hp
            clear gt497
            have je503 : σ495 = jP T xb (σ.2.1 57 a) (w32 (v11 + 1)) _ := f499
            show Tn _ _ 387 T σ495 [(3, .int (iI (w32 (v11 + 1)))), (2, .int (iI v64)), (1, .int (iI v11)), (0, .ref a)] [] _
            refine tn_iload_n dX7_step_387 rfl 1 rfl ?_
            refine tn_bipush dX7_step_388 (by decide) ?_
            refine tn_icmp_ne (tgt := 397) dX7_step_390 (by decide) ⟨by omega, by omega⟩ ⟨by decide, by decide⟩ (fun h504 => absurd h504 (by omega)) (fun h504 => ?_)
            refine tn_iconst dX7_step_393 ?_
            refine tn_goto (tgt := 398) dX7_step_394 (by decide) ?_
            have q505 : σ495.2.1 57 a = σ.2.1 57 a := rc_F F502 (Or.inl (by decide)) (by decide) (rc_F F492 (Or.inl (by decide)) (by decide) (rc_o (by decide) (rfl)))
            exact tn_zret (v := 1) rfl (by decide) dX7_step_398 ⟨_, rfl, rfl, w501, (((FrC.rfl.put (by decide) (by decide)).trans (FrC.sub F492 (by decide))).trans (FrC.sub F502 (by decide))), by omega, (((CHX.rfl.fld (by simp) (by decide)).trans (CHX.sub f488 (by simp) (by simp) (by simp))).trans (CHX.sub f498 (by simp) (by simp) (by simp))), by omega, ⟨_, v64, f10, Or.inr ⟨xq13, xq54, ⟨hx12, hx55⟩, f63⟩, Or.inr ⟨by omega, Or.inr (Or.inr (Or.inr (Or.inr (Or.inr (Or.inl (⟨by omega, rfl, xq13, xq54, σ485, ⟨hx12, hx55⟩, by rw [← f474, ← f482]; exact je493, je503⟩))))))⟩⟩, (((FA.rfl.put).trans (FA.of F492 (by decide))).trans (FA.of F502 (by decide)))⟩
          · refine tn_tableIn (tgt := 369) (off := 301) dX7_step_68 (x := v64) ⟨by omega, by omega⟩ (by omega) (by omega) (by rw [h98]; rfl) (by decide) ?_
            refine tn_aload_n dX7_step_369 rfl 3 rfl ?_
            refine tn_iload_n dX7_step_370 rfl 2 rfl ?_
            refine tn_iload_n dX7_step_371 rfl 1 rfl ?_
            obtain ⟨hk508, hl509⟩ : AR T xe 1 1728 1728 := ar_of (wf_63 hw ha) hxe
            have hk508i : IA T xe := by unfold IA; omega
            refine tn_callV (M := m_X7_step) (pc := 372) (ix := 129) (ci := 7) (M' := m_X7_reckonAt) (As := [.int (iI v11), .int (iI v64)]) (rest := []) dX7_step_372 ok_X7_reckonAt im_X7_reckonAt se_X7_reckonAt ml7_129 np_X7_reckonAt rfl rfl ha rfl (Nat.le_of_ble_eq_true rfl) (Nat.le_of_ble_eq_true rfl) rfl (k_X7_reckonAt_j (d + 1) (T := T) (σ := (sA 67 a (w32 ((σ.2.1 67 a) + 1)) σ)) (a := a) (k := v11) (e := v64) (xe := xe) ha (by omega) (by omega) (hw.put (by decide) (by decide) (fo_67 (by omega))) (rc_o (by decide) (hxe)) (by rw [show (sA 67 a (w32 ((σ.2.1 67 a) + 1)) σ).2.1 69 a = _ from rc_o (by decide) (hx12)]; omega)) (fun r510 T512 σ511 gt513 hp => ?_)
            obtain ⟨rfl, rfl, w517, F518, f514, f515⟩ := hp
            clear gt513
            show Tn _ _ 375 T σ511 [(3, .int (iI (w32 (v11 + 1)))), (2, .int (iI v64)), (1, .int (iI v11)), (0, .ref a)] [] _
            refine tn_aload_n dX7_step_375 rfl 3 rfl ?_
            refine tn_getR (ci := 7) (i := 5) (n := 60) (x := xb) dX7_step_376 rfl lay_7 (by decide) fl7_15 ha rfl rfl (rc_F F518 (Or.inl (by decide)) (by decide) (rc_o (by decide) (hxb))) ?_
            refine tn_aload_n dX7_step_379 rfl 3 rfl ?_
            refine tn_getI (ci := 7) (i := 2) (n := 57) (t := σ.2.1 57 a) dX7_step_380 rfl lay_7 (by decide) fl7_65 ha rfl rfl (rc_F F518 (Or.inl (by decide)) (by decide) (rc_o (by decide) (rfl))) ?_
            have g519 : ((0 : Int) ≤ σ.2.1 57 a ∧ σ.2.1 57 a ≤ 11184800) ∧ ((T a).1 = 57 → σ.2.1 57 a ≤ 8) := wf_57 hw ha
            have g519x := g519.2
            replace g519 := g519.1
            clear g519x
            refine tn_iload_n dX7_step_383 rfl 0 rfl ?_
            refine tn_callSN (M := m_X7_step) (pc := 384) (ix := 61) (M' := m_X11_put) (As := [.ref xb, .int (iI (σ.2.1 57 a)), .int (iI (w32 (v11 + 1)))]) (rest := []) dX7_step_384 ok_X11_put stt_X11_put nl7_61 np_X11_put rfl (Nat.le_of_ble_eq_true rfl) (Nat.le_of_ble_eq_true rfl) rfl (k_X11_put_x (d + 3) (T := T) (σ := σ511) (x := xb) (i := σ.2.1 57 a) (y := w32 (v11 + 1)) hk3i (by omega) (by omega) (by omega) w517 (nh_k hk3 (by unfold HT; omega)) (vok_1 (by have q9 := hk3; omega) (by omega))) (fun r520 T522 σ521 gt523 hp => ?_)
            obtain ⟨rfl, rfl, w527, F528, f524, f525⟩ := hp
            clear gt523
            have je529 : σ521 = jP T xb (σ.2.1 57 a) (w32 (v11 + 1)) _ := f525
            show Tn _ _ 387 T σ521 [(3, .int (iI (w32 (v11 + 1)))), (2, .int (iI v64)), (1, .int (iI v11)), (0, .ref a)] [] _
            refine tn_iload_n dX7_step_387 rfl 1 rfl ?_
            refine tn_bipush dX7_step_388 (by decide) ?_
            refine tn_icmp_ne (tgt := 397) dX7_step_390 (by decide) ⟨by omega, by omega⟩ ⟨by decide, by decide⟩ (fun h530 => ?_) (fun h530 => absurd h530 (by omega))
            refine tn_iconst dX7_step_397 ?_
            have q531 : σ521.2.1 57 a = σ.2.1 57 a := rc_F F528 (Or.inl (by decide)) (by decide) (rc_F F518 (Or.inl (by decide)) (by decide) (rc_o (by decide) (rfl)))
            exact tn_zret (v := 0) rfl (by decide) dX7_step_398 ⟨_, rfl, rfl, w527, (((FrC.rfl.put (by decide) (by decide)).trans (FrC.sub F518 (by decide))).trans (FrC.sub F528 (by decide))), by omega, (((CHX.rfl.fld (by simp) (by decide)).trans (CHX.sub f514 (by simp) (by simp) (by simp))).trans (CHX.sub f524 (by simp) (by simp) (by simp))), by omega, ⟨_, v64, f10, Or.inr ⟨xq13, xq54, ⟨hx12, hx55⟩, f63⟩, Or.inr ⟨by omega, Or.inr (Or.inr (Or.inr (Or.inr (Or.inr (Or.inr (Or.inr (Or.inr (Or.inr ((⟨by omega, rfl, _, f515, je529⟩))))))))))⟩⟩, (((FA.rfl.put).trans (FA.of F518 (by decide))).trans (FA.of F528 (by decide)))⟩
          · refine tn_tableIn (tgt := 369) (off := 301) dX7_step_68 (x := v64) ⟨by omega, by omega⟩ (by omega) (by omega) (by rw [h98]; rfl) (by decide) ?_
            refine tn_aload_n dX7_step_369 rfl 3 rfl ?_
            refine tn_iload_n dX7_step_370 rfl 2 rfl ?_
            refine tn_iload_n dX7_step_371 rfl 1 rfl ?_
            obtain ⟨hk534, hl535⟩ : AR T xe 1 1728 1728 := ar_of (wf_63 hw ha) hxe
            have hk534i : IA T xe := by unfold IA; omega
            refine tn_callV (M := m_X7_step) (pc := 372) (ix := 129) (ci := 7) (M' := m_X7_reckonAt) (As := [.int (iI v11), .int (iI v64)]) (rest := []) dX7_step_372 ok_X7_reckonAt im_X7_reckonAt se_X7_reckonAt ml7_129 np_X7_reckonAt rfl rfl ha rfl (Nat.le_of_ble_eq_true rfl) (Nat.le_of_ble_eq_true rfl) rfl (k_X7_reckonAt_j (d + 1) (T := T) (σ := (sA 67 a (w32 ((σ.2.1 67 a) + 1)) σ)) (a := a) (k := v11) (e := v64) (xe := xe) ha (by omega) (by omega) (hw.put (by decide) (by decide) (fo_67 (by omega))) (rc_o (by decide) (hxe)) (by rw [show (sA 67 a (w32 ((σ.2.1 67 a) + 1)) σ).2.1 69 a = _ from rc_o (by decide) (hx12)]; omega)) (fun r536 T538 σ537 gt539 hp => ?_)
            obtain ⟨rfl, rfl, w543, F544, f540, f541⟩ := hp
            clear gt539
            show Tn _ _ 375 T σ537 [(3, .int (iI (w32 (v11 + 1)))), (2, .int (iI v64)), (1, .int (iI v11)), (0, .ref a)] [] _
            refine tn_aload_n dX7_step_375 rfl 3 rfl ?_
            refine tn_getR (ci := 7) (i := 5) (n := 60) (x := xb) dX7_step_376 rfl lay_7 (by decide) fl7_15 ha rfl rfl (rc_F F544 (Or.inl (by decide)) (by decide) (rc_o (by decide) (hxb))) ?_
            refine tn_aload_n dX7_step_379 rfl 3 rfl ?_
            refine tn_getI (ci := 7) (i := 2) (n := 57) (t := σ.2.1 57 a) dX7_step_380 rfl lay_7 (by decide) fl7_65 ha rfl rfl (rc_F F544 (Or.inl (by decide)) (by decide) (rc_o (by decide) (rfl))) ?_
            have g545 : ((0 : Int) ≤ σ.2.1 57 a ∧ σ.2.1 57 a ≤ 11184800) ∧ ((T a).1 = 57 → σ.2.1 57 a ≤ 8) := wf_57 hw ha
            have g545x := g545.2
            replace g545 := g545.1
            clear g545x
            refine tn_iload_n dX7_step_383 rfl 0 rfl ?_
            refine tn_callSN (M := m_X7_step) (pc := 384) (ix := 61) (M' := m_X11_put) (As := [.ref xb, .int (iI (σ.2.1 57 a)), .int (iI (w32 (v11 + 1)))]) (rest := []) dX7_step_384 ok_X11_put stt_X11_put nl7_61 np_X11_put rfl (Nat.le_of_ble_eq_true rfl) (Nat.le_of_ble_eq_true rfl) rfl (k_X11_put_x (d + 3) (T := T) (σ := σ537) (x := xb) (i := σ.2.1 57 a) (y := w32 (v11 + 1)) hk3i (by omega) (by omega) (by omega) w543 (nh_k hk3 (by unfold HT; omega)) (vok_1 (by have q9 := hk3; omega) (by omega))) (fun r546 T548 σ547 gt549 hp => ?_)
            obtain ⟨rfl, rfl, w553, F554, f550, f551⟩ := hp
            clear gt549
            have je555 : σ547 = jP T xb (σ.2.1 57 a) (w32 (v11 + 1)) _ := f551
            show Tn _ _ 387 T σ547 [(3, .int (iI (w32 (v11 + 1)))), (2, .int (iI v64)), (1, .int (iI v11)), (0, .ref a)] [] _
            refine tn_iload_n dX7_step_387 rfl 1 rfl ?_
            refine tn_bipush dX7_step_388 (by decide) ?_
            refine tn_icmp_ne (tgt := 397) dX7_step_390 (by decide) ⟨by omega, by omega⟩ ⟨by decide, by decide⟩ (fun h556 => ?_) (fun h556 => absurd h556 (by omega))
            refine tn_iconst dX7_step_397 ?_
            have q557 : σ547.2.1 57 a = σ.2.1 57 a := rc_F F554 (Or.inl (by decide)) (by decide) (rc_F F544 (Or.inl (by decide)) (by decide) (rc_o (by decide) (rfl)))
            exact tn_zret (v := 0) rfl (by decide) dX7_step_398 ⟨_, rfl, rfl, w553, (((FrC.rfl.put (by decide) (by decide)).trans (FrC.sub F544 (by decide))).trans (FrC.sub F554 (by decide))), by omega, (((CHX.rfl.fld (by simp) (by decide)).trans (CHX.sub f540 (by simp) (by simp) (by simp))).trans (CHX.sub f550 (by simp) (by simp) (by simp))), by omega, ⟨_, v64, f10, Or.inr ⟨xq13, xq54, ⟨hx12, hx55⟩, f63⟩, Or.inr ⟨by omega, Or.inr (Or.inr (Or.inr (Or.inr (Or.inr (Or.inr (Or.inr (Or.inr (Or.inr ((⟨by omega, rfl, _, f541, je555⟩))))))))))⟩⟩, (((FA.rfl.put).trans (FA.of F544 (by decide))).trans (FA.of F554 (by decide)))⟩
          · refine tn_tableIn (tgt := 261) (off := 193) dX7_step_68 (x := v64) ⟨by omega, by omega⟩ (by omega) (by omega) (by rw [h98]; rfl) (by decide) ?_
            refine tn_aload_n dX7_step_261 rfl 3 rfl ?_
            refine tn_dup dX7_step_262 rfl ?_
            refine tn_getI (ci := 7) (i := 3) (n := 58) (t := σ.2.1 58 a) dX7_step_263 rfl lay_7 (by decide) fl7_38 ha rfl rfl (rc_o (by decide) (rfl)) ?_
            refine tn_iconst dX7_step_266 ?_
            refine tn_iadd dX7_step_267 ?_
            refine tn_putV (ci := 7) (i := 3) (n := 58) (r := false) (v := (σ.2.1 58 a) + 1) tyX7 tyX7_ok nmX7 dX7_step_268 rfl lay_7 (by decide) fl7_38 rfl (tyX7_ok 3 (by decide)) rfl rfl rfl ha rfl rfl ?_
            refine tn_aload_n dX7_step_271 rfl 3 rfl ?_
            obtain ⟨hl561, hk560a, hk560b⟩ := ex_at (wf_61 hw ha) hxc
            have hk560 : (T xc).1 = 1 := hk560b (by omega)
            clear hk560a hk560b
            have hk560i : IA T xc := by unfold IA; omega
            refine tn_getR (ci := 7) (i := 6) (n := 61) (x := xc) dX7_step_272 rfl lay_7 (by decide) fl7_18 ha rfl rfl (rc_o (by decide) (rc_o (by decide) (hxc))) ?_
            refine tn_aload_n dX7_step_275 rfl 3 rfl ?_
            refine tn_getI (ci := 7) (i := 2) (n := 57) (t := σ.2.1 57 a) dX7_step_276 rfl lay_7 (by decide) fl7_65 ha rfl rfl (rc_o (by decide) (rc_o (by decide) (rfl))) ?_
            have g562 : ((0 : Int) ≤ σ.2.1 57 a ∧ σ.2.1 57 a ≤ 11184800) ∧ ((T a).1 = 57 → σ.2.1 57 a ≤ 8) := wf_57 hw ha
            have g562x := g562.2
            replace g562 := g562.1
            clear g562x
            refine tn_aload_n dX7_step_279 rfl 3 rfl ?_
            refine tn_getR (ci := 7) (i := 14) (n := 69) (x := xq13) dX7_step_280 rfl lay_7 (by decide) fl7_72 ha rfl rfl (rc_o (by decide) (rc_o (by decide) (hx12))) ?_
            refine tn_iload_n dX7_step_283 rfl 2 rfl ?_
            refine tn_iconst dX7_step_284 ?_
            refine tn_callV (M := m_X7_step) (pc := 285) (ix := 117) (ci := 1) (M' := m_X1_get) (As := [.int (iI v11), .int (iI 1)]) (rest := [.int (iI (σ.2.1 57 a)), .ref xc]) dX7_step_285 ok_X1_get im_X1_get se_X1_get ml7_117 np_X1_get rfl rfl hk14o rfl (Nat.le_of_ble_eq_true rfl) (Nat.le_of_ble_eq_true rfl) rfl (k_X1_get_j (d + 3) (T := T) (σ := (sA 58 a ((σ.2.1 58 a) + 1) (sA 67 a (w32 ((σ.2.1 67 a) + 1)) σ))) (a := xq13) (k := v11) (c := 1) (x := xq54) hk14o (by omega) (by decide) ((hw.put (by decide) (by decide) (fo_67 (by omega))).put (by decide) (by decide) (fo_58 (by omega))) (rc_o (by decide) (rc_o (by decide) (hx55))) (by omega)) (fun r563 T565 σ564 gt566 hp => ?_)
            obtain ⟨v569, rfl, rfl, rfl, f567, f568⟩ := hp
            clear gt566
            show Tn _ _ 288 T (sA 58 a ((σ.2.1 58 a) + 1) (sA 67 a (w32 ((σ.2.1 67 a) + 1)) σ)) [(3, .int (iI (w32 (v11 + 1)))), (2, .int (iI v64)), (1, .int (iI v11)), (0, .ref a)] [.int (iI v569), .int (iI (σ.2.1 57 a)), .ref xc] _
            refine tn_callSN (M := m_X7_step) (pc := 288) (ix := 61) (M' := m_X11_put) (As := [.ref xc, .int (iI (σ.2.1 57 a)), .int (iI v569)]) (rest := []) dX7_step_288 ok_X11_put stt_X11_put nl7_61 np_X11_put rfl (Nat.le_of_ble_eq_true rfl) (Nat.le_of_ble_eq_true rfl) rfl (k_X11_put_x (d + 3) (T := T) (σ := (sA 58 a ((σ.2.1 58 a) + 1) (sA 67 a (w32 ((σ.2.1 67 a) + 1)) σ))) (x := xc) (i := σ.2.1 57 a) (y := v569) hk560i (by omega) (by omega) (by omega) ((hw.put (by decide) (by decide) (fo_67 (by omega))).put (by decide) (by decide) (fo_58 (by omega))) (nh_k hk560 (by unfold HT; omega)) (vok_1 (by have q9 := hk560; omega) (by omega))) (fun r570 T572 σ571 gt573 hp => ?_)
            obtain ⟨rfl, rfl, w577, F578, f574, f575⟩ := hp
            clear gt573
            have je579 : σ571 = jP T xc (σ.2.1 57 a) (v569) _ := f575
            show Tn _ _ 291 T σ571 [(3, .int (iI (w32 (v11 + 1)))), (2, .int (iI v64)), (1, .int (iI v11)), (0, .ref a)] [] _
            refine tn_aload_n dX7_step_291 rfl 3 rfl ?_
            obtain ⟨hk582, hl583⟩ : AR T xd 1 108 108 := ar_of (wf_62 hw ha) hxd
            have hk582i : IA T xd := by unfold IA; omega
            refine tn_getR (ci := 7) (i := 7) (n := 62) (x := xd) dX7_step_292 rfl lay_7 (by decide) fl7_21 ha rfl rfl (rc_F F578 (Or.inl (by decide)) (by decide) (rc_o (by decide) (rc_o (by decide) (hxd)))) ?_
            refine tn_aload_n dX7_step_295 rfl 3 rfl ?_
            refine tn_getI (ci := 7) (i := 2) (n := 57) (t := σ.2.1 57 a) dX7_step_296 rfl lay_7 (by decide) fl7_65 ha rfl rfl (rc_F F578 (Or.inl (by decide)) (by decide) (rc_o (by decide) (rc_o (by decide) (rfl)))) ?_
            refine tn_bipush dX7_step_299 (by decide) ?_
            refine tn_imul dX7_step_301 ?_
            refine tn_aload_n dX7_step_302 rfl 3 rfl ?_
            refine tn_getR (ci := 7) (i := 14) (n := 69) (x := xq13) dX7_step_303 rfl lay_7 (by decide) fl7_72 ha rfl rfl (rc_F F578 (Or.inl (by decide)) (by decide) (rc_o (by decide) (rc_o (by decide) (hx12)))) ?_
            refine tn_iload_n dX7_step_306 rfl 2 rfl ?_
            refine tn_iconst dX7_step_307 ?_
            refine tn_callV (M := m_X7_step) (pc := 308) (ix := 117) (ci := 1) (M' := m_X1_get) (As := [.int (iI v11), .int (iI 1)]) (rest := [.int (iI ((σ.2.1 57 a) * 12)), .ref xd]) dX7_step_308 ok_X1_get im_X1_get se_X1_get ml7_117 np_X1_get rfl rfl hk14o rfl (Nat.le_of_ble_eq_true rfl) (Nat.le_of_ble_eq_true rfl) rfl (k_X1_get_j (d + 3) (T := T) (σ := σ571) (a := xq13) (k := v11) (c := 1) (x := xq54) hk14o (by omega) (by decide) w577 (rc_F F578 (Or.inl (by decide)) (by decide) (rc_o (by decide) (rc_o (by decide) (hx55)))) (by omega)) (fun r584 T586 σ585 gt587 hp => ?_)
            obtain ⟨v590, rfl, rfl, rfl, f588, f589⟩ := hp
            clear gt587
            show Tn _ _ 311 T σ571 [(3, .int (iI (w32 (v11 + 1)))), (2, .int (iI v64)), (1, .int (iI v11)), (0, .ref a)] [.int (iI v590), .int (iI ((σ.2.1 57 a) * 12)), .ref xd] _
            refine tn_iadd dX7_step_311 ?_
            rw [show iI (((σ.2.1 57 a) * 12) + v590) = iI (w32 (((σ.2.1 57 a) * 12) + v590)) from (iI_self _).symm]
            have g591r : -2147483648 ≤ w32 (((σ.2.1 57 a) * 12) + v590) ∧ w32 (((σ.2.1 57 a) * 12) + v590) ≤ 2147483647 := inR_toInt _
            refine tn_iconst dX7_step_312 ?_
            refine tn_callSN (M := m_X7_step) (pc := 313) (ix := 61) (M' := m_X11_put) (As := [.ref xd, .int (iI (w32 (((σ.2.1 57 a) * 12) + v590))), .int (iI 0)]) (rest := []) dX7_step_313 ok_X11_put stt_X11_put nl7_61 np_X11_put rfl (Nat.le_of_ble_eq_true rfl) (Nat.le_of_ble_eq_true rfl) rfl (k_X11_put_x (d + 3) (T := T) (σ := σ571) (x := xd) (i := w32 (((σ.2.1 57 a) * 12) + v590)) (y := 0) hk582i (by omega) (by omega) (by decide) w577 (nh_k hk582 (by unfold HT; omega)) vok_0) (fun r592 T594 σ593 gt595 hp => ?_)
            obtain ⟨rfl, rfl, w599, F600, f596, f597⟩ := hp
            clear gt595
            have je601 : σ593 = jP T xd (w32 (((σ.2.1 57 a) * 12) + v590)) (0) _ := f597
            show Tn _ _ 316 T σ593 [(3, .int (iI (w32 (v11 + 1)))), (2, .int (iI v64)), (1, .int (iI v11)), (0, .ref a)] [] _
            refine tn_goto (tgt := 375) dX7_step_316 (by decide) ?_
            refine tn_aload_n dX7_step_375 rfl 3 rfl ?_
            refine tn_getR (ci := 7) (i := 5) (n := 60) (x := xb) dX7_step_376 rfl lay_7 (by decide) fl7_15 ha rfl rfl (rc_F F600 (Or.inl (by decide)) (by decide) (rc_F F578 (Or.inl (by decide)) (by decide) (rc_o (by decide) (rc_o (by decide) (hxb))))) ?_
            refine tn_aload_n dX7_step_379 rfl 3 rfl ?_
            refine tn_getI (ci := 7) (i := 2) (n := 57) (t := σ.2.1 57 a) dX7_step_380 rfl lay_7 (by decide) fl7_65 ha rfl rfl (rc_F F600 (Or.inl (by decide)) (by decide) (rc_F F578 (Or.inl (by decide)) (by decide) (rc_o (by decide) (rc_o (by decide) (rfl))))) ?_
            refine tn_iload_n dX7_step_383 rfl 0 rfl ?_
            refine tn_callSN (M := m_X7_step) (pc := 384) (ix := 61) (M' := m_X11_put) (As := [.ref xb, .int (iI (σ.2.1 57 a)), .int (iI (w32 (v11 + 1)))]) (rest := []) dX7_step_384 ok_X11_put stt_X11_put nl7_61 np_X11_put rfl (Nat.le_of_ble_eq_true rfl) (Nat.le_of_ble_eq_true rfl) rfl (k_X11_put_x (d + 3) (T := T) (σ := σ593) (x := xb) (i := σ.2.1 57 a) (y := w32 (v11 + 1)) hk3i (by omega) (by omega) (by omega) w599 (nh_k hk3 (by unfold HT; omega)) (vok_1 (by have q9 := hk3; omega) (by omega))) (fun r602 T604 σ603 gt605 hp => ?_)
            obtain ⟨rfl, rfl, w609, F610, f606, f607⟩ := hp
            clear gt605
            have je611 : σ603 = jP T xb (σ.2.1 57 a) (w32 (v11 + 1)) _ := f607
            show Tn _ _ 387 T σ603 [(3, .int (iI (w32 (v11 + 1)))), (2, .int (iI v64)), (1, .int (iI v11)), (0, .ref a)] [] _
            refine tn_iload_n dX7_step_387 rfl 1 rfl ?_
            refine tn_bipush dX7_step_388 (by decide) ?_
            refine tn_icmp_ne (tgt := 397) dX7_step_390 (by decide) ⟨by omega, by omega⟩ ⟨by decide, by decide⟩ (fun h612 => ?_) (fun h612 => absurd h612 (by omega))
            refine tn_iconst dX7_step_397 ?_
            have q613 : σ603.2.1 57 a = σ.2.1 57 a := rc_F F610 (Or.inl (by decide)) (by decide) (rc_F F600 (Or.inl (by decide)) (by decide) (rc_F F578 (Or.inl (by decide)) (by decide) (rc_o (by decide) (rc_o (by decide) (rfl)))))
            exact tn_zret (v := 0) rfl (by decide) dX7_step_398 ⟨_, rfl, rfl, w609, (((((FrC.rfl.put (by decide) (by decide)).put (by decide) (by decide)).trans (FrC.sub F578 (by decide))).trans (FrC.sub F600 (by decide))).trans (FrC.sub F610 (by decide))), by omega, (((((CHX.rfl.fld (by simp) (by decide)).fld (by simp) (by decide)).trans (CHX.sub f574 (by simp) (by simp) (by simp))).trans (CHX.sub f596 (by simp) (by simp) (by simp))).trans (CHX.sub f606 (by simp) (by simp) (by simp))), by omega, ⟨_, v64, f10, Or.inr ⟨xq13, xq54, ⟨hx12, hx55⟩, f63⟩, Or.inr ⟨by omega, Or.inr (Or.inr (Or.inr (Or.inr (Or.inr (Or.inr (Or.inl (⟨by omega, rfl, xq13, xq54, (sA 58 a ((σ.2.1 58 a) + 1) (sA 67 a (w32 ((σ.2.1 67 a) + 1)) σ)), σ571, σ593, ⟨hx12, hx55⟩, js58 (by omega), by rw [← f568]; exact je579, by rw [← f589]; exact je601, je611⟩)))))))⟩⟩, (((((FA.rfl.put).put).trans (FA.of F578 (by decide))).trans (FA.of F600 (by decide))).trans (FA.of F610 (by decide)))⟩
          · refine tn_tableIn (tgt := 319) (off := 251) dX7_step_68 (x := v64) ⟨by omega, by omega⟩ (by omega) (by omega) (by rw [h98]; rfl) (by decide) ?_
            refine tn_aload_n dX7_step_319 rfl 3 rfl ?_
            refine tn_dup dX7_step_320 rfl ?_
            refine tn_getI (ci := 7) (i := 3) (n := 58) (t := σ.2.1 58 a) dX7_step_321 rfl lay_7 (by decide) fl7_38 ha rfl rfl (rc_o (by decide) (rfl)) ?_
            refine tn_iconst dX7_step_324 ?_
            refine tn_isub dX7_step_325 ?_
            rw [show iI ((σ.2.1 58 a) - 1) = iI (w32 ((σ.2.1 58 a) - 1)) from (iI_self _).symm]
            have g614r : -2147483648 ≤ w32 ((σ.2.1 58 a) - 1) ∧ w32 ((σ.2.1 58 a) - 1) ≤ 2147483647 := inR_toInt _
            refine tn_putV (ci := 7) (i := 3) (n := 58) (r := false) (v := w32 ((σ.2.1 58 a) - 1)) tyX7 tyX7_ok nmX7 dX7_step_326 rfl lay_7 (by decide) fl7_38 rfl (tyX7_ok 3 (by decide)) rfl rfl rfl ha rfl rfl ?_
            refine tn_aload_n dX7_step_329 rfl 3 rfl ?_
            obtain ⟨hl618, hk617a, hk617b⟩ := ex_at (wf_61 hw ha) hxc
            have hk617 : (T xc).1 = 1 := hk617b (by omega)
            clear hk617a hk617b
            have hk617i : IA T xc := by unfold IA; omega
            refine tn_getR (ci := 7) (i := 6) (n := 61) (x := xc) dX7_step_330 rfl lay_7 (by decide) fl7_18 ha rfl rfl (rc_o (by decide) (rc_o (by decide) (hxc))) ?_
            refine tn_aload_n dX7_step_333 rfl 3 rfl ?_
            refine tn_getI (ci := 7) (i := 2) (n := 57) (t := σ.2.1 57 a) dX7_step_334 rfl lay_7 (by decide) fl7_65 ha rfl rfl (rc_o (by decide) (rc_o (by decide) (rfl))) ?_
            have g619 : ((0 : Int) ≤ σ.2.1 57 a ∧ σ.2.1 57 a ≤ 11184800) ∧ ((T a).1 = 57 → σ.2.1 57 a ≤ 8) := wf_57 hw ha
            have g619x := g619.2
            replace g619 := g619.1
            clear g619x
            refine tn_aload_n dX7_step_337 rfl 3 rfl ?_
            refine tn_getR (ci := 7) (i := 14) (n := 69) (x := xq13) dX7_step_338 rfl lay_7 (by decide) fl7_72 ha rfl rfl (rc_o (by decide) (rc_o (by decide) (hx12))) ?_
            obtain ⟨xq620, hx621, hk622, hl623⟩ : ∃ x : Nat, σ.2.1 12 xq13 = (x : Int) ∧ AR T x 1 12 12 := wf_12 hw hk14o
            have hk622i : IA T xq620 := by unfold IA; omega
            refine tn_getR (ci := 1) (i := 7) (n := 12) (x := xq620) dX7_step_341 rfl lay_1 (by decide) fl7_126 hk14o rfl rfl (rc_o (by decide) (rc_o (by decide) (hx621))) ?_
            refine tn_aload_n dX7_step_344 rfl 3 rfl ?_
            refine tn_getR (ci := 7) (i := 14) (n := 69) (x := xq13) dX7_step_345 rfl lay_7 (by decide) fl7_72 ha rfl rfl (rc_o (by decide) (rc_o (by decide) (hx12))) ?_
            refine tn_iload_n dX7_step_348 rfl 2 rfl ?_
            refine tn_iconst dX7_step_349 ?_
            refine tn_callV (M := m_X7_step) (pc := 350) (ix := 117) (ci := 1) (M' := m_X1_get) (As := [.int (iI v11), .int (iI 1)]) (rest := [.ref xq620, .int (iI (σ.2.1 57 a)), .ref xc]) dX7_step_350 ok_X1_get im_X1_get se_X1_get ml7_117 np_X1_get rfl rfl hk14o rfl (Nat.le_of_ble_eq_true rfl) (Nat.le_of_ble_eq_true rfl) rfl (k_X1_get_j (d + 3) (T := T) (σ := (sA 58 a (w32 ((σ.2.1 58 a) - 1)) (sA 67 a (w32 ((σ.2.1 67 a) + 1)) σ))) (a := xq13) (k := v11) (c := 1) (x := xq54) hk14o (by omega) (by decide) ((hw.put (by decide) (by decide) (fo_67 (by omega))).put (by decide) (by decide) (fo_58 (by omega))) (rc_o (by decide) (rc_o (by decide) (hx55))) (by omega)) (fun r624 T626 σ625 gt627 hp => ?_)
            obtain ⟨v630, rfl, rfl, rfl, f628, f629⟩ := hp
            clear gt627
            show Tn _ _ 353 T (sA 58 a (w32 ((σ.2.1 58 a) - 1)) (sA 67 a (w32 ((σ.2.1 67 a) + 1)) σ)) [(3, .int (iI (w32 (v11 + 1)))), (2, .int (iI v64)), (1, .int (iI v11)), (0, .ref a)] [.int (iI v630), .ref xq620, .int (iI (σ.2.1 57 a)), .ref xc] _
            refine tn_callSN (M := m_X7_step) (pc := 353) (ix := 91) (M' := m_X11_at) (As := [.ref xq620, .int (iI v630)]) (rest := [.int (iI (σ.2.1 57 a)), .ref xc]) dX7_step_353 ok_X11_at stt_X11_at nl7_91 np_X11_at rfl (Nat.le_of_ble_eq_true rfl) (Nat.le_of_ble_eq_true rfl) rfl (k_X11_at_j (d + 3) (T := T) (σ := (sA 58 a (w32 ((σ.2.1 58 a) - 1)) (sA 67 a (w32 ((σ.2.1 67 a) + 1)) σ))) (x := xq620) (i := v630) hk622i (by omega) (by omega) ((hw.put (by decide) (by decide) (fo_67 (by omega))).put (by decide) (by decide) (fo_58 (by omega))) ) (fun r631 T633 σ632 gt634 hp => ?_)
            obtain ⟨v638, rfl, rfl, rfl, f635, f636, f637⟩ := hp
            clear gt634
            clear f636
            show Tn _ _ 356 T (sA 58 a (w32 ((σ.2.1 58 a) - 1)) (sA 67 a (w32 ((σ.2.1 67 a) + 1)) σ)) [(3, .int (iI (w32 (v11 + 1)))), (2, .int (iI v64)), (1, .int (iI v11)), (0, .ref a)] [.int (iI v638), .int (iI (σ.2.1 57 a)), .ref xc] _
            refine tn_callSN (M := m_X7_step) (pc := 356) (ix := 61) (M' := m_X11_put) (As := [.ref xc, .int (iI (σ.2.1 57 a)), .int (iI v638)]) (rest := []) dX7_step_356 ok_X11_put stt_X11_put nl7_61 np_X11_put rfl (Nat.le_of_ble_eq_true rfl) (Nat.le_of_ble_eq_true rfl) rfl (k_X11_put_x (d + 3) (T := T) (σ := (sA 58 a (w32 ((σ.2.1 58 a) - 1)) (sA 67 a (w32 ((σ.2.1 67 a) + 1)) σ))) (x := xc) (i := σ.2.1 57 a) (y := v638) hk617i (by omega) (by omega) (by omega) ((hw.put (by decide) (by decide) (fo_67 (by omega))).put (by decide) (by decide) (fo_58 (by omega))) (nh_k hk617 (by unfold HT; omega)) (vok_1 (by have q9 := hk617; omega) (by omega))) (fun r639 T641 σ640 gt642 hp => ?_)
            obtain ⟨rfl, rfl, w646, F647, f643, f644⟩ := hp
            clear gt642
            have je648 : σ640 = jP T xc (σ.2.1 57 a) (v638) _ := f644
            show Tn _ _ 359 T σ640 [(3, .int (iI (w32 (v11 + 1)))), (2, .int (iI v64)), (1, .int (iI v11)), (0, .ref a)] [] _
            refine tn_goto (tgt := 375) dX7_step_359 (by decide) ?_
            refine tn_aload_n dX7_step_375 rfl 3 rfl ?_
            refine tn_getR (ci := 7) (i := 5) (n := 60) (x := xb) dX7_step_376 rfl lay_7 (by decide) fl7_15 ha rfl rfl (rc_F F647 (Or.inl (by decide)) (by decide) (rc_o (by decide) (rc_o (by decide) (hxb)))) ?_
            refine tn_aload_n dX7_step_379 rfl 3 rfl ?_
            refine tn_getI (ci := 7) (i := 2) (n := 57) (t := σ.2.1 57 a) dX7_step_380 rfl lay_7 (by decide) fl7_65 ha rfl rfl (rc_F F647 (Or.inl (by decide)) (by decide) (rc_o (by decide) (rc_o (by decide) (rfl)))) ?_
            refine tn_iload_n dX7_step_383 rfl 0 rfl ?_
            refine tn_callSN (M := m_X7_step) (pc := 384) (ix := 61) (M' := m_X11_put) (As := [.ref xb, .int (iI (σ.2.1 57 a)), .int (iI (w32 (v11 + 1)))]) (rest := []) dX7_step_384 ok_X11_put stt_X11_put nl7_61 np_X11_put rfl (Nat.le_of_ble_eq_true rfl) (Nat.le_of_ble_eq_true rfl) rfl (k_X11_put_x (d + 3) (T := T) (σ := σ640) (x := xb) (i := σ.2.1 57 a) (y := w32 (v11 + 1)) hk3i (by omega) (by omega) (by omega) w646 (nh_k hk3 (by unfold HT; omega)) (vok_1 (by have q9 := hk3; omega) (by omega))) (fun r649 T651 σ650 gt652 hp => ?_)
            obtain ⟨rfl, rfl, w656, F657, f653, f654⟩ := hp
            clear gt652
            have je658 : σ650 = jP T xb (σ.2.1 57 a) (w32 (v11 + 1)) _ := f654
            show Tn _ _ 387 T σ650 [(3, .int (iI (w32 (v11 + 1)))), (2, .int (iI v64)), (1, .int (iI v11)), (0, .ref a)] [] _
            refine tn_iload_n dX7_step_387 rfl 1 rfl ?_
            refine tn_bipush dX7_step_388 (by decide) ?_
            refine tn_icmp_ne (tgt := 397) dX7_step_390 (by decide) ⟨by omega, by omega⟩ ⟨by decide, by decide⟩ (fun h659 => ?_) (fun h659 => absurd h659 (by omega))
            refine tn_iconst dX7_step_397 ?_
            have q660 : σ650.2.1 57 a = σ.2.1 57 a := rc_F F657 (Or.inl (by decide)) (by decide) (rc_F F647 (Or.inl (by decide)) (by decide) (rc_o (by decide) (rc_o (by decide) (rfl))))
            exact tn_zret (v := 0) rfl (by decide) dX7_step_398 ⟨_, rfl, rfl, w656, ((((FrC.rfl.put (by decide) (by decide)).put (by decide) (by decide)).trans (FrC.sub F647 (by decide))).trans (FrC.sub F657 (by decide))), by omega, ((((CHX.rfl.fld (by simp) (by decide)).fld (by simp) (by decide)).trans (CHX.sub f643 (by simp) (by simp) (by simp))).trans (CHX.sub f653 (by simp) (by simp) (by simp))), by omega, ⟨_, v64, f10, Or.inr ⟨xq13, xq54, ⟨hx12, hx55⟩, f63⟩, Or.inr ⟨by omega, Or.inr (Or.inr (Or.inr (Or.inr (Or.inr (Or.inr (Or.inr (Or.inl (⟨by omega, rfl, xq13, xq54, xq620, (sA 58 a (w32 ((σ.2.1 58 a) - 1)) (sA 67 a (w32 ((σ.2.1 67 a) + 1)) σ)), σ640, ⟨hx12, hx55⟩, hx621, rfl, by rw [← f629, ← f637]; exact je648, je658⟩))))))))⟩⟩, ((((FA.rfl.put).put).trans (FA.of F647 (by decide))).trans (FA.of F657 (by decide)))⟩
      · refine tn_aload_n dX7_step_46 rfl 2 rfl ?_
        refine tn_iconst dX7_step_47 ?_
        refine tn_putV (ci := 7) (i := 1) (n := 56) (r := false) (v := 3) tyX7 tyX7_ok nmX7 dX7_step_48 rfl lay_7 (by decide) fl7_34 rfl (tyX7_ok 1 (by decide)) rfl rfl rfl ha rfl rfl ?_
        refine tn_iconst dX7_step_51 ?_
        have q661 : (sA 56 a (3) σ).2.1 57 a = σ.2.1 57 a := rc_o (by decide) (rfl)
        exact tn_zret (v := 0) rfl (by decide) dX7_step_52 ⟨_, rfl, rfl, (hw.put (by decide) (by decide) (fo_56 (by omega))), (FrC.rfl.put (by decide) (by decide)), by omega, (CHX.rfl.fld (by simp) (by decide)), by omega, ⟨_, v64, f10, Or.inr ⟨xq13, xq54, ⟨hx12, hx55⟩, f63⟩, Or.inl ⟨by omega, by omega, rfl, rfl⟩⟩, (FA.rfl.put)⟩
    · refine tn_iload_n dX7_step_31 rfl 0 rfl ?_
      refine tn_bipush dX7_step_32 (by decide) ?_
      refine tn_icmp_ne (tgt := 53) dX7_step_34 (by decide) ⟨by omega, by omega⟩ ⟨by decide, by decide⟩ (fun h662 => ?_) (fun h662 => ?_)
      · refine tn_aload_n dX7_step_53 rfl 2 rfl ?_
        refine tn_dup dX7_step_54 rfl ?_
        refine tn_getI (ci := 7) (i := 12) (n := 67) (t := σ.2.1 67 a) dX7_step_55 rfl lay_7 (by decide) fl7_47 ha rfl rfl (rfl) ?_
        have g663 : ((-2147483648 : Int) ≤ σ.2.1 67 a ∧ σ.2.1 67 a ≤ 2147483647) := wf_67 hw ha
        refine tn_iconst dX7_step_58 ?_
        refine tn_iadd dX7_step_59 ?_
        rw [show iI ((σ.2.1 67 a) + 1) = iI (w32 ((σ.2.1 67 a) + 1)) from (iI_self _).symm]
        have g664r : -2147483648 ≤ w32 ((σ.2.1 67 a) + 1) ∧ w32 ((σ.2.1 67 a) + 1) ≤ 2147483647 := inR_toInt _
        refine tn_putV (ci := 7) (i := 12) (n := 67) (r := false) (v := w32 ((σ.2.1 67 a) + 1)) tyX7 tyX7_ok nmX7 dX7_step_60 rfl lay_7 (by decide) fl7_47 rfl (tyX7_ok 12 (by decide)) rfl rfl rfl ha rfl rfl ?_
        refine tn_iload_n dX7_step_63 rfl 1 rfl ?_
        refine tn_iconst dX7_step_64 ?_
        refine tn_iadd dX7_step_65 ?_
        rw [show iI (v11 + 1) = iI (w32 (v11 + 1)) from (iI_self _).symm]
        have g665r : -2147483648 ≤ w32 (v11 + 1) ∧ w32 (v11 + 1) ≤ 2147483647 := inR_toInt _
        refine tn_istore_n (L' := [(3, .int (iI (w32 (v11 + 1)))), (2, .int (iI v64)), (1, .int (iI v11)), (0, .ref a)]) dX7_step_66 rfl (by decide) rfl ?_
        refine tn_iload_n dX7_step_67 rfl 1 rfl ?_
        by_cases h666 : v64 < -1 ∨ 15 < v64
        · refine tn_tableOut (tgt := 369) dX7_step_68 (x := v64) ⟨by omega, by omega⟩ h666 (by decide) ?_
          refine tn_aload_n dX7_step_369 rfl 3 rfl ?_
          refine tn_iload_n dX7_step_370 rfl 2 rfl ?_
          refine tn_iload_n dX7_step_371 rfl 1 rfl ?_
          obtain ⟨hk669, hl670⟩ : AR T xe 1 1728 1728 := ar_of (wf_63 hw ha) hxe
          have hk669i : IA T xe := by unfold IA; omega
          refine tn_callV (M := m_X7_step) (pc := 372) (ix := 129) (ci := 7) (M' := m_X7_reckonAt) (As := [.int (iI v11), .int (iI v64)]) (rest := []) dX7_step_372 ok_X7_reckonAt im_X7_reckonAt se_X7_reckonAt ml7_129 np_X7_reckonAt rfl rfl ha rfl (Nat.le_of_ble_eq_true rfl) (Nat.le_of_ble_eq_true rfl) rfl (k_X7_reckonAt_j (d + 1) (T := T) (σ := (sA 67 a (w32 ((σ.2.1 67 a) + 1)) σ)) (a := a) (k := v11) (e := v64) (xe := xe) ha (by omega) (by omega) (hw.put (by decide) (by decide) (fo_67 (by omega))) (rc_o (by decide) (hxe)) (by rw [show (sA 67 a (w32 ((σ.2.1 67 a) + 1)) σ).2.1 69 a = _ from rc_o (by decide) (hx12)]; omega)) (fun r671 T673 σ672 gt674 hp => ?_)
          obtain ⟨rfl, rfl, w678, F679, f675, f676⟩ := hp
          clear gt674
          show Tn _ _ 375 T σ672 [(3, .int (iI (w32 (v11 + 1)))), (2, .int (iI v64)), (1, .int (iI v11)), (0, .ref a)] [] _
          refine tn_aload_n dX7_step_375 rfl 3 rfl ?_
          refine tn_getR (ci := 7) (i := 5) (n := 60) (x := xb) dX7_step_376 rfl lay_7 (by decide) fl7_15 ha rfl rfl (rc_F F679 (Or.inl (by decide)) (by decide) (rc_o (by decide) (hxb))) ?_
          refine tn_aload_n dX7_step_379 rfl 3 rfl ?_
          refine tn_getI (ci := 7) (i := 2) (n := 57) (t := σ.2.1 57 a) dX7_step_380 rfl lay_7 (by decide) fl7_65 ha rfl rfl (rc_F F679 (Or.inl (by decide)) (by decide) (rc_o (by decide) (rfl))) ?_
          have g680 : ((0 : Int) ≤ σ.2.1 57 a ∧ σ.2.1 57 a ≤ 11184800) ∧ ((T a).1 = 57 → σ.2.1 57 a ≤ 8) := wf_57 hw ha
          have g680x := g680.2
          replace g680 := g680.1
          clear g680x
          refine tn_iload_n dX7_step_383 rfl 0 rfl ?_
          refine tn_callSN (M := m_X7_step) (pc := 384) (ix := 61) (M' := m_X11_put) (As := [.ref xb, .int (iI (σ.2.1 57 a)), .int (iI (w32 (v11 + 1)))]) (rest := []) dX7_step_384 ok_X11_put stt_X11_put nl7_61 np_X11_put rfl (Nat.le_of_ble_eq_true rfl) (Nat.le_of_ble_eq_true rfl) rfl (k_X11_put_x (d + 3) (T := T) (σ := σ672) (x := xb) (i := σ.2.1 57 a) (y := w32 (v11 + 1)) hk3i (by omega) (by omega) (by omega) w678 (nh_k hk3 (by unfold HT; omega)) (vok_1 (by have q9 := hk3; omega) (by omega))) (fun r681 T683 σ682 gt684 hp => ?_)
          obtain ⟨rfl, rfl, w688, F689, f685, f686⟩ := hp
          clear gt684
          have je690 : σ682 = jP T xb (σ.2.1 57 a) (w32 (v11 + 1)) _ := f686
          show Tn _ _ 387 T σ682 [(3, .int (iI (w32 (v11 + 1)))), (2, .int (iI v64)), (1, .int (iI v11)), (0, .ref a)] [] _
          refine tn_iload_n dX7_step_387 rfl 1 rfl ?_
          refine tn_bipush dX7_step_388 (by decide) ?_
          refine tn_icmp_ne (tgt := 397) dX7_step_390 (by decide) ⟨by omega, by omega⟩ ⟨by decide, by decide⟩ (fun h691 => ?_) (fun h691 => ?_)
          · refine tn_iconst dX7_step_397 ?_
            have q692 : σ682.2.1 57 a = σ.2.1 57 a := rc_F F689 (Or.inl (by decide)) (by decide) (rc_F F679 (Or.inl (by decide)) (by decide) (rc_o (by decide) (rfl)))
            exact tn_zret (v := 0) rfl (by decide) dX7_step_398 ⟨_, rfl, rfl, w688, (((FrC.rfl.put (by decide) (by decide)).trans (FrC.sub F679 (by decide))).trans (FrC.sub F689 (by decide))), by omega, (((CHX.rfl.fld (by simp) (by decide)).trans (CHX.sub f675 (by simp) (by simp) (by simp))).trans (CHX.sub f685 (by simp) (by simp) (by simp))), by omega, ⟨_, v64, f10, Or.inr ⟨xq13, xq54, ⟨hx12, hx55⟩, f63⟩, Or.inr ⟨by omega, Or.inr (Or.inr (Or.inr (Or.inr (Or.inr (Or.inr (Or.inr (Or.inr (Or.inr ((⟨by omega, rfl, _, f676, je690⟩))))))))))⟩⟩, (((FA.rfl.put).trans (FA.of F679 (by decide))).trans (FA.of F689 (by decide)))⟩
          · refine tn_iconst dX7_step_393 ?_
            refine tn_goto (tgt := 398) dX7_step_394 (by decide) ?_
            have q693 : σ682.2.1 57 a = σ.2.1 57 a := rc_F F689 (Or.inl (by decide)) (by decide) (rc_F F679 (Or.inl (by decide)) (by decide) (rc_o (by decide) (rfl)))
            exact tn_zret (v := 1) rfl (by decide) dX7_step_398 ⟨_, rfl, rfl, w688, (((FrC.rfl.put (by decide) (by decide)).trans (FrC.sub F679 (by decide))).trans (FrC.sub F689 (by decide))), by omega, (((CHX.rfl.fld (by simp) (by decide)).trans (CHX.sub f675 (by simp) (by simp) (by simp))).trans (CHX.sub f685 (by simp) (by simp) (by simp))), by omega, by exfalso; omega, (((FA.rfl.put).trans (FA.of F679 (by decide))).trans (FA.of F689 (by decide)))⟩
        · have h694 : v64 = -1 ∨ v64 = 0 ∨ v64 = 1 ∨ v64 = 2 ∨ v64 = 3 ∨ v64 = 4 ∨ v64 = 5 ∨ v64 = 6 ∨ v64 = 7 ∨ v64 = 8 ∨ v64 = 9 ∨ v64 = 10 ∨ v64 = 11 ∨ v64 = 12 ∨ v64 = 13 ∨ v64 = 14 ∨ v64 = 15 := by omega
          rcases h694 with h694 | h694 | h694 | h694 | h694 | h694 | h694 | h694 | h694 | h694 | h694 | h694 | h694 | h694 | h694 | h694 | h694
          · refine tn_tableIn (tgt := 362) (off := 294) dX7_step_68 (x := v64) ⟨by omega, by omega⟩ (by omega) (by omega) (by rw [h694]; rfl) (by decide) ?_
            refine tn_aload_n dX7_step_362 rfl 3 rfl ?_
            refine tn_iconst dX7_step_363 ?_
            obtain ⟨hk697, hl698⟩ : AR T xa 15 9 9 := ar_of (wf_59 hw ha) hxa
            have hk697i : IA T xa := by unfold IA; omega
            obtain ⟨hl702, hk701a, hk701b⟩ := ex_at (wf_61 hw ha) hxc
            have hk701 : (T xc).1 = 1 := hk701b (by omega)
            clear hk701a hk701b
            have hk701i : IA T xc := by unfold IA; omega
            obtain ⟨hk705, hl706⟩ : AR T xd 1 108 108 := ar_of (wf_62 hw ha) hxd
            have hk705i : IA T xd := by unfold IA; omega
            obtain ⟨hk709, hl710⟩ : AR T xe 1 1728 1728 := ar_of (wf_63 hw ha) hxe
            have hk709i : IA T xe := by unfold IA; omega
            obtain ⟨hl714, hk713a, hk713b⟩ := ex_at (wf_55 hw ha) hy
            have hk713i : (T y).1 = 4 ∨ (T y).1 = 5 := by omega
            have hk713c : RROW T a y := ⟨hk713a, hk713b⟩
            clear hk713a hk713b
            have q719 : (sA 67 a (w32 ((σ.2.1 67 a) + 1)) σ).2.1 57 a = σ.2.1 57 a := rc_o (by decide) (rfl)
            refine tn_callV (M := m_X7_step) (pc := 364) (ix := 123) (ci := 7) (M' := m_X7_giveBack) (As := [.int (iI 0)]) (rest := []) dX7_step_364 ok_X7_giveBack im_X7_giveBack se_X7_giveBack ml7_123 np_X7_giveBack rfl rfl ha rfl (Nat.le_of_ble_eq_true rfl) (Nat.le_of_ble_eq_true rfl) rfl (k_X7_giveBack_j (d + 1) (T := T) (σ := (sA 67 a (w32 ((σ.2.1 67 a) + 1)) σ)) (a := a) (n := 0) (xa := xa) (xb := xb) (xc := xc) (xd := xd) (xe := xe) (y := y) ha hta (by decide) (hw.put (by decide) (by decide) (fo_67 (by omega))) (rc_o (by decide) (hxa)) (rc_o (by decide) (hxb)) (rc_o (by decide) (hxc)) (rc_o (by decide) (hxd)) (rc_o (by decide) (hxe)) (rc_o (by decide) (hy))) (fun r715 T717 σ716 gt718 hp => ?_)
            obtain ⟨rfl, rfl, w725, F726, f720, f721, f722, f723⟩ := hp
            clear gt718
            show Tn _ _ 367 T σ716 [(3, .int (iI (w32 (v11 + 1)))), (2, .int (iI v64)), (1, .int (iI v11)), (0, .ref a)] [] _
            refine tn_iconst dX7_step_367 ?_
            have q727 : σ716.2.1 57 a = σ716.2.1 57 a := rfl
            exact tn_zret (v := 0) rfl (by decide) dX7_step_368 ⟨_, rfl, rfl, w725, ((FrC.rfl.put (by decide) (by decide)).trans (FrC.sub F726 (by decide))), by omega, ((CHX.rfl.fld (by simp) (by decide)).trans (CHX.sub f720 (by simp) (by simp) (by simp))), by omega, ⟨_, v64, f10, Or.inr ⟨xq13, xq54, ⟨hx12, hx55⟩, f63⟩, Or.inr ⟨by omega, Or.inr (Or.inr (Or.inr (Or.inr (Or.inr (Or.inr (Or.inr (Or.inr (Or.inl (⟨by omega, rfl, f722⟩)))))))))⟩⟩, ((FA.rfl.put).trans f723)⟩
          · refine tn_tableIn (tgt := 369) (off := 301) dX7_step_68 (x := v64) ⟨by omega, by omega⟩ (by omega) (by omega) (by rw [h694]; rfl) (by decide) ?_
            refine tn_aload_n dX7_step_369 rfl 3 rfl ?_
            refine tn_iload_n dX7_step_370 rfl 2 rfl ?_
            refine tn_iload_n dX7_step_371 rfl 1 rfl ?_
            obtain ⟨hk730, hl731⟩ : AR T xe 1 1728 1728 := ar_of (wf_63 hw ha) hxe
            have hk730i : IA T xe := by unfold IA; omega
            refine tn_callV (M := m_X7_step) (pc := 372) (ix := 129) (ci := 7) (M' := m_X7_reckonAt) (As := [.int (iI v11), .int (iI v64)]) (rest := []) dX7_step_372 ok_X7_reckonAt im_X7_reckonAt se_X7_reckonAt ml7_129 np_X7_reckonAt rfl rfl ha rfl (Nat.le_of_ble_eq_true rfl) (Nat.le_of_ble_eq_true rfl) rfl (k_X7_reckonAt_j (d + 1) (T := T) (σ := (sA 67 a (w32 ((σ.2.1 67 a) + 1)) σ)) (a := a) (k := v11) (e := v64) (xe := xe) ha (by omega) (by omega) (hw.put (by decide) (by decide) (fo_67 (by omega))) (rc_o (by decide) (hxe)) (by rw [show (sA 67 a (w32 ((σ.2.1 67 a) + 1)) σ).2.1 69 a = _ from rc_o (by decide) (hx12)]; omega)) (fun r732 T734 σ733 gt735 hp => ?_)
            obtain ⟨rfl, rfl, w739, F740, f736, f737⟩ := hp
            clear gt735
            show Tn _ _ 375 T σ733 [(3, .int (iI (w32 (v11 + 1)))), (2, .int (iI v64)), (1, .int (iI v11)), (0, .ref a)] [] _
            refine tn_aload_n dX7_step_375 rfl 3 rfl ?_
            refine tn_getR (ci := 7) (i := 5) (n := 60) (x := xb) dX7_step_376 rfl lay_7 (by decide) fl7_15 ha rfl rfl (rc_F F740 (Or.inl (by decide)) (by decide) (rc_o (by decide) (hxb))) ?_
            refine tn_aload_n dX7_step_379 rfl 3 rfl ?_
            refine tn_getI (ci := 7) (i := 2) (n := 57) (t := σ.2.1 57 a) dX7_step_380 rfl lay_7 (by decide) fl7_65 ha rfl rfl (rc_F F740 (Or.inl (by decide)) (by decide) (rc_o (by decide) (rfl))) ?_
            have g741 : ((0 : Int) ≤ σ.2.1 57 a ∧ σ.2.1 57 a ≤ 11184800) ∧ ((T a).1 = 57 → σ.2.1 57 a ≤ 8) := wf_57 hw ha
            have g741x := g741.2
            replace g741 := g741.1
            clear g741x
            refine tn_iload_n dX7_step_383 rfl 0 rfl ?_
            refine tn_callSN (M := m_X7_step) (pc := 384) (ix := 61) (M' := m_X11_put) (As := [.ref xb, .int (iI (σ.2.1 57 a)), .int (iI (w32 (v11 + 1)))]) (rest := []) dX7_step_384 ok_X11_put stt_X11_put nl7_61 np_X11_put rfl (Nat.le_of_ble_eq_true rfl) (Nat.le_of_ble_eq_true rfl) rfl (k_X11_put_x (d + 3) (T := T) (σ := σ733) (x := xb) (i := σ.2.1 57 a) (y := w32 (v11 + 1)) hk3i (by omega) (by omega) (by omega) w739 (nh_k hk3 (by unfold HT; omega)) (vok_1 (by have q9 := hk3; omega) (by omega))) (fun r742 T744 σ743 gt745 hp => ?_)
            obtain ⟨rfl, rfl, w749, F750, f746, f747⟩ := hp
            clear gt745
            have je751 : σ743 = jP T xb (σ.2.1 57 a) (w32 (v11 + 1)) _ := f747
            show Tn _ _ 387 T σ743 [(3, .int (iI (w32 (v11 + 1)))), (2, .int (iI v64)), (1, .int (iI v11)), (0, .ref a)] [] _
            refine tn_iload_n dX7_step_387 rfl 1 rfl ?_
            refine tn_bipush dX7_step_388 (by decide) ?_
            refine tn_icmp_ne (tgt := 397) dX7_step_390 (by decide) ⟨by omega, by omega⟩ ⟨by decide, by decide⟩ (fun h752 => ?_) (fun h752 => absurd h752 (by omega))
            refine tn_iconst dX7_step_397 ?_
            have q753 : σ743.2.1 57 a = σ.2.1 57 a := rc_F F750 (Or.inl (by decide)) (by decide) (rc_F F740 (Or.inl (by decide)) (by decide) (rc_o (by decide) (rfl)))
            exact tn_zret (v := 0) rfl (by decide) dX7_step_398 ⟨_, rfl, rfl, w749, (((FrC.rfl.put (by decide) (by decide)).trans (FrC.sub F740 (by decide))).trans (FrC.sub F750 (by decide))), by omega, (((CHX.rfl.fld (by simp) (by decide)).trans (CHX.sub f736 (by simp) (by simp) (by simp))).trans (CHX.sub f746 (by simp) (by simp) (by simp))), by omega, ⟨_, v64, f10, Or.inr ⟨xq13, xq54, ⟨hx12, hx55⟩, f63⟩, Or.inr ⟨by omega, Or.inr (Or.inr (Or.inr (Or.inr (Or.inr (Or.inr (Or.inr (Or.inr (Or.inr ((⟨by omega, rfl, _, f737, je751⟩))))))))))⟩⟩, (((FA.rfl.put).trans (FA.of F740 (by decide))).trans (FA.of F750 (by decide)))⟩
          · refine tn_tableIn (tgt := 369) (off := 301) dX7_step_68 (x := v64) ⟨by omega, by omega⟩ (by omega) (by omega) (by rw [h694]; rfl) (by decide) ?_
            refine tn_aload_n dX7_step_369 rfl 3 rfl ?_
            refine tn_iload_n dX7_step_370 rfl 2 rfl ?_
            refine tn_iload_n dX7_step_371 rfl 1 rfl ?_
            obtain ⟨hk756, hl757⟩ : AR T xe 1 1728 1728 := ar_of (wf_63 hw ha) hxe
            have hk756i : IA T xe := by unfold IA; omega
            refine tn_callV (M := m_X7_step) (pc := 372) (ix := 129) (ci := 7) (M' := m_X7_reckonAt) (As := [.int (iI v11), .int (iI v64)]) (rest := []) dX7_step_372 ok_X7_reckonAt im_X7_reckonAt se_X7_reckonAt ml7_129 np_X7_reckonAt rfl rfl ha rfl (Nat.le_of_ble_eq_true rfl) (Nat.le_of_ble_eq_true rfl) rfl (k_X7_reckonAt_j (d + 1) (T := T) (σ := (sA 67 a (w32 ((σ.2.1 67 a) + 1)) σ)) (a := a) (k := v11) (e := v64) (xe := xe) ha (by omega) (by omega) (hw.put (by decide) (by decide) (fo_67 (by omega))) (rc_o (by decide) (hxe)) (by rw [show (sA 67 a (w32 ((σ.2.1 67 a) + 1)) σ).2.1 69 a = _ from rc_o (by decide) (hx12)]; omega)) (fun r758 T760 σ759 gt761 hp => ?_)
            obtain ⟨rfl, rfl, w765, F766, f762, f763⟩ := hp
            clear gt761
            show Tn _ _ 375 T σ759 [(3, .int (iI (w32 (v11 + 1)))), (2, .int (iI v64)), (1, .int (iI v11)), (0, .ref a)] [] _
            refine tn_aload_n dX7_step_375 rfl 3 rfl ?_
            refine tn_getR (ci := 7) (i := 5) (n := 60) (x := xb) dX7_step_376 rfl lay_7 (by decide) fl7_15 ha rfl rfl (rc_F F766 (Or.inl (by decide)) (by decide) (rc_o (by decide) (hxb))) ?_
            refine tn_aload_n dX7_step_379 rfl 3 rfl ?_
            refine tn_getI (ci := 7) (i := 2) (n := 57) (t := σ.2.1 57 a) dX7_step_380 rfl lay_7 (by decide) fl7_65 ha rfl rfl (rc_F F766 (Or.inl (by decide)) (by decide) (rc_o (by decide) (rfl))) ?_
            have g767 : ((0 : Int) ≤ σ.2.1 57 a ∧ σ.2.1 57 a ≤ 11184800) ∧ ((T a).1 = 57 → σ.2.1 57 a ≤ 8) := wf_57 hw ha
            have g767x := g767.2
            replace g767 := g767.1
            clear g767x
            refine tn_iload_n dX7_step_383 rfl 0 rfl ?_
            refine tn_callSN (M := m_X7_step) (pc := 384) (ix := 61) (M' := m_X11_put) (As := [.ref xb, .int (iI (σ.2.1 57 a)), .int (iI (w32 (v11 + 1)))]) (rest := []) dX7_step_384 ok_X11_put stt_X11_put nl7_61 np_X11_put rfl (Nat.le_of_ble_eq_true rfl) (Nat.le_of_ble_eq_true rfl) rfl (k_X11_put_x (d + 3) (T := T) (σ := σ759) (x := xb) (i := σ.2.1 57 a) (y := w32 (v11 + 1)) hk3i (by omega) (by omega) (by omega) w765 (nh_k hk3 (by unfold HT; omega)) (vok_1 (by have q9 := hk3; omega) (by omega))) (fun r768 T770 σ769 gt771 hp => ?_)
            obtain ⟨rfl, rfl, w775, F776, f772, f773⟩ := hp
            clear gt771
            have je777 : σ769 = jP T xb (σ.2.1 57 a) (w32 (v11 + 1)) _ := f773
            show Tn _ _ 387 T σ769 [(3, .int (iI (w32 (v11 + 1)))), (2, .int (iI v64)), (1, .int (iI v11)), (0, .ref a)] [] _
            refine tn_iload_n dX7_step_387 rfl 1 rfl ?_
            refine tn_bipush dX7_step_388 (by decide) ?_
            refine tn_icmp_ne (tgt := 397) dX7_step_390 (by decide) ⟨by omega, by omega⟩ ⟨by decide, by decide⟩ (fun h778 => ?_) (fun h778 => absurd h778 (by omega))
            refine tn_iconst dX7_step_397 ?_
            have q779 : σ769.2.1 57 a = σ.2.1 57 a := rc_F F776 (Or.inl (by decide)) (by decide) (rc_F F766 (Or.inl (by decide)) (by decide) (rc_o (by decide) (rfl)))
            exact tn_zret (v := 0) rfl (by decide) dX7_step_398 ⟨_, rfl, rfl, w775, (((FrC.rfl.put (by decide) (by decide)).trans (FrC.sub F766 (by decide))).trans (FrC.sub F776 (by decide))), by omega, (((CHX.rfl.fld (by simp) (by decide)).trans (CHX.sub f762 (by simp) (by simp) (by simp))).trans (CHX.sub f772 (by simp) (by simp) (by simp))), by omega, ⟨_, v64, f10, Or.inr ⟨xq13, xq54, ⟨hx12, hx55⟩, f63⟩, Or.inr ⟨by omega, Or.inr (Or.inr (Or.inr (Or.inr (Or.inr (Or.inr (Or.inr (Or.inr (Or.inr ((⟨by omega, rfl, _, f763, je777⟩))))))))))⟩⟩, (((FA.rfl.put).trans (FA.of F766 (by decide))).trans (FA.of F776 (by decide)))⟩
          · refine tn_tableIn (tgt := 369) (off := 301) dX7_step_68 (x := v64) ⟨by omega, by omega⟩ (by omega) (by omega) (by rw [h694]; rfl) (by decide) ?_
            refine tn_aload_n dX7_step_369 rfl 3 rfl ?_
            refine tn_iload_n dX7_step_370 rfl 2 rfl ?_
            refine tn_iload_n dX7_step_371 rfl 1 rfl ?_
            obtain ⟨hk782, hl783⟩ : AR T xe 1 1728 1728 := ar_of (wf_63 hw ha) hxe
            have hk782i : IA T xe := by unfold IA; omega
            refine tn_callV (M := m_X7_step) (pc := 372) (ix := 129) (ci := 7) (M' := m_X7_reckonAt) (As := [.int (iI v11), .int (iI v64)]) (rest := []) dX7_step_372 ok_X7_reckonAt im_X7_reckonAt se_X7_reckonAt ml7_129 np_X7_reckonAt rfl rfl ha rfl (Nat.le_of_ble_eq_true rfl) (Nat.le_of_ble_eq_true rfl) rfl (k_X7_reckonAt_j (d + 1) (T := T) (σ := (sA 67 a (w32 ((σ.2.1 67 a) + 1)) σ)) (a := a) (k := v11) (e := v64) (xe := xe) ha (by omega) (by omega) (hw.put (by decide) (by decide) (fo_67 (by omega))) (rc_o (by decide) (hxe)) (by rw [show (sA 67 a (w32 ((σ.2.1 67 a) + 1)) σ).2.1 69 a = _ from rc_o (by decide) (hx12)]; omega)) (fun r784 T786 σ785 gt787 hp => ?_)
            obtain ⟨rfl, rfl, w791, F792, f788, f789⟩ := hp
            clear gt787
            show Tn _ _ 375 T σ785 [(3, .int (iI (w32 (v11 + 1)))), (2, .int (iI v64)), (1, .int (iI v11)), (0, .ref a)] [] _
            refine tn_aload_n dX7_step_375 rfl 3 rfl ?_
            refine tn_getR (ci := 7) (i := 5) (n := 60) (x := xb) dX7_step_376 rfl lay_7 (by decide) fl7_15 ha rfl rfl (rc_F F792 (Or.inl (by decide)) (by decide) (rc_o (by decide) (hxb))) ?_
            refine tn_aload_n dX7_step_379 rfl 3 rfl ?_
            refine tn_getI (ci := 7) (i := 2) (n := 57) (t := σ.2.1 57 a) dX7_step_380 rfl lay_7 (by decide) fl7_65 ha rfl rfl (rc_F F792 (Or.inl (by decide)) (by decide) (rc_o (by decide) (rfl))) ?_
            have g793 : ((0 : Int) ≤ σ.2.1 57 a ∧ σ.2.1 57 a ≤ 11184800) ∧ ((T a).1 = 57 → σ.2.1 57 a ≤ 8) := wf_57 hw ha
            have g793x := g793.2
            replace g793 := g793.1
            clear g793x
            refine tn_iload_n dX7_step_383 rfl 0 rfl ?_
            refine tn_callSN (M := m_X7_step) (pc := 384) (ix := 61) (M' := m_X11_put) (As := [.ref xb, .int (iI (σ.2.1 57 a)), .int (iI (w32 (v11 + 1)))]) (rest := []) dX7_step_384 ok_X11_put stt_X11_put nl7_61 np_X11_put rfl (Nat.le_of_ble_eq_true rfl) (Nat.le_of_ble_eq_true rfl) rfl (k_X11_put_x (d + 3) (T := T) (σ := σ785) (x := xb) (i := σ.2.1 57 a) (y := w32 (v11 + 1)) hk3i (by omega) (by omega) (by omega) w791 (nh_k hk3 (by unfold HT; omega)) (vok_1 (by have q9 := hk3; omega) (by omega))) (fun r794 T796 σ795 gt797 hp => ?_)
            obtain ⟨rfl, rfl, w801, F802, f798, f799⟩ := hp
            clear gt797
            have je803 : σ795 = jP T xb (σ.2.1 57 a) (w32 (v11 + 1)) _ := f799
            show Tn _ _ 387 T σ795 [(3, .int (iI (w32 (v11 + 1)))), (2, .int (iI v64)), (1, .int (iI v11)), (0, .ref a)] [] _
            refine tn_iload_n dX7_step_387 rfl 1 rfl ?_
            refine tn_bipush dX7_step_388 (by decide) ?_
            refine tn_icmp_ne (tgt := 397) dX7_step_390 (by decide) ⟨by omega, by omega⟩ ⟨by decide, by decide⟩ (fun h804 => ?_) (fun h804 => absurd h804 (by omega))
            refine tn_iconst dX7_step_397 ?_
            have q805 : σ795.2.1 57 a = σ.2.1 57 a := rc_F F802 (Or.inl (by decide)) (by decide) (rc_F F792 (Or.inl (by decide)) (by decide) (rc_o (by decide) (rfl)))
            exact tn_zret (v := 0) rfl (by decide) dX7_step_398 ⟨_, rfl, rfl, w801, (((FrC.rfl.put (by decide) (by decide)).trans (FrC.sub F792 (by decide))).trans (FrC.sub F802 (by decide))), by omega, (((CHX.rfl.fld (by simp) (by decide)).trans (CHX.sub f788 (by simp) (by simp) (by simp))).trans (CHX.sub f798 (by simp) (by simp) (by simp))), by omega, ⟨_, v64, f10, Or.inr ⟨xq13, xq54, ⟨hx12, hx55⟩, f63⟩, Or.inr ⟨by omega, Or.inr (Or.inr (Or.inr (Or.inr (Or.inr (Or.inr (Or.inr (Or.inr (Or.inr ((⟨by omega, rfl, _, f789, je803⟩))))))))))⟩⟩, (((FA.rfl.put).trans (FA.of F792 (by decide))).trans (FA.of F802 (by decide)))⟩
          · refine tn_tableIn (tgt := 369) (off := 301) dX7_step_68 (x := v64) ⟨by omega, by omega⟩ (by omega) (by omega) (by rw [h694]; rfl) (by decide) ?_
            refine tn_aload_n dX7_step_369 rfl 3 rfl ?_
            refine tn_iload_n dX7_step_370 rfl 2 rfl ?_
            refine tn_iload_n dX7_step_371 rfl 1 rfl ?_
            obtain ⟨hk808, hl809⟩ : AR T xe 1 1728 1728 := ar_of (wf_63 hw ha) hxe
            have hk808i : IA T xe := by unfold IA; omega
            refine tn_callV (M := m_X7_step) (pc := 372) (ix := 129) (ci := 7) (M' := m_X7_reckonAt) (As := [.int (iI v11), .int (iI v64)]) (rest := []) dX7_step_372 ok_X7_reckonAt im_X7_reckonAt se_X7_reckonAt ml7_129 np_X7_reckonAt rfl rfl ha rfl (Nat.le_of_ble_eq_true rfl) (Nat.le_of_ble_eq_true rfl) rfl (k_X7_reckonAt_j (d + 1) (T := T) (σ := (sA 67 a (w32 ((σ.2.1 67 a) + 1)) σ)) (a := a) (k := v11) (e := v64) (xe := xe) ha (by omega) (by omega) (hw.put (by decide) (by decide) (fo_67 (by omega))) (rc_o (by decide) (hxe)) (by rw [show (sA 67 a (w32 ((σ.2.1 67 a) + 1)) σ).2.1 69 a = _ from rc_o (by decide) (hx12)]; omega)) (fun r810 T812 σ811 gt813 hp => ?_)
            obtain ⟨rfl, rfl, w817, F818, f814, f815⟩ := hp
            clear gt813
            show Tn _ _ 375 T σ811 [(3, .int (iI (w32 (v11 + 1)))), (2, .int (iI v64)), (1, .int (iI v11)), (0, .ref a)] [] _
            refine tn_aload_n dX7_step_375 rfl 3 rfl ?_
            refine tn_getR (ci := 7) (i := 5) (n := 60) (x := xb) dX7_step_376 rfl lay_7 (by decide) fl7_15 ha rfl rfl (rc_F F818 (Or.inl (by decide)) (by decide) (rc_o (by decide) (hxb))) ?_
            refine tn_aload_n dX7_step_379 rfl 3 rfl ?_
            refine tn_getI (ci := 7) (i := 2) (n := 57) (t := σ.2.1 57 a) dX7_step_380 rfl lay_7 (by decide) fl7_65 ha rfl rfl (rc_F F818 (Or.inl (by decide)) (by decide) (rc_o (by decide) (rfl))) ?_
            have g819 : ((0 : Int) ≤ σ.2.1 57 a ∧ σ.2.1 57 a ≤ 11184800) ∧ ((T a).1 = 57 → σ.2.1 57 a ≤ 8) := wf_57 hw ha
            have g819x := g819.2
            replace g819 := g819.1
            clear g819x
            refine tn_iload_n dX7_step_383 rfl 0 rfl ?_
            refine tn_callSN (M := m_X7_step) (pc := 384) (ix := 61) (M' := m_X11_put) (As := [.ref xb, .int (iI (σ.2.1 57 a)), .int (iI (w32 (v11 + 1)))]) (rest := []) dX7_step_384 ok_X11_put stt_X11_put nl7_61 np_X11_put rfl (Nat.le_of_ble_eq_true rfl) (Nat.le_of_ble_eq_true rfl) rfl (k_X11_put_x (d + 3) (T := T) (σ := σ811) (x := xb) (i := σ.2.1 57 a) (y := w32 (v11 + 1)) hk3i (by omega) (by omega) (by omega) w817 (nh_k hk3 (by unfold HT; omega)) (vok_1 (by have q9 := hk3; omega) (by omega))) (fun r820 T822 σ821 gt823 hp => ?_)
            obtain ⟨rfl, rfl, w827, F828, f824, f825⟩ := hp
            clear gt823
            have je829 : σ821 = jP T xb (σ.2.1 57 a) (w32 (v11 + 1)) _ := f825
            show Tn _ _ 387 T σ821 [(3, .int (iI (w32 (v11 + 1)))), (2, .int (iI v64)), (1, .int (iI v11)), (0, .ref a)] [] _
            refine tn_iload_n dX7_step_387 rfl 1 rfl ?_
            refine tn_bipush dX7_step_388 (by decide) ?_
            refine tn_icmp_ne (tgt := 397) dX7_step_390 (by decide) ⟨by omega, by omega⟩ ⟨by decide, by decide⟩ (fun h830 => ?_) (fun h830 => absurd h830 (by omega))
            refine tn_iconst dX7_step_397 ?_
            have q831 : σ821.2.1 57 a = σ.2.1 57 a := rc_F F828 (Or.inl (by decide)) (by decide) (rc_F F818 (Or.inl (by decide)) (by decide) (rc_o (by decide) (rfl)))
            exact tn_zret (v := 0) rfl (by decide) dX7_step_398 ⟨_, rfl, rfl, w827, (((FrC.rfl.put (by decide) (by decide)).trans (FrC.sub F818 (by decide))).trans (FrC.sub F828 (by decide))), by omega, (((CHX.rfl.fld (by simp) (by decide)).trans (CHX.sub f814 (by simp) (by simp) (by simp))).trans (CHX.sub f824 (by simp) (by simp) (by simp))), by omega, ⟨_, v64, f10, Or.inr ⟨xq13, xq54, ⟨hx12, hx55⟩, f63⟩, Or.inr ⟨by omega, Or.inr (Or.inr (Or.inr (Or.inr (Or.inr (Or.inr (Or.inr (Or.inr (Or.inr ((⟨by omega, rfl, _, f815, je829⟩))))))))))⟩⟩, (((FA.rfl.put).trans (FA.of F818 (by decide))).trans (FA.of F828 (by decide)))⟩
          · refine tn_tableIn (tgt := 369) (off := 301) dX7_step_68 (x := v64) ⟨by omega, by omega⟩ (by omega) (by omega) (by rw [h694]; rfl) (by decide) ?_
            refine tn_aload_n dX7_step_369 rfl 3 rfl ?_
            refine tn_iload_n dX7_step_370 rfl 2 rfl ?_
            refine tn_iload_n dX7_step_371 rfl 1 rfl ?_
            obtain ⟨hk834, hl835⟩ : AR T xe 1 1728 1728 := ar_of (wf_63 hw ha) hxe
            have hk834i : IA T xe := by unfold IA; omega
            refine tn_callV (M := m_X7_step) (pc := 372) (ix := 129) (ci := 7) (M' := m_X7_reckonAt) (As := [.int (iI v11), .int (iI v64)]) (rest := []) dX7_step_372 ok_X7_reckonAt im_X7_reckonAt se_X7_reckonAt ml7_129 np_X7_reckonAt rfl rfl ha rfl (Nat.le_of_ble_eq_true rfl) (Nat.le_of_ble_eq_true rfl) rfl (k_X7_reckonAt_j (d + 1) (T := T) (σ := (sA 67 a (w32 ((σ.2.1 67 a) + 1)) σ)) (a := a) (k := v11) (e := v64) (xe := xe) ha (by omega) (by omega) (hw.put (by decide) (by decide) (fo_67 (by omega))) (rc_o (by decide) (hxe)) (by rw [show (sA 67 a (w32 ((σ.2.1 67 a) + 1)) σ).2.1 69 a = _ from rc_o (by decide) (hx12)]; omega)) (fun r836 T838 σ837 gt839 hp => ?_)
            obtain ⟨rfl, rfl, w843, F844, f840, f841⟩ := hp
            clear gt839
            show Tn _ _ 375 T σ837 [(3, .int (iI (w32 (v11 + 1)))), (2, .int (iI v64)), (1, .int (iI v11)), (0, .ref a)] [] _
            refine tn_aload_n dX7_step_375 rfl 3 rfl ?_
            refine tn_getR (ci := 7) (i := 5) (n := 60) (x := xb) dX7_step_376 rfl lay_7 (by decide) fl7_15 ha rfl rfl (rc_F F844 (Or.inl (by decide)) (by decide) (rc_o (by decide) (hxb))) ?_
            refine tn_aload_n dX7_step_379 rfl 3 rfl ?_
            refine tn_getI (ci := 7) (i := 2) (n := 57) (t := σ.2.1 57 a) dX7_step_380 rfl lay_7 (by decide) fl7_65 ha rfl rfl (rc_F F844 (Or.inl (by decide)) (by decide) (rc_o (by decide) (rfl))) ?_
            have g845 : ((0 : Int) ≤ σ.2.1 57 a ∧ σ.2.1 57 a ≤ 11184800) ∧ ((T a).1 = 57 → σ.2.1 57 a ≤ 8) := wf_57 hw ha
            have g845x := g845.2
            replace g845 := g845.1
            clear g845x
            refine tn_iload_n dX7_step_383 rfl 0 rfl ?_
            refine tn_callSN (M := m_X7_step) (pc := 384) (ix := 61) (M' := m_X11_put) (As := [.ref xb, .int (iI (σ.2.1 57 a)), .int (iI (w32 (v11 + 1)))]) (rest := []) dX7_step_384 ok_X11_put stt_X11_put nl7_61 np_X11_put rfl (Nat.le_of_ble_eq_true rfl) (Nat.le_of_ble_eq_true rfl) rfl (k_X11_put_x (d + 3) (T := T) (σ := σ837) (x := xb) (i := σ.2.1 57 a) (y := w32 (v11 + 1)) hk3i (by omega) (by omega) (by omega) w843 (nh_k hk3 (by unfold HT; omega)) (vok_1 (by have q9 := hk3; omega) (by omega))) (fun r846 T848 σ847 gt849 hp => ?_)
            obtain ⟨rfl, rfl, w853, F854, f850, f851⟩ := hp
            clear gt849
            have je855 : σ847 = jP T xb (σ.2.1 57 a) (w32 (v11 + 1)) _ := f851
            show Tn _ _ 387 T σ847 [(3, .int (iI (w32 (v11 + 1)))), (2, .int (iI v64)), (1, .int (iI v11)), (0, .ref a)] [] _
            refine tn_iload_n dX7_step_387 rfl 1 rfl ?_
            refine tn_bipush dX7_step_388 (by decide) ?_
            refine tn_icmp_ne (tgt := 397) dX7_step_390 (by decide) ⟨by omega, by omega⟩ ⟨by decide, by decide⟩ (fun h856 => ?_) (fun h856 => absurd h856 (by omega))
            refine tn_iconst dX7_step_397 ?_
            have q857 : σ847.2.1 57 a = σ.2.1 57 a := rc_F F854 (Or.inl (by decide)) (by decide) (rc_F F844 (Or.inl (by decide)) (by decide) (rc_o (by decide) (rfl)))
            exact tn_zret (v := 0) rfl (by decide) dX7_step_398 ⟨_, rfl, rfl, w853, (((FrC.rfl.put (by decide) (by decide)).trans (FrC.sub F844 (by decide))).trans (FrC.sub F854 (by decide))), by omega, (((CHX.rfl.fld (by simp) (by decide)).trans (CHX.sub f840 (by simp) (by simp) (by simp))).trans (CHX.sub f850 (by simp) (by simp) (by simp))), by omega, ⟨_, v64, f10, Or.inr ⟨xq13, xq54, ⟨hx12, hx55⟩, f63⟩, Or.inr ⟨by omega, Or.inr (Or.inr (Or.inr (Or.inr (Or.inr (Or.inr (Or.inr (Or.inr (Or.inr ((⟨by omega, rfl, _, f841, je855⟩))))))))))⟩⟩, (((FA.rfl.put).trans (FA.of F844 (by decide))).trans (FA.of F854 (by decide)))⟩
          · refine tn_tableIn (tgt := 369) (off := 301) dX7_step_68 (x := v64) ⟨by omega, by omega⟩ (by omega) (by omega) (by rw [h694]; rfl) (by decide) ?_
            refine tn_aload_n dX7_step_369 rfl 3 rfl ?_
            refine tn_iload_n dX7_step_370 rfl 2 rfl ?_
            refine tn_iload_n dX7_step_371 rfl 1 rfl ?_
            obtain ⟨hk860, hl861⟩ : AR T xe 1 1728 1728 := ar_of (wf_63 hw ha) hxe
            have hk860i : IA T xe := by unfold IA; omega
            refine tn_callV (M := m_X7_step) (pc := 372) (ix := 129) (ci := 7) (M' := m_X7_reckonAt) (As := [.int (iI v11), .int (iI v64)]) (rest := []) dX7_step_372 ok_X7_reckonAt im_X7_reckonAt se_X7_reckonAt ml7_129 np_X7_reckonAt rfl rfl ha rfl (Nat.le_of_ble_eq_true rfl) (Nat.le_of_ble_eq_true rfl) rfl (k_X7_reckonAt_j (d + 1) (T := T) (σ := (sA 67 a (w32 ((σ.2.1 67 a) + 1)) σ)) (a := a) (k := v11) (e := v64) (xe := xe) ha (by omega) (by omega) (hw.put (by decide) (by decide) (fo_67 (by omega))) (rc_o (by decide) (hxe)) (by rw [show (sA 67 a (w32 ((σ.2.1 67 a) + 1)) σ).2.1 69 a = _ from rc_o (by decide) (hx12)]; omega)) (fun r862 T864 σ863 gt865 hp => ?_)
            obtain ⟨rfl, rfl, w869, F870, f866, f867⟩ := hp
            clear gt865
            show Tn _ _ 375 T σ863 [(3, .int (iI (w32 (v11 + 1)))), (2, .int (iI v64)), (1, .int (iI v11)), (0, .ref a)] [] _
            refine tn_aload_n dX7_step_375 rfl 3 rfl ?_
            refine tn_getR (ci := 7) (i := 5) (n := 60) (x := xb) dX7_step_376 rfl lay_7 (by decide) fl7_15 ha rfl rfl (rc_F F870 (Or.inl (by decide)) (by decide) (rc_o (by decide) (hxb))) ?_
            refine tn_aload_n dX7_step_379 rfl 3 rfl ?_
            refine tn_getI (ci := 7) (i := 2) (n := 57) (t := σ.2.1 57 a) dX7_step_380 rfl lay_7 (by decide) fl7_65 ha rfl rfl (rc_F F870 (Or.inl (by decide)) (by decide) (rc_o (by decide) (rfl))) ?_
            have g871 : ((0 : Int) ≤ σ.2.1 57 a ∧ σ.2.1 57 a ≤ 11184800) ∧ ((T a).1 = 57 → σ.2.1 57 a ≤ 8) := wf_57 hw ha
            have g871x := g871.2
            replace g871 := g871.1
            clear g871x
            refine tn_iload_n dX7_step_383 rfl 0 rfl ?_
            refine tn_callSN (M := m_X7_step) (pc := 384) (ix := 61) (M' := m_X11_put) (As := [.ref xb, .int (iI (σ.2.1 57 a)), .int (iI (w32 (v11 + 1)))]) (rest := []) dX7_step_384 ok_X11_put stt_X11_put nl7_61 np_X11_put rfl (Nat.le_of_ble_eq_true rfl) (Nat.le_of_ble_eq_true rfl) rfl (k_X11_put_x (d + 3) (T := T) (σ := σ863) (x := xb) (i := σ.2.1 57 a) (y := w32 (v11 + 1)) hk3i (by omega) (by omega) (by omega) w869 (nh_k hk3 (by unfold HT; omega)) (vok_1 (by have q9 := hk3; omega) (by omega))) (fun r872 T874 σ873 gt875 hp => ?_)
            obtain ⟨rfl, rfl, w879, F880, f876, f877⟩ := hp
            clear gt875
            have je881 : σ873 = jP T xb (σ.2.1 57 a) (w32 (v11 + 1)) _ := f877
            show Tn _ _ 387 T σ873 [(3, .int (iI (w32 (v11 + 1)))), (2, .int (iI v64)), (1, .int (iI v11)), (0, .ref a)] [] _
            refine tn_iload_n dX7_step_387 rfl 1 rfl ?_
            refine tn_bipush dX7_step_388 (by decide) ?_
            refine tn_icmp_ne (tgt := 397) dX7_step_390 (by decide) ⟨by omega, by omega⟩ ⟨by decide, by decide⟩ (fun h882 => ?_) (fun h882 => absurd h882 (by omega))
            refine tn_iconst dX7_step_397 ?_
            have q883 : σ873.2.1 57 a = σ.2.1 57 a := rc_F F880 (Or.inl (by decide)) (by decide) (rc_F F870 (Or.inl (by decide)) (by decide) (rc_o (by decide) (rfl)))
            exact tn_zret (v := 0) rfl (by decide) dX7_step_398 ⟨_, rfl, rfl, w879, (((FrC.rfl.put (by decide) (by decide)).trans (FrC.sub F870 (by decide))).trans (FrC.sub F880 (by decide))), by omega, (((CHX.rfl.fld (by simp) (by decide)).trans (CHX.sub f866 (by simp) (by simp) (by simp))).trans (CHX.sub f876 (by simp) (by simp) (by simp))), by omega, ⟨_, v64, f10, Or.inr ⟨xq13, xq54, ⟨hx12, hx55⟩, f63⟩, Or.inr ⟨by omega, Or.inr (Or.inr (Or.inr (Or.inr (Or.inr (Or.inr (Or.inr (Or.inr (Or.inr ((⟨by omega, rfl, _, f867, je881⟩))))))))))⟩⟩, (((FA.rfl.put).trans (FA.of F870 (by decide))).trans (FA.of F880 (by decide)))⟩
          · refine tn_tableIn (tgt := 152) (off := 84) dX7_step_68 (x := v64) ⟨by omega, by omega⟩ (by omega) (by omega) (by rw [h694]; rfl) (by decide) ?_
            refine tn_aload_n dX7_step_152 rfl 3 rfl ?_
            refine tn_aload_n dX7_step_153 rfl 3 rfl ?_
            refine tn_iload_n dX7_step_154 rfl 2 rfl ?_
            refine tn_iconst dX7_step_155 ?_
            obtain ⟨hk886, hl887⟩ : AR T xe 1 1728 1728 := ar_of (wf_63 hw ha) hxe
            have hk886i : IA T xe := by unfold IA; omega
            refine tn_callV (M := m_X7_step) (pc := 156) (ix := 110) (ci := 7) (M' := m_X7_operand) (As := [.int (iI v11), .int (iI 3)]) (rest := [.ref a]) dX7_step_156 ok_X7_operand im_X7_operand se_X7_operand ml7_110 np_X7_operand rfl rfl ha rfl (Nat.le_of_ble_eq_true rfl) (Nat.le_of_ble_eq_true rfl) rfl (k_X7_operand_j (d + 2) (T := T) (σ := (sA 67 a (w32 ((σ.2.1 67 a) + 1)) σ)) (a := a) (k := v11) (c := 3) (xe := xe) ha (by omega) (by decide) (hw.put (by decide) (by decide) (fo_67 (by omega))) (rc_o (by decide) (hxe)) (by rw [show (sA 67 a (w32 ((σ.2.1 67 a) + 1)) σ).2.1 69 a = _ from rc_o (by decide) (hx12)]; omega) (by omega)) (fun r888 T890 σ889 gt891 hp => ?_)
            obtain ⟨v894, rfl, rfl, rfl, f892, f893⟩ := hp
            clear gt891
            show Tn _ _ 159 T (sA 67 a (w32 ((σ.2.1 67 a) + 1)) σ) [(3, .int (iI (w32 (v11 + 1)))), (2, .int (iI v64)), (1, .int (iI v11)), (0, .ref a)] [.int (iI v894), .ref a] _
            obtain ⟨hk897, hl898⟩ : AR T xf 1 200 200 := ar_of (wf_64 hw ha) hxf
            have hk897i : IA T xf := by unfold IA; omega
            refine tn_callV (M := m_X7_step) (pc := 159) (ix := 113) (ci := 7) (M' := m_X7_emit) (As := [.int (iI v894)]) (rest := []) dX7_step_159 ok_X7_emit im_X7_emit se_X7_emit ml7_113 np_X7_emit rfl rfl ha rfl (Nat.le_of_ble_eq_true rfl) (Nat.le_of_ble_eq_true rfl) rfl (k_X7_emit_j (d + 2) (T := T) (σ := (sA 67 a (w32 ((σ.2.1 67 a) + 1)) σ)) (a := a) (p1 := v894) (xf := xf) ha (by omega) (hw.put (by decide) (by decide) (fo_67 (by omega))) (rc_o (by decide) (hxf))) (fun r899 T901 σ900 gt902 hp => ?_)
            obtain ⟨rfl, rfl, w907, F908, f903, f904, f905⟩ := hp
            clear gt902
            show Tn _ _ 162 T σ900 [(3, .int (iI (w32 (v11 + 1)))), (2, .int (iI v64)), (1, .int (iI v11)), (0, .ref a)] [] _
            refine tn_goto (tgt := 375) dX7_step_162 (by decide) ?_
            refine tn_aload_n dX7_step_375 rfl 3 rfl ?_
            refine tn_getR (ci := 7) (i := 5) (n := 60) (x := xb) dX7_step_376 rfl lay_7 (by decide) fl7_15 ha rfl rfl (rc_F F908 (Or.inl (by decide)) (by decide) (rc_o (by decide) (hxb))) ?_
            refine tn_aload_n dX7_step_379 rfl 3 rfl ?_
            refine tn_getI (ci := 7) (i := 2) (n := 57) (t := σ.2.1 57 a) dX7_step_380 rfl lay_7 (by decide) fl7_65 ha rfl rfl (rc_F F908 (Or.inl (by decide)) (by decide) (rc_o (by decide) (rfl))) ?_
            have g909 : ((0 : Int) ≤ σ.2.1 57 a ∧ σ.2.1 57 a ≤ 11184800) ∧ ((T a).1 = 57 → σ.2.1 57 a ≤ 8) := wf_57 hw ha
            have g909x := g909.2
            replace g909 := g909.1
            clear g909x
            refine tn_iload_n dX7_step_383 rfl 0 rfl ?_
            refine tn_callSN (M := m_X7_step) (pc := 384) (ix := 61) (M' := m_X11_put) (As := [.ref xb, .int (iI (σ.2.1 57 a)), .int (iI (w32 (v11 + 1)))]) (rest := []) dX7_step_384 ok_X11_put stt_X11_put nl7_61 np_X11_put rfl (Nat.le_of_ble_eq_true rfl) (Nat.le_of_ble_eq_true rfl) rfl (k_X11_put_x (d + 3) (T := T) (σ := σ900) (x := xb) (i := σ.2.1 57 a) (y := w32 (v11 + 1)) hk3i (by omega) (by omega) (by omega) w907 (nh_k hk3 (by unfold HT; omega)) (vok_1 (by have q9 := hk3; omega) (by omega))) (fun r910 T912 σ911 gt913 hp => ?_)
            obtain ⟨rfl, rfl, w917, F918, f914, f915⟩ := hp
            clear gt913
            have je919 : σ911 = jP T xb (σ.2.1 57 a) (w32 (v11 + 1)) _ := f915
            show Tn _ _ 387 T σ911 [(3, .int (iI (w32 (v11 + 1)))), (2, .int (iI v64)), (1, .int (iI v11)), (0, .ref a)] [] _
            refine tn_iload_n dX7_step_387 rfl 1 rfl ?_
            refine tn_bipush dX7_step_388 (by decide) ?_
            refine tn_icmp_ne (tgt := 397) dX7_step_390 (by decide) ⟨by omega, by omega⟩ ⟨by decide, by decide⟩ (fun h920 => ?_) (fun h920 => absurd h920 (by omega))
            refine tn_iconst dX7_step_397 ?_
            have q921 : σ911.2.1 57 a = σ.2.1 57 a := rc_F F918 (Or.inl (by decide)) (by decide) (rc_F F908 (Or.inl (by decide)) (by decide) (rc_o (by decide) (rfl)))
            exact tn_zret (v := 0) rfl (by decide) dX7_step_398 ⟨_, rfl, rfl, w917, (((FrC.rfl.put (by decide) (by decide)).trans (FrC.sub F908 (by decide))).trans (FrC.sub F918 (by decide))), by omega, (((CHX.rfl.fld (by simp) (by decide)).trans (CHX.sub f903 (by simp) (by simp) (by simp))).trans (CHX.sub f914 (by simp) (by simp) (by simp))), by omega, ⟨_, v64, f10, Or.inr ⟨xq13, xq54, ⟨hx12, hx55⟩, f63⟩, Or.inr ⟨by omega, Or.inl (⟨by omega, rfl, _, _, f893, f904, je919⟩)⟩⟩, (((FA.rfl.put).trans f905).trans (FA.of F918 (by decide)))⟩
          · refine tn_tableIn (tgt := 213) (off := 145) dX7_step_68 (x := v64) ⟨by omega, by omega⟩ (by omega) (by omega) (by rw [h694]; rfl) (by decide) ?_
            refine tn_aload_n dX7_step_213 rfl 3 rfl ?_
            refine tn_aload_n dX7_step_214 rfl 3 rfl ?_
            refine tn_iload_n dX7_step_215 rfl 2 rfl ?_
            refine tn_iconst dX7_step_216 ?_
            obtain ⟨hk924, hl925⟩ : AR T xe 1 1728 1728 := ar_of (wf_63 hw ha) hxe
            have hk924i : IA T xe := by unfold IA; omega
            refine tn_callV (M := m_X7_step) (pc := 217) (ix := 110) (ci := 7) (M' := m_X7_operand) (As := [.int (iI v11), .int (iI 3)]) (rest := [.ref a]) dX7_step_217 ok_X7_operand im_X7_operand se_X7_operand ml7_110 np_X7_operand rfl rfl ha rfl (Nat.le_of_ble_eq_true rfl) (Nat.le_of_ble_eq_true rfl) rfl (k_X7_operand_j (d + 2) (T := T) (σ := (sA 67 a (w32 ((σ.2.1 67 a) + 1)) σ)) (a := a) (k := v11) (c := 3) (xe := xe) ha (by omega) (by decide) (hw.put (by decide) (by decide) (fo_67 (by omega))) (rc_o (by decide) (hxe)) (by rw [show (sA 67 a (w32 ((σ.2.1 67 a) + 1)) σ).2.1 69 a = _ from rc_o (by decide) (hx12)]; omega) (by omega)) (fun r926 T928 σ927 gt929 hp => ?_)
            obtain ⟨v932, rfl, rfl, rfl, f930, f931⟩ := hp
            clear gt929
            show Tn _ _ 220 T (sA 67 a (w32 ((σ.2.1 67 a) + 1)) σ) [(3, .int (iI (w32 (v11 + 1)))), (2, .int (iI v64)), (1, .int (iI v11)), (0, .ref a)] [.int (iI v932), .ref a] _
            obtain ⟨hk935, hl936⟩ : AR T xa 15 9 9 := ar_of (wf_59 hw ha) hxa
            have hk935i : IA T xa := by unfold IA; omega
            obtain ⟨hl940, hk939a, hk939b⟩ := ex_at (wf_61 hw ha) hxc
            have hk939 : (T xc).1 = 1 := hk939b (by omega)
            clear hk939a hk939b
            have hk939i : IA T xc := by unfold IA; omega
            obtain ⟨hk943, hl944⟩ : AR T xd 1 108 108 := ar_of (wf_62 hw ha) hxd
            have hk943i : IA T xd := by unfold IA; omega
            obtain ⟨hl948, hk947a, hk947b⟩ := ex_at (wf_55 hw ha) hy
            have hk947i : (T y).1 = 4 ∨ (T y).1 = 5 := by omega
            have hk947c : RROW T a y := ⟨hk947a, hk947b⟩
            clear hk947a hk947b
            have q953 : (sA 67 a (w32 ((σ.2.1 67 a) + 1)) σ).2.1 57 a = σ.2.1 57 a := rc_o (by decide) (rfl)
            refine tn_callV (M := m_X7_step) (pc := 220) (ix := 123) (ci := 7) (M' := m_X7_giveBack) (As := [.int (iI v932)]) (rest := []) dX7_step_220 ok_X7_giveBack im_X7_giveBack se_X7_giveBack ml7_123 np_X7_giveBack rfl rfl ha rfl (Nat.le_of_ble_eq_true rfl) (Nat.le_of_ble_eq_true rfl) rfl (k_X7_giveBack_j (d + 1) (T := T) (σ := (sA 67 a (w32 ((σ.2.1 67 a) + 1)) σ)) (a := a) (n := v932) (xa := xa) (xb := xb) (xc := xc) (xd := xd) (xe := xe) (y := y) ha hta (by omega) (hw.put (by decide) (by decide) (fo_67 (by omega))) (rc_o (by decide) (hxa)) (rc_o (by decide) (hxb)) (rc_o (by decide) (hxc)) (rc_o (by decide) (hxd)) (rc_o (by decide) (hxe)) (rc_o (by decide) (hy))) (fun r949 T951 σ950 gt952 hp => ?_)
            obtain ⟨rfl, rfl, w959, F960, f954, f955, f956, f957⟩ := hp
            clear gt952
            show Tn _ _ 223 T σ950 [(3, .int (iI (w32 (v11 + 1)))), (2, .int (iI v64)), (1, .int (iI v11)), (0, .ref a)] [] _
            refine tn_iconst dX7_step_223 ?_
            have q961 : σ950.2.1 57 a = σ950.2.1 57 a := rfl
            exact tn_zret (v := 0) rfl (by decide) dX7_step_224 ⟨_, rfl, rfl, w959, ((FrC.rfl.put (by decide) (by decide)).trans (FrC.sub F960 (by decide))), by omega, ((CHX.rfl.fld (by simp) (by decide)).trans (CHX.sub f954 (by simp) (by simp) (by simp))), by omega, ⟨_, v64, f10, Or.inr ⟨xq13, xq54, ⟨hx12, hx55⟩, f63⟩, Or.inr ⟨by omega, Or.inr (Or.inr (Or.inr (Or.inr (Or.inl (⟨by omega, rfl, _, f931, f956⟩)))))⟩⟩, ((FA.rfl.put).trans f957)⟩
          · refine tn_tableIn (tgt := 165) (off := 97) dX7_step_68 (x := v64) ⟨by omega, by omega⟩ (by omega) (by omega) (by rw [h694]; rfl) (by decide) ?_
            refine tn_aload_n dX7_step_165 rfl 3 rfl ?_
            refine tn_getR (ci := 7) (i := 14) (n := 69) (x := xq13) dX7_step_166 rfl lay_7 (by decide) fl7_72 ha rfl rfl (rc_o (by decide) (hx12)) ?_
            refine tn_iload_n dX7_step_169 rfl 2 rfl ?_
            refine tn_bipush dX7_step_170 (by decide) ?_
            refine tn_callV (M := m_X7_step) (pc := 172) (ix := 117) (ci := 1) (M' := m_X1_get) (As := [.int (iI v11), .int (iI 12)]) (rest := []) dX7_step_172 ok_X1_get im_X1_get se_X1_get ml7_117 np_X1_get rfl rfl hk14o rfl (Nat.le_of_ble_eq_true rfl) (Nat.le_of_ble_eq_true rfl) rfl (k_X1_get_j (d + 3) (T := T) (σ := (sA 67 a (w32 ((σ.2.1 67 a) + 1)) σ)) (a := xq13) (k := v11) (c := 12) (x := xq54) hk14o (by omega) (by decide) (hw.put (by decide) (by decide) (fo_67 (by omega))) (rc_o (by decide) (hx55)) (by omega)) (fun r962 T964 σ963 gt965 hp => ?_)
            obtain ⟨v968, rfl, rfl, rfl, f966, f967⟩ := hp
            clear gt965
            show Tn _ _ 175 T (sA 67 a (w32 ((σ.2.1 67 a) + 1)) σ) [(3, .int (iI (w32 (v11 + 1)))), (2, .int (iI v64)), (1, .int (iI v11)), (0, .ref a)] [.int (iI v968)] _
            refine tn_istore_n (L' := [(3, .int (iI v968)), (2, .int (iI v64)), (1, .int (iI v11)), (0, .ref a)]) dX7_step_175 rfl (by decide) rfl ?_
            refine tn_goto (tgt := 375) dX7_step_176 (by decide) ?_
            refine tn_aload_n dX7_step_375 rfl 3 rfl ?_
            refine tn_getR (ci := 7) (i := 5) (n := 60) (x := xb) dX7_step_376 rfl lay_7 (by decide) fl7_15 ha rfl rfl (rc_o (by decide) (hxb)) ?_
            refine tn_aload_n dX7_step_379 rfl 3 rfl ?_
            refine tn_getI (ci := 7) (i := 2) (n := 57) (t := σ.2.1 57 a) dX7_step_380 rfl lay_7 (by decide) fl7_65 ha rfl rfl (rc_o (by decide) (rfl)) ?_
            have g969 : ((0 : Int) ≤ σ.2.1 57 a ∧ σ.2.1 57 a ≤ 11184800) ∧ ((T a).1 = 57 → σ.2.1 57 a ≤ 8) := wf_57 hw ha
            have g969x := g969.2
            replace g969 := g969.1
            clear g969x
            refine tn_iload_n dX7_step_383 rfl 0 rfl ?_
            refine tn_callSN (M := m_X7_step) (pc := 384) (ix := 61) (M' := m_X11_put) (As := [.ref xb, .int (iI (σ.2.1 57 a)), .int (iI v968)]) (rest := []) dX7_step_384 ok_X11_put stt_X11_put nl7_61 np_X11_put rfl (Nat.le_of_ble_eq_true rfl) (Nat.le_of_ble_eq_true rfl) rfl (k_X11_put_x (d + 3) (T := T) (σ := (sA 67 a (w32 ((σ.2.1 67 a) + 1)) σ)) (x := xb) (i := σ.2.1 57 a) (y := v968) hk3i (by omega) (by omega) (by omega) (hw.put (by decide) (by decide) (fo_67 (by omega))) (nh_k hk3 (by unfold HT; omega)) (vok_1 (by have q9 := hk3; omega) (by omega))) (fun r970 T972 σ971 gt973 hp => ?_)
            obtain ⟨rfl, rfl, w977, F978, f974, f975⟩ := hp
            clear gt973
            have je979 : σ971 = jP T xb (σ.2.1 57 a) (v968) _ := f975
            show Tn _ _ 387 T σ971 [(3, .int (iI v968)), (2, .int (iI v64)), (1, .int (iI v11)), (0, .ref a)] [] _
            refine tn_iload_n dX7_step_387 rfl 1 rfl ?_
            refine tn_bipush dX7_step_388 (by decide) ?_
            refine tn_icmp_ne (tgt := 397) dX7_step_390 (by decide) ⟨by omega, by omega⟩ ⟨by decide, by decide⟩ (fun h980 => ?_) (fun h980 => absurd h980 (by omega))
            refine tn_iconst dX7_step_397 ?_
            have q981 : σ971.2.1 57 a = σ.2.1 57 a := rc_F F978 (Or.inl (by decide)) (by decide) (rc_o (by decide) (rfl))
            exact tn_zret (v := 0) rfl (by decide) dX7_step_398 ⟨_, rfl, rfl, w977, ((FrC.rfl.put (by decide) (by decide)).trans (FrC.sub F978 (by decide))), by omega, ((CHX.rfl.fld (by simp) (by decide)).trans (CHX.sub f974 (by simp) (by simp) (by simp))), by omega, ⟨_, v64, f10, Or.inr ⟨xq13, xq54, ⟨hx12, hx55⟩, f63⟩, Or.inr ⟨by omega, Or.inr (Or.inl (⟨by omega, rfl, xq13, xq54, ⟨hx12, hx55⟩, by rw [← f967]; exact je979⟩))⟩⟩, ((FA.rfl.put).trans (FA.of F978 (by decide)))⟩
          · refine tn_tableIn (tgt := 179) (off := 111) dX7_step_68 (x := v64) ⟨by omega, by omega⟩ (by omega) (by omega) (by rw [h694]; rfl) (by decide) ?_
            refine tn_aload_n dX7_step_179 rfl 3 rfl ?_
            refine tn_iload_n dX7_step_180 rfl 2 rfl ?_
            refine tn_iconst dX7_step_181 ?_
            obtain ⟨hk984, hl985⟩ : AR T xe 1 1728 1728 := ar_of (wf_63 hw ha) hxe
            have hk984i : IA T xe := by unfold IA; omega
            refine tn_callV (M := m_X7_step) (pc := 182) (ix := 110) (ci := 7) (M' := m_X7_operand) (As := [.int (iI v11), .int (iI 3)]) (rest := []) dX7_step_182 ok_X7_operand im_X7_operand se_X7_operand ml7_110 np_X7_operand rfl rfl ha rfl (Nat.le_of_ble_eq_true rfl) (Nat.le_of_ble_eq_true rfl) rfl (k_X7_operand_j (d + 2) (T := T) (σ := (sA 67 a (w32 ((σ.2.1 67 a) + 1)) σ)) (a := a) (k := v11) (c := 3) (xe := xe) ha (by omega) (by decide) (hw.put (by decide) (by decide) (fo_67 (by omega))) (rc_o (by decide) (hxe)) (by rw [show (sA 67 a (w32 ((σ.2.1 67 a) + 1)) σ).2.1 69 a = _ from rc_o (by decide) (hx12)]; omega) (by omega)) (fun r986 T988 σ987 gt989 hp => ?_)
            obtain ⟨v992, rfl, rfl, rfl, f990, f991⟩ := hp
            clear gt989
            show Tn _ _ 185 T (sA 67 a (w32 ((σ.2.1 67 a) + 1)) σ) [(3, .int (iI (w32 (v11 + 1)))), (2, .int (iI v64)), (1, .int (iI v11)), (0, .ref a)] [.int (iI v992)] _
            refine tn_if_ne (tgt := 201) dX7_step_185 (by decide) ⟨by omega, by omega⟩ (fun h993 => ?_) (fun h993 => ?_)
            · refine tn_iload_n dX7_step_201 rfl 0 rfl ?_
              refine tn_istore_n (L' := [(3, .int (iI (w32 (v11 + 1)))), (2, .int (iI v64)), (1, .int (iI v11)), (0, .ref a)]) dX7_step_202 rfl (by decide) rfl ?_
              refine tn_goto (tgt := 375) dX7_step_203 (by decide) ?_
              refine tn_aload_n dX7_step_375 rfl 3 rfl ?_
              refine tn_getR (ci := 7) (i := 5) (n := 60) (x := xb) dX7_step_376 rfl lay_7 (by decide) fl7_15 ha rfl rfl (rc_o (by decide) (hxb)) ?_
              refine tn_aload_n dX7_step_379 rfl 3 rfl ?_
              refine tn_getI (ci := 7) (i := 2) (n := 57) (t := σ.2.1 57 a) dX7_step_380 rfl lay_7 (by decide) fl7_65 ha rfl rfl (rc_o (by decide) (rfl)) ?_
              have g994 : ((0 : Int) ≤ σ.2.1 57 a ∧ σ.2.1 57 a ≤ 11184800) ∧ ((T a).1 = 57 → σ.2.1 57 a ≤ 8) := wf_57 hw ha
              have g994x := g994.2
              replace g994 := g994.1
              clear g994x
              refine tn_iload_n dX7_step_383 rfl 0 rfl ?_
              refine tn_callSN (M := m_X7_step) (pc := 384) (ix := 61) (M' := m_X11_put) (As := [.ref xb, .int (iI (σ.2.1 57 a)), .int (iI (w32 (v11 + 1)))]) (rest := []) dX7_step_384 ok_X11_put stt_X11_put nl7_61 np_X11_put rfl (Nat.le_of_ble_eq_true rfl) (Nat.le_of_ble_eq_true rfl) rfl (k_X11_put_x (d + 3) (T := T) (σ := (sA 67 a (w32 ((σ.2.1 67 a) + 1)) σ)) (x := xb) (i := σ.2.1 57 a) (y := w32 (v11 + 1)) hk3i (by omega) (by omega) (by omega) (hw.put (by decide) (by decide) (fo_67 (by omega))) (nh_k hk3 (by unfold HT; omega)) (vok_1 (by have q9 := hk3; omega) (by omega))) (fun r995 T997 σ996 gt998 hp => ?_)
              obtain ⟨rfl, rfl, w1002, F1003, f999, f1000⟩ := hp
              clear gt998
              have je1004 : σ996 = jP T xb (σ.2.1 57 a) (w32 (v11 + 1)) _ := f1000
              show Tn _ _ 387 T σ996 [(3, .int (iI (w32 (v11 + 1)))), (2, .int (iI v64)), (1, .int (iI v11)), (0, .ref a)] [] _
              refine tn_iload_n dX7_step_387 rfl 1 rfl ?_
              refine tn_bipush dX7_step_388 (by decide) ?_
              refine tn_icmp_ne (tgt := 397) dX7_step_390 (by decide) ⟨by omega, by omega⟩ ⟨by decide, by decide⟩ (fun h1005 => ?_) (fun h1005 => absurd h1005 (by omega))
              refine tn_iconst dX7_step_397 ?_
              have q1006 : σ996.2.1 57 a = σ.2.1 57 a := rc_F F1003 (Or.inl (by decide)) (by decide) (rc_o (by decide) (rfl))
              exact tn_zret (v := 0) rfl (by decide) dX7_step_398 ⟨_, rfl, rfl, w1002, ((FrC.rfl.put (by decide) (by decide)).trans (FrC.sub F1003 (by decide))), by omega, ((CHX.rfl.fld (by simp) (by decide)).trans (CHX.sub f999 (by simp) (by simp) (by simp))), by omega, ⟨_, v64, f10, Or.inr ⟨xq13, xq54, ⟨hx12, hx55⟩, f63⟩, Or.inr ⟨by omega, Or.inr (Or.inr (Or.inl (⟨by omega, rfl, _, f991, Or.inr ⟨by omega, je1004⟩⟩)))⟩⟩, ((FA.rfl.put).trans (FA.of F1003 (by decide)))⟩
            · refine tn_aload_n dX7_step_188 rfl 3 rfl ?_
              refine tn_getR (ci := 7) (i := 14) (n := 69) (x := xq13) dX7_step_189 rfl lay_7 (by decide) fl7_72 ha rfl rfl (rc_o (by decide) (hx12)) ?_
              refine tn_iload_n dX7_step_192 rfl 2 rfl ?_
              refine tn_bipush dX7_step_193 (by decide) ?_
              refine tn_callV (M := m_X7_step) (pc := 195) (ix := 117) (ci := 1) (M' := m_X1_get) (As := [.int (iI v11), .int (iI 12)]) (rest := []) dX7_step_195 ok_X1_get im_X1_get se_X1_get ml7_117 np_X1_get rfl rfl hk14o rfl (Nat.le_of_ble_eq_true rfl) (Nat.le_of_ble_eq_true rfl) rfl (k_X1_get_j (d + 3) (T := T) (σ := (sA 67 a (w32 ((σ.2.1 67 a) + 1)) σ)) (a := xq13) (k := v11) (c := 12) (x := xq54) hk14o (by omega) (by decide) (hw.put (by decide) (by decide) (fo_67 (by omega))) (rc_o (by decide) (hx55)) (by omega)) (fun r1007 T1009 σ1008 gt1010 hp => ?_)
              obtain ⟨v1013, rfl, rfl, rfl, f1011, f1012⟩ := hp
              clear gt1010
              show Tn _ _ 198 T (sA 67 a (w32 ((σ.2.1 67 a) + 1)) σ) [(3, .int (iI (w32 (v11 + 1)))), (2, .int (iI v64)), (1, .int (iI v11)), (0, .ref a)] [.int (iI v1013)] _
              refine tn_goto (tgt := 202) dX7_step_198 (by decide) ?_
              refine tn_istore_n (L' := [(3, .int (iI v1013)), (2, .int (iI v64)), (1, .int (iI v11)), (0, .ref a)]) dX7_step_202 rfl (by decide) rfl ?_
              refine tn_goto (tgt := 375) dX7_step_203 (by decide) ?_
              refine tn_aload_n dX7_step_375 rfl 3 rfl ?_
              refine tn_getR (ci := 7) (i := 5) (n := 60) (x := xb) dX7_step_376 rfl lay_7 (by decide) fl7_15 ha rfl rfl (rc_o (by decide) (hxb)) ?_
              refine tn_aload_n dX7_step_379 rfl 3 rfl ?_
              refine tn_getI (ci := 7) (i := 2) (n := 57) (t := σ.2.1 57 a) dX7_step_380 rfl lay_7 (by decide) fl7_65 ha rfl rfl (rc_o (by decide) (rfl)) ?_
              have g1014 : ((0 : Int) ≤ σ.2.1 57 a ∧ σ.2.1 57 a ≤ 11184800) ∧ ((T a).1 = 57 → σ.2.1 57 a ≤ 8) := wf_57 hw ha
              have g1014x := g1014.2
              replace g1014 := g1014.1
              clear g1014x
              refine tn_iload_n dX7_step_383 rfl 0 rfl ?_
              refine tn_callSN (M := m_X7_step) (pc := 384) (ix := 61) (M' := m_X11_put) (As := [.ref xb, .int (iI (σ.2.1 57 a)), .int (iI v1013)]) (rest := []) dX7_step_384 ok_X11_put stt_X11_put nl7_61 np_X11_put rfl (Nat.le_of_ble_eq_true rfl) (Nat.le_of_ble_eq_true rfl) rfl (k_X11_put_x (d + 3) (T := T) (σ := (sA 67 a (w32 ((σ.2.1 67 a) + 1)) σ)) (x := xb) (i := σ.2.1 57 a) (y := v1013) hk3i (by omega) (by omega) (by omega) (hw.put (by decide) (by decide) (fo_67 (by omega))) (nh_k hk3 (by unfold HT; omega)) (vok_1 (by have q9 := hk3; omega) (by omega))) (fun r1015 T1017 σ1016 gt1018 hp => ?_)
              obtain ⟨rfl, rfl, w1022, F1023, f1019, f1020⟩ := hp
              clear gt1018
              have je1024 : σ1016 = jP T xb (σ.2.1 57 a) (v1013) _ := f1020
              show Tn _ _ 387 T σ1016 [(3, .int (iI v1013)), (2, .int (iI v64)), (1, .int (iI v11)), (0, .ref a)] [] _
              refine tn_iload_n dX7_step_387 rfl 1 rfl ?_
              refine tn_bipush dX7_step_388 (by decide) ?_
              refine tn_icmp_ne (tgt := 397) dX7_step_390 (by decide) ⟨by omega, by omega⟩ ⟨by decide, by decide⟩ (fun h1025 => ?_) (fun h1025 => absurd h1025 (by omega))
              refine tn_iconst dX7_step_397 ?_
              have q1026 : σ1016.2.1 57 a = σ.2.1 57 a := rc_F F1023 (Or.inl (by decide)) (by decide) (rc_o (by decide) (rfl))
              exact tn_zret (v := 0) rfl (by decide) dX7_step_398 ⟨_, rfl, rfl, w1022, ((FrC.rfl.put (by decide) (by decide)).trans (FrC.sub F1023 (by decide))), by omega, ((CHX.rfl.fld (by simp) (by decide)).trans (CHX.sub f1019 (by simp) (by simp) (by simp))), by omega, ⟨_, v64, f10, Or.inr ⟨xq13, xq54, ⟨hx12, hx55⟩, f63⟩, Or.inr ⟨by omega, Or.inr (Or.inr (Or.inl (⟨by omega, rfl, _, f991, Or.inl ⟨by omega, xq13, xq54, ⟨hx12, hx55⟩, by rw [← f1012]; exact je1024⟩⟩)))⟩⟩, ((FA.rfl.put).trans (FA.of F1023 (by decide)))⟩
          · refine tn_tableIn (tgt := 206) (off := 138) dX7_step_68 (x := v64) ⟨by omega, by omega⟩ (by omega) (by omega) (by rw [h694]; rfl) (by decide) ?_
            refine tn_aload_n dX7_step_206 rfl 3 rfl ?_
            refine tn_iload_n dX7_step_207 rfl 2 rfl ?_
            obtain ⟨hk1029, hl1030⟩ : AR T xa 15 9 9 := ar_of (wf_59 hw ha) hxa
            have hk1029i : IA T xa := by unfold IA; omega
            obtain ⟨hl1034, hk1033a, hk1033b⟩ := ex_at (wf_61 hw ha) hxc
            have hk1033 : (T xc).1 = 1 := hk1033b (by omega)
            clear hk1033a hk1033b
            have hk1033i : IA T xc := by unfold IA; omega
            obtain ⟨hk1037, hl1038⟩ : AR T xd 1 108 108 := ar_of (wf_62 hw ha) hxd
            have hk1037i : IA T xd := by unfold IA; omega
            obtain ⟨hk1041, hl1042⟩ : AR T xe 1 1728 1728 := ar_of (wf_63 hw ha) hxe
            have hk1041i : IA T xe := by unfold IA; omega
            obtain ⟨hl1046, hk1045a, hk1045b⟩ := ex_at (wf_55 hw ha) hy
            have hk1045i : (T y).1 = 4 ∨ (T y).1 = 5 := by omega
            have hk1045c : RROW T a y := ⟨hk1045a, hk1045b⟩
            clear hk1045a hk1045b
            have q1051 : (sA 67 a (w32 ((σ.2.1 67 a) + 1)) σ).2.1 57 a = σ.2.1 57 a := rc_o (by decide) (rfl)
            refine tn_callV (M := m_X7_step) (pc := 208) (ix := 120) (ci := 7) (M' := m_X7_callFrom) (As := [.int (iI v11)]) (rest := []) dX7_step_208 ok_X7_callFrom im_X7_callFrom se_X7_callFrom ml7_120 np_X7_callFrom rfl rfl ha rfl (Nat.le_of_ble_eq_true rfl) (Nat.le_of_ble_eq_true rfl) rfl (k_X7_callFrom_j (d) (T := T) (σ := (sA 67 a (w32 ((σ.2.1 67 a) + 1)) σ)) (a := a) (k := v11) (xa := xa) (xb := xb) (xc := xc) (xd := xd) (xe := xe) (y := y) ha hta (by omega) (hw.put (by decide) (by decide) (fo_67 (by omega))) (rc_o (by decide) (hxa)) (rc_o (by decide) (hxb)) (rc_o (by decide) (hxc)) (rc_o (by decide) (hxd)) (rc_o (by decide) (hxe)) (rc_o (by decide) (hy)) (by rw [show (sA 67 a (w32 ((σ.2.1 67 a) + 1)) σ).2.1 69 a = _ from rc_o (by decide) (hx12)]; omega) (by rw [show (sA 67 a (w32 ((σ.2.1 67 a) + 1)) σ).2.1 57 a = σ.2.1 57 a from rc_o (by decide) (rfl)]; omega)) (fun r1047 T1049 σ1048 gt1050 hp => ?_)
            obtain ⟨rfl, rfl, w1057, F1058, f1052, f1053, f1054, f1055⟩ := hp
            clear gt1050
            show Tn _ _ 211 T σ1048 [(3, .int (iI (w32 (v11 + 1)))), (2, .int (iI v64)), (1, .int (iI v11)), (0, .ref a)] [] _
            refine tn_iconst dX7_step_211 ?_
            have q1059 : σ1048.2.1 57 a = σ1048.2.1 57 a := rfl
            exact tn_zret (v := 0) rfl (by decide) dX7_step_212 ⟨_, rfl, rfl, w1057, ((FrC.rfl.put (by decide) (by decide)).trans (FrC.sub F1058 (by decide))), by omega, ((CHX.rfl.fld (by simp) (by decide)).trans (CHX.sub f1052 (by simp) (by simp) (by simp))), by omega, ⟨_, v64, f10, Or.inr ⟨xq13, xq54, ⟨hx12, hx55⟩, f63⟩, Or.inr ⟨by omega, Or.inr (Or.inr (Or.inr (Or.inl (⟨by omega, rfl, f1054⟩))))⟩⟩, ((FA.rfl.put).trans f1055)⟩
          · refine tn_tableIn (tgt := 225) (off := 157) dX7_step_68 (x := v64) ⟨by omega, by omega⟩ (by omega) (by omega) (by rw [h694]; rfl) (by decide) ?_
            refine tn_aload_n dX7_step_225 rfl 3 rfl ?_
            obtain ⟨hk1062, hl1063⟩ : AR T xd 1 108 108 := ar_of (wf_62 hw ha) hxd
            have hk1062i : IA T xd := by unfold IA; omega
            refine tn_getR (ci := 7) (i := 7) (n := 62) (x := xd) dX7_step_226 rfl lay_7 (by decide) fl7_21 ha rfl rfl (rc_o (by decide) (hxd)) ?_
            refine tn_aload_n dX7_step_229 rfl 3 rfl ?_
            refine tn_getI (ci := 7) (i := 2) (n := 57) (t := σ.2.1 57 a) dX7_step_230 rfl lay_7 (by decide) fl7_65 ha rfl rfl (rc_o (by decide) (rfl)) ?_
            have g1064 : ((0 : Int) ≤ σ.2.1 57 a ∧ σ.2.1 57 a ≤ 11184800) ∧ ((T a).1 = 57 → σ.2.1 57 a ≤ 8) := wf_57 hw ha
            have g1064x := g1064.2
            replace g1064 := g1064.1
            clear g1064x
            refine tn_bipush dX7_step_233 (by decide) ?_
            refine tn_imul dX7_step_235 ?_
            refine tn_aload_n dX7_step_236 rfl 3 rfl ?_
            refine tn_getR (ci := 7) (i := 14) (n := 69) (x := xq13) dX7_step_237 rfl lay_7 (by decide) fl7_72 ha rfl rfl (rc_o (by decide) (hx12)) ?_
            refine tn_iload_n dX7_step_240 rfl 2 rfl ?_
            refine tn_iconst dX7_step_241 ?_
            refine tn_callV (M := m_X7_step) (pc := 242) (ix := 117) (ci := 1) (M' := m_X1_get) (As := [.int (iI v11), .int (iI 2)]) (rest := [.int (iI ((σ.2.1 57 a) * 12)), .ref xd]) dX7_step_242 ok_X1_get im_X1_get se_X1_get ml7_117 np_X1_get rfl rfl hk14o rfl (Nat.le_of_ble_eq_true rfl) (Nat.le_of_ble_eq_true rfl) rfl (k_X1_get_j (d + 3) (T := T) (σ := (sA 67 a (w32 ((σ.2.1 67 a) + 1)) σ)) (a := xq13) (k := v11) (c := 2) (x := xq54) hk14o (by omega) (by decide) (hw.put (by decide) (by decide) (fo_67 (by omega))) (rc_o (by decide) (hx55)) (by omega)) (fun r1065 T1067 σ1066 gt1068 hp => ?_)
            obtain ⟨v1071, rfl, rfl, rfl, f1069, f1070⟩ := hp
            clear gt1068
            show Tn _ _ 245 T (sA 67 a (w32 ((σ.2.1 67 a) + 1)) σ) [(3, .int (iI (w32 (v11 + 1)))), (2, .int (iI v64)), (1, .int (iI v11)), (0, .ref a)] [.int (iI v1071), .int (iI ((σ.2.1 57 a) * 12)), .ref xd] _
            refine tn_iadd dX7_step_245 ?_
            rw [show iI (((σ.2.1 57 a) * 12) + v1071) = iI (w32 (((σ.2.1 57 a) * 12) + v1071)) from (iI_self _).symm]
            have g1072r : -2147483648 ≤ w32 (((σ.2.1 57 a) * 12) + v1071) ∧ w32 (((σ.2.1 57 a) * 12) + v1071) ≤ 2147483647 := inR_toInt _
            refine tn_aload_n dX7_step_246 rfl 3 rfl ?_
            refine tn_getR (ci := 7) (i := 14) (n := 69) (x := xq13) dX7_step_247 rfl lay_7 (by decide) fl7_72 ha rfl rfl (rc_o (by decide) (hx12)) ?_
            refine tn_iload_n dX7_step_250 rfl 2 rfl ?_
            refine tn_iconst dX7_step_251 ?_
            refine tn_callV (M := m_X7_step) (pc := 252) (ix := 117) (ci := 1) (M' := m_X1_get) (As := [.int (iI v11), .int (iI 1)]) (rest := [.int (iI (w32 (((σ.2.1 57 a) * 12) + v1071))), .ref xd]) dX7_step_252 ok_X1_get im_X1_get se_X1_get ml7_117 np_X1_get rfl rfl hk14o rfl (Nat.le_of_ble_eq_true rfl) (Nat.le_of_ble_eq_true rfl) rfl (k_X1_get_j (d + 3) (T := T) (σ := (sA 67 a (w32 ((σ.2.1 67 a) + 1)) σ)) (a := xq13) (k := v11) (c := 1) (x := xq54) hk14o (by omega) (by decide) (hw.put (by decide) (by decide) (fo_67 (by omega))) (rc_o (by decide) (hx55)) (by omega)) (fun r1073 T1075 σ1074 gt1076 hp => ?_)
            obtain ⟨v1079, rfl, rfl, rfl, f1077, f1078⟩ := hp
            clear gt1076
            show Tn _ _ 255 T (sA 67 a (w32 ((σ.2.1 67 a) + 1)) σ) [(3, .int (iI (w32 (v11 + 1)))), (2, .int (iI v64)), (1, .int (iI v11)), (0, .ref a)] [.int (iI v1079), .int (iI (w32 (((σ.2.1 57 a) * 12) + v1071))), .ref xd] _
            refine tn_callSN (M := m_X7_step) (pc := 255) (ix := 61) (M' := m_X11_put) (As := [.ref xd, .int (iI (w32 (((σ.2.1 57 a) * 12) + v1071))), .int (iI v1079)]) (rest := []) dX7_step_255 ok_X11_put stt_X11_put nl7_61 np_X11_put rfl (Nat.le_of_ble_eq_true rfl) (Nat.le_of_ble_eq_true rfl) rfl (k_X11_put_x (d + 3) (T := T) (σ := (sA 67 a (w32 ((σ.2.1 67 a) + 1)) σ)) (x := xd) (i := w32 (((σ.2.1 57 a) * 12) + v1071)) (y := v1079) hk1062i (by omega) (by omega) (by omega) (hw.put (by decide) (by decide) (fo_67 (by omega))) (nh_k hk1062 (by unfold HT; omega)) (vok_1 (by have q9 := hk1062; omega) (by omega))) (fun r1080 T1082 σ1081 gt1083 hp => ?_)
            obtain ⟨rfl, rfl, w1087, F1088, f1084, f1085⟩ := hp
            clear gt1083
            have je1089 : σ1081 = jP T xd (w32 (((σ.2.1 57 a) * 12) + v1071)) (v1079) _ := f1085
            show Tn _ _ 258 T σ1081 [(3, .int (iI (w32 (v11 + 1)))), (2, .int (iI v64)), (1, .int (iI v11)), (0, .ref a)] [] _
            refine tn_goto (tgt := 375) dX7_step_258 (by decide) ?_
            refine tn_aload_n dX7_step_375 rfl 3 rfl ?_
            refine tn_getR (ci := 7) (i := 5) (n := 60) (x := xb) dX7_step_376 rfl lay_7 (by decide) fl7_15 ha rfl rfl (rc_F F1088 (Or.inl (by decide)) (by decide) (rc_o (by decide) (hxb))) ?_
            refine tn_aload_n dX7_step_379 rfl 3 rfl ?_
            refine tn_getI (ci := 7) (i := 2) (n := 57) (t := σ.2.1 57 a) dX7_step_380 rfl lay_7 (by decide) fl7_65 ha rfl rfl (rc_F F1088 (Or.inl (by decide)) (by decide) (rc_o (by decide) (rfl))) ?_
            refine tn_iload_n dX7_step_383 rfl 0 rfl ?_
            refine tn_callSN (M := m_X7_step) (pc := 384) (ix := 61) (M' := m_X11_put) (As := [.ref xb, .int (iI (σ.2.1 57 a)), .int (iI (w32 (v11 + 1)))]) (rest := []) dX7_step_384 ok_X11_put stt_X11_put nl7_61 np_X11_put rfl (Nat.le_of_ble_eq_true rfl) (Nat.le_of_ble_eq_true rfl) rfl (k_X11_put_x (d + 3) (T := T) (σ := σ1081) (x := xb) (i := σ.2.1 57 a) (y := w32 (v11 + 1)) hk3i (by omega) (by omega) (by omega) w1087 (nh_k hk3 (by unfold HT; omega)) (vok_1 (by have q9 := hk3; omega) (by omega))) (fun r1090 T1092 σ1091 gt1093 hp => ?_)
            obtain ⟨rfl, rfl, w1097, F1098, f1094, f1095⟩ := hp
            clear gt1093
            have je1099 : σ1091 = jP T xb (σ.2.1 57 a) (w32 (v11 + 1)) _ := f1095
            show Tn _ _ 387 T σ1091 [(3, .int (iI (w32 (v11 + 1)))), (2, .int (iI v64)), (1, .int (iI v11)), (0, .ref a)] [] _
            refine tn_iload_n dX7_step_387 rfl 1 rfl ?_
            refine tn_bipush dX7_step_388 (by decide) ?_
            refine tn_icmp_ne (tgt := 397) dX7_step_390 (by decide) ⟨by omega, by omega⟩ ⟨by decide, by decide⟩ (fun h1100 => absurd h1100 (by omega)) (fun h1100 => ?_)
            refine tn_iconst dX7_step_393 ?_
            refine tn_goto (tgt := 398) dX7_step_394 (by decide) ?_
            have q1101 : σ1091.2.1 57 a = σ.2.1 57 a := rc_F F1098 (Or.inl (by decide)) (by decide) (rc_F F1088 (Or.inl (by decide)) (by decide) (rc_o (by decide) (rfl)))
            exact tn_zret (v := 1) rfl (by decide) dX7_step_398 ⟨_, rfl, rfl, w1097, (((FrC.rfl.put (by decide) (by decide)).trans (FrC.sub F1088 (by decide))).trans (FrC.sub F1098 (by decide))), by omega, (((CHX.rfl.fld (by simp) (by decide)).trans (CHX.sub f1084 (by simp) (by simp) (by simp))).trans (CHX.sub f1094 (by simp) (by simp) (by simp))), by omega, ⟨_, v64, f10, Or.inr ⟨xq13, xq54, ⟨hx12, hx55⟩, f63⟩, Or.inr ⟨by omega, Or.inr (Or.inr (Or.inr (Or.inr (Or.inr (Or.inl (⟨by omega, rfl, xq13, xq54, σ1081, ⟨hx12, hx55⟩, by rw [← f1070, ← f1078]; exact je1089, je1099⟩))))))⟩⟩, (((FA.rfl.put).trans (FA.of F1088 (by decide))).trans (FA.of F1098 (by decide)))⟩
          · refine tn_tableIn (tgt := 369) (off := 301) dX7_step_68 (x := v64) ⟨by omega, by omega⟩ (by omega) (by omega) (by rw [h694]; rfl) (by decide) ?_
            refine tn_aload_n dX7_step_369 rfl 3 rfl ?_
            refine tn_iload_n dX7_step_370 rfl 2 rfl ?_
            refine tn_iload_n dX7_step_371 rfl 1 rfl ?_
            obtain ⟨hk1104, hl1105⟩ : AR T xe 1 1728 1728 := ar_of (wf_63 hw ha) hxe
            have hk1104i : IA T xe := by unfold IA; omega
            refine tn_callV (M := m_X7_step) (pc := 372) (ix := 129) (ci := 7) (M' := m_X7_reckonAt) (As := [.int (iI v11), .int (iI v64)]) (rest := []) dX7_step_372 ok_X7_reckonAt im_X7_reckonAt se_X7_reckonAt ml7_129 np_X7_reckonAt rfl rfl ha rfl (Nat.le_of_ble_eq_true rfl) (Nat.le_of_ble_eq_true rfl) rfl (k_X7_reckonAt_j (d + 1) (T := T) (σ := (sA 67 a (w32 ((σ.2.1 67 a) + 1)) σ)) (a := a) (k := v11) (e := v64) (xe := xe) ha (by omega) (by omega) (hw.put (by decide) (by decide) (fo_67 (by omega))) (rc_o (by decide) (hxe)) (by rw [show (sA 67 a (w32 ((σ.2.1 67 a) + 1)) σ).2.1 69 a = _ from rc_o (by decide) (hx12)]; omega)) (fun r1106 T1108 σ1107 gt1109 hp => ?_)
            obtain ⟨rfl, rfl, w1113, F1114, f1110, f1111⟩ := hp
            clear gt1109
            show Tn _ _ 375 T σ1107 [(3, .int (iI (w32 (v11 + 1)))), (2, .int (iI v64)), (1, .int (iI v11)), (0, .ref a)] [] _
            refine tn_aload_n dX7_step_375 rfl 3 rfl ?_
            refine tn_getR (ci := 7) (i := 5) (n := 60) (x := xb) dX7_step_376 rfl lay_7 (by decide) fl7_15 ha rfl rfl (rc_F F1114 (Or.inl (by decide)) (by decide) (rc_o (by decide) (hxb))) ?_
            refine tn_aload_n dX7_step_379 rfl 3 rfl ?_
            refine tn_getI (ci := 7) (i := 2) (n := 57) (t := σ.2.1 57 a) dX7_step_380 rfl lay_7 (by decide) fl7_65 ha rfl rfl (rc_F F1114 (Or.inl (by decide)) (by decide) (rc_o (by decide) (rfl))) ?_
            have g1115 : ((0 : Int) ≤ σ.2.1 57 a ∧ σ.2.1 57 a ≤ 11184800) ∧ ((T a).1 = 57 → σ.2.1 57 a ≤ 8) := wf_57 hw ha
            have g1115x := g1115.2
            replace g1115 := g1115.1
            clear g1115x
            refine tn_iload_n dX7_step_383 rfl 0 rfl ?_
            refine tn_callSN (M := m_X7_step) (pc := 384) (ix := 61) (M' := m_X11_put) (As := [.ref xb, .int (iI (σ.2.1 57 a)), .int (iI (w32 (v11 + 1)))]) (rest := []) dX7_step_384 ok_X11_put stt_X11_put nl7_61 np_X11_put rfl (Nat.le_of_ble_eq_true rfl) (Nat.le_of_ble_eq_true rfl) rfl (k_X11_put_x (d + 3) (T := T) (σ := σ1107) (x := xb) (i := σ.2.1 57 a) (y := w32 (v11 + 1)) hk3i (by omega) (by omega) (by omega) w1113 (nh_k hk3 (by unfold HT; omega)) (vok_1 (by have q9 := hk3; omega) (by omega))) (fun r1116 T1118 σ1117 gt1119 hp => ?_)
            obtain ⟨rfl, rfl, w1123, F1124, f1120, f1121⟩ := hp
            clear gt1119
            have je1125 : σ1117 = jP T xb (σ.2.1 57 a) (w32 (v11 + 1)) _ := f1121
            show Tn _ _ 387 T σ1117 [(3, .int (iI (w32 (v11 + 1)))), (2, .int (iI v64)), (1, .int (iI v11)), (0, .ref a)] [] _
            refine tn_iload_n dX7_step_387 rfl 1 rfl ?_
            refine tn_bipush dX7_step_388 (by decide) ?_
            refine tn_icmp_ne (tgt := 397) dX7_step_390 (by decide) ⟨by omega, by omega⟩ ⟨by decide, by decide⟩ (fun h1126 => ?_) (fun h1126 => absurd h1126 (by omega))
            refine tn_iconst dX7_step_397 ?_
            have q1127 : σ1117.2.1 57 a = σ.2.1 57 a := rc_F F1124 (Or.inl (by decide)) (by decide) (rc_F F1114 (Or.inl (by decide)) (by decide) (rc_o (by decide) (rfl)))
            exact tn_zret (v := 0) rfl (by decide) dX7_step_398 ⟨_, rfl, rfl, w1123, (((FrC.rfl.put (by decide) (by decide)).trans (FrC.sub F1114 (by decide))).trans (FrC.sub F1124 (by decide))), by omega, (((CHX.rfl.fld (by simp) (by decide)).trans (CHX.sub f1110 (by simp) (by simp) (by simp))).trans (CHX.sub f1120 (by simp) (by simp) (by simp))), by omega, ⟨_, v64, f10, Or.inr ⟨xq13, xq54, ⟨hx12, hx55⟩, f63⟩, Or.inr ⟨by omega, Or.inr (Or.inr (Or.inr (Or.inr (Or.inr (Or.inr (Or.inr (Or.inr (Or.inr ((⟨by omega, rfl, _, f1111, je1125⟩))))))))))⟩⟩, (((FA.rfl.put).trans (FA.of F1114 (by decide))).trans (FA.of F1124 (by decide)))⟩
          · refine tn_tableIn (tgt := 369) (off := 301) dX7_step_68 (x := v64) ⟨by omega, by omega⟩ (by omega) (by omega) (by rw [h694]; rfl) (by decide) ?_
            refine tn_aload_n dX7_step_369 rfl 3 rfl ?_
            refine tn_iload_n dX7_step_370 rfl 2 rfl ?_
            refine tn_iload_n dX7_step_371 rfl 1 rfl ?_
            obtain ⟨hk1130, hl1131⟩ : AR T xe 1 1728 1728 := ar_of (wf_63 hw ha) hxe
            have hk1130i : IA T xe := by unfold IA; omega
            refine tn_callV (M := m_X7_step) (pc := 372) (ix := 129) (ci := 7) (M' := m_X7_reckonAt) (As := [.int (iI v11), .int (iI v64)]) (rest := []) dX7_step_372 ok_X7_reckonAt im_X7_reckonAt se_X7_reckonAt ml7_129 np_X7_reckonAt rfl rfl ha rfl (Nat.le_of_ble_eq_true rfl) (Nat.le_of_ble_eq_true rfl) rfl (k_X7_reckonAt_j (d + 1) (T := T) (σ := (sA 67 a (w32 ((σ.2.1 67 a) + 1)) σ)) (a := a) (k := v11) (e := v64) (xe := xe) ha (by omega) (by omega) (hw.put (by decide) (by decide) (fo_67 (by omega))) (rc_o (by decide) (hxe)) (by rw [show (sA 67 a (w32 ((σ.2.1 67 a) + 1)) σ).2.1 69 a = _ from rc_o (by decide) (hx12)]; omega)) (fun r1132 T1134 σ1133 gt1135 hp => ?_)
            obtain ⟨rfl, rfl, w1139, F1140, f1136, f1137⟩ := hp
            clear gt1135
            show Tn _ _ 375 T σ1133 [(3, .int (iI (w32 (v11 + 1)))), (2, .int (iI v64)), (1, .int (iI v11)), (0, .ref a)] [] _
            refine tn_aload_n dX7_step_375 rfl 3 rfl ?_
            refine tn_getR (ci := 7) (i := 5) (n := 60) (x := xb) dX7_step_376 rfl lay_7 (by decide) fl7_15 ha rfl rfl (rc_F F1140 (Or.inl (by decide)) (by decide) (rc_o (by decide) (hxb))) ?_
            refine tn_aload_n dX7_step_379 rfl 3 rfl ?_
            refine tn_getI (ci := 7) (i := 2) (n := 57) (t := σ.2.1 57 a) dX7_step_380 rfl lay_7 (by decide) fl7_65 ha rfl rfl (rc_F F1140 (Or.inl (by decide)) (by decide) (rc_o (by decide) (rfl))) ?_
            have g1141 : ((0 : Int) ≤ σ.2.1 57 a ∧ σ.2.1 57 a ≤ 11184800) ∧ ((T a).1 = 57 → σ.2.1 57 a ≤ 8) := wf_57 hw ha
            have g1141x := g1141.2
            replace g1141 := g1141.1
            clear g1141x
            refine tn_iload_n dX7_step_383 rfl 0 rfl ?_
            refine tn_callSN (M := m_X7_step) (pc := 384) (ix := 61) (M' := m_X11_put) (As := [.ref xb, .int (iI (σ.2.1 57 a)), .int (iI (w32 (v11 + 1)))]) (rest := []) dX7_step_384 ok_X11_put stt_X11_put nl7_61 np_X11_put rfl (Nat.le_of_ble_eq_true rfl) (Nat.le_of_ble_eq_true rfl) rfl (k_X11_put_x (d + 3) (T := T) (σ := σ1133) (x := xb) (i := σ.2.1 57 a) (y := w32 (v11 + 1)) hk3i (by omega) (by omega) (by omega) w1139 (nh_k hk3 (by unfold HT; omega)) (vok_1 (by have q9 := hk3; omega) (by omega))) (fun r1142 T1144 σ1143 gt1145 hp => ?_)
            obtain ⟨rfl, rfl, w1149, F1150, f1146, f1147⟩ := hp
            clear gt1145
            have je1151 : σ1143 = jP T xb (σ.2.1 57 a) (w32 (v11 + 1)) _ := f1147
            show Tn _ _ 387 T σ1143 [(3, .int (iI (w32 (v11 + 1)))), (2, .int (iI v64)), (1, .int (iI v11)), (0, .ref a)] [] _
            refine tn_iload_n dX7_step_387 rfl 1 rfl ?_
            refine tn_bipush dX7_step_388 (by decide) ?_
            refine tn_icmp_ne (tgt := 397) dX7_step_390 (by decide) ⟨by omega, by omega⟩ ⟨by decide, by decide⟩ (fun h1152 => ?_) (fun h1152 => absurd h1152 (by omega))
            refine tn_iconst dX7_step_397 ?_
            have q1153 : σ1143.2.1 57 a = σ.2.1 57 a := rc_F F1150 (Or.inl (by decide)) (by decide) (rc_F F1140 (Or.inl (by decide)) (by decide) (rc_o (by decide) (rfl)))
            exact tn_zret (v := 0) rfl (by decide) dX7_step_398 ⟨_, rfl, rfl, w1149, (((FrC.rfl.put (by decide) (by decide)).trans (FrC.sub F1140 (by decide))).trans (FrC.sub F1150 (by decide))), by omega, (((CHX.rfl.fld (by simp) (by decide)).trans (CHX.sub f1136 (by simp) (by simp) (by simp))).trans (CHX.sub f1146 (by simp) (by simp) (by simp))), by omega, ⟨_, v64, f10, Or.inr ⟨xq13, xq54, ⟨hx12, hx55⟩, f63⟩, Or.inr ⟨by omega, Or.inr (Or.inr (Or.inr (Or.inr (Or.inr (Or.inr (Or.inr (Or.inr (Or.inr ((⟨by omega, rfl, _, f1137, je1151⟩))))))))))⟩⟩, (((FA.rfl.put).trans (FA.of F1140 (by decide))).trans (FA.of F1150 (by decide)))⟩
          · refine tn_tableIn (tgt := 261) (off := 193) dX7_step_68 (x := v64) ⟨by omega, by omega⟩ (by omega) (by omega) (by rw [h694]; rfl) (by decide) ?_
            refine tn_aload_n dX7_step_261 rfl 3 rfl ?_
            refine tn_dup dX7_step_262 rfl ?_
            refine tn_getI (ci := 7) (i := 3) (n := 58) (t := σ.2.1 58 a) dX7_step_263 rfl lay_7 (by decide) fl7_38 ha rfl rfl (rc_o (by decide) (rfl)) ?_
            have g1154 : ((-2147483648 : Int) ≤ σ.2.1 58 a ∧ σ.2.1 58 a ≤ 2147483647) := wf_58 hw ha
            refine tn_iconst dX7_step_266 ?_
            refine tn_iadd dX7_step_267 ?_
            rw [show iI ((σ.2.1 58 a) + 1) = iI (w32 ((σ.2.1 58 a) + 1)) from (iI_self _).symm]
            have g1155r : -2147483648 ≤ w32 ((σ.2.1 58 a) + 1) ∧ w32 ((σ.2.1 58 a) + 1) ≤ 2147483647 := inR_toInt _
            refine tn_putV (ci := 7) (i := 3) (n := 58) (r := false) (v := w32 ((σ.2.1 58 a) + 1)) tyX7 tyX7_ok nmX7 dX7_step_268 rfl lay_7 (by decide) fl7_38 rfl (tyX7_ok 3 (by decide)) rfl rfl rfl ha rfl rfl ?_
            refine tn_aload_n dX7_step_271 rfl 3 rfl ?_
            obtain ⟨hl1159, hk1158a, hk1158b⟩ := ex_at (wf_61 hw ha) hxc
            have hk1158 : (T xc).1 = 1 := hk1158b (by omega)
            clear hk1158a hk1158b
            have hk1158i : IA T xc := by unfold IA; omega
            refine tn_getR (ci := 7) (i := 6) (n := 61) (x := xc) dX7_step_272 rfl lay_7 (by decide) fl7_18 ha rfl rfl (rc_o (by decide) (rc_o (by decide) (hxc))) ?_
            refine tn_aload_n dX7_step_275 rfl 3 rfl ?_
            refine tn_getI (ci := 7) (i := 2) (n := 57) (t := σ.2.1 57 a) dX7_step_276 rfl lay_7 (by decide) fl7_65 ha rfl rfl (rc_o (by decide) (rc_o (by decide) (rfl))) ?_
            have g1160 : ((0 : Int) ≤ σ.2.1 57 a ∧ σ.2.1 57 a ≤ 11184800) ∧ ((T a).1 = 57 → σ.2.1 57 a ≤ 8) := wf_57 hw ha
            have g1160x := g1160.2
            replace g1160 := g1160.1
            clear g1160x
            refine tn_aload_n dX7_step_279 rfl 3 rfl ?_
            refine tn_getR (ci := 7) (i := 14) (n := 69) (x := xq13) dX7_step_280 rfl lay_7 (by decide) fl7_72 ha rfl rfl (rc_o (by decide) (rc_o (by decide) (hx12))) ?_
            refine tn_iload_n dX7_step_283 rfl 2 rfl ?_
            refine tn_iconst dX7_step_284 ?_
            refine tn_callV (M := m_X7_step) (pc := 285) (ix := 117) (ci := 1) (M' := m_X1_get) (As := [.int (iI v11), .int (iI 1)]) (rest := [.int (iI (σ.2.1 57 a)), .ref xc]) dX7_step_285 ok_X1_get im_X1_get se_X1_get ml7_117 np_X1_get rfl rfl hk14o rfl (Nat.le_of_ble_eq_true rfl) (Nat.le_of_ble_eq_true rfl) rfl (k_X1_get_j (d + 3) (T := T) (σ := (sA 58 a (w32 ((σ.2.1 58 a) + 1)) (sA 67 a (w32 ((σ.2.1 67 a) + 1)) σ))) (a := xq13) (k := v11) (c := 1) (x := xq54) hk14o (by omega) (by decide) ((hw.put (by decide) (by decide) (fo_67 (by omega))).put (by decide) (by decide) (fo_58 (by omega))) (rc_o (by decide) (rc_o (by decide) (hx55))) (by omega)) (fun r1161 T1163 σ1162 gt1164 hp => ?_)
            obtain ⟨v1167, rfl, rfl, rfl, f1165, f1166⟩ := hp
            clear gt1164
            show Tn _ _ 288 T (sA 58 a (w32 ((σ.2.1 58 a) + 1)) (sA 67 a (w32 ((σ.2.1 67 a) + 1)) σ)) [(3, .int (iI (w32 (v11 + 1)))), (2, .int (iI v64)), (1, .int (iI v11)), (0, .ref a)] [.int (iI v1167), .int (iI (σ.2.1 57 a)), .ref xc] _
            refine tn_callSN (M := m_X7_step) (pc := 288) (ix := 61) (M' := m_X11_put) (As := [.ref xc, .int (iI (σ.2.1 57 a)), .int (iI v1167)]) (rest := []) dX7_step_288 ok_X11_put stt_X11_put nl7_61 np_X11_put rfl (Nat.le_of_ble_eq_true rfl) (Nat.le_of_ble_eq_true rfl) rfl (k_X11_put_x (d + 3) (T := T) (σ := (sA 58 a (w32 ((σ.2.1 58 a) + 1)) (sA 67 a (w32 ((σ.2.1 67 a) + 1)) σ))) (x := xc) (i := σ.2.1 57 a) (y := v1167) hk1158i (by omega) (by omega) (by omega) ((hw.put (by decide) (by decide) (fo_67 (by omega))).put (by decide) (by decide) (fo_58 (by omega))) (nh_k hk1158 (by unfold HT; omega)) (vok_1 (by have q9 := hk1158; omega) (by omega))) (fun r1168 T1170 σ1169 gt1171 hp => ?_)
            obtain ⟨rfl, rfl, w1175, F1176, f1172, f1173⟩ := hp
            clear gt1171
            have je1177 : σ1169 = jP T xc (σ.2.1 57 a) (v1167) _ := f1173
            show Tn _ _ 291 T σ1169 [(3, .int (iI (w32 (v11 + 1)))), (2, .int (iI v64)), (1, .int (iI v11)), (0, .ref a)] [] _
            refine tn_aload_n dX7_step_291 rfl 3 rfl ?_
            obtain ⟨hk1180, hl1181⟩ : AR T xd 1 108 108 := ar_of (wf_62 hw ha) hxd
            have hk1180i : IA T xd := by unfold IA; omega
            refine tn_getR (ci := 7) (i := 7) (n := 62) (x := xd) dX7_step_292 rfl lay_7 (by decide) fl7_21 ha rfl rfl (rc_F F1176 (Or.inl (by decide)) (by decide) (rc_o (by decide) (rc_o (by decide) (hxd)))) ?_
            refine tn_aload_n dX7_step_295 rfl 3 rfl ?_
            refine tn_getI (ci := 7) (i := 2) (n := 57) (t := σ.2.1 57 a) dX7_step_296 rfl lay_7 (by decide) fl7_65 ha rfl rfl (rc_F F1176 (Or.inl (by decide)) (by decide) (rc_o (by decide) (rc_o (by decide) (rfl)))) ?_
            refine tn_bipush dX7_step_299 (by decide) ?_
            refine tn_imul dX7_step_301 ?_
            refine tn_aload_n dX7_step_302 rfl 3 rfl ?_
            refine tn_getR (ci := 7) (i := 14) (n := 69) (x := xq13) dX7_step_303 rfl lay_7 (by decide) fl7_72 ha rfl rfl (rc_F F1176 (Or.inl (by decide)) (by decide) (rc_o (by decide) (rc_o (by decide) (hx12)))) ?_
            refine tn_iload_n dX7_step_306 rfl 2 rfl ?_
            refine tn_iconst dX7_step_307 ?_
            refine tn_callV (M := m_X7_step) (pc := 308) (ix := 117) (ci := 1) (M' := m_X1_get) (As := [.int (iI v11), .int (iI 1)]) (rest := [.int (iI ((σ.2.1 57 a) * 12)), .ref xd]) dX7_step_308 ok_X1_get im_X1_get se_X1_get ml7_117 np_X1_get rfl rfl hk14o rfl (Nat.le_of_ble_eq_true rfl) (Nat.le_of_ble_eq_true rfl) rfl (k_X1_get_j (d + 3) (T := T) (σ := σ1169) (a := xq13) (k := v11) (c := 1) (x := xq54) hk14o (by omega) (by decide) w1175 (rc_F F1176 (Or.inl (by decide)) (by decide) (rc_o (by decide) (rc_o (by decide) (hx55)))) (by omega)) (fun r1182 T1184 σ1183 gt1185 hp => ?_)
            obtain ⟨v1188, rfl, rfl, rfl, f1186, f1187⟩ := hp
            clear gt1185
            show Tn _ _ 311 T σ1169 [(3, .int (iI (w32 (v11 + 1)))), (2, .int (iI v64)), (1, .int (iI v11)), (0, .ref a)] [.int (iI v1188), .int (iI ((σ.2.1 57 a) * 12)), .ref xd] _
            refine tn_iadd dX7_step_311 ?_
            rw [show iI (((σ.2.1 57 a) * 12) + v1188) = iI (w32 (((σ.2.1 57 a) * 12) + v1188)) from (iI_self _).symm]
            have g1189r : -2147483648 ≤ w32 (((σ.2.1 57 a) * 12) + v1188) ∧ w32 (((σ.2.1 57 a) * 12) + v1188) ≤ 2147483647 := inR_toInt _
            refine tn_iconst dX7_step_312 ?_
            refine tn_callSN (M := m_X7_step) (pc := 313) (ix := 61) (M' := m_X11_put) (As := [.ref xd, .int (iI (w32 (((σ.2.1 57 a) * 12) + v1188))), .int (iI 0)]) (rest := []) dX7_step_313 ok_X11_put stt_X11_put nl7_61 np_X11_put rfl (Nat.le_of_ble_eq_true rfl) (Nat.le_of_ble_eq_true rfl) rfl (k_X11_put_x (d + 3) (T := T) (σ := σ1169) (x := xd) (i := w32 (((σ.2.1 57 a) * 12) + v1188)) (y := 0) hk1180i (by omega) (by omega) (by decide) w1175 (nh_k hk1180 (by unfold HT; omega)) vok_0) (fun r1190 T1192 σ1191 gt1193 hp => ?_)
            obtain ⟨rfl, rfl, w1197, F1198, f1194, f1195⟩ := hp
            clear gt1193
            have je1199 : σ1191 = jP T xd (w32 (((σ.2.1 57 a) * 12) + v1188)) (0) _ := f1195
            show Tn _ _ 316 T σ1191 [(3, .int (iI (w32 (v11 + 1)))), (2, .int (iI v64)), (1, .int (iI v11)), (0, .ref a)] [] _
            refine tn_goto (tgt := 375) dX7_step_316 (by decide) ?_
            refine tn_aload_n dX7_step_375 rfl 3 rfl ?_
            refine tn_getR (ci := 7) (i := 5) (n := 60) (x := xb) dX7_step_376 rfl lay_7 (by decide) fl7_15 ha rfl rfl (rc_F F1198 (Or.inl (by decide)) (by decide) (rc_F F1176 (Or.inl (by decide)) (by decide) (rc_o (by decide) (rc_o (by decide) (hxb))))) ?_
            refine tn_aload_n dX7_step_379 rfl 3 rfl ?_
            refine tn_getI (ci := 7) (i := 2) (n := 57) (t := σ.2.1 57 a) dX7_step_380 rfl lay_7 (by decide) fl7_65 ha rfl rfl (rc_F F1198 (Or.inl (by decide)) (by decide) (rc_F F1176 (Or.inl (by decide)) (by decide) (rc_o (by decide) (rc_o (by decide) (rfl))))) ?_
            refine tn_iload_n dX7_step_383 rfl 0 rfl ?_
            refine tn_callSN (M := m_X7_step) (pc := 384) (ix := 61) (M' := m_X11_put) (As := [.ref xb, .int (iI (σ.2.1 57 a)), .int (iI (w32 (v11 + 1)))]) (rest := []) dX7_step_384 ok_X11_put stt_X11_put nl7_61 np_X11_put rfl (Nat.le_of_ble_eq_true rfl) (Nat.le_of_ble_eq_true rfl) rfl (k_X11_put_x (d + 3) (T := T) (σ := σ1191) (x := xb) (i := σ.2.1 57 a) (y := w32 (v11 + 1)) hk3i (by omega) (by omega) (by omega) w1197 (nh_k hk3 (by unfold HT; omega)) (vok_1 (by have q9 := hk3; omega) (by omega))) (fun r1200 T1202 σ1201 gt1203 hp => ?_)
            obtain ⟨rfl, rfl, w1207, F1208, f1204, f1205⟩ := hp
            clear gt1203
            have je1209 : σ1201 = jP T xb (σ.2.1 57 a) (w32 (v11 + 1)) _ := f1205
            show Tn _ _ 387 T σ1201 [(3, .int (iI (w32 (v11 + 1)))), (2, .int (iI v64)), (1, .int (iI v11)), (0, .ref a)] [] _
            refine tn_iload_n dX7_step_387 rfl 1 rfl ?_
            refine tn_bipush dX7_step_388 (by decide) ?_
            refine tn_icmp_ne (tgt := 397) dX7_step_390 (by decide) ⟨by omega, by omega⟩ ⟨by decide, by decide⟩ (fun h1210 => ?_) (fun h1210 => absurd h1210 (by omega))
            refine tn_iconst dX7_step_397 ?_
            have q1211 : σ1201.2.1 57 a = σ.2.1 57 a := rc_F F1208 (Or.inl (by decide)) (by decide) (rc_F F1198 (Or.inl (by decide)) (by decide) (rc_F F1176 (Or.inl (by decide)) (by decide) (rc_o (by decide) (rc_o (by decide) (rfl)))))
            exact tn_zret (v := 0) rfl (by decide) dX7_step_398 ⟨_, rfl, rfl, w1207, (((((FrC.rfl.put (by decide) (by decide)).put (by decide) (by decide)).trans (FrC.sub F1176 (by decide))).trans (FrC.sub F1198 (by decide))).trans (FrC.sub F1208 (by decide))), by omega, (((((CHX.rfl.fld (by simp) (by decide)).fld (by simp) (by decide)).trans (CHX.sub f1172 (by simp) (by simp) (by simp))).trans (CHX.sub f1194 (by simp) (by simp) (by simp))).trans (CHX.sub f1204 (by simp) (by simp) (by simp))), by omega, ⟨_, v64, f10, Or.inr ⟨xq13, xq54, ⟨hx12, hx55⟩, f63⟩, Or.inr ⟨by omega, Or.inr (Or.inr (Or.inr (Or.inr (Or.inr (Or.inr (Or.inl (⟨by omega, rfl, xq13, xq54, (sA 58 a (w32 ((σ.2.1 58 a) + 1)) (sA 67 a (w32 ((σ.2.1 67 a) + 1)) σ)), σ1169, σ1191, ⟨hx12, hx55⟩, rfl, by rw [← f1166]; exact je1177, by rw [← f1187]; exact je1199, je1209⟩)))))))⟩⟩, (((((FA.rfl.put).put).trans (FA.of F1176 (by decide))).trans (FA.of F1198 (by decide))).trans (FA.of F1208 (by decide)))⟩
          · refine tn_tableIn (tgt := 319) (off := 251) dX7_step_68 (x := v64) ⟨by omega, by omega⟩ (by omega) (by omega) (by rw [h694]; rfl) (by decide) ?_
            refine tn_aload_n dX7_step_319 rfl 3 rfl ?_
            refine tn_dup dX7_step_320 rfl ?_
            refine tn_getI (ci := 7) (i := 3) (n := 58) (t := σ.2.1 58 a) dX7_step_321 rfl lay_7 (by decide) fl7_38 ha rfl rfl (rc_o (by decide) (rfl)) ?_
            have g1212 : ((-2147483648 : Int) ≤ σ.2.1 58 a ∧ σ.2.1 58 a ≤ 2147483647) := wf_58 hw ha
            refine tn_iconst dX7_step_324 ?_
            refine tn_isub dX7_step_325 ?_
            rw [show iI ((σ.2.1 58 a) - 1) = iI (w32 ((σ.2.1 58 a) - 1)) from (iI_self _).symm]
            have g1213r : -2147483648 ≤ w32 ((σ.2.1 58 a) - 1) ∧ w32 ((σ.2.1 58 a) - 1) ≤ 2147483647 := inR_toInt _
            refine tn_putV (ci := 7) (i := 3) (n := 58) (r := false) (v := w32 ((σ.2.1 58 a) - 1)) tyX7 tyX7_ok nmX7 dX7_step_326 rfl lay_7 (by decide) fl7_38 rfl (tyX7_ok 3 (by decide)) rfl rfl rfl ha rfl rfl ?_
            refine tn_aload_n dX7_step_329 rfl 3 rfl ?_
            obtain ⟨hl1217, hk1216a, hk1216b⟩ := ex_at (wf_61 hw ha) hxc
            have hk1216 : (T xc).1 = 1 := hk1216b (by omega)
            clear hk1216a hk1216b
            have hk1216i : IA T xc := by unfold IA; omega
            refine tn_getR (ci := 7) (i := 6) (n := 61) (x := xc) dX7_step_330 rfl lay_7 (by decide) fl7_18 ha rfl rfl (rc_o (by decide) (rc_o (by decide) (hxc))) ?_
            refine tn_aload_n dX7_step_333 rfl 3 rfl ?_
            refine tn_getI (ci := 7) (i := 2) (n := 57) (t := σ.2.1 57 a) dX7_step_334 rfl lay_7 (by decide) fl7_65 ha rfl rfl (rc_o (by decide) (rc_o (by decide) (rfl))) ?_
            have g1218 : ((0 : Int) ≤ σ.2.1 57 a ∧ σ.2.1 57 a ≤ 11184800) ∧ ((T a).1 = 57 → σ.2.1 57 a ≤ 8) := wf_57 hw ha
            have g1218x := g1218.2
            replace g1218 := g1218.1
            clear g1218x
            refine tn_aload_n dX7_step_337 rfl 3 rfl ?_
            refine tn_getR (ci := 7) (i := 14) (n := 69) (x := xq13) dX7_step_338 rfl lay_7 (by decide) fl7_72 ha rfl rfl (rc_o (by decide) (rc_o (by decide) (hx12))) ?_
            obtain ⟨xq1219, hx1220, hk1221, hl1222⟩ : ∃ x : Nat, σ.2.1 12 xq13 = (x : Int) ∧ AR T x 1 12 12 := wf_12 hw hk14o
            have hk1221i : IA T xq1219 := by unfold IA; omega
            refine tn_getR (ci := 1) (i := 7) (n := 12) (x := xq1219) dX7_step_341 rfl lay_1 (by decide) fl7_126 hk14o rfl rfl (rc_o (by decide) (rc_o (by decide) (hx1220))) ?_
            refine tn_aload_n dX7_step_344 rfl 3 rfl ?_
            refine tn_getR (ci := 7) (i := 14) (n := 69) (x := xq13) dX7_step_345 rfl lay_7 (by decide) fl7_72 ha rfl rfl (rc_o (by decide) (rc_o (by decide) (hx12))) ?_
            refine tn_iload_n dX7_step_348 rfl 2 rfl ?_
            refine tn_iconst dX7_step_349 ?_
            refine tn_callV (M := m_X7_step) (pc := 350) (ix := 117) (ci := 1) (M' := m_X1_get) (As := [.int (iI v11), .int (iI 1)]) (rest := [.ref xq1219, .int (iI (σ.2.1 57 a)), .ref xc]) dX7_step_350 ok_X1_get im_X1_get se_X1_get ml7_117 np_X1_get rfl rfl hk14o rfl (Nat.le_of_ble_eq_true rfl) (Nat.le_of_ble_eq_true rfl) rfl (k_X1_get_j (d + 3) (T := T) (σ := (sA 58 a (w32 ((σ.2.1 58 a) - 1)) (sA 67 a (w32 ((σ.2.1 67 a) + 1)) σ))) (a := xq13) (k := v11) (c := 1) (x := xq54) hk14o (by omega) (by decide) ((hw.put (by decide) (by decide) (fo_67 (by omega))).put (by decide) (by decide) (fo_58 (by omega))) (rc_o (by decide) (rc_o (by decide) (hx55))) (by omega)) (fun r1223 T1225 σ1224 gt1226 hp => ?_)
            obtain ⟨v1229, rfl, rfl, rfl, f1227, f1228⟩ := hp
            clear gt1226
            show Tn _ _ 353 T (sA 58 a (w32 ((σ.2.1 58 a) - 1)) (sA 67 a (w32 ((σ.2.1 67 a) + 1)) σ)) [(3, .int (iI (w32 (v11 + 1)))), (2, .int (iI v64)), (1, .int (iI v11)), (0, .ref a)] [.int (iI v1229), .ref xq1219, .int (iI (σ.2.1 57 a)), .ref xc] _
            refine tn_callSN (M := m_X7_step) (pc := 353) (ix := 91) (M' := m_X11_at) (As := [.ref xq1219, .int (iI v1229)]) (rest := [.int (iI (σ.2.1 57 a)), .ref xc]) dX7_step_353 ok_X11_at stt_X11_at nl7_91 np_X11_at rfl (Nat.le_of_ble_eq_true rfl) (Nat.le_of_ble_eq_true rfl) rfl (k_X11_at_j (d + 3) (T := T) (σ := (sA 58 a (w32 ((σ.2.1 58 a) - 1)) (sA 67 a (w32 ((σ.2.1 67 a) + 1)) σ))) (x := xq1219) (i := v1229) hk1221i (by omega) (by omega) ((hw.put (by decide) (by decide) (fo_67 (by omega))).put (by decide) (by decide) (fo_58 (by omega))) ) (fun r1230 T1232 σ1231 gt1233 hp => ?_)
            obtain ⟨v1237, rfl, rfl, rfl, f1234, f1235, f1236⟩ := hp
            clear gt1233
            clear f1235
            show Tn _ _ 356 T (sA 58 a (w32 ((σ.2.1 58 a) - 1)) (sA 67 a (w32 ((σ.2.1 67 a) + 1)) σ)) [(3, .int (iI (w32 (v11 + 1)))), (2, .int (iI v64)), (1, .int (iI v11)), (0, .ref a)] [.int (iI v1237), .int (iI (σ.2.1 57 a)), .ref xc] _
            refine tn_callSN (M := m_X7_step) (pc := 356) (ix := 61) (M' := m_X11_put) (As := [.ref xc, .int (iI (σ.2.1 57 a)), .int (iI v1237)]) (rest := []) dX7_step_356 ok_X11_put stt_X11_put nl7_61 np_X11_put rfl (Nat.le_of_ble_eq_true rfl) (Nat.le_of_ble_eq_true rfl) rfl (k_X11_put_x (d + 3) (T := T) (σ := (sA 58 a (w32 ((σ.2.1 58 a) - 1)) (sA 67 a (w32 ((σ.2.1 67 a) + 1)) σ))) (x := xc) (i := σ.2.1 57 a) (y := v1237) hk1216i (by omega) (by omega) (by omega) ((hw.put (by decide) (by decide) (fo_67 (by omega))).put (by decide) (by decide) (fo_58 (by omega))) (nh_k hk1216 (by unfold HT; omega)) (vok_1 (by have q9 := hk1216; omega) (by omega))) (fun r1238 T1240 σ1239 gt1241 hp => ?_)
            obtain ⟨rfl, rfl, w1245, F1246, f1242, f1243⟩ := hp
            clear gt1241
            have je1247 : σ1239 = jP T xc (σ.2.1 57 a) (v1237) _ := f1243
            show Tn _ _ 359 T σ1239 [(3, .int (iI (w32 (v11 + 1)))), (2, .int (iI v64)), (1, .int (iI v11)), (0, .ref a)] [] _
            refine tn_goto (tgt := 375) dX7_step_359 (by decide) ?_
            refine tn_aload_n dX7_step_375 rfl 3 rfl ?_
            refine tn_getR (ci := 7) (i := 5) (n := 60) (x := xb) dX7_step_376 rfl lay_7 (by decide) fl7_15 ha rfl rfl (rc_F F1246 (Or.inl (by decide)) (by decide) (rc_o (by decide) (rc_o (by decide) (hxb)))) ?_
            refine tn_aload_n dX7_step_379 rfl 3 rfl ?_
            refine tn_getI (ci := 7) (i := 2) (n := 57) (t := σ.2.1 57 a) dX7_step_380 rfl lay_7 (by decide) fl7_65 ha rfl rfl (rc_F F1246 (Or.inl (by decide)) (by decide) (rc_o (by decide) (rc_o (by decide) (rfl)))) ?_
            refine tn_iload_n dX7_step_383 rfl 0 rfl ?_
            refine tn_callSN (M := m_X7_step) (pc := 384) (ix := 61) (M' := m_X11_put) (As := [.ref xb, .int (iI (σ.2.1 57 a)), .int (iI (w32 (v11 + 1)))]) (rest := []) dX7_step_384 ok_X11_put stt_X11_put nl7_61 np_X11_put rfl (Nat.le_of_ble_eq_true rfl) (Nat.le_of_ble_eq_true rfl) rfl (k_X11_put_x (d + 3) (T := T) (σ := σ1239) (x := xb) (i := σ.2.1 57 a) (y := w32 (v11 + 1)) hk3i (by omega) (by omega) (by omega) w1245 (nh_k hk3 (by unfold HT; omega)) (vok_1 (by have q9 := hk3; omega) (by omega))) (fun r1248 T1250 σ1249 gt1251 hp => ?_)
            obtain ⟨rfl, rfl, w1255, F1256, f1252, f1253⟩ := hp
            clear gt1251
            have je1257 : σ1249 = jP T xb (σ.2.1 57 a) (w32 (v11 + 1)) _ := f1253
            show Tn _ _ 387 T σ1249 [(3, .int (iI (w32 (v11 + 1)))), (2, .int (iI v64)), (1, .int (iI v11)), (0, .ref a)] [] _
            refine tn_iload_n dX7_step_387 rfl 1 rfl ?_
            refine tn_bipush dX7_step_388 (by decide) ?_
            refine tn_icmp_ne (tgt := 397) dX7_step_390 (by decide) ⟨by omega, by omega⟩ ⟨by decide, by decide⟩ (fun h1258 => ?_) (fun h1258 => absurd h1258 (by omega))
            refine tn_iconst dX7_step_397 ?_
            have q1259 : σ1249.2.1 57 a = σ.2.1 57 a := rc_F F1256 (Or.inl (by decide)) (by decide) (rc_F F1246 (Or.inl (by decide)) (by decide) (rc_o (by decide) (rc_o (by decide) (rfl))))
            exact tn_zret (v := 0) rfl (by decide) dX7_step_398 ⟨_, rfl, rfl, w1255, ((((FrC.rfl.put (by decide) (by decide)).put (by decide) (by decide)).trans (FrC.sub F1246 (by decide))).trans (FrC.sub F1256 (by decide))), by omega, ((((CHX.rfl.fld (by simp) (by decide)).fld (by simp) (by decide)).trans (CHX.sub f1242 (by simp) (by simp) (by simp))).trans (CHX.sub f1252 (by simp) (by simp) (by simp))), by omega, ⟨_, v64, f10, Or.inr ⟨xq13, xq54, ⟨hx12, hx55⟩, f63⟩, Or.inr ⟨by omega, Or.inr (Or.inr (Or.inr (Or.inr (Or.inr (Or.inr (Or.inr (Or.inl (⟨by omega, rfl, xq13, xq54, xq1219, (sA 58 a (w32 ((σ.2.1 58 a) - 1)) (sA 67 a (w32 ((σ.2.1 67 a) + 1)) σ)), σ1239, ⟨hx12, hx55⟩, hx1220, rfl, by rw [← f1228, ← f1236]; exact je1247, je1257⟩))))))))⟩⟩, ((((FA.rfl.put).put).trans (FA.of F1246 (by decide))).trans (FA.of F1256 (by decide)))⟩
      · refine tn_aload_n dX7_step_37 rfl 2 rfl ?_
        refine tn_getI (ci := 7) (i := 3) (n := 58) (t := σ.2.1 58 a) dX7_step_38 rfl lay_7 (by decide) fl7_38 ha rfl rfl (rfl) ?_
        have g1260 : ((-2147483648 : Int) ≤ σ.2.1 58 a ∧ σ.2.1 58 a ≤ 2147483647) := wf_58 hw ha
        refine tn_bipush dX7_step_41 (by decide) ?_
        refine tn_icmp_le (tgt := 53) dX7_step_43 (by decide) ⟨by omega, by omega⟩ ⟨by decide, by decide⟩ (fun h1261 => ?_) (fun h1261 => ?_)
        · refine tn_aload_n dX7_step_53 rfl 2 rfl ?_
          refine tn_dup dX7_step_54 rfl ?_
          refine tn_getI (ci := 7) (i := 12) (n := 67) (t := σ.2.1 67 a) dX7_step_55 rfl lay_7 (by decide) fl7_47 ha rfl rfl (rfl) ?_
          have g1262 : ((-2147483648 : Int) ≤ σ.2.1 67 a ∧ σ.2.1 67 a ≤ 2147483647) := wf_67 hw ha
          refine tn_iconst dX7_step_58 ?_
          refine tn_iadd dX7_step_59 ?_
          rw [show iI ((σ.2.1 67 a) + 1) = iI (w32 ((σ.2.1 67 a) + 1)) from (iI_self _).symm]
          have g1263r : -2147483648 ≤ w32 ((σ.2.1 67 a) + 1) ∧ w32 ((σ.2.1 67 a) + 1) ≤ 2147483647 := inR_toInt _
          refine tn_putV (ci := 7) (i := 12) (n := 67) (r := false) (v := w32 ((σ.2.1 67 a) + 1)) tyX7 tyX7_ok nmX7 dX7_step_60 rfl lay_7 (by decide) fl7_47 rfl (tyX7_ok 12 (by decide)) rfl rfl rfl ha rfl rfl ?_
          refine tn_iload_n dX7_step_63 rfl 1 rfl ?_
          refine tn_iconst dX7_step_64 ?_
          refine tn_iadd dX7_step_65 ?_
          rw [show iI (v11 + 1) = iI (w32 (v11 + 1)) from (iI_self _).symm]
          have g1264r : -2147483648 ≤ w32 (v11 + 1) ∧ w32 (v11 + 1) ≤ 2147483647 := inR_toInt _
          refine tn_istore_n (L' := [(3, .int (iI (w32 (v11 + 1)))), (2, .int (iI v64)), (1, .int (iI v11)), (0, .ref a)]) dX7_step_66 rfl (by decide) rfl ?_
          refine tn_iload_n dX7_step_67 rfl 1 rfl ?_
          by_cases h1265 : v64 < -1 ∨ 15 < v64
          · refine tn_tableOut (tgt := 369) dX7_step_68 (x := v64) ⟨by omega, by omega⟩ h1265 (by decide) ?_
            refine tn_aload_n dX7_step_369 rfl 3 rfl ?_
            refine tn_iload_n dX7_step_370 rfl 2 rfl ?_
            refine tn_iload_n dX7_step_371 rfl 1 rfl ?_
            obtain ⟨hk1268, hl1269⟩ : AR T xe 1 1728 1728 := ar_of (wf_63 hw ha) hxe
            have hk1268i : IA T xe := by unfold IA; omega
            refine tn_callV (M := m_X7_step) (pc := 372) (ix := 129) (ci := 7) (M' := m_X7_reckonAt) (As := [.int (iI v11), .int (iI v64)]) (rest := []) dX7_step_372 ok_X7_reckonAt im_X7_reckonAt se_X7_reckonAt ml7_129 np_X7_reckonAt rfl rfl ha rfl (Nat.le_of_ble_eq_true rfl) (Nat.le_of_ble_eq_true rfl) rfl (k_X7_reckonAt_j (d + 1) (T := T) (σ := (sA 67 a (w32 ((σ.2.1 67 a) + 1)) σ)) (a := a) (k := v11) (e := v64) (xe := xe) ha (by omega) (by omega) (hw.put (by decide) (by decide) (fo_67 (by omega))) (rc_o (by decide) (hxe)) (by rw [show (sA 67 a (w32 ((σ.2.1 67 a) + 1)) σ).2.1 69 a = _ from rc_o (by decide) (hx12)]; omega)) (fun r1270 T1272 σ1271 gt1273 hp => ?_)
            obtain ⟨rfl, rfl, w1277, F1278, f1274, f1275⟩ := hp
            clear gt1273
            show Tn _ _ 375 T σ1271 [(3, .int (iI (w32 (v11 + 1)))), (2, .int (iI v64)), (1, .int (iI v11)), (0, .ref a)] [] _
            refine tn_aload_n dX7_step_375 rfl 3 rfl ?_
            refine tn_getR (ci := 7) (i := 5) (n := 60) (x := xb) dX7_step_376 rfl lay_7 (by decide) fl7_15 ha rfl rfl (rc_F F1278 (Or.inl (by decide)) (by decide) (rc_o (by decide) (hxb))) ?_
            refine tn_aload_n dX7_step_379 rfl 3 rfl ?_
            refine tn_getI (ci := 7) (i := 2) (n := 57) (t := σ.2.1 57 a) dX7_step_380 rfl lay_7 (by decide) fl7_65 ha rfl rfl (rc_F F1278 (Or.inl (by decide)) (by decide) (rc_o (by decide) (rfl))) ?_
            have g1279 : ((0 : Int) ≤ σ.2.1 57 a ∧ σ.2.1 57 a ≤ 11184800) ∧ ((T a).1 = 57 → σ.2.1 57 a ≤ 8) := wf_57 hw ha
            have g1279x := g1279.2
            replace g1279 := g1279.1
            clear g1279x
            refine tn_iload_n dX7_step_383 rfl 0 rfl ?_
            refine tn_callSN (M := m_X7_step) (pc := 384) (ix := 61) (M' := m_X11_put) (As := [.ref xb, .int (iI (σ.2.1 57 a)), .int (iI (w32 (v11 + 1)))]) (rest := []) dX7_step_384 ok_X11_put stt_X11_put nl7_61 np_X11_put rfl (Nat.le_of_ble_eq_true rfl) (Nat.le_of_ble_eq_true rfl) rfl (k_X11_put_x (d + 3) (T := T) (σ := σ1271) (x := xb) (i := σ.2.1 57 a) (y := w32 (v11 + 1)) hk3i (by omega) (by omega) (by omega) w1277 (nh_k hk3 (by unfold HT; omega)) (vok_1 (by have q9 := hk3; omega) (by omega))) (fun r1280 T1282 σ1281 gt1283 hp => ?_)
            obtain ⟨rfl, rfl, w1287, F1288, f1284, f1285⟩ := hp
            clear gt1283
            have je1289 : σ1281 = jP T xb (σ.2.1 57 a) (w32 (v11 + 1)) _ := f1285
            show Tn _ _ 387 T σ1281 [(3, .int (iI (w32 (v11 + 1)))), (2, .int (iI v64)), (1, .int (iI v11)), (0, .ref a)] [] _
            refine tn_iload_n dX7_step_387 rfl 1 rfl ?_
            refine tn_bipush dX7_step_388 (by decide) ?_
            refine tn_icmp_ne (tgt := 397) dX7_step_390 (by decide) ⟨by omega, by omega⟩ ⟨by decide, by decide⟩ (fun h1290 => ?_) (fun h1290 => absurd h1290 (by omega))
            refine tn_iconst dX7_step_397 ?_
            have q1291 : σ1281.2.1 57 a = σ.2.1 57 a := rc_F F1288 (Or.inl (by decide)) (by decide) (rc_F F1278 (Or.inl (by decide)) (by decide) (rc_o (by decide) (rfl)))
            exact tn_zret (v := 0) rfl (by decide) dX7_step_398 ⟨_, rfl, rfl, w1287, (((FrC.rfl.put (by decide) (by decide)).trans (FrC.sub F1278 (by decide))).trans (FrC.sub F1288 (by decide))), by omega, (((CHX.rfl.fld (by simp) (by decide)).trans (CHX.sub f1274 (by simp) (by simp) (by simp))).trans (CHX.sub f1284 (by simp) (by simp) (by simp))), by omega, ⟨_, v64, f10, Or.inr ⟨xq13, xq54, ⟨hx12, hx55⟩, f63⟩, Or.inr ⟨by omega, Or.inr (Or.inr (Or.inr (Or.inr (Or.inr (Or.inr (Or.inr (Or.inr (Or.inr ((⟨by omega, rfl, _, f1275, je1289⟩))))))))))⟩⟩, (((FA.rfl.put).trans (FA.of F1278 (by decide))).trans (FA.of F1288 (by decide)))⟩
          · have h1292 : v64 = -1 ∨ v64 = 0 ∨ v64 = 1 ∨ v64 = 2 ∨ v64 = 3 ∨ v64 = 4 ∨ v64 = 5 ∨ v64 = 6 ∨ v64 = 7 ∨ v64 = 8 ∨ v64 = 9 ∨ v64 = 10 ∨ v64 = 11 ∨ v64 = 12 ∨ v64 = 13 ∨ v64 = 14 ∨ v64 = 15 := by omega
            rcases h1292 with h1292 | h1292 | h1292 | h1292 | h1292 | h1292 | h1292 | h1292 | h1292 | h1292 | h1292 | h1292 | h1292 | h1292 | h1292 | h1292 | h1292
            · refine tn_tableIn (tgt := 362) (off := 294) dX7_step_68 (x := v64) ⟨by omega, by omega⟩ (by omega) (by omega) (by rw [h1292]; rfl) (by decide) ?_
              refine tn_aload_n dX7_step_362 rfl 3 rfl ?_
              refine tn_iconst dX7_step_363 ?_
              obtain ⟨hk1295, hl1296⟩ : AR T xa 15 9 9 := ar_of (wf_59 hw ha) hxa
              have hk1295i : IA T xa := by unfold IA; omega
              obtain ⟨hl1300, hk1299a, hk1299b⟩ := ex_at (wf_61 hw ha) hxc
              have hk1299 : (T xc).1 = 1 := hk1299b (by omega)
              clear hk1299a hk1299b
              have hk1299i : IA T xc := by unfold IA; omega
              obtain ⟨hk1303, hl1304⟩ : AR T xd 1 108 108 := ar_of (wf_62 hw ha) hxd
              have hk1303i : IA T xd := by unfold IA; omega
              obtain ⟨hk1307, hl1308⟩ : AR T xe 1 1728 1728 := ar_of (wf_63 hw ha) hxe
              have hk1307i : IA T xe := by unfold IA; omega
              obtain ⟨hl1312, hk1311a, hk1311b⟩ := ex_at (wf_55 hw ha) hy
              have hk1311i : (T y).1 = 4 ∨ (T y).1 = 5 := by omega
              have hk1311c : RROW T a y := ⟨hk1311a, hk1311b⟩
              clear hk1311a hk1311b
              have q1317 : (sA 67 a (w32 ((σ.2.1 67 a) + 1)) σ).2.1 57 a = σ.2.1 57 a := rc_o (by decide) (rfl)
              refine tn_callV (M := m_X7_step) (pc := 364) (ix := 123) (ci := 7) (M' := m_X7_giveBack) (As := [.int (iI 0)]) (rest := []) dX7_step_364 ok_X7_giveBack im_X7_giveBack se_X7_giveBack ml7_123 np_X7_giveBack rfl rfl ha rfl (Nat.le_of_ble_eq_true rfl) (Nat.le_of_ble_eq_true rfl) rfl (k_X7_giveBack_j (d + 1) (T := T) (σ := (sA 67 a (w32 ((σ.2.1 67 a) + 1)) σ)) (a := a) (n := 0) (xa := xa) (xb := xb) (xc := xc) (xd := xd) (xe := xe) (y := y) ha hta (by decide) (hw.put (by decide) (by decide) (fo_67 (by omega))) (rc_o (by decide) (hxa)) (rc_o (by decide) (hxb)) (rc_o (by decide) (hxc)) (rc_o (by decide) (hxd)) (rc_o (by decide) (hxe)) (rc_o (by decide) (hy))) (fun r1313 T1315 σ1314 gt1316 hp => ?_)
              obtain ⟨rfl, rfl, w1323, F1324, f1318, f1319, f1320, f1321⟩ := hp
              clear gt1316
              show Tn _ _ 367 T σ1314 [(3, .int (iI (w32 (v11 + 1)))), (2, .int (iI v64)), (1, .int (iI v11)), (0, .ref a)] [] _
              refine tn_iconst dX7_step_367 ?_
              have q1325 : σ1314.2.1 57 a = σ1314.2.1 57 a := rfl
              exact tn_zret (v := 0) rfl (by decide) dX7_step_368 ⟨_, rfl, rfl, w1323, ((FrC.rfl.put (by decide) (by decide)).trans (FrC.sub F1324 (by decide))), by omega, ((CHX.rfl.fld (by simp) (by decide)).trans (CHX.sub f1318 (by simp) (by simp) (by simp))), by omega, ⟨_, v64, f10, Or.inr ⟨xq13, xq54, ⟨hx12, hx55⟩, f63⟩, Or.inr ⟨by omega, Or.inr (Or.inr (Or.inr (Or.inr (Or.inr (Or.inr (Or.inr (Or.inr (Or.inl (⟨by omega, rfl, f1320⟩)))))))))⟩⟩, ((FA.rfl.put).trans f1321)⟩
            · refine tn_tableIn (tgt := 369) (off := 301) dX7_step_68 (x := v64) ⟨by omega, by omega⟩ (by omega) (by omega) (by rw [h1292]; rfl) (by decide) ?_
              refine tn_aload_n dX7_step_369 rfl 3 rfl ?_
              refine tn_iload_n dX7_step_370 rfl 2 rfl ?_
              refine tn_iload_n dX7_step_371 rfl 1 rfl ?_
              obtain ⟨hk1328, hl1329⟩ : AR T xe 1 1728 1728 := ar_of (wf_63 hw ha) hxe
              have hk1328i : IA T xe := by unfold IA; omega
              refine tn_callV (M := m_X7_step) (pc := 372) (ix := 129) (ci := 7) (M' := m_X7_reckonAt) (As := [.int (iI v11), .int (iI v64)]) (rest := []) dX7_step_372 ok_X7_reckonAt im_X7_reckonAt se_X7_reckonAt ml7_129 np_X7_reckonAt rfl rfl ha rfl (Nat.le_of_ble_eq_true rfl) (Nat.le_of_ble_eq_true rfl) rfl (k_X7_reckonAt_j (d + 1) (T := T) (σ := (sA 67 a (w32 ((σ.2.1 67 a) + 1)) σ)) (a := a) (k := v11) (e := v64) (xe := xe) ha (by omega) (by omega) (hw.put (by decide) (by decide) (fo_67 (by omega))) (rc_o (by decide) (hxe)) (by rw [show (sA 67 a (w32 ((σ.2.1 67 a) + 1)) σ).2.1 69 a = _ from rc_o (by decide) (hx12)]; omega)) (fun r1330 T1332 σ1331 gt1333 hp => ?_)
              obtain ⟨rfl, rfl, w1337, F1338, f1334, f1335⟩ := hp
              clear gt1333
              show Tn _ _ 375 T σ1331 [(3, .int (iI (w32 (v11 + 1)))), (2, .int (iI v64)), (1, .int (iI v11)), (0, .ref a)] [] _
              refine tn_aload_n dX7_step_375 rfl 3 rfl ?_
              refine tn_getR (ci := 7) (i := 5) (n := 60) (x := xb) dX7_step_376 rfl lay_7 (by decide) fl7_15 ha rfl rfl (rc_F F1338 (Or.inl (by decide)) (by decide) (rc_o (by decide) (hxb))) ?_
              refine tn_aload_n dX7_step_379 rfl 3 rfl ?_
              refine tn_getI (ci := 7) (i := 2) (n := 57) (t := σ.2.1 57 a) dX7_step_380 rfl lay_7 (by decide) fl7_65 ha rfl rfl (rc_F F1338 (Or.inl (by decide)) (by decide) (rc_o (by decide) (rfl))) ?_
              have g1339 : ((0 : Int) ≤ σ.2.1 57 a ∧ σ.2.1 57 a ≤ 11184800) ∧ ((T a).1 = 57 → σ.2.1 57 a ≤ 8) := wf_57 hw ha
              have g1339x := g1339.2
              replace g1339 := g1339.1
              clear g1339x
              refine tn_iload_n dX7_step_383 rfl 0 rfl ?_
              refine tn_callSN (M := m_X7_step) (pc := 384) (ix := 61) (M' := m_X11_put) (As := [.ref xb, .int (iI (σ.2.1 57 a)), .int (iI (w32 (v11 + 1)))]) (rest := []) dX7_step_384 ok_X11_put stt_X11_put nl7_61 np_X11_put rfl (Nat.le_of_ble_eq_true rfl) (Nat.le_of_ble_eq_true rfl) rfl (k_X11_put_x (d + 3) (T := T) (σ := σ1331) (x := xb) (i := σ.2.1 57 a) (y := w32 (v11 + 1)) hk3i (by omega) (by omega) (by omega) w1337 (nh_k hk3 (by unfold HT; omega)) (vok_1 (by have q9 := hk3; omega) (by omega))) (fun r1340 T1342 σ1341 gt1343 hp => ?_)
              obtain ⟨rfl, rfl, w1347, F1348, f1344, f1345⟩ := hp
              clear gt1343
              have je1349 : σ1341 = jP T xb (σ.2.1 57 a) (w32 (v11 + 1)) _ := f1345
              show Tn _ _ 387 T σ1341 [(3, .int (iI (w32 (v11 + 1)))), (2, .int (iI v64)), (1, .int (iI v11)), (0, .ref a)] [] _
              refine tn_iload_n dX7_step_387 rfl 1 rfl ?_
              refine tn_bipush dX7_step_388 (by decide) ?_
              refine tn_icmp_ne (tgt := 397) dX7_step_390 (by decide) ⟨by omega, by omega⟩ ⟨by decide, by decide⟩ (fun h1350 => ?_) (fun h1350 => absurd h1350 (by omega))
              refine tn_iconst dX7_step_397 ?_
              have q1351 : σ1341.2.1 57 a = σ.2.1 57 a := rc_F F1348 (Or.inl (by decide)) (by decide) (rc_F F1338 (Or.inl (by decide)) (by decide) (rc_o (by decide) (rfl)))
              exact tn_zret (v := 0) rfl (by decide) dX7_step_398 ⟨_, rfl, rfl, w1347, (((FrC.rfl.put (by decide) (by decide)).trans (FrC.sub F1338 (by decide))).trans (FrC.sub F1348 (by decide))), by omega, (((CHX.rfl.fld (by simp) (by decide)).trans (CHX.sub f1334 (by simp) (by simp) (by simp))).trans (CHX.sub f1344 (by simp) (by simp) (by simp))), by omega, ⟨_, v64, f10, Or.inr ⟨xq13, xq54, ⟨hx12, hx55⟩, f63⟩, Or.inr ⟨by omega, Or.inr (Or.inr (Or.inr (Or.inr (Or.inr (Or.inr (Or.inr (Or.inr (Or.inr ((⟨by omega, rfl, _, f1335, je1349⟩))))))))))⟩⟩, (((FA.rfl.put).trans (FA.of F1338 (by decide))).trans (FA.of F1348 (by decide)))⟩
            · refine tn_tableIn (tgt := 369) (off := 301) dX7_step_68 (x := v64) ⟨by omega, by omega⟩ (by omega) (by omega) (by rw [h1292]; rfl) (by decide) ?_
              refine tn_aload_n dX7_step_369 rfl 3 rfl ?_
              refine tn_iload_n dX7_step_370 rfl 2 rfl ?_
              refine tn_iload_n dX7_step_371 rfl 1 rfl ?_
              obtain ⟨hk1354, hl1355⟩ : AR T xe 1 1728 1728 := ar_of (wf_63 hw ha) hxe
              have hk1354i : IA T xe := by unfold IA; omega
              refine tn_callV (M := m_X7_step) (pc := 372) (ix := 129) (ci := 7) (M' := m_X7_reckonAt) (As := [.int (iI v11), .int (iI v64)]) (rest := []) dX7_step_372 ok_X7_reckonAt im_X7_reckonAt se_X7_reckonAt ml7_129 np_X7_reckonAt rfl rfl ha rfl (Nat.le_of_ble_eq_true rfl) (Nat.le_of_ble_eq_true rfl) rfl (k_X7_reckonAt_j (d + 1) (T := T) (σ := (sA 67 a (w32 ((σ.2.1 67 a) + 1)) σ)) (a := a) (k := v11) (e := v64) (xe := xe) ha (by omega) (by omega) (hw.put (by decide) (by decide) (fo_67 (by omega))) (rc_o (by decide) (hxe)) (by rw [show (sA 67 a (w32 ((σ.2.1 67 a) + 1)) σ).2.1 69 a = _ from rc_o (by decide) (hx12)]; omega)) (fun r1356 T1358 σ1357 gt1359 hp => ?_)
              obtain ⟨rfl, rfl, w1363, F1364, f1360, f1361⟩ := hp
              clear gt1359
              show Tn _ _ 375 T σ1357 [(3, .int (iI (w32 (v11 + 1)))), (2, .int (iI v64)), (1, .int (iI v11)), (0, .ref a)] [] _
              refine tn_aload_n dX7_step_375 rfl 3 rfl ?_
              refine tn_getR (ci := 7) (i := 5) (n := 60) (x := xb) dX7_step_376 rfl lay_7 (by decide) fl7_15 ha rfl rfl (rc_F F1364 (Or.inl (by decide)) (by decide) (rc_o (by decide) (hxb))) ?_
              refine tn_aload_n dX7_step_379 rfl 3 rfl ?_
              refine tn_getI (ci := 7) (i := 2) (n := 57) (t := σ.2.1 57 a) dX7_step_380 rfl lay_7 (by decide) fl7_65 ha rfl rfl (rc_F F1364 (Or.inl (by decide)) (by decide) (rc_o (by decide) (rfl))) ?_
              have g1365 : ((0 : Int) ≤ σ.2.1 57 a ∧ σ.2.1 57 a ≤ 11184800) ∧ ((T a).1 = 57 → σ.2.1 57 a ≤ 8) := wf_57 hw ha
              have g1365x := g1365.2
              replace g1365 := g1365.1
              clear g1365x
              refine tn_iload_n dX7_step_383 rfl 0 rfl ?_
              refine tn_callSN (M := m_X7_step) (pc := 384) (ix := 61) (M' := m_X11_put) (As := [.ref xb, .int (iI (σ.2.1 57 a)), .int (iI (w32 (v11 + 1)))]) (rest := []) dX7_step_384 ok_X11_put stt_X11_put nl7_61 np_X11_put rfl (Nat.le_of_ble_eq_true rfl) (Nat.le_of_ble_eq_true rfl) rfl (k_X11_put_x (d + 3) (T := T) (σ := σ1357) (x := xb) (i := σ.2.1 57 a) (y := w32 (v11 + 1)) hk3i (by omega) (by omega) (by omega) w1363 (nh_k hk3 (by unfold HT; omega)) (vok_1 (by have q9 := hk3; omega) (by omega))) (fun r1366 T1368 σ1367 gt1369 hp => ?_)
              obtain ⟨rfl, rfl, w1373, F1374, f1370, f1371⟩ := hp
              clear gt1369
              have je1375 : σ1367 = jP T xb (σ.2.1 57 a) (w32 (v11 + 1)) _ := f1371
              show Tn _ _ 387 T σ1367 [(3, .int (iI (w32 (v11 + 1)))), (2, .int (iI v64)), (1, .int (iI v11)), (0, .ref a)] [] _
              refine tn_iload_n dX7_step_387 rfl 1 rfl ?_
              refine tn_bipush dX7_step_388 (by decide) ?_
              refine tn_icmp_ne (tgt := 397) dX7_step_390 (by decide) ⟨by omega, by omega⟩ ⟨by decide, by decide⟩ (fun h1376 => ?_) (fun h1376 => absurd h1376 (by omega))
              refine tn_iconst dX7_step_397 ?_
              have q1377 : σ1367.2.1 57 a = σ.2.1 57 a := rc_F F1374 (Or.inl (by decide)) (by decide) (rc_F F1364 (Or.inl (by decide)) (by decide) (rc_o (by decide) (rfl)))
              exact tn_zret (v := 0) rfl (by decide) dX7_step_398 ⟨_, rfl, rfl, w1373, (((FrC.rfl.put (by decide) (by decide)).trans (FrC.sub F1364 (by decide))).trans (FrC.sub F1374 (by decide))), by omega, (((CHX.rfl.fld (by simp) (by decide)).trans (CHX.sub f1360 (by simp) (by simp) (by simp))).trans (CHX.sub f1370 (by simp) (by simp) (by simp))), by omega, ⟨_, v64, f10, Or.inr ⟨xq13, xq54, ⟨hx12, hx55⟩, f63⟩, Or.inr ⟨by omega, Or.inr (Or.inr (Or.inr (Or.inr (Or.inr (Or.inr (Or.inr (Or.inr (Or.inr ((⟨by omega, rfl, _, f1361, je1375⟩))))))))))⟩⟩, (((FA.rfl.put).trans (FA.of F1364 (by decide))).trans (FA.of F1374 (by decide)))⟩
            · refine tn_tableIn (tgt := 369) (off := 301) dX7_step_68 (x := v64) ⟨by omega, by omega⟩ (by omega) (by omega) (by rw [h1292]; rfl) (by decide) ?_
              refine tn_aload_n dX7_step_369 rfl 3 rfl ?_
              refine tn_iload_n dX7_step_370 rfl 2 rfl ?_
              refine tn_iload_n dX7_step_371 rfl 1 rfl ?_
              obtain ⟨hk1380, hl1381⟩ : AR T xe 1 1728 1728 := ar_of (wf_63 hw ha) hxe
              have hk1380i : IA T xe := by unfold IA; omega
              refine tn_callV (M := m_X7_step) (pc := 372) (ix := 129) (ci := 7) (M' := m_X7_reckonAt) (As := [.int (iI v11), .int (iI v64)]) (rest := []) dX7_step_372 ok_X7_reckonAt im_X7_reckonAt se_X7_reckonAt ml7_129 np_X7_reckonAt rfl rfl ha rfl (Nat.le_of_ble_eq_true rfl) (Nat.le_of_ble_eq_true rfl) rfl (k_X7_reckonAt_j (d + 1) (T := T) (σ := (sA 67 a (w32 ((σ.2.1 67 a) + 1)) σ)) (a := a) (k := v11) (e := v64) (xe := xe) ha (by omega) (by omega) (hw.put (by decide) (by decide) (fo_67 (by omega))) (rc_o (by decide) (hxe)) (by rw [show (sA 67 a (w32 ((σ.2.1 67 a) + 1)) σ).2.1 69 a = _ from rc_o (by decide) (hx12)]; omega)) (fun r1382 T1384 σ1383 gt1385 hp => ?_)
              obtain ⟨rfl, rfl, w1389, F1390, f1386, f1387⟩ := hp
              clear gt1385
              show Tn _ _ 375 T σ1383 [(3, .int (iI (w32 (v11 + 1)))), (2, .int (iI v64)), (1, .int (iI v11)), (0, .ref a)] [] _
              refine tn_aload_n dX7_step_375 rfl 3 rfl ?_
              refine tn_getR (ci := 7) (i := 5) (n := 60) (x := xb) dX7_step_376 rfl lay_7 (by decide) fl7_15 ha rfl rfl (rc_F F1390 (Or.inl (by decide)) (by decide) (rc_o (by decide) (hxb))) ?_
              refine tn_aload_n dX7_step_379 rfl 3 rfl ?_
              refine tn_getI (ci := 7) (i := 2) (n := 57) (t := σ.2.1 57 a) dX7_step_380 rfl lay_7 (by decide) fl7_65 ha rfl rfl (rc_F F1390 (Or.inl (by decide)) (by decide) (rc_o (by decide) (rfl))) ?_
              have g1391 : ((0 : Int) ≤ σ.2.1 57 a ∧ σ.2.1 57 a ≤ 11184800) ∧ ((T a).1 = 57 → σ.2.1 57 a ≤ 8) := wf_57 hw ha
              have g1391x := g1391.2
              replace g1391 := g1391.1
              clear g1391x
              refine tn_iload_n dX7_step_383 rfl 0 rfl ?_
              refine tn_callSN (M := m_X7_step) (pc := 384) (ix := 61) (M' := m_X11_put) (As := [.ref xb, .int (iI (σ.2.1 57 a)), .int (iI (w32 (v11 + 1)))]) (rest := []) dX7_step_384 ok_X11_put stt_X11_put nl7_61 np_X11_put rfl (Nat.le_of_ble_eq_true rfl) (Nat.le_of_ble_eq_true rfl) rfl (k_X11_put_x (d + 3) (T := T) (σ := σ1383) (x := xb) (i := σ.2.1 57 a) (y := w32 (v11 + 1)) hk3i (by omega) (by omega) (by omega) w1389 (nh_k hk3 (by unfold HT; omega)) (vok_1 (by have q9 := hk3; omega) (by omega))) (fun r1392 T1394 σ1393 gt1395 hp => ?_)
              obtain ⟨rfl, rfl, w1399, F1400, f1396, f1397⟩ := hp
              clear gt1395
              have je1401 : σ1393 = jP T xb (σ.2.1 57 a) (w32 (v11 + 1)) _ := f1397
              show Tn _ _ 387 T σ1393 [(3, .int (iI (w32 (v11 + 1)))), (2, .int (iI v64)), (1, .int (iI v11)), (0, .ref a)] [] _
              refine tn_iload_n dX7_step_387 rfl 1 rfl ?_
              refine tn_bipush dX7_step_388 (by decide) ?_
              refine tn_icmp_ne (tgt := 397) dX7_step_390 (by decide) ⟨by omega, by omega⟩ ⟨by decide, by decide⟩ (fun h1402 => ?_) (fun h1402 => absurd h1402 (by omega))
              refine tn_iconst dX7_step_397 ?_
              have q1403 : σ1393.2.1 57 a = σ.2.1 57 a := rc_F F1400 (Or.inl (by decide)) (by decide) (rc_F F1390 (Or.inl (by decide)) (by decide) (rc_o (by decide) (rfl)))
              exact tn_zret (v := 0) rfl (by decide) dX7_step_398 ⟨_, rfl, rfl, w1399, (((FrC.rfl.put (by decide) (by decide)).trans (FrC.sub F1390 (by decide))).trans (FrC.sub F1400 (by decide))), by omega, (((CHX.rfl.fld (by simp) (by decide)).trans (CHX.sub f1386 (by simp) (by simp) (by simp))).trans (CHX.sub f1396 (by simp) (by simp) (by simp))), by omega, ⟨_, v64, f10, Or.inr ⟨xq13, xq54, ⟨hx12, hx55⟩, f63⟩, Or.inr ⟨by omega, Or.inr (Or.inr (Or.inr (Or.inr (Or.inr (Or.inr (Or.inr (Or.inr (Or.inr ((⟨by omega, rfl, _, f1387, je1401⟩))))))))))⟩⟩, (((FA.rfl.put).trans (FA.of F1390 (by decide))).trans (FA.of F1400 (by decide)))⟩
            · refine tn_tableIn (tgt := 369) (off := 301) dX7_step_68 (x := v64) ⟨by omega, by omega⟩ (by omega) (by omega) (by rw [h1292]; rfl) (by decide) ?_
              refine tn_aload_n dX7_step_369 rfl 3 rfl ?_
              refine tn_iload_n dX7_step_370 rfl 2 rfl ?_
              refine tn_iload_n dX7_step_371 rfl 1 rfl ?_
              obtain ⟨hk1406, hl1407⟩ : AR T xe 1 1728 1728 := ar_of (wf_63 hw ha) hxe
              have hk1406i : IA T xe := by unfold IA; omega
              refine tn_callV (M := m_X7_step) (pc := 372) (ix := 129) (ci := 7) (M' := m_X7_reckonAt) (As := [.int (iI v11), .int (iI v64)]) (rest := []) dX7_step_372 ok_X7_reckonAt im_X7_reckonAt se_X7_reckonAt ml7_129 np_X7_reckonAt rfl rfl ha rfl (Nat.le_of_ble_eq_true rfl) (Nat.le_of_ble_eq_true rfl) rfl (k_X7_reckonAt_j (d + 1) (T := T) (σ := (sA 67 a (w32 ((σ.2.1 67 a) + 1)) σ)) (a := a) (k := v11) (e := v64) (xe := xe) ha (by omega) (by omega) (hw.put (by decide) (by decide) (fo_67 (by omega))) (rc_o (by decide) (hxe)) (by rw [show (sA 67 a (w32 ((σ.2.1 67 a) + 1)) σ).2.1 69 a = _ from rc_o (by decide) (hx12)]; omega)) (fun r1408 T1410 σ1409 gt1411 hp => ?_)
              obtain ⟨rfl, rfl, w1415, F1416, f1412, f1413⟩ := hp
              clear gt1411
              show Tn _ _ 375 T σ1409 [(3, .int (iI (w32 (v11 + 1)))), (2, .int (iI v64)), (1, .int (iI v11)), (0, .ref a)] [] _
              refine tn_aload_n dX7_step_375 rfl 3 rfl ?_
              refine tn_getR (ci := 7) (i := 5) (n := 60) (x := xb) dX7_step_376 rfl lay_7 (by decide) fl7_15 ha rfl rfl (rc_F F1416 (Or.inl (by decide)) (by decide) (rc_o (by decide) (hxb))) ?_
              refine tn_aload_n dX7_step_379 rfl 3 rfl ?_
              refine tn_getI (ci := 7) (i := 2) (n := 57) (t := σ.2.1 57 a) dX7_step_380 rfl lay_7 (by decide) fl7_65 ha rfl rfl (rc_F F1416 (Or.inl (by decide)) (by decide) (rc_o (by decide) (rfl))) ?_
              have g1417 : ((0 : Int) ≤ σ.2.1 57 a ∧ σ.2.1 57 a ≤ 11184800) ∧ ((T a).1 = 57 → σ.2.1 57 a ≤ 8) := wf_57 hw ha
              have g1417x := g1417.2
              replace g1417 := g1417.1
              clear g1417x
              refine tn_iload_n dX7_step_383 rfl 0 rfl ?_
              refine tn_callSN (M := m_X7_step) (pc := 384) (ix := 61) (M' := m_X11_put) (As := [.ref xb, .int (iI (σ.2.1 57 a)), .int (iI (w32 (v11 + 1)))]) (rest := []) dX7_step_384 ok_X11_put stt_X11_put nl7_61 np_X11_put rfl (Nat.le_of_ble_eq_true rfl) (Nat.le_of_ble_eq_true rfl) rfl (k_X11_put_x (d + 3) (T := T) (σ := σ1409) (x := xb) (i := σ.2.1 57 a) (y := w32 (v11 + 1)) hk3i (by omega) (by omega) (by omega) w1415 (nh_k hk3 (by unfold HT; omega)) (vok_1 (by have q9 := hk3; omega) (by omega))) (fun r1418 T1420 σ1419 gt1421 hp => ?_)
              obtain ⟨rfl, rfl, w1425, F1426, f1422, f1423⟩ := hp
              clear gt1421
              have je1427 : σ1419 = jP T xb (σ.2.1 57 a) (w32 (v11 + 1)) _ := f1423
              show Tn _ _ 387 T σ1419 [(3, .int (iI (w32 (v11 + 1)))), (2, .int (iI v64)), (1, .int (iI v11)), (0, .ref a)] [] _
              refine tn_iload_n dX7_step_387 rfl 1 rfl ?_
              refine tn_bipush dX7_step_388 (by decide) ?_
              refine tn_icmp_ne (tgt := 397) dX7_step_390 (by decide) ⟨by omega, by omega⟩ ⟨by decide, by decide⟩ (fun h1428 => ?_) (fun h1428 => absurd h1428 (by omega))
              refine tn_iconst dX7_step_397 ?_
              have q1429 : σ1419.2.1 57 a = σ.2.1 57 a := rc_F F1426 (Or.inl (by decide)) (by decide) (rc_F F1416 (Or.inl (by decide)) (by decide) (rc_o (by decide) (rfl)))
              exact tn_zret (v := 0) rfl (by decide) dX7_step_398 ⟨_, rfl, rfl, w1425, (((FrC.rfl.put (by decide) (by decide)).trans (FrC.sub F1416 (by decide))).trans (FrC.sub F1426 (by decide))), by omega, (((CHX.rfl.fld (by simp) (by decide)).trans (CHX.sub f1412 (by simp) (by simp) (by simp))).trans (CHX.sub f1422 (by simp) (by simp) (by simp))), by omega, ⟨_, v64, f10, Or.inr ⟨xq13, xq54, ⟨hx12, hx55⟩, f63⟩, Or.inr ⟨by omega, Or.inr (Or.inr (Or.inr (Or.inr (Or.inr (Or.inr (Or.inr (Or.inr (Or.inr ((⟨by omega, rfl, _, f1413, je1427⟩))))))))))⟩⟩, (((FA.rfl.put).trans (FA.of F1416 (by decide))).trans (FA.of F1426 (by decide)))⟩
            · refine tn_tableIn (tgt := 369) (off := 301) dX7_step_68 (x := v64) ⟨by omega, by omega⟩ (by omega) (by omega) (by rw [h1292]; rfl) (by decide) ?_
              refine tn_aload_n dX7_step_369 rfl 3 rfl ?_
              refine tn_iload_n dX7_step_370 rfl 2 rfl ?_
              refine tn_iload_n dX7_step_371 rfl 1 rfl ?_
              obtain ⟨hk1432, hl1433⟩ : AR T xe 1 1728 1728 := ar_of (wf_63 hw ha) hxe
              have hk1432i : IA T xe := by unfold IA; omega
              refine tn_callV (M := m_X7_step) (pc := 372) (ix := 129) (ci := 7) (M' := m_X7_reckonAt) (As := [.int (iI v11), .int (iI v64)]) (rest := []) dX7_step_372 ok_X7_reckonAt im_X7_reckonAt se_X7_reckonAt ml7_129 np_X7_reckonAt rfl rfl ha rfl (Nat.le_of_ble_eq_true rfl) (Nat.le_of_ble_eq_true rfl) rfl (k_X7_reckonAt_j (d + 1) (T := T) (σ := (sA 67 a (w32 ((σ.2.1 67 a) + 1)) σ)) (a := a) (k := v11) (e := v64) (xe := xe) ha (by omega) (by omega) (hw.put (by decide) (by decide) (fo_67 (by omega))) (rc_o (by decide) (hxe)) (by rw [show (sA 67 a (w32 ((σ.2.1 67 a) + 1)) σ).2.1 69 a = _ from rc_o (by decide) (hx12)]; omega)) (fun r1434 T1436 σ1435 gt1437 hp => ?_)
              obtain ⟨rfl, rfl, w1441, F1442, f1438, f1439⟩ := hp
              clear gt1437
              show Tn _ _ 375 T σ1435 [(3, .int (iI (w32 (v11 + 1)))), (2, .int (iI v64)), (1, .int (iI v11)), (0, .ref a)] [] _
              refine tn_aload_n dX7_step_375 rfl 3 rfl ?_
              refine tn_getR (ci := 7) (i := 5) (n := 60) (x := xb) dX7_step_376 rfl lay_7 (by decide) fl7_15 ha rfl rfl (rc_F F1442 (Or.inl (by decide)) (by decide) (rc_o (by decide) (hxb))) ?_
              refine tn_aload_n dX7_step_379 rfl 3 rfl ?_
              refine tn_getI (ci := 7) (i := 2) (n := 57) (t := σ.2.1 57 a) dX7_step_380 rfl lay_7 (by decide) fl7_65 ha rfl rfl (rc_F F1442 (Or.inl (by decide)) (by decide) (rc_o (by decide) (rfl))) ?_
              have g1443 : ((0 : Int) ≤ σ.2.1 57 a ∧ σ.2.1 57 a ≤ 11184800) ∧ ((T a).1 = 57 → σ.2.1 57 a ≤ 8) := wf_57 hw ha
              have g1443x := g1443.2
              replace g1443 := g1443.1
              clear g1443x
              refine tn_iload_n dX7_step_383 rfl 0 rfl ?_
              refine tn_callSN (M := m_X7_step) (pc := 384) (ix := 61) (M' := m_X11_put) (As := [.ref xb, .int (iI (σ.2.1 57 a)), .int (iI (w32 (v11 + 1)))]) (rest := []) dX7_step_384 ok_X11_put stt_X11_put nl7_61 np_X11_put rfl (Nat.le_of_ble_eq_true rfl) (Nat.le_of_ble_eq_true rfl) rfl (k_X11_put_x (d + 3) (T := T) (σ := σ1435) (x := xb) (i := σ.2.1 57 a) (y := w32 (v11 + 1)) hk3i (by omega) (by omega) (by omega) w1441 (nh_k hk3 (by unfold HT; omega)) (vok_1 (by have q9 := hk3; omega) (by omega))) (fun r1444 T1446 σ1445 gt1447 hp => ?_)
              obtain ⟨rfl, rfl, w1451, F1452, f1448, f1449⟩ := hp
              clear gt1447
              have je1453 : σ1445 = jP T xb (σ.2.1 57 a) (w32 (v11 + 1)) _ := f1449
              show Tn _ _ 387 T σ1445 [(3, .int (iI (w32 (v11 + 1)))), (2, .int (iI v64)), (1, .int (iI v11)), (0, .ref a)] [] _
              refine tn_iload_n dX7_step_387 rfl 1 rfl ?_
              refine tn_bipush dX7_step_388 (by decide) ?_
              refine tn_icmp_ne (tgt := 397) dX7_step_390 (by decide) ⟨by omega, by omega⟩ ⟨by decide, by decide⟩ (fun h1454 => ?_) (fun h1454 => absurd h1454 (by omega))
              refine tn_iconst dX7_step_397 ?_
              have q1455 : σ1445.2.1 57 a = σ.2.1 57 a := rc_F F1452 (Or.inl (by decide)) (by decide) (rc_F F1442 (Or.inl (by decide)) (by decide) (rc_o (by decide) (rfl)))
              exact tn_zret (v := 0) rfl (by decide) dX7_step_398 ⟨_, rfl, rfl, w1451, (((FrC.rfl.put (by decide) (by decide)).trans (FrC.sub F1442 (by decide))).trans (FrC.sub F1452 (by decide))), by omega, (((CHX.rfl.fld (by simp) (by decide)).trans (CHX.sub f1438 (by simp) (by simp) (by simp))).trans (CHX.sub f1448 (by simp) (by simp) (by simp))), by omega, ⟨_, v64, f10, Or.inr ⟨xq13, xq54, ⟨hx12, hx55⟩, f63⟩, Or.inr ⟨by omega, Or.inr (Or.inr (Or.inr (Or.inr (Or.inr (Or.inr (Or.inr (Or.inr (Or.inr ((⟨by omega, rfl, _, f1439, je1453⟩))))))))))⟩⟩, (((FA.rfl.put).trans (FA.of F1442 (by decide))).trans (FA.of F1452 (by decide)))⟩
            · refine tn_tableIn (tgt := 369) (off := 301) dX7_step_68 (x := v64) ⟨by omega, by omega⟩ (by omega) (by omega) (by rw [h1292]; rfl) (by decide) ?_
              refine tn_aload_n dX7_step_369 rfl 3 rfl ?_
              refine tn_iload_n dX7_step_370 rfl 2 rfl ?_
              refine tn_iload_n dX7_step_371 rfl 1 rfl ?_
              obtain ⟨hk1458, hl1459⟩ : AR T xe 1 1728 1728 := ar_of (wf_63 hw ha) hxe
              have hk1458i : IA T xe := by unfold IA; omega
              refine tn_callV (M := m_X7_step) (pc := 372) (ix := 129) (ci := 7) (M' := m_X7_reckonAt) (As := [.int (iI v11), .int (iI v64)]) (rest := []) dX7_step_372 ok_X7_reckonAt im_X7_reckonAt se_X7_reckonAt ml7_129 np_X7_reckonAt rfl rfl ha rfl (Nat.le_of_ble_eq_true rfl) (Nat.le_of_ble_eq_true rfl) rfl (k_X7_reckonAt_j (d + 1) (T := T) (σ := (sA 67 a (w32 ((σ.2.1 67 a) + 1)) σ)) (a := a) (k := v11) (e := v64) (xe := xe) ha (by omega) (by omega) (hw.put (by decide) (by decide) (fo_67 (by omega))) (rc_o (by decide) (hxe)) (by rw [show (sA 67 a (w32 ((σ.2.1 67 a) + 1)) σ).2.1 69 a = _ from rc_o (by decide) (hx12)]; omega)) (fun r1460 T1462 σ1461 gt1463 hp => ?_)
              obtain ⟨rfl, rfl, w1467, F1468, f1464, f1465⟩ := hp
              clear gt1463
              show Tn _ _ 375 T σ1461 [(3, .int (iI (w32 (v11 + 1)))), (2, .int (iI v64)), (1, .int (iI v11)), (0, .ref a)] [] _
              refine tn_aload_n dX7_step_375 rfl 3 rfl ?_
              refine tn_getR (ci := 7) (i := 5) (n := 60) (x := xb) dX7_step_376 rfl lay_7 (by decide) fl7_15 ha rfl rfl (rc_F F1468 (Or.inl (by decide)) (by decide) (rc_o (by decide) (hxb))) ?_
              refine tn_aload_n dX7_step_379 rfl 3 rfl ?_
              refine tn_getI (ci := 7) (i := 2) (n := 57) (t := σ.2.1 57 a) dX7_step_380 rfl lay_7 (by decide) fl7_65 ha rfl rfl (rc_F F1468 (Or.inl (by decide)) (by decide) (rc_o (by decide) (rfl))) ?_
              have g1469 : ((0 : Int) ≤ σ.2.1 57 a ∧ σ.2.1 57 a ≤ 11184800) ∧ ((T a).1 = 57 → σ.2.1 57 a ≤ 8) := wf_57 hw ha
              have g1469x := g1469.2
              replace g1469 := g1469.1
              clear g1469x
              refine tn_iload_n dX7_step_383 rfl 0 rfl ?_
              refine tn_callSN (M := m_X7_step) (pc := 384) (ix := 61) (M' := m_X11_put) (As := [.ref xb, .int (iI (σ.2.1 57 a)), .int (iI (w32 (v11 + 1)))]) (rest := []) dX7_step_384 ok_X11_put stt_X11_put nl7_61 np_X11_put rfl (Nat.le_of_ble_eq_true rfl) (Nat.le_of_ble_eq_true rfl) rfl (k_X11_put_x (d + 3) (T := T) (σ := σ1461) (x := xb) (i := σ.2.1 57 a) (y := w32 (v11 + 1)) hk3i (by omega) (by omega) (by omega) w1467 (nh_k hk3 (by unfold HT; omega)) (vok_1 (by have q9 := hk3; omega) (by omega))) (fun r1470 T1472 σ1471 gt1473 hp => ?_)
              obtain ⟨rfl, rfl, w1477, F1478, f1474, f1475⟩ := hp
              clear gt1473
              have je1479 : σ1471 = jP T xb (σ.2.1 57 a) (w32 (v11 + 1)) _ := f1475
              show Tn _ _ 387 T σ1471 [(3, .int (iI (w32 (v11 + 1)))), (2, .int (iI v64)), (1, .int (iI v11)), (0, .ref a)] [] _
              refine tn_iload_n dX7_step_387 rfl 1 rfl ?_
              refine tn_bipush dX7_step_388 (by decide) ?_
              refine tn_icmp_ne (tgt := 397) dX7_step_390 (by decide) ⟨by omega, by omega⟩ ⟨by decide, by decide⟩ (fun h1480 => ?_) (fun h1480 => absurd h1480 (by omega))
              refine tn_iconst dX7_step_397 ?_
              have q1481 : σ1471.2.1 57 a = σ.2.1 57 a := rc_F F1478 (Or.inl (by decide)) (by decide) (rc_F F1468 (Or.inl (by decide)) (by decide) (rc_o (by decide) (rfl)))
              exact tn_zret (v := 0) rfl (by decide) dX7_step_398 ⟨_, rfl, rfl, w1477, (((FrC.rfl.put (by decide) (by decide)).trans (FrC.sub F1468 (by decide))).trans (FrC.sub F1478 (by decide))), by omega, (((CHX.rfl.fld (by simp) (by decide)).trans (CHX.sub f1464 (by simp) (by simp) (by simp))).trans (CHX.sub f1474 (by simp) (by simp) (by simp))), by omega, ⟨_, v64, f10, Or.inr ⟨xq13, xq54, ⟨hx12, hx55⟩, f63⟩, Or.inr ⟨by omega, Or.inr (Or.inr (Or.inr (Or.inr (Or.inr (Or.inr (Or.inr (Or.inr (Or.inr ((⟨by omega, rfl, _, f1465, je1479⟩))))))))))⟩⟩, (((FA.rfl.put).trans (FA.of F1468 (by decide))).trans (FA.of F1478 (by decide)))⟩
            · refine tn_tableIn (tgt := 152) (off := 84) dX7_step_68 (x := v64) ⟨by omega, by omega⟩ (by omega) (by omega) (by rw [h1292]; rfl) (by decide) ?_
              refine tn_aload_n dX7_step_152 rfl 3 rfl ?_
              refine tn_aload_n dX7_step_153 rfl 3 rfl ?_
              refine tn_iload_n dX7_step_154 rfl 2 rfl ?_
              refine tn_iconst dX7_step_155 ?_
              obtain ⟨hk1484, hl1485⟩ : AR T xe 1 1728 1728 := ar_of (wf_63 hw ha) hxe
              have hk1484i : IA T xe := by unfold IA; omega
              refine tn_callV (M := m_X7_step) (pc := 156) (ix := 110) (ci := 7) (M' := m_X7_operand) (As := [.int (iI v11), .int (iI 3)]) (rest := [.ref a]) dX7_step_156 ok_X7_operand im_X7_operand se_X7_operand ml7_110 np_X7_operand rfl rfl ha rfl (Nat.le_of_ble_eq_true rfl) (Nat.le_of_ble_eq_true rfl) rfl (k_X7_operand_j (d + 2) (T := T) (σ := (sA 67 a (w32 ((σ.2.1 67 a) + 1)) σ)) (a := a) (k := v11) (c := 3) (xe := xe) ha (by omega) (by decide) (hw.put (by decide) (by decide) (fo_67 (by omega))) (rc_o (by decide) (hxe)) (by rw [show (sA 67 a (w32 ((σ.2.1 67 a) + 1)) σ).2.1 69 a = _ from rc_o (by decide) (hx12)]; omega) (by omega)) (fun r1486 T1488 σ1487 gt1489 hp => ?_)
              obtain ⟨v1492, rfl, rfl, rfl, f1490, f1491⟩ := hp
              clear gt1489
              show Tn _ _ 159 T (sA 67 a (w32 ((σ.2.1 67 a) + 1)) σ) [(3, .int (iI (w32 (v11 + 1)))), (2, .int (iI v64)), (1, .int (iI v11)), (0, .ref a)] [.int (iI v1492), .ref a] _
              obtain ⟨hk1495, hl1496⟩ : AR T xf 1 200 200 := ar_of (wf_64 hw ha) hxf
              have hk1495i : IA T xf := by unfold IA; omega
              refine tn_callV (M := m_X7_step) (pc := 159) (ix := 113) (ci := 7) (M' := m_X7_emit) (As := [.int (iI v1492)]) (rest := []) dX7_step_159 ok_X7_emit im_X7_emit se_X7_emit ml7_113 np_X7_emit rfl rfl ha rfl (Nat.le_of_ble_eq_true rfl) (Nat.le_of_ble_eq_true rfl) rfl (k_X7_emit_j (d + 2) (T := T) (σ := (sA 67 a (w32 ((σ.2.1 67 a) + 1)) σ)) (a := a) (p1 := v1492) (xf := xf) ha (by omega) (hw.put (by decide) (by decide) (fo_67 (by omega))) (rc_o (by decide) (hxf))) (fun r1497 T1499 σ1498 gt1500 hp => ?_)
              obtain ⟨rfl, rfl, w1505, F1506, f1501, f1502, f1503⟩ := hp
              clear gt1500
              show Tn _ _ 162 T σ1498 [(3, .int (iI (w32 (v11 + 1)))), (2, .int (iI v64)), (1, .int (iI v11)), (0, .ref a)] [] _
              refine tn_goto (tgt := 375) dX7_step_162 (by decide) ?_
              refine tn_aload_n dX7_step_375 rfl 3 rfl ?_
              refine tn_getR (ci := 7) (i := 5) (n := 60) (x := xb) dX7_step_376 rfl lay_7 (by decide) fl7_15 ha rfl rfl (rc_F F1506 (Or.inl (by decide)) (by decide) (rc_o (by decide) (hxb))) ?_
              refine tn_aload_n dX7_step_379 rfl 3 rfl ?_
              refine tn_getI (ci := 7) (i := 2) (n := 57) (t := σ.2.1 57 a) dX7_step_380 rfl lay_7 (by decide) fl7_65 ha rfl rfl (rc_F F1506 (Or.inl (by decide)) (by decide) (rc_o (by decide) (rfl))) ?_
              have g1507 : ((0 : Int) ≤ σ.2.1 57 a ∧ σ.2.1 57 a ≤ 11184800) ∧ ((T a).1 = 57 → σ.2.1 57 a ≤ 8) := wf_57 hw ha
              have g1507x := g1507.2
              replace g1507 := g1507.1
              clear g1507x
              refine tn_iload_n dX7_step_383 rfl 0 rfl ?_
              refine tn_callSN (M := m_X7_step) (pc := 384) (ix := 61) (M' := m_X11_put) (As := [.ref xb, .int (iI (σ.2.1 57 a)), .int (iI (w32 (v11 + 1)))]) (rest := []) dX7_step_384 ok_X11_put stt_X11_put nl7_61 np_X11_put rfl (Nat.le_of_ble_eq_true rfl) (Nat.le_of_ble_eq_true rfl) rfl (k_X11_put_x (d + 3) (T := T) (σ := σ1498) (x := xb) (i := σ.2.1 57 a) (y := w32 (v11 + 1)) hk3i (by omega) (by omega) (by omega) w1505 (nh_k hk3 (by unfold HT; omega)) (vok_1 (by have q9 := hk3; omega) (by omega))) (fun r1508 T1510 σ1509 gt1511 hp => ?_)
              obtain ⟨rfl, rfl, w1515, F1516, f1512, f1513⟩ := hp
              clear gt1511
              have je1517 : σ1509 = jP T xb (σ.2.1 57 a) (w32 (v11 + 1)) _ := f1513
              show Tn _ _ 387 T σ1509 [(3, .int (iI (w32 (v11 + 1)))), (2, .int (iI v64)), (1, .int (iI v11)), (0, .ref a)] [] _
              refine tn_iload_n dX7_step_387 rfl 1 rfl ?_
              refine tn_bipush dX7_step_388 (by decide) ?_
              refine tn_icmp_ne (tgt := 397) dX7_step_390 (by decide) ⟨by omega, by omega⟩ ⟨by decide, by decide⟩ (fun h1518 => ?_) (fun h1518 => absurd h1518 (by omega))
              refine tn_iconst dX7_step_397 ?_
              have q1519 : σ1509.2.1 57 a = σ.2.1 57 a := rc_F F1516 (Or.inl (by decide)) (by decide) (rc_F F1506 (Or.inl (by decide)) (by decide) (rc_o (by decide) (rfl)))
              exact tn_zret (v := 0) rfl (by decide) dX7_step_398 ⟨_, rfl, rfl, w1515, (((FrC.rfl.put (by decide) (by decide)).trans (FrC.sub F1506 (by decide))).trans (FrC.sub F1516 (by decide))), by omega, (((CHX.rfl.fld (by simp) (by decide)).trans (CHX.sub f1501 (by simp) (by simp) (by simp))).trans (CHX.sub f1512 (by simp) (by simp) (by simp))), by omega, ⟨_, v64, f10, Or.inr ⟨xq13, xq54, ⟨hx12, hx55⟩, f63⟩, Or.inr ⟨by omega, Or.inl (⟨by omega, rfl, _, _, f1491, f1502, je1517⟩)⟩⟩, (((FA.rfl.put).trans f1503).trans (FA.of F1516 (by decide)))⟩
            · refine tn_tableIn (tgt := 213) (off := 145) dX7_step_68 (x := v64) ⟨by omega, by omega⟩ (by omega) (by omega) (by rw [h1292]; rfl) (by decide) ?_
              refine tn_aload_n dX7_step_213 rfl 3 rfl ?_
              refine tn_aload_n dX7_step_214 rfl 3 rfl ?_
              refine tn_iload_n dX7_step_215 rfl 2 rfl ?_
              refine tn_iconst dX7_step_216 ?_
              obtain ⟨hk1522, hl1523⟩ : AR T xe 1 1728 1728 := ar_of (wf_63 hw ha) hxe
              have hk1522i : IA T xe := by unfold IA; omega
              refine tn_callV (M := m_X7_step) (pc := 217) (ix := 110) (ci := 7) (M' := m_X7_operand) (As := [.int (iI v11), .int (iI 3)]) (rest := [.ref a]) dX7_step_217 ok_X7_operand im_X7_operand se_X7_operand ml7_110 np_X7_operand rfl rfl ha rfl (Nat.le_of_ble_eq_true rfl) (Nat.le_of_ble_eq_true rfl) rfl (k_X7_operand_j (d + 2) (T := T) (σ := (sA 67 a (w32 ((σ.2.1 67 a) + 1)) σ)) (a := a) (k := v11) (c := 3) (xe := xe) ha (by omega) (by decide) (hw.put (by decide) (by decide) (fo_67 (by omega))) (rc_o (by decide) (hxe)) (by rw [show (sA 67 a (w32 ((σ.2.1 67 a) + 1)) σ).2.1 69 a = _ from rc_o (by decide) (hx12)]; omega) (by omega)) (fun r1524 T1526 σ1525 gt1527 hp => ?_)
              obtain ⟨v1530, rfl, rfl, rfl, f1528, f1529⟩ := hp
              clear gt1527
              show Tn _ _ 220 T (sA 67 a (w32 ((σ.2.1 67 a) + 1)) σ) [(3, .int (iI (w32 (v11 + 1)))), (2, .int (iI v64)), (1, .int (iI v11)), (0, .ref a)] [.int (iI v1530), .ref a] _
              obtain ⟨hk1533, hl1534⟩ : AR T xa 15 9 9 := ar_of (wf_59 hw ha) hxa
              have hk1533i : IA T xa := by unfold IA; omega
              obtain ⟨hl1538, hk1537a, hk1537b⟩ := ex_at (wf_61 hw ha) hxc
              have hk1537 : (T xc).1 = 1 := hk1537b (by omega)
              clear hk1537a hk1537b
              have hk1537i : IA T xc := by unfold IA; omega
              obtain ⟨hk1541, hl1542⟩ : AR T xd 1 108 108 := ar_of (wf_62 hw ha) hxd
              have hk1541i : IA T xd := by unfold IA; omega
              obtain ⟨hl1546, hk1545a, hk1545b⟩ := ex_at (wf_55 hw ha) hy
              have hk1545i : (T y).1 = 4 ∨ (T y).1 = 5 := by omega
              have hk1545c : RROW T a y := ⟨hk1545a, hk1545b⟩
              clear hk1545a hk1545b
              have q1551 : (sA 67 a (w32 ((σ.2.1 67 a) + 1)) σ).2.1 57 a = σ.2.1 57 a := rc_o (by decide) (rfl)
              refine tn_callV (M := m_X7_step) (pc := 220) (ix := 123) (ci := 7) (M' := m_X7_giveBack) (As := [.int (iI v1530)]) (rest := []) dX7_step_220 ok_X7_giveBack im_X7_giveBack se_X7_giveBack ml7_123 np_X7_giveBack rfl rfl ha rfl (Nat.le_of_ble_eq_true rfl) (Nat.le_of_ble_eq_true rfl) rfl (k_X7_giveBack_j (d + 1) (T := T) (σ := (sA 67 a (w32 ((σ.2.1 67 a) + 1)) σ)) (a := a) (n := v1530) (xa := xa) (xb := xb) (xc := xc) (xd := xd) (xe := xe) (y := y) ha hta (by omega) (hw.put (by decide) (by decide) (fo_67 (by omega))) (rc_o (by decide) (hxa)) (rc_o (by decide) (hxb)) (rc_o (by decide) (hxc)) (rc_o (by decide) (hxd)) (rc_o (by decide) (hxe)) (rc_o (by decide) (hy))) (fun r1547 T1549 σ1548 gt1550 hp => ?_)
              obtain ⟨rfl, rfl, w1557, F1558, f1552, f1553, f1554, f1555⟩ := hp
              clear gt1550
              show Tn _ _ 223 T σ1548 [(3, .int (iI (w32 (v11 + 1)))), (2, .int (iI v64)), (1, .int (iI v11)), (0, .ref a)] [] _
              refine tn_iconst dX7_step_223 ?_
              have q1559 : σ1548.2.1 57 a = σ1548.2.1 57 a := rfl
              exact tn_zret (v := 0) rfl (by decide) dX7_step_224 ⟨_, rfl, rfl, w1557, ((FrC.rfl.put (by decide) (by decide)).trans (FrC.sub F1558 (by decide))), by omega, ((CHX.rfl.fld (by simp) (by decide)).trans (CHX.sub f1552 (by simp) (by simp) (by simp))), by omega, ⟨_, v64, f10, Or.inr ⟨xq13, xq54, ⟨hx12, hx55⟩, f63⟩, Or.inr ⟨by omega, Or.inr (Or.inr (Or.inr (Or.inr (Or.inl (⟨by omega, rfl, _, f1529, f1554⟩)))))⟩⟩, ((FA.rfl.put).trans f1555)⟩
            · refine tn_tableIn (tgt := 165) (off := 97) dX7_step_68 (x := v64) ⟨by omega, by omega⟩ (by omega) (by omega) (by rw [h1292]; rfl) (by decide) ?_
              refine tn_aload_n dX7_step_165 rfl 3 rfl ?_
              refine tn_getR (ci := 7) (i := 14) (n := 69) (x := xq13) dX7_step_166 rfl lay_7 (by decide) fl7_72 ha rfl rfl (rc_o (by decide) (hx12)) ?_
              refine tn_iload_n dX7_step_169 rfl 2 rfl ?_
              refine tn_bipush dX7_step_170 (by decide) ?_
              refine tn_callV (M := m_X7_step) (pc := 172) (ix := 117) (ci := 1) (M' := m_X1_get) (As := [.int (iI v11), .int (iI 12)]) (rest := []) dX7_step_172 ok_X1_get im_X1_get se_X1_get ml7_117 np_X1_get rfl rfl hk14o rfl (Nat.le_of_ble_eq_true rfl) (Nat.le_of_ble_eq_true rfl) rfl (k_X1_get_j (d + 3) (T := T) (σ := (sA 67 a (w32 ((σ.2.1 67 a) + 1)) σ)) (a := xq13) (k := v11) (c := 12) (x := xq54) hk14o (by omega) (by decide) (hw.put (by decide) (by decide) (fo_67 (by omega))) (rc_o (by decide) (hx55)) (by omega)) (fun r1560 T1562 σ1561 gt1563 hp => ?_)
              obtain ⟨v1566, rfl, rfl, rfl, f1564, f1565⟩ := hp
              clear gt1563
              show Tn _ _ 175 T (sA 67 a (w32 ((σ.2.1 67 a) + 1)) σ) [(3, .int (iI (w32 (v11 + 1)))), (2, .int (iI v64)), (1, .int (iI v11)), (0, .ref a)] [.int (iI v1566)] _
              refine tn_istore_n (L' := [(3, .int (iI v1566)), (2, .int (iI v64)), (1, .int (iI v11)), (0, .ref a)]) dX7_step_175 rfl (by decide) rfl ?_
              refine tn_goto (tgt := 375) dX7_step_176 (by decide) ?_
              refine tn_aload_n dX7_step_375 rfl 3 rfl ?_
              refine tn_getR (ci := 7) (i := 5) (n := 60) (x := xb) dX7_step_376 rfl lay_7 (by decide) fl7_15 ha rfl rfl (rc_o (by decide) (hxb)) ?_
              refine tn_aload_n dX7_step_379 rfl 3 rfl ?_
              refine tn_getI (ci := 7) (i := 2) (n := 57) (t := σ.2.1 57 a) dX7_step_380 rfl lay_7 (by decide) fl7_65 ha rfl rfl (rc_o (by decide) (rfl)) ?_
              have g1567 : ((0 : Int) ≤ σ.2.1 57 a ∧ σ.2.1 57 a ≤ 11184800) ∧ ((T a).1 = 57 → σ.2.1 57 a ≤ 8) := wf_57 hw ha
              have g1567x := g1567.2
              replace g1567 := g1567.1
              clear g1567x
              refine tn_iload_n dX7_step_383 rfl 0 rfl ?_
              refine tn_callSN (M := m_X7_step) (pc := 384) (ix := 61) (M' := m_X11_put) (As := [.ref xb, .int (iI (σ.2.1 57 a)), .int (iI v1566)]) (rest := []) dX7_step_384 ok_X11_put stt_X11_put nl7_61 np_X11_put rfl (Nat.le_of_ble_eq_true rfl) (Nat.le_of_ble_eq_true rfl) rfl (k_X11_put_x (d + 3) (T := T) (σ := (sA 67 a (w32 ((σ.2.1 67 a) + 1)) σ)) (x := xb) (i := σ.2.1 57 a) (y := v1566) hk3i (by omega) (by omega) (by omega) (hw.put (by decide) (by decide) (fo_67 (by omega))) (nh_k hk3 (by unfold HT; omega)) (vok_1 (by have q9 := hk3; omega) (by omega))) (fun r1568 T1570 σ1569 gt1571 hp => ?_)
              obtain ⟨rfl, rfl, w1575, F1576, f1572, f1573⟩ := hp
              clear gt1571
              have je1577 : σ1569 = jP T xb (σ.2.1 57 a) (v1566) _ := f1573
              show Tn _ _ 387 T σ1569 [(3, .int (iI v1566)), (2, .int (iI v64)), (1, .int (iI v11)), (0, .ref a)] [] _
              refine tn_iload_n dX7_step_387 rfl 1 rfl ?_
              refine tn_bipush dX7_step_388 (by decide) ?_
              refine tn_icmp_ne (tgt := 397) dX7_step_390 (by decide) ⟨by omega, by omega⟩ ⟨by decide, by decide⟩ (fun h1578 => ?_) (fun h1578 => absurd h1578 (by omega))
              refine tn_iconst dX7_step_397 ?_
              have q1579 : σ1569.2.1 57 a = σ.2.1 57 a := rc_F F1576 (Or.inl (by decide)) (by decide) (rc_o (by decide) (rfl))
              exact tn_zret (v := 0) rfl (by decide) dX7_step_398 ⟨_, rfl, rfl, w1575, ((FrC.rfl.put (by decide) (by decide)).trans (FrC.sub F1576 (by decide))), by omega, ((CHX.rfl.fld (by simp) (by decide)).trans (CHX.sub f1572 (by simp) (by simp) (by simp))), by omega, ⟨_, v64, f10, Or.inr ⟨xq13, xq54, ⟨hx12, hx55⟩, f63⟩, Or.inr ⟨by omega, Or.inr (Or.inl (⟨by omega, rfl, xq13, xq54, ⟨hx12, hx55⟩, by rw [← f1565]; exact je1577⟩))⟩⟩, ((FA.rfl.put).trans (FA.of F1576 (by decide)))⟩
            · refine tn_tableIn (tgt := 179) (off := 111) dX7_step_68 (x := v64) ⟨by omega, by omega⟩ (by omega) (by omega) (by rw [h1292]; rfl) (by decide) ?_
              refine tn_aload_n dX7_step_179 rfl 3 rfl ?_
              refine tn_iload_n dX7_step_180 rfl 2 rfl ?_
              refine tn_iconst dX7_step_181 ?_
              obtain ⟨hk1582, hl1583⟩ : AR T xe 1 1728 1728 := ar_of (wf_63 hw ha) hxe
              have hk1582i : IA T xe := by unfold IA; omega
              refine tn_callV (M := m_X7_step) (pc := 182) (ix := 110) (ci := 7) (M' := m_X7_operand) (As := [.int (iI v11), .int (iI 3)]) (rest := []) dX7_step_182 ok_X7_operand im_X7_operand se_X7_operand ml7_110 np_X7_operand rfl rfl ha rfl (Nat.le_of_ble_eq_true rfl) (Nat.le_of_ble_eq_true rfl) rfl (k_X7_operand_j (d + 2) (T := T) (σ := (sA 67 a (w32 ((σ.2.1 67 a) + 1)) σ)) (a := a) (k := v11) (c := 3) (xe := xe) ha (by omega) (by decide) (hw.put (by decide) (by decide) (fo_67 (by omega))) (rc_o (by decide) (hxe)) (by rw [show (sA 67 a (w32 ((σ.2.1 67 a) + 1)) σ).2.1 69 a = _ from rc_o (by decide) (hx12)]; omega) (by omega)) (fun r1584 T1586 σ1585 gt1587 hp => ?_)
              obtain ⟨v1590, rfl, rfl, rfl, f1588, f1589⟩ := hp
              clear gt1587
              show Tn _ _ 185 T (sA 67 a (w32 ((σ.2.1 67 a) + 1)) σ) [(3, .int (iI (w32 (v11 + 1)))), (2, .int (iI v64)), (1, .int (iI v11)), (0, .ref a)] [.int (iI v1590)] _
              refine tn_if_ne (tgt := 201) dX7_step_185 (by decide) ⟨by omega, by omega⟩ (fun h1591 => ?_) (fun h1591 => ?_)
              · refine tn_iload_n dX7_step_201 rfl 0 rfl ?_
                refine tn_istore_n (L' := [(3, .int (iI (w32 (v11 + 1)))), (2, .int (iI v64)), (1, .int (iI v11)), (0, .ref a)]) dX7_step_202 rfl (by decide) rfl ?_
                refine tn_goto (tgt := 375) dX7_step_203 (by decide) ?_
                refine tn_aload_n dX7_step_375 rfl 3 rfl ?_
                refine tn_getR (ci := 7) (i := 5) (n := 60) (x := xb) dX7_step_376 rfl lay_7 (by decide) fl7_15 ha rfl rfl (rc_o (by decide) (hxb)) ?_
                refine tn_aload_n dX7_step_379 rfl 3 rfl ?_
                refine tn_getI (ci := 7) (i := 2) (n := 57) (t := σ.2.1 57 a) dX7_step_380 rfl lay_7 (by decide) fl7_65 ha rfl rfl (rc_o (by decide) (rfl)) ?_
                have g1592 : ((0 : Int) ≤ σ.2.1 57 a ∧ σ.2.1 57 a ≤ 11184800) ∧ ((T a).1 = 57 → σ.2.1 57 a ≤ 8) := wf_57 hw ha
                have g1592x := g1592.2
                replace g1592 := g1592.1
                clear g1592x
                refine tn_iload_n dX7_step_383 rfl 0 rfl ?_
                refine tn_callSN (M := m_X7_step) (pc := 384) (ix := 61) (M' := m_X11_put) (As := [.ref xb, .int (iI (σ.2.1 57 a)), .int (iI (w32 (v11 + 1)))]) (rest := []) dX7_step_384 ok_X11_put stt_X11_put nl7_61 np_X11_put rfl (Nat.le_of_ble_eq_true rfl) (Nat.le_of_ble_eq_true rfl) rfl (k_X11_put_x (d + 3) (T := T) (σ := (sA 67 a (w32 ((σ.2.1 67 a) + 1)) σ)) (x := xb) (i := σ.2.1 57 a) (y := w32 (v11 + 1)) hk3i (by omega) (by omega) (by omega) (hw.put (by decide) (by decide) (fo_67 (by omega))) (nh_k hk3 (by unfold HT; omega)) (vok_1 (by have q9 := hk3; omega) (by omega))) (fun r1593 T1595 σ1594 gt1596 hp => ?_)
                obtain ⟨rfl, rfl, w1600, F1601, f1597, f1598⟩ := hp
                clear gt1596
                have je1602 : σ1594 = jP T xb (σ.2.1 57 a) (w32 (v11 + 1)) _ := f1598
                show Tn _ _ 387 T σ1594 [(3, .int (iI (w32 (v11 + 1)))), (2, .int (iI v64)), (1, .int (iI v11)), (0, .ref a)] [] _
                refine tn_iload_n dX7_step_387 rfl 1 rfl ?_
                refine tn_bipush dX7_step_388 (by decide) ?_
                refine tn_icmp_ne (tgt := 397) dX7_step_390 (by decide) ⟨by omega, by omega⟩ ⟨by decide, by decide⟩ (fun h1603 => ?_) (fun h1603 => absurd h1603 (by omega))
                refine tn_iconst dX7_step_397 ?_
                have q1604 : σ1594.2.1 57 a = σ.2.1 57 a := rc_F F1601 (Or.inl (by decide)) (by decide) (rc_o (by decide) (rfl))
                exact tn_zret (v := 0) rfl (by decide) dX7_step_398 ⟨_, rfl, rfl, w1600, ((FrC.rfl.put (by decide) (by decide)).trans (FrC.sub F1601 (by decide))), by omega, ((CHX.rfl.fld (by simp) (by decide)).trans (CHX.sub f1597 (by simp) (by simp) (by simp))), by omega, ⟨_, v64, f10, Or.inr ⟨xq13, xq54, ⟨hx12, hx55⟩, f63⟩, Or.inr ⟨by omega, Or.inr (Or.inr (Or.inl (⟨by omega, rfl, _, f1589, Or.inr ⟨by omega, je1602⟩⟩)))⟩⟩, ((FA.rfl.put).trans (FA.of F1601 (by decide)))⟩
              · refine tn_aload_n dX7_step_188 rfl 3 rfl ?_
                refine tn_getR (ci := 7) (i := 14) (n := 69) (x := xq13) dX7_step_189 rfl lay_7 (by decide) fl7_72 ha rfl rfl (rc_o (by decide) (hx12)) ?_
                refine tn_iload_n dX7_step_192 rfl 2 rfl ?_
                refine tn_bipush dX7_step_193 (by decide) ?_
                refine tn_callV (M := m_X7_step) (pc := 195) (ix := 117) (ci := 1) (M' := m_X1_get) (As := [.int (iI v11), .int (iI 12)]) (rest := []) dX7_step_195 ok_X1_get im_X1_get se_X1_get ml7_117 np_X1_get rfl rfl hk14o rfl (Nat.le_of_ble_eq_true rfl) (Nat.le_of_ble_eq_true rfl) rfl (k_X1_get_j (d + 3) (T := T) (σ := (sA 67 a (w32 ((σ.2.1 67 a) + 1)) σ)) (a := xq13) (k := v11) (c := 12) (x := xq54) hk14o (by omega) (by decide) (hw.put (by decide) (by decide) (fo_67 (by omega))) (rc_o (by decide) (hx55)) (by omega)) (fun r1605 T1607 σ1606 gt1608 hp => ?_)
                obtain ⟨v1611, rfl, rfl, rfl, f1609, f1610⟩ := hp
                clear gt1608
                show Tn _ _ 198 T (sA 67 a (w32 ((σ.2.1 67 a) + 1)) σ) [(3, .int (iI (w32 (v11 + 1)))), (2, .int (iI v64)), (1, .int (iI v11)), (0, .ref a)] [.int (iI v1611)] _
                refine tn_goto (tgt := 202) dX7_step_198 (by decide) ?_
                refine tn_istore_n (L' := [(3, .int (iI v1611)), (2, .int (iI v64)), (1, .int (iI v11)), (0, .ref a)]) dX7_step_202 rfl (by decide) rfl ?_
                refine tn_goto (tgt := 375) dX7_step_203 (by decide) ?_
                refine tn_aload_n dX7_step_375 rfl 3 rfl ?_
                refine tn_getR (ci := 7) (i := 5) (n := 60) (x := xb) dX7_step_376 rfl lay_7 (by decide) fl7_15 ha rfl rfl (rc_o (by decide) (hxb)) ?_
                refine tn_aload_n dX7_step_379 rfl 3 rfl ?_
                refine tn_getI (ci := 7) (i := 2) (n := 57) (t := σ.2.1 57 a) dX7_step_380 rfl lay_7 (by decide) fl7_65 ha rfl rfl (rc_o (by decide) (rfl)) ?_
                have g1612 : ((0 : Int) ≤ σ.2.1 57 a ∧ σ.2.1 57 a ≤ 11184800) ∧ ((T a).1 = 57 → σ.2.1 57 a ≤ 8) := wf_57 hw ha
                have g1612x := g1612.2
                replace g1612 := g1612.1
                clear g1612x
                refine tn_iload_n dX7_step_383 rfl 0 rfl ?_
                refine tn_callSN (M := m_X7_step) (pc := 384) (ix := 61) (M' := m_X11_put) (As := [.ref xb, .int (iI (σ.2.1 57 a)), .int (iI v1611)]) (rest := []) dX7_step_384 ok_X11_put stt_X11_put nl7_61 np_X11_put rfl (Nat.le_of_ble_eq_true rfl) (Nat.le_of_ble_eq_true rfl) rfl (k_X11_put_x (d + 3) (T := T) (σ := (sA 67 a (w32 ((σ.2.1 67 a) + 1)) σ)) (x := xb) (i := σ.2.1 57 a) (y := v1611) hk3i (by omega) (by omega) (by omega) (hw.put (by decide) (by decide) (fo_67 (by omega))) (nh_k hk3 (by unfold HT; omega)) (vok_1 (by have q9 := hk3; omega) (by omega))) (fun r1613 T1615 σ1614 gt1616 hp => ?_)
                obtain ⟨rfl, rfl, w1620, F1621, f1617, f1618⟩ := hp
                clear gt1616
                have je1622 : σ1614 = jP T xb (σ.2.1 57 a) (v1611) _ := f1618
                show Tn _ _ 387 T σ1614 [(3, .int (iI v1611)), (2, .int (iI v64)), (1, .int (iI v11)), (0, .ref a)] [] _
                refine tn_iload_n dX7_step_387 rfl 1 rfl ?_
                refine tn_bipush dX7_step_388 (by decide) ?_
                refine tn_icmp_ne (tgt := 397) dX7_step_390 (by decide) ⟨by omega, by omega⟩ ⟨by decide, by decide⟩ (fun h1623 => ?_) (fun h1623 => absurd h1623 (by omega))
                refine tn_iconst dX7_step_397 ?_
                have q1624 : σ1614.2.1 57 a = σ.2.1 57 a := rc_F F1621 (Or.inl (by decide)) (by decide) (rc_o (by decide) (rfl))
                exact tn_zret (v := 0) rfl (by decide) dX7_step_398 ⟨_, rfl, rfl, w1620, ((FrC.rfl.put (by decide) (by decide)).trans (FrC.sub F1621 (by decide))), by omega, ((CHX.rfl.fld (by simp) (by decide)).trans (CHX.sub f1617 (by simp) (by simp) (by simp))), by omega, ⟨_, v64, f10, Or.inr ⟨xq13, xq54, ⟨hx12, hx55⟩, f63⟩, Or.inr ⟨by omega, Or.inr (Or.inr (Or.inl (⟨by omega, rfl, _, f1589, Or.inl ⟨by omega, xq13, xq54, ⟨hx12, hx55⟩, by rw [← f1610]; exact je1622⟩⟩)))⟩⟩, ((FA.rfl.put).trans (FA.of F1621 (by decide)))⟩
            · refine tn_tableIn (tgt := 206) (off := 138) dX7_step_68 (x := v64) ⟨by omega, by omega⟩ (by omega) (by omega) (by rw [h1292]; rfl) (by decide) ?_
              refine tn_aload_n dX7_step_206 rfl 3 rfl ?_
              refine tn_iload_n dX7_step_207 rfl 2 rfl ?_
              obtain ⟨hk1627, hl1628⟩ : AR T xa 15 9 9 := ar_of (wf_59 hw ha) hxa
              have hk1627i : IA T xa := by unfold IA; omega
              obtain ⟨hl1632, hk1631a, hk1631b⟩ := ex_at (wf_61 hw ha) hxc
              have hk1631 : (T xc).1 = 1 := hk1631b (by omega)
              clear hk1631a hk1631b
              have hk1631i : IA T xc := by unfold IA; omega
              obtain ⟨hk1635, hl1636⟩ : AR T xd 1 108 108 := ar_of (wf_62 hw ha) hxd
              have hk1635i : IA T xd := by unfold IA; omega
              obtain ⟨hk1639, hl1640⟩ : AR T xe 1 1728 1728 := ar_of (wf_63 hw ha) hxe
              have hk1639i : IA T xe := by unfold IA; omega
              obtain ⟨hl1644, hk1643a, hk1643b⟩ := ex_at (wf_55 hw ha) hy
              have hk1643i : (T y).1 = 4 ∨ (T y).1 = 5 := by omega
              have hk1643c : RROW T a y := ⟨hk1643a, hk1643b⟩
              clear hk1643a hk1643b
              have q1649 : (sA 67 a (w32 ((σ.2.1 67 a) + 1)) σ).2.1 57 a = σ.2.1 57 a := rc_o (by decide) (rfl)
              refine tn_callV (M := m_X7_step) (pc := 208) (ix := 120) (ci := 7) (M' := m_X7_callFrom) (As := [.int (iI v11)]) (rest := []) dX7_step_208 ok_X7_callFrom im_X7_callFrom se_X7_callFrom ml7_120 np_X7_callFrom rfl rfl ha rfl (Nat.le_of_ble_eq_true rfl) (Nat.le_of_ble_eq_true rfl) rfl (k_X7_callFrom_j (d) (T := T) (σ := (sA 67 a (w32 ((σ.2.1 67 a) + 1)) σ)) (a := a) (k := v11) (xa := xa) (xb := xb) (xc := xc) (xd := xd) (xe := xe) (y := y) ha hta (by omega) (hw.put (by decide) (by decide) (fo_67 (by omega))) (rc_o (by decide) (hxa)) (rc_o (by decide) (hxb)) (rc_o (by decide) (hxc)) (rc_o (by decide) (hxd)) (rc_o (by decide) (hxe)) (rc_o (by decide) (hy)) (by rw [show (sA 67 a (w32 ((σ.2.1 67 a) + 1)) σ).2.1 69 a = _ from rc_o (by decide) (hx12)]; omega) (by rw [show (sA 67 a (w32 ((σ.2.1 67 a) + 1)) σ).2.1 57 a = σ.2.1 57 a from rc_o (by decide) (rfl)]; omega)) (fun r1645 T1647 σ1646 gt1648 hp => ?_)
              obtain ⟨rfl, rfl, w1655, F1656, f1650, f1651, f1652, f1653⟩ := hp
              clear gt1648
              show Tn _ _ 211 T σ1646 [(3, .int (iI (w32 (v11 + 1)))), (2, .int (iI v64)), (1, .int (iI v11)), (0, .ref a)] [] _
              refine tn_iconst dX7_step_211 ?_
              have q1657 : σ1646.2.1 57 a = σ1646.2.1 57 a := rfl
              exact tn_zret (v := 0) rfl (by decide) dX7_step_212 ⟨_, rfl, rfl, w1655, ((FrC.rfl.put (by decide) (by decide)).trans (FrC.sub F1656 (by decide))), by omega, ((CHX.rfl.fld (by simp) (by decide)).trans (CHX.sub f1650 (by simp) (by simp) (by simp))), by omega, ⟨_, v64, f10, Or.inr ⟨xq13, xq54, ⟨hx12, hx55⟩, f63⟩, Or.inr ⟨by omega, Or.inr (Or.inr (Or.inr (Or.inl (⟨by omega, rfl, f1652⟩))))⟩⟩, ((FA.rfl.put).trans f1653)⟩
            · refine tn_tableIn (tgt := 225) (off := 157) dX7_step_68 (x := v64) ⟨by omega, by omega⟩ (by omega) (by omega) (by rw [h1292]; rfl) (by decide) ?_
              refine tn_aload_n dX7_step_225 rfl 3 rfl ?_
              obtain ⟨hk1660, hl1661⟩ : AR T xd 1 108 108 := ar_of (wf_62 hw ha) hxd
              have hk1660i : IA T xd := by unfold IA; omega
              refine tn_getR (ci := 7) (i := 7) (n := 62) (x := xd) dX7_step_226 rfl lay_7 (by decide) fl7_21 ha rfl rfl (rc_o (by decide) (hxd)) ?_
              refine tn_aload_n dX7_step_229 rfl 3 rfl ?_
              refine tn_getI (ci := 7) (i := 2) (n := 57) (t := σ.2.1 57 a) dX7_step_230 rfl lay_7 (by decide) fl7_65 ha rfl rfl (rc_o (by decide) (rfl)) ?_
              have g1662 : ((0 : Int) ≤ σ.2.1 57 a ∧ σ.2.1 57 a ≤ 11184800) ∧ ((T a).1 = 57 → σ.2.1 57 a ≤ 8) := wf_57 hw ha
              have g1662x := g1662.2
              replace g1662 := g1662.1
              clear g1662x
              refine tn_bipush dX7_step_233 (by decide) ?_
              refine tn_imul dX7_step_235 ?_
              refine tn_aload_n dX7_step_236 rfl 3 rfl ?_
              refine tn_getR (ci := 7) (i := 14) (n := 69) (x := xq13) dX7_step_237 rfl lay_7 (by decide) fl7_72 ha rfl rfl (rc_o (by decide) (hx12)) ?_
              refine tn_iload_n dX7_step_240 rfl 2 rfl ?_
              refine tn_iconst dX7_step_241 ?_
              refine tn_callV (M := m_X7_step) (pc := 242) (ix := 117) (ci := 1) (M' := m_X1_get) (As := [.int (iI v11), .int (iI 2)]) (rest := [.int (iI ((σ.2.1 57 a) * 12)), .ref xd]) dX7_step_242 ok_X1_get im_X1_get se_X1_get ml7_117 np_X1_get rfl rfl hk14o rfl (Nat.le_of_ble_eq_true rfl) (Nat.le_of_ble_eq_true rfl) rfl (k_X1_get_j (d + 3) (T := T) (σ := (sA 67 a (w32 ((σ.2.1 67 a) + 1)) σ)) (a := xq13) (k := v11) (c := 2) (x := xq54) hk14o (by omega) (by decide) (hw.put (by decide) (by decide) (fo_67 (by omega))) (rc_o (by decide) (hx55)) (by omega)) (fun r1663 T1665 σ1664 gt1666 hp => ?_)
              obtain ⟨v1669, rfl, rfl, rfl, f1667, f1668⟩ := hp
              clear gt1666
              show Tn _ _ 245 T (sA 67 a (w32 ((σ.2.1 67 a) + 1)) σ) [(3, .int (iI (w32 (v11 + 1)))), (2, .int (iI v64)), (1, .int (iI v11)), (0, .ref a)] [.int (iI v1669), .int (iI ((σ.2.1 57 a) * 12)), .ref xd] _
              refine tn_iadd dX7_step_245 ?_
              rw [show iI (((σ.2.1 57 a) * 12) + v1669) = iI (w32 (((σ.2.1 57 a) * 12) + v1669)) from (iI_self _).symm]
              have g1670r : -2147483648 ≤ w32 (((σ.2.1 57 a) * 12) + v1669) ∧ w32 (((σ.2.1 57 a) * 12) + v1669) ≤ 2147483647 := inR_toInt _
              refine tn_aload_n dX7_step_246 rfl 3 rfl ?_
              refine tn_getR (ci := 7) (i := 14) (n := 69) (x := xq13) dX7_step_247 rfl lay_7 (by decide) fl7_72 ha rfl rfl (rc_o (by decide) (hx12)) ?_
              refine tn_iload_n dX7_step_250 rfl 2 rfl ?_
              refine tn_iconst dX7_step_251 ?_
              refine tn_callV (M := m_X7_step) (pc := 252) (ix := 117) (ci := 1) (M' := m_X1_get) (As := [.int (iI v11), .int (iI 1)]) (rest := [.int (iI (w32 (((σ.2.1 57 a) * 12) + v1669))), .ref xd]) dX7_step_252 ok_X1_get im_X1_get se_X1_get ml7_117 np_X1_get rfl rfl hk14o rfl (Nat.le_of_ble_eq_true rfl) (Nat.le_of_ble_eq_true rfl) rfl (k_X1_get_j (d + 3) (T := T) (σ := (sA 67 a (w32 ((σ.2.1 67 a) + 1)) σ)) (a := xq13) (k := v11) (c := 1) (x := xq54) hk14o (by omega) (by decide) (hw.put (by decide) (by decide) (fo_67 (by omega))) (rc_o (by decide) (hx55)) (by omega)) (fun r1671 T1673 σ1672 gt1674 hp => ?_)
              obtain ⟨v1677, rfl, rfl, rfl, f1675, f1676⟩ := hp
              clear gt1674
              show Tn _ _ 255 T (sA 67 a (w32 ((σ.2.1 67 a) + 1)) σ) [(3, .int (iI (w32 (v11 + 1)))), (2, .int (iI v64)), (1, .int (iI v11)), (0, .ref a)] [.int (iI v1677), .int (iI (w32 (((σ.2.1 57 a) * 12) + v1669))), .ref xd] _
              refine tn_callSN (M := m_X7_step) (pc := 255) (ix := 61) (M' := m_X11_put) (As := [.ref xd, .int (iI (w32 (((σ.2.1 57 a) * 12) + v1669))), .int (iI v1677)]) (rest := []) dX7_step_255 ok_X11_put stt_X11_put nl7_61 np_X11_put rfl (Nat.le_of_ble_eq_true rfl) (Nat.le_of_ble_eq_true rfl) rfl (k_X11_put_x (d + 3) (T := T) (σ := (sA 67 a (w32 ((σ.2.1 67 a) + 1)) σ)) (x := xd) (i := w32 (((σ.2.1 57 a) * 12) + v1669)) (y := v1677) hk1660i (by omega) (by omega) (by omega) (hw.put (by decide) (by decide) (fo_67 (by omega))) (nh_k hk1660 (by unfold HT; omega)) (vok_1 (by have q9 := hk1660; omega) (by omega))) (fun r1678 T1680 σ1679 gt1681 hp => ?_)
              obtain ⟨rfl, rfl, w1685, F1686, f1682, f1683⟩ := hp
              clear gt1681
              have je1687 : σ1679 = jP T xd (w32 (((σ.2.1 57 a) * 12) + v1669)) (v1677) _ := f1683
              show Tn _ _ 258 T σ1679 [(3, .int (iI (w32 (v11 + 1)))), (2, .int (iI v64)), (1, .int (iI v11)), (0, .ref a)] [] _
              refine tn_goto (tgt := 375) dX7_step_258 (by decide) ?_
              refine tn_aload_n dX7_step_375 rfl 3 rfl ?_
              refine tn_getR (ci := 7) (i := 5) (n := 60) (x := xb) dX7_step_376 rfl lay_7 (by decide) fl7_15 ha rfl rfl (rc_F F1686 (Or.inl (by decide)) (by decide) (rc_o (by decide) (hxb))) ?_
              refine tn_aload_n dX7_step_379 rfl 3 rfl ?_
              refine tn_getI (ci := 7) (i := 2) (n := 57) (t := σ.2.1 57 a) dX7_step_380 rfl lay_7 (by decide) fl7_65 ha rfl rfl (rc_F F1686 (Or.inl (by decide)) (by decide) (rc_o (by decide) (rfl))) ?_
              refine tn_iload_n dX7_step_383 rfl 0 rfl ?_
              refine tn_callSN (M := m_X7_step) (pc := 384) (ix := 61) (M' := m_X11_put) (As := [.ref xb, .int (iI (σ.2.1 57 a)), .int (iI (w32 (v11 + 1)))]) (rest := []) dX7_step_384 ok_X11_put stt_X11_put nl7_61 np_X11_put rfl (Nat.le_of_ble_eq_true rfl) (Nat.le_of_ble_eq_true rfl) rfl (k_X11_put_x (d + 3) (T := T) (σ := σ1679) (x := xb) (i := σ.2.1 57 a) (y := w32 (v11 + 1)) hk3i (by omega) (by omega) (by omega) w1685 (nh_k hk3 (by unfold HT; omega)) (vok_1 (by have q9 := hk3; omega) (by omega))) (fun r1688 T1690 σ1689 gt1691 hp => ?_)
              obtain ⟨rfl, rfl, w1695, F1696, f1692, f1693⟩ := hp
              clear gt1691
              have je1697 : σ1689 = jP T xb (σ.2.1 57 a) (w32 (v11 + 1)) _ := f1693
              show Tn _ _ 387 T σ1689 [(3, .int (iI (w32 (v11 + 1)))), (2, .int (iI v64)), (1, .int (iI v11)), (0, .ref a)] [] _
              refine tn_iload_n dX7_step_387 rfl 1 rfl ?_
              refine tn_bipush dX7_step_388 (by decide) ?_
              refine tn_icmp_ne (tgt := 397) dX7_step_390 (by decide) ⟨by omega, by omega⟩ ⟨by decide, by decide⟩ (fun h1698 => absurd h1698 (by omega)) (fun h1698 => ?_)
              refine tn_iconst dX7_step_393 ?_
              refine tn_goto (tgt := 398) dX7_step_394 (by decide) ?_
              have q1699 : σ1689.2.1 57 a = σ.2.1 57 a := rc_F F1696 (Or.inl (by decide)) (by decide) (rc_F F1686 (Or.inl (by decide)) (by decide) (rc_o (by decide) (rfl)))
              exact tn_zret (v := 1) rfl (by decide) dX7_step_398 ⟨_, rfl, rfl, w1695, (((FrC.rfl.put (by decide) (by decide)).trans (FrC.sub F1686 (by decide))).trans (FrC.sub F1696 (by decide))), by omega, (((CHX.rfl.fld (by simp) (by decide)).trans (CHX.sub f1682 (by simp) (by simp) (by simp))).trans (CHX.sub f1692 (by simp) (by simp) (by simp))), by omega, ⟨_, v64, f10, Or.inr ⟨xq13, xq54, ⟨hx12, hx55⟩, f63⟩, Or.inr ⟨by omega, Or.inr (Or.inr (Or.inr (Or.inr (Or.inr (Or.inl (⟨by omega, rfl, xq13, xq54, σ1679, ⟨hx12, hx55⟩, by rw [← f1668, ← f1676]; exact je1687, je1697⟩))))))⟩⟩, (((FA.rfl.put).trans (FA.of F1686 (by decide))).trans (FA.of F1696 (by decide)))⟩
            · refine tn_tableIn (tgt := 369) (off := 301) dX7_step_68 (x := v64) ⟨by omega, by omega⟩ (by omega) (by omega) (by rw [h1292]; rfl) (by decide) ?_
              refine tn_aload_n dX7_step_369 rfl 3 rfl ?_
              refine tn_iload_n dX7_step_370 rfl 2 rfl ?_
              refine tn_iload_n dX7_step_371 rfl 1 rfl ?_
              obtain ⟨hk1702, hl1703⟩ : AR T xe 1 1728 1728 := ar_of (wf_63 hw ha) hxe
              have hk1702i : IA T xe := by unfold IA; omega
              refine tn_callV (M := m_X7_step) (pc := 372) (ix := 129) (ci := 7) (M' := m_X7_reckonAt) (As := [.int (iI v11), .int (iI v64)]) (rest := []) dX7_step_372 ok_X7_reckonAt im_X7_reckonAt se_X7_reckonAt ml7_129 np_X7_reckonAt rfl rfl ha rfl (Nat.le_of_ble_eq_true rfl) (Nat.le_of_ble_eq_true rfl) rfl (k_X7_reckonAt_j (d + 1) (T := T) (σ := (sA 67 a (w32 ((σ.2.1 67 a) + 1)) σ)) (a := a) (k := v11) (e := v64) (xe := xe) ha (by omega) (by omega) (hw.put (by decide) (by decide) (fo_67 (by omega))) (rc_o (by decide) (hxe)) (by rw [show (sA 67 a (w32 ((σ.2.1 67 a) + 1)) σ).2.1 69 a = _ from rc_o (by decide) (hx12)]; omega)) (fun r1704 T1706 σ1705 gt1707 hp => ?_)
              obtain ⟨rfl, rfl, w1711, F1712, f1708, f1709⟩ := hp
              clear gt1707
              show Tn _ _ 375 T σ1705 [(3, .int (iI (w32 (v11 + 1)))), (2, .int (iI v64)), (1, .int (iI v11)), (0, .ref a)] [] _
              refine tn_aload_n dX7_step_375 rfl 3 rfl ?_
              refine tn_getR (ci := 7) (i := 5) (n := 60) (x := xb) dX7_step_376 rfl lay_7 (by decide) fl7_15 ha rfl rfl (rc_F F1712 (Or.inl (by decide)) (by decide) (rc_o (by decide) (hxb))) ?_
              refine tn_aload_n dX7_step_379 rfl 3 rfl ?_
              refine tn_getI (ci := 7) (i := 2) (n := 57) (t := σ.2.1 57 a) dX7_step_380 rfl lay_7 (by decide) fl7_65 ha rfl rfl (rc_F F1712 (Or.inl (by decide)) (by decide) (rc_o (by decide) (rfl))) ?_
              have g1713 : ((0 : Int) ≤ σ.2.1 57 a ∧ σ.2.1 57 a ≤ 11184800) ∧ ((T a).1 = 57 → σ.2.1 57 a ≤ 8) := wf_57 hw ha
              have g1713x := g1713.2
              replace g1713 := g1713.1
              clear g1713x
              refine tn_iload_n dX7_step_383 rfl 0 rfl ?_
              refine tn_callSN (M := m_X7_step) (pc := 384) (ix := 61) (M' := m_X11_put) (As := [.ref xb, .int (iI (σ.2.1 57 a)), .int (iI (w32 (v11 + 1)))]) (rest := []) dX7_step_384 ok_X11_put stt_X11_put nl7_61 np_X11_put rfl (Nat.le_of_ble_eq_true rfl) (Nat.le_of_ble_eq_true rfl) rfl (k_X11_put_x (d + 3) (T := T) (σ := σ1705) (x := xb) (i := σ.2.1 57 a) (y := w32 (v11 + 1)) hk3i (by omega) (by omega) (by omega) w1711 (nh_k hk3 (by unfold HT; omega)) (vok_1 (by have q9 := hk3; omega) (by omega))) (fun r1714 T1716 σ1715 gt1717 hp => ?_)
              obtain ⟨rfl, rfl, w1721, F1722, f1718, f1719⟩ := hp
              clear gt1717
              have je1723 : σ1715 = jP T xb (σ.2.1 57 a) (w32 (v11 + 1)) _ := f1719
              show Tn _ _ 387 T σ1715 [(3, .int (iI (w32 (v11 + 1)))), (2, .int (iI v64)), (1, .int (iI v11)), (0, .ref a)] [] _
              refine tn_iload_n dX7_step_387 rfl 1 rfl ?_
              refine tn_bipush dX7_step_388 (by decide) ?_
              refine tn_icmp_ne (tgt := 397) dX7_step_390 (by decide) ⟨by omega, by omega⟩ ⟨by decide, by decide⟩ (fun h1724 => ?_) (fun h1724 => absurd h1724 (by omega))
              refine tn_iconst dX7_step_397 ?_
              have q1725 : σ1715.2.1 57 a = σ.2.1 57 a := rc_F F1722 (Or.inl (by decide)) (by decide) (rc_F F1712 (Or.inl (by decide)) (by decide) (rc_o (by decide) (rfl)))
              exact tn_zret (v := 0) rfl (by decide) dX7_step_398 ⟨_, rfl, rfl, w1721, (((FrC.rfl.put (by decide) (by decide)).trans (FrC.sub F1712 (by decide))).trans (FrC.sub F1722 (by decide))), by omega, (((CHX.rfl.fld (by simp) (by decide)).trans (CHX.sub f1708 (by simp) (by simp) (by simp))).trans (CHX.sub f1718 (by simp) (by simp) (by simp))), by omega, ⟨_, v64, f10, Or.inr ⟨xq13, xq54, ⟨hx12, hx55⟩, f63⟩, Or.inr ⟨by omega, Or.inr (Or.inr (Or.inr (Or.inr (Or.inr (Or.inr (Or.inr (Or.inr (Or.inr ((⟨by omega, rfl, _, f1709, je1723⟩))))))))))⟩⟩, (((FA.rfl.put).trans (FA.of F1712 (by decide))).trans (FA.of F1722 (by decide)))⟩
            · refine tn_tableIn (tgt := 369) (off := 301) dX7_step_68 (x := v64) ⟨by omega, by omega⟩ (by omega) (by omega) (by rw [h1292]; rfl) (by decide) ?_
              refine tn_aload_n dX7_step_369 rfl 3 rfl ?_
              refine tn_iload_n dX7_step_370 rfl 2 rfl ?_
              refine tn_iload_n dX7_step_371 rfl 1 rfl ?_
              obtain ⟨hk1728, hl1729⟩ : AR T xe 1 1728 1728 := ar_of (wf_63 hw ha) hxe
              have hk1728i : IA T xe := by unfold IA; omega
              refine tn_callV (M := m_X7_step) (pc := 372) (ix := 129) (ci := 7) (M' := m_X7_reckonAt) (As := [.int (iI v11), .int (iI v64)]) (rest := []) dX7_step_372 ok_X7_reckonAt im_X7_reckonAt se_X7_reckonAt ml7_129 np_X7_reckonAt rfl rfl ha rfl (Nat.le_of_ble_eq_true rfl) (Nat.le_of_ble_eq_true rfl) rfl (k_X7_reckonAt_j (d + 1) (T := T) (σ := (sA 67 a (w32 ((σ.2.1 67 a) + 1)) σ)) (a := a) (k := v11) (e := v64) (xe := xe) ha (by omega) (by omega) (hw.put (by decide) (by decide) (fo_67 (by omega))) (rc_o (by decide) (hxe)) (by rw [show (sA 67 a (w32 ((σ.2.1 67 a) + 1)) σ).2.1 69 a = _ from rc_o (by decide) (hx12)]; omega)) (fun r1730 T1732 σ1731 gt1733 hp => ?_)
              obtain ⟨rfl, rfl, w1737, F1738, f1734, f1735⟩ := hp
              clear gt1733
              show Tn _ _ 375 T σ1731 [(3, .int (iI (w32 (v11 + 1)))), (2, .int (iI v64)), (1, .int (iI v11)), (0, .ref a)] [] _
              refine tn_aload_n dX7_step_375 rfl 3 rfl ?_
              refine tn_getR (ci := 7) (i := 5) (n := 60) (x := xb) dX7_step_376 rfl lay_7 (by decide) fl7_15 ha rfl rfl (rc_F F1738 (Or.inl (by decide)) (by decide) (rc_o (by decide) (hxb))) ?_
              refine tn_aload_n dX7_step_379 rfl 3 rfl ?_
              refine tn_getI (ci := 7) (i := 2) (n := 57) (t := σ.2.1 57 a) dX7_step_380 rfl lay_7 (by decide) fl7_65 ha rfl rfl (rc_F F1738 (Or.inl (by decide)) (by decide) (rc_o (by decide) (rfl))) ?_
              have g1739 : ((0 : Int) ≤ σ.2.1 57 a ∧ σ.2.1 57 a ≤ 11184800) ∧ ((T a).1 = 57 → σ.2.1 57 a ≤ 8) := wf_57 hw ha
              have g1739x := g1739.2
              replace g1739 := g1739.1
              clear g1739x
              refine tn_iload_n dX7_step_383 rfl 0 rfl ?_
              refine tn_callSN (M := m_X7_step) (pc := 384) (ix := 61) (M' := m_X11_put) (As := [.ref xb, .int (iI (σ.2.1 57 a)), .int (iI (w32 (v11 + 1)))]) (rest := []) dX7_step_384 ok_X11_put stt_X11_put nl7_61 np_X11_put rfl (Nat.le_of_ble_eq_true rfl) (Nat.le_of_ble_eq_true rfl) rfl (k_X11_put_x (d + 3) (T := T) (σ := σ1731) (x := xb) (i := σ.2.1 57 a) (y := w32 (v11 + 1)) hk3i (by omega) (by omega) (by omega) w1737 (nh_k hk3 (by unfold HT; omega)) (vok_1 (by have q9 := hk3; omega) (by omega))) (fun r1740 T1742 σ1741 gt1743 hp => ?_)
              obtain ⟨rfl, rfl, w1747, F1748, f1744, f1745⟩ := hp
              clear gt1743
              have je1749 : σ1741 = jP T xb (σ.2.1 57 a) (w32 (v11 + 1)) _ := f1745
              show Tn _ _ 387 T σ1741 [(3, .int (iI (w32 (v11 + 1)))), (2, .int (iI v64)), (1, .int (iI v11)), (0, .ref a)] [] _
              refine tn_iload_n dX7_step_387 rfl 1 rfl ?_
              refine tn_bipush dX7_step_388 (by decide) ?_
              refine tn_icmp_ne (tgt := 397) dX7_step_390 (by decide) ⟨by omega, by omega⟩ ⟨by decide, by decide⟩ (fun h1750 => ?_) (fun h1750 => absurd h1750 (by omega))
              refine tn_iconst dX7_step_397 ?_
              have q1751 : σ1741.2.1 57 a = σ.2.1 57 a := rc_F F1748 (Or.inl (by decide)) (by decide) (rc_F F1738 (Or.inl (by decide)) (by decide) (rc_o (by decide) (rfl)))
              exact tn_zret (v := 0) rfl (by decide) dX7_step_398 ⟨_, rfl, rfl, w1747, (((FrC.rfl.put (by decide) (by decide)).trans (FrC.sub F1738 (by decide))).trans (FrC.sub F1748 (by decide))), by omega, (((CHX.rfl.fld (by simp) (by decide)).trans (CHX.sub f1734 (by simp) (by simp) (by simp))).trans (CHX.sub f1744 (by simp) (by simp) (by simp))), by omega, ⟨_, v64, f10, Or.inr ⟨xq13, xq54, ⟨hx12, hx55⟩, f63⟩, Or.inr ⟨by omega, Or.inr (Or.inr (Or.inr (Or.inr (Or.inr (Or.inr (Or.inr (Or.inr (Or.inr ((⟨by omega, rfl, _, f1735, je1749⟩))))))))))⟩⟩, (((FA.rfl.put).trans (FA.of F1738 (by decide))).trans (FA.of F1748 (by decide)))⟩
            · refine tn_tableIn (tgt := 261) (off := 193) dX7_step_68 (x := v64) ⟨by omega, by omega⟩ (by omega) (by omega) (by rw [h1292]; rfl) (by decide) ?_
              refine tn_aload_n dX7_step_261 rfl 3 rfl ?_
              refine tn_dup dX7_step_262 rfl ?_
              refine tn_getI (ci := 7) (i := 3) (n := 58) (t := σ.2.1 58 a) dX7_step_263 rfl lay_7 (by decide) fl7_38 ha rfl rfl (rc_o (by decide) (rfl)) ?_
              refine tn_iconst dX7_step_266 ?_
              refine tn_iadd dX7_step_267 ?_
              refine tn_putV (ci := 7) (i := 3) (n := 58) (r := false) (v := (σ.2.1 58 a) + 1) tyX7 tyX7_ok nmX7 dX7_step_268 rfl lay_7 (by decide) fl7_38 rfl (tyX7_ok 3 (by decide)) rfl rfl rfl ha rfl rfl ?_
              refine tn_aload_n dX7_step_271 rfl 3 rfl ?_
              obtain ⟨hl1755, hk1754a, hk1754b⟩ := ex_at (wf_61 hw ha) hxc
              have hk1754 : (T xc).1 = 1 := hk1754b (by omega)
              clear hk1754a hk1754b
              have hk1754i : IA T xc := by unfold IA; omega
              refine tn_getR (ci := 7) (i := 6) (n := 61) (x := xc) dX7_step_272 rfl lay_7 (by decide) fl7_18 ha rfl rfl (rc_o (by decide) (rc_o (by decide) (hxc))) ?_
              refine tn_aload_n dX7_step_275 rfl 3 rfl ?_
              refine tn_getI (ci := 7) (i := 2) (n := 57) (t := σ.2.1 57 a) dX7_step_276 rfl lay_7 (by decide) fl7_65 ha rfl rfl (rc_o (by decide) (rc_o (by decide) (rfl))) ?_
              have g1756 : ((0 : Int) ≤ σ.2.1 57 a ∧ σ.2.1 57 a ≤ 11184800) ∧ ((T a).1 = 57 → σ.2.1 57 a ≤ 8) := wf_57 hw ha
              have g1756x := g1756.2
              replace g1756 := g1756.1
              clear g1756x
              refine tn_aload_n dX7_step_279 rfl 3 rfl ?_
              refine tn_getR (ci := 7) (i := 14) (n := 69) (x := xq13) dX7_step_280 rfl lay_7 (by decide) fl7_72 ha rfl rfl (rc_o (by decide) (rc_o (by decide) (hx12))) ?_
              refine tn_iload_n dX7_step_283 rfl 2 rfl ?_
              refine tn_iconst dX7_step_284 ?_
              refine tn_callV (M := m_X7_step) (pc := 285) (ix := 117) (ci := 1) (M' := m_X1_get) (As := [.int (iI v11), .int (iI 1)]) (rest := [.int (iI (σ.2.1 57 a)), .ref xc]) dX7_step_285 ok_X1_get im_X1_get se_X1_get ml7_117 np_X1_get rfl rfl hk14o rfl (Nat.le_of_ble_eq_true rfl) (Nat.le_of_ble_eq_true rfl) rfl (k_X1_get_j (d + 3) (T := T) (σ := (sA 58 a ((σ.2.1 58 a) + 1) (sA 67 a (w32 ((σ.2.1 67 a) + 1)) σ))) (a := xq13) (k := v11) (c := 1) (x := xq54) hk14o (by omega) (by decide) ((hw.put (by decide) (by decide) (fo_67 (by omega))).put (by decide) (by decide) (fo_58 (by omega))) (rc_o (by decide) (rc_o (by decide) (hx55))) (by omega)) (fun r1757 T1759 σ1758 gt1760 hp => ?_)
              obtain ⟨v1763, rfl, rfl, rfl, f1761, f1762⟩ := hp
              clear gt1760
              show Tn _ _ 288 T (sA 58 a ((σ.2.1 58 a) + 1) (sA 67 a (w32 ((σ.2.1 67 a) + 1)) σ)) [(3, .int (iI (w32 (v11 + 1)))), (2, .int (iI v64)), (1, .int (iI v11)), (0, .ref a)] [.int (iI v1763), .int (iI (σ.2.1 57 a)), .ref xc] _
              refine tn_callSN (M := m_X7_step) (pc := 288) (ix := 61) (M' := m_X11_put) (As := [.ref xc, .int (iI (σ.2.1 57 a)), .int (iI v1763)]) (rest := []) dX7_step_288 ok_X11_put stt_X11_put nl7_61 np_X11_put rfl (Nat.le_of_ble_eq_true rfl) (Nat.le_of_ble_eq_true rfl) rfl (k_X11_put_x (d + 3) (T := T) (σ := (sA 58 a ((σ.2.1 58 a) + 1) (sA 67 a (w32 ((σ.2.1 67 a) + 1)) σ))) (x := xc) (i := σ.2.1 57 a) (y := v1763) hk1754i (by omega) (by omega) (by omega) ((hw.put (by decide) (by decide) (fo_67 (by omega))).put (by decide) (by decide) (fo_58 (by omega))) (nh_k hk1754 (by unfold HT; omega)) (vok_1 (by have q9 := hk1754; omega) (by omega))) (fun r1764 T1766 σ1765 gt1767 hp => ?_)
              obtain ⟨rfl, rfl, w1771, F1772, f1768, f1769⟩ := hp
              clear gt1767
              have je1773 : σ1765 = jP T xc (σ.2.1 57 a) (v1763) _ := f1769
              show Tn _ _ 291 T σ1765 [(3, .int (iI (w32 (v11 + 1)))), (2, .int (iI v64)), (1, .int (iI v11)), (0, .ref a)] [] _
              refine tn_aload_n dX7_step_291 rfl 3 rfl ?_
              obtain ⟨hk1776, hl1777⟩ : AR T xd 1 108 108 := ar_of (wf_62 hw ha) hxd
              have hk1776i : IA T xd := by unfold IA; omega
              refine tn_getR (ci := 7) (i := 7) (n := 62) (x := xd) dX7_step_292 rfl lay_7 (by decide) fl7_21 ha rfl rfl (rc_F F1772 (Or.inl (by decide)) (by decide) (rc_o (by decide) (rc_o (by decide) (hxd)))) ?_
              refine tn_aload_n dX7_step_295 rfl 3 rfl ?_
              refine tn_getI (ci := 7) (i := 2) (n := 57) (t := σ.2.1 57 a) dX7_step_296 rfl lay_7 (by decide) fl7_65 ha rfl rfl (rc_F F1772 (Or.inl (by decide)) (by decide) (rc_o (by decide) (rc_o (by decide) (rfl)))) ?_
              refine tn_bipush dX7_step_299 (by decide) ?_
              refine tn_imul dX7_step_301 ?_
              refine tn_aload_n dX7_step_302 rfl 3 rfl ?_
              refine tn_getR (ci := 7) (i := 14) (n := 69) (x := xq13) dX7_step_303 rfl lay_7 (by decide) fl7_72 ha rfl rfl (rc_F F1772 (Or.inl (by decide)) (by decide) (rc_o (by decide) (rc_o (by decide) (hx12)))) ?_
              refine tn_iload_n dX7_step_306 rfl 2 rfl ?_
              refine tn_iconst dX7_step_307 ?_
              refine tn_callV (M := m_X7_step) (pc := 308) (ix := 117) (ci := 1) (M' := m_X1_get) (As := [.int (iI v11), .int (iI 1)]) (rest := [.int (iI ((σ.2.1 57 a) * 12)), .ref xd]) dX7_step_308 ok_X1_get im_X1_get se_X1_get ml7_117 np_X1_get rfl rfl hk14o rfl (Nat.le_of_ble_eq_true rfl) (Nat.le_of_ble_eq_true rfl) rfl (k_X1_get_j (d + 3) (T := T) (σ := σ1765) (a := xq13) (k := v11) (c := 1) (x := xq54) hk14o (by omega) (by decide) w1771 (rc_F F1772 (Or.inl (by decide)) (by decide) (rc_o (by decide) (rc_o (by decide) (hx55)))) (by omega)) (fun r1778 T1780 σ1779 gt1781 hp => ?_)
              obtain ⟨v1784, rfl, rfl, rfl, f1782, f1783⟩ := hp
              clear gt1781
              show Tn _ _ 311 T σ1765 [(3, .int (iI (w32 (v11 + 1)))), (2, .int (iI v64)), (1, .int (iI v11)), (0, .ref a)] [.int (iI v1784), .int (iI ((σ.2.1 57 a) * 12)), .ref xd] _
              refine tn_iadd dX7_step_311 ?_
              rw [show iI (((σ.2.1 57 a) * 12) + v1784) = iI (w32 (((σ.2.1 57 a) * 12) + v1784)) from (iI_self _).symm]
              have g1785r : -2147483648 ≤ w32 (((σ.2.1 57 a) * 12) + v1784) ∧ w32 (((σ.2.1 57 a) * 12) + v1784) ≤ 2147483647 := inR_toInt _
              refine tn_iconst dX7_step_312 ?_
              refine tn_callSN (M := m_X7_step) (pc := 313) (ix := 61) (M' := m_X11_put) (As := [.ref xd, .int (iI (w32 (((σ.2.1 57 a) * 12) + v1784))), .int (iI 0)]) (rest := []) dX7_step_313 ok_X11_put stt_X11_put nl7_61 np_X11_put rfl (Nat.le_of_ble_eq_true rfl) (Nat.le_of_ble_eq_true rfl) rfl (k_X11_put_x (d + 3) (T := T) (σ := σ1765) (x := xd) (i := w32 (((σ.2.1 57 a) * 12) + v1784)) (y := 0) hk1776i (by omega) (by omega) (by decide) w1771 (nh_k hk1776 (by unfold HT; omega)) vok_0) (fun r1786 T1788 σ1787 gt1789 hp => ?_)
              obtain ⟨rfl, rfl, w1793, F1794, f1790, f1791⟩ := hp
              clear gt1789
              have je1795 : σ1787 = jP T xd (w32 (((σ.2.1 57 a) * 12) + v1784)) (0) _ := f1791
              show Tn _ _ 316 T σ1787 [(3, .int (iI (w32 (v11 + 1)))), (2, .int (iI v64)), (1, .int (iI v11)), (0, .ref a)] [] _
              refine tn_goto (tgt := 375) dX7_step_316 (by decide) ?_
              refine tn_aload_n dX7_step_375 rfl 3 rfl ?_
              refine tn_getR (ci := 7) (i := 5) (n := 60) (x := xb) dX7_step_376 rfl lay_7 (by decide) fl7_15 ha rfl rfl (rc_F F1794 (Or.inl (by decide)) (by decide) (rc_F F1772 (Or.inl (by decide)) (by decide) (rc_o (by decide) (rc_o (by decide) (hxb))))) ?_
              refine tn_aload_n dX7_step_379 rfl 3 rfl ?_
              refine tn_getI (ci := 7) (i := 2) (n := 57) (t := σ.2.1 57 a) dX7_step_380 rfl lay_7 (by decide) fl7_65 ha rfl rfl (rc_F F1794 (Or.inl (by decide)) (by decide) (rc_F F1772 (Or.inl (by decide)) (by decide) (rc_o (by decide) (rc_o (by decide) (rfl))))) ?_
              refine tn_iload_n dX7_step_383 rfl 0 rfl ?_
              refine tn_callSN (M := m_X7_step) (pc := 384) (ix := 61) (M' := m_X11_put) (As := [.ref xb, .int (iI (σ.2.1 57 a)), .int (iI (w32 (v11 + 1)))]) (rest := []) dX7_step_384 ok_X11_put stt_X11_put nl7_61 np_X11_put rfl (Nat.le_of_ble_eq_true rfl) (Nat.le_of_ble_eq_true rfl) rfl (k_X11_put_x (d + 3) (T := T) (σ := σ1787) (x := xb) (i := σ.2.1 57 a) (y := w32 (v11 + 1)) hk3i (by omega) (by omega) (by omega) w1793 (nh_k hk3 (by unfold HT; omega)) (vok_1 (by have q9 := hk3; omega) (by omega))) (fun r1796 T1798 σ1797 gt1799 hp => ?_)
              obtain ⟨rfl, rfl, w1803, F1804, f1800, f1801⟩ := hp
              clear gt1799
              have je1805 : σ1797 = jP T xb (σ.2.1 57 a) (w32 (v11 + 1)) _ := f1801
              show Tn _ _ 387 T σ1797 [(3, .int (iI (w32 (v11 + 1)))), (2, .int (iI v64)), (1, .int (iI v11)), (0, .ref a)] [] _
              refine tn_iload_n dX7_step_387 rfl 1 rfl ?_
              refine tn_bipush dX7_step_388 (by decide) ?_
              refine tn_icmp_ne (tgt := 397) dX7_step_390 (by decide) ⟨by omega, by omega⟩ ⟨by decide, by decide⟩ (fun h1806 => ?_) (fun h1806 => absurd h1806 (by omega))
              refine tn_iconst dX7_step_397 ?_
              have q1807 : σ1797.2.1 57 a = σ.2.1 57 a := rc_F F1804 (Or.inl (by decide)) (by decide) (rc_F F1794 (Or.inl (by decide)) (by decide) (rc_F F1772 (Or.inl (by decide)) (by decide) (rc_o (by decide) (rc_o (by decide) (rfl)))))
              exact tn_zret (v := 0) rfl (by decide) dX7_step_398 ⟨_, rfl, rfl, w1803, (((((FrC.rfl.put (by decide) (by decide)).put (by decide) (by decide)).trans (FrC.sub F1772 (by decide))).trans (FrC.sub F1794 (by decide))).trans (FrC.sub F1804 (by decide))), by omega, (((((CHX.rfl.fld (by simp) (by decide)).fld (by simp) (by decide)).trans (CHX.sub f1768 (by simp) (by simp) (by simp))).trans (CHX.sub f1790 (by simp) (by simp) (by simp))).trans (CHX.sub f1800 (by simp) (by simp) (by simp))), by omega, ⟨_, v64, f10, Or.inr ⟨xq13, xq54, ⟨hx12, hx55⟩, f63⟩, Or.inr ⟨by omega, Or.inr (Or.inr (Or.inr (Or.inr (Or.inr (Or.inr (Or.inl (⟨by omega, rfl, xq13, xq54, (sA 58 a ((σ.2.1 58 a) + 1) (sA 67 a (w32 ((σ.2.1 67 a) + 1)) σ)), σ1765, σ1787, ⟨hx12, hx55⟩, js58 (by omega), by rw [← f1762]; exact je1773, by rw [← f1783]; exact je1795, je1805⟩)))))))⟩⟩, (((((FA.rfl.put).put).trans (FA.of F1772 (by decide))).trans (FA.of F1794 (by decide))).trans (FA.of F1804 (by decide)))⟩
            · refine tn_tableIn (tgt := 319) (off := 251) dX7_step_68 (x := v64) ⟨by omega, by omega⟩ (by omega) (by omega) (by rw [h1292]; rfl) (by decide) ?_
              refine tn_aload_n dX7_step_319 rfl 3 rfl ?_
              refine tn_dup dX7_step_320 rfl ?_
              refine tn_getI (ci := 7) (i := 3) (n := 58) (t := σ.2.1 58 a) dX7_step_321 rfl lay_7 (by decide) fl7_38 ha rfl rfl (rc_o (by decide) (rfl)) ?_
              refine tn_iconst dX7_step_324 ?_
              refine tn_isub dX7_step_325 ?_
              rw [show iI ((σ.2.1 58 a) - 1) = iI (w32 ((σ.2.1 58 a) - 1)) from (iI_self _).symm]
              have g1808r : -2147483648 ≤ w32 ((σ.2.1 58 a) - 1) ∧ w32 ((σ.2.1 58 a) - 1) ≤ 2147483647 := inR_toInt _
              refine tn_putV (ci := 7) (i := 3) (n := 58) (r := false) (v := w32 ((σ.2.1 58 a) - 1)) tyX7 tyX7_ok nmX7 dX7_step_326 rfl lay_7 (by decide) fl7_38 rfl (tyX7_ok 3 (by decide)) rfl rfl rfl ha rfl rfl ?_
              refine tn_aload_n dX7_step_329 rfl 3 rfl ?_
              obtain ⟨hl1812, hk1811a, hk1811b⟩ := ex_at (wf_61 hw ha) hxc
              have hk1811 : (T xc).1 = 1 := hk1811b (by omega)
              clear hk1811a hk1811b
              have hk1811i : IA T xc := by unfold IA; omega
              refine tn_getR (ci := 7) (i := 6) (n := 61) (x := xc) dX7_step_330 rfl lay_7 (by decide) fl7_18 ha rfl rfl (rc_o (by decide) (rc_o (by decide) (hxc))) ?_
              refine tn_aload_n dX7_step_333 rfl 3 rfl ?_
              refine tn_getI (ci := 7) (i := 2) (n := 57) (t := σ.2.1 57 a) dX7_step_334 rfl lay_7 (by decide) fl7_65 ha rfl rfl (rc_o (by decide) (rc_o (by decide) (rfl))) ?_
              have g1813 : ((0 : Int) ≤ σ.2.1 57 a ∧ σ.2.1 57 a ≤ 11184800) ∧ ((T a).1 = 57 → σ.2.1 57 a ≤ 8) := wf_57 hw ha
              have g1813x := g1813.2
              replace g1813 := g1813.1
              clear g1813x
              refine tn_aload_n dX7_step_337 rfl 3 rfl ?_
              refine tn_getR (ci := 7) (i := 14) (n := 69) (x := xq13) dX7_step_338 rfl lay_7 (by decide) fl7_72 ha rfl rfl (rc_o (by decide) (rc_o (by decide) (hx12))) ?_
              obtain ⟨xq1814, hx1815, hk1816, hl1817⟩ : ∃ x : Nat, σ.2.1 12 xq13 = (x : Int) ∧ AR T x 1 12 12 := wf_12 hw hk14o
              have hk1816i : IA T xq1814 := by unfold IA; omega
              refine tn_getR (ci := 1) (i := 7) (n := 12) (x := xq1814) dX7_step_341 rfl lay_1 (by decide) fl7_126 hk14o rfl rfl (rc_o (by decide) (rc_o (by decide) (hx1815))) ?_
              refine tn_aload_n dX7_step_344 rfl 3 rfl ?_
              refine tn_getR (ci := 7) (i := 14) (n := 69) (x := xq13) dX7_step_345 rfl lay_7 (by decide) fl7_72 ha rfl rfl (rc_o (by decide) (rc_o (by decide) (hx12))) ?_
              refine tn_iload_n dX7_step_348 rfl 2 rfl ?_
              refine tn_iconst dX7_step_349 ?_
              refine tn_callV (M := m_X7_step) (pc := 350) (ix := 117) (ci := 1) (M' := m_X1_get) (As := [.int (iI v11), .int (iI 1)]) (rest := [.ref xq1814, .int (iI (σ.2.1 57 a)), .ref xc]) dX7_step_350 ok_X1_get im_X1_get se_X1_get ml7_117 np_X1_get rfl rfl hk14o rfl (Nat.le_of_ble_eq_true rfl) (Nat.le_of_ble_eq_true rfl) rfl (k_X1_get_j (d + 3) (T := T) (σ := (sA 58 a (w32 ((σ.2.1 58 a) - 1)) (sA 67 a (w32 ((σ.2.1 67 a) + 1)) σ))) (a := xq13) (k := v11) (c := 1) (x := xq54) hk14o (by omega) (by decide) ((hw.put (by decide) (by decide) (fo_67 (by omega))).put (by decide) (by decide) (fo_58 (by omega))) (rc_o (by decide) (rc_o (by decide) (hx55))) (by omega)) (fun r1818 T1820 σ1819 gt1821 hp => ?_)
              obtain ⟨v1824, rfl, rfl, rfl, f1822, f1823⟩ := hp
              clear gt1821
              show Tn _ _ 353 T (sA 58 a (w32 ((σ.2.1 58 a) - 1)) (sA 67 a (w32 ((σ.2.1 67 a) + 1)) σ)) [(3, .int (iI (w32 (v11 + 1)))), (2, .int (iI v64)), (1, .int (iI v11)), (0, .ref a)] [.int (iI v1824), .ref xq1814, .int (iI (σ.2.1 57 a)), .ref xc] _
              refine tn_callSN (M := m_X7_step) (pc := 353) (ix := 91) (M' := m_X11_at) (As := [.ref xq1814, .int (iI v1824)]) (rest := [.int (iI (σ.2.1 57 a)), .ref xc]) dX7_step_353 ok_X11_at stt_X11_at nl7_91 np_X11_at rfl (Nat.le_of_ble_eq_true rfl) (Nat.le_of_ble_eq_true rfl) rfl (k_X11_at_j (d + 3) (T := T) (σ := (sA 58 a (w32 ((σ.2.1 58 a) - 1)) (sA 67 a (w32 ((σ.2.1 67 a) + 1)) σ))) (x := xq1814) (i := v1824) hk1816i (by omega) (by omega) ((hw.put (by decide) (by decide) (fo_67 (by omega))).put (by decide) (by decide) (fo_58 (by omega))) ) (fun r1825 T1827 σ1826 gt1828 hp => ?_)
              obtain ⟨v1832, rfl, rfl, rfl, f1829, f1830, f1831⟩ := hp
              clear gt1828
              clear f1830
              show Tn _ _ 356 T (sA 58 a (w32 ((σ.2.1 58 a) - 1)) (sA 67 a (w32 ((σ.2.1 67 a) + 1)) σ)) [(3, .int (iI (w32 (v11 + 1)))), (2, .int (iI v64)), (1, .int (iI v11)), (0, .ref a)] [.int (iI v1832), .int (iI (σ.2.1 57 a)), .ref xc] _
              refine tn_callSN (M := m_X7_step) (pc := 356) (ix := 61) (M' := m_X11_put) (As := [.ref xc, .int (iI (σ.2.1 57 a)), .int (iI v1832)]) (rest := []) dX7_step_356 ok_X11_put stt_X11_put nl7_61 np_X11_put rfl (Nat.le_of_ble_eq_true rfl) (Nat.le_of_ble_eq_true rfl) rfl (k_X11_put_x (d + 3) (T := T) (σ := (sA 58 a (w32 ((σ.2.1 58 a) - 1)) (sA 67 a (w32 ((σ.2.1 67 a) + 1)) σ))) (x := xc) (i := σ.2.1 57 a) (y := v1832) hk1811i (by omega) (by omega) (by omega) ((hw.put (by decide) (by decide) (fo_67 (by omega))).put (by decide) (by decide) (fo_58 (by omega))) (nh_k hk1811 (by unfold HT; omega)) (vok_1 (by have q9 := hk1811; omega) (by omega))) (fun r1833 T1835 σ1834 gt1836 hp => ?_)
              obtain ⟨rfl, rfl, w1840, F1841, f1837, f1838⟩ := hp
              clear gt1836
              have je1842 : σ1834 = jP T xc (σ.2.1 57 a) (v1832) _ := f1838
              show Tn _ _ 359 T σ1834 [(3, .int (iI (w32 (v11 + 1)))), (2, .int (iI v64)), (1, .int (iI v11)), (0, .ref a)] [] _
              refine tn_goto (tgt := 375) dX7_step_359 (by decide) ?_
              refine tn_aload_n dX7_step_375 rfl 3 rfl ?_
              refine tn_getR (ci := 7) (i := 5) (n := 60) (x := xb) dX7_step_376 rfl lay_7 (by decide) fl7_15 ha rfl rfl (rc_F F1841 (Or.inl (by decide)) (by decide) (rc_o (by decide) (rc_o (by decide) (hxb)))) ?_
              refine tn_aload_n dX7_step_379 rfl 3 rfl ?_
              refine tn_getI (ci := 7) (i := 2) (n := 57) (t := σ.2.1 57 a) dX7_step_380 rfl lay_7 (by decide) fl7_65 ha rfl rfl (rc_F F1841 (Or.inl (by decide)) (by decide) (rc_o (by decide) (rc_o (by decide) (rfl)))) ?_
              refine tn_iload_n dX7_step_383 rfl 0 rfl ?_
              refine tn_callSN (M := m_X7_step) (pc := 384) (ix := 61) (M' := m_X11_put) (As := [.ref xb, .int (iI (σ.2.1 57 a)), .int (iI (w32 (v11 + 1)))]) (rest := []) dX7_step_384 ok_X11_put stt_X11_put nl7_61 np_X11_put rfl (Nat.le_of_ble_eq_true rfl) (Nat.le_of_ble_eq_true rfl) rfl (k_X11_put_x (d + 3) (T := T) (σ := σ1834) (x := xb) (i := σ.2.1 57 a) (y := w32 (v11 + 1)) hk3i (by omega) (by omega) (by omega) w1840 (nh_k hk3 (by unfold HT; omega)) (vok_1 (by have q9 := hk3; omega) (by omega))) (fun r1843 T1845 σ1844 gt1846 hp => ?_)
              obtain ⟨rfl, rfl, w1850, F1851, f1847, f1848⟩ := hp
              clear gt1846
              have je1852 : σ1844 = jP T xb (σ.2.1 57 a) (w32 (v11 + 1)) _ := f1848
              show Tn _ _ 387 T σ1844 [(3, .int (iI (w32 (v11 + 1)))), (2, .int (iI v64)), (1, .int (iI v11)), (0, .ref a)] [] _
              refine tn_iload_n dX7_step_387 rfl 1 rfl ?_
              refine tn_bipush dX7_step_388 (by decide) ?_
              refine tn_icmp_ne (tgt := 397) dX7_step_390 (by decide) ⟨by omega, by omega⟩ ⟨by decide, by decide⟩ (fun h1853 => ?_) (fun h1853 => absurd h1853 (by omega))
              refine tn_iconst dX7_step_397 ?_
              have q1854 : σ1844.2.1 57 a = σ.2.1 57 a := rc_F F1851 (Or.inl (by decide)) (by decide) (rc_F F1841 (Or.inl (by decide)) (by decide) (rc_o (by decide) (rc_o (by decide) (rfl))))
              exact tn_zret (v := 0) rfl (by decide) dX7_step_398 ⟨_, rfl, rfl, w1850, ((((FrC.rfl.put (by decide) (by decide)).put (by decide) (by decide)).trans (FrC.sub F1841 (by decide))).trans (FrC.sub F1851 (by decide))), by omega, ((((CHX.rfl.fld (by simp) (by decide)).fld (by simp) (by decide)).trans (CHX.sub f1837 (by simp) (by simp) (by simp))).trans (CHX.sub f1847 (by simp) (by simp) (by simp))), by omega, ⟨_, v64, f10, Or.inr ⟨xq13, xq54, ⟨hx12, hx55⟩, f63⟩, Or.inr ⟨by omega, Or.inr (Or.inr (Or.inr (Or.inr (Or.inr (Or.inr (Or.inr (Or.inl (⟨by omega, rfl, xq13, xq54, xq1814, (sA 58 a (w32 ((σ.2.1 58 a) - 1)) (sA 67 a (w32 ((σ.2.1 67 a) + 1)) σ)), σ1834, ⟨hx12, hx55⟩, hx1815, rfl, by rw [← f1823, ← f1831]; exact je1842, je1852⟩))))))))⟩⟩, ((((FA.rfl.put).put).trans (FA.of F1841 (by decide))).trans (FA.of F1851 (by decide)))⟩
        · refine tn_aload_n dX7_step_46 rfl 2 rfl ?_
          refine tn_iconst dX7_step_47 ?_
          refine tn_putV (ci := 7) (i := 1) (n := 56) (r := false) (v := 3) tyX7 tyX7_ok nmX7 dX7_step_48 rfl lay_7 (by decide) fl7_34 rfl (tyX7_ok 1 (by decide)) rfl rfl rfl ha rfl rfl ?_
          refine tn_iconst dX7_step_51 ?_
          have q1855 : (sA 56 a (3) σ).2.1 57 a = σ.2.1 57 a := rc_o (by decide) (rfl)
          exact tn_zret (v := 0) rfl (by decide) dX7_step_52 ⟨_, rfl, rfl, (hw.put (by decide) (by decide) (fo_56 (by omega))), (FrC.rfl.put (by decide) (by decide)), by omega, (CHX.rfl.fld (by simp) (by decide)), by omega, ⟨_, v64, f10, Or.inr ⟨xq13, xq54, ⟨hx12, hx55⟩, f63⟩, Or.inl ⟨by omega, by omega, rfl, rfl⟩⟩, (FA.rfl.put)⟩
end
