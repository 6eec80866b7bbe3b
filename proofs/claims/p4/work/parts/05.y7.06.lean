theorem cd_X3_see : Cond.code yX3_see cX3_see 3 none ∈ pWW := pw5 (List.mem_of_getElem? (i := 6) rfl) rfl
abbrev m_X3_see : MT := (yX3_see, cX3_see, 3, none)
theorem ok_X3_see : pOk m_X3_see := ⟨⟨cd_X3_see, ini_3⟩, by decide +kernel, ⟨by decide +kernel, by decide +kernel⟩, Nat.le_of_ble_eq_true rfl⟩
theorem np_X3_see : (parseMethodDescriptor yX3_see.desc).map (fun d => d.parameters.length) = some 2 := by decide +kernel
theorem im_X3_see : Cond.instanceMethod yX3_see ∈ pWW := pw5 (List.mem_of_getElem? (i := 5) rfl) rfl
theorem se_X3_see : Cond.selects RX3 yX3_see yX3_see ∈ pWW := pws (List.mem_map.mpr ⟨_, lw_pin 51 rfl, rfl⟩) rfl
theorem ml3_100 : Cond.methodLink RX3 100 yX3_isSeen ∈ pWW := pw5 (List.mem_of_getElem? (i := 7) rfl) rfl
theorem nl3_103 : (RX3, 103, yX11_put, "LineKeeper") ∈ nst_M := List.mem_of_getElem? (i := 22) rfl
theorem fl3_22 : Cond.fieldLink RX3 22 (TX3 3).1 (TX3 3).2.1 (TX3 3).2.2.1 ∈ pWW := pw1 (List.mem_of_getElem? (i := 225) rfl) rfl
theorem fl3_94 : Cond.fieldLink RX3 94 (TX3 4).1 (TX3 4).2.1 (TX3 4).2.2.1 ∈ pWW := pw1 (List.mem_of_getElem? (i := 226) rfl) rfl
theorem dX3_see_0 : decode cX3_see 0 = .ok (.iload_n 2, 1) := by decide +kernel
theorem dX3_see_1 : decode cX3_see 1 = .ok (.ifCond .lt 50, 3) := by decide +kernel
theorem dX3_see_51 : decode cX3_see 51 = .ok (.return_, 1) := by decide +kernel
theorem dX3_see_4 : decode cX3_see 4 = .ok (.iload_n 2, 1) := by decide +kernel
theorem dX3_see_5 : decode cX3_see 5 = .ok (.aload_n 1, 1) := by decide +kernel
theorem dX3_see_6 : decode cX3_see 6 = .ok (.getfield 29, 3) := by decide +kernel
theorem dX3_see_9 : decode cX3_see 9 = .ok (.if_icmp .ge 42, 3) := by decide +kernel
theorem dX3_see_12 : decode cX3_see 12 = .ok (.aload_n 0, 1) := by decide +kernel
theorem dX3_see_13 : decode cX3_see 13 = .ok (.iload_n 2, 1) := by decide +kernel
theorem dX3_see_14 : decode cX3_see 14 = .ok (.invokevirtual 100, 3) := by decide +kernel
theorem dX3_see_17 : decode cX3_see 17 = .ok (.ifCond .ne 34, 3) := by decide +kernel
theorem dX3_see_20 : decode cX3_see 20 = .ok (.aload_n 0, 1) := by decide +kernel
theorem dX3_see_21 : decode cX3_see 21 = .ok (.getfield 18, 3) := by decide +kernel
theorem dX3_see_24 : decode cX3_see 24 = .ok (.iload_n 2, 1) := by decide +kernel
theorem dX3_see_25 : decode cX3_see 25 = .ok (.iconst 1, 1) := by decide +kernel
theorem dX3_see_26 : decode cX3_see 26 = .ok (.invokestatic 103, 3) := by decide +kernel
theorem dX3_see_29 : decode cX3_see 29 = .ok (.aload_n 0, 1) := by decide +kernel
theorem dX3_see_30 : decode cX3_see 30 = .ok (.getfield 22, 3) := by decide +kernel
theorem dX3_see_33 : decode cX3_see 33 = .ok (.aload_n 0, 1) := by decide +kernel
theorem dX3_see_34 : decode cX3_see 34 = .ok (.getfield 94, 3) := by decide +kernel
theorem dX3_see_37 : decode cX3_see 37 = .ok (.iload_n 2, 1) := by decide +kernel
theorem dX3_see_38 : decode cX3_see 38 = .ok (.invokestatic 103, 3) := by decide +kernel
theorem dX3_see_41 : decode cX3_see 41 = .ok (.aload_n 0, 1) := by decide +kernel
theorem dX3_see_42 : decode cX3_see 42 = .ok (.dup, 1) := by decide +kernel
theorem dX3_see_43 : decode cX3_see 43 = .ok (.getfield 94, 3) := by decide +kernel
theorem dX3_see_46 : decode cX3_see 46 = .ok (.iconst 1, 1) := by decide +kernel
theorem dX3_see_47 : decode cX3_see 47 = .ok (.iadd, 1) := by decide +kernel
theorem dX3_see_48 : decode cX3_see 48 = .ok (.putfield 94, 3) := by decide +kernel
set_option maxRecDepth 20000 in
theorem k_X3_see (d : Nat) {T : CT} {σ : MS} {a : Nat} {p1 : Nat} {p2 : Int} (ha : OB T a 3) (h_p1 : OB T p1 1) (h_p2 : -2147483648 ≤ p2 ∧ p2 ≤ 2147483647) (hw : WT T σ) : Tn (d + 3) m_X3_see 0 T σ [(0, .ref a), (1, .ref p1), (2, .int (iI p2))] [] (fun ro T2 σ2 => ro = none ∧ T = T2 ∧ WT T2 σ2 ∧ FrC T [22] σ σ2) := by
  refine tn_iload_n dX3_see_0 rfl 2 rfl ?_
  refine tn_if_lt (tgt := 51) dX3_see_1 (by decide) ⟨by omega, by omega⟩ (fun h1 => ?_) (fun h1 => ?_)
  · exact tn_vret rfl dX3_see_51 ⟨rfl, rfl, hw, FrC.rfl⟩
  · refine tn_iload_n dX3_see_4 rfl 2 rfl ?_
    refine tn_aload_n dX3_see_5 rfl 1 rfl ?_
    refine tn_getI (ci := 1) (i := 1) (n := 6) (t := σ.2.1 6 p1) dX3_see_6 rfl lay_1 (by decide) fl3_29 h_p1 rfl rfl (rfl) ?_
    have g2 : ((0 : Int) ≤ σ.2.1 6 p1 ∧ σ.2.1 6 p1 ≤ 5000) ∧ ((T p1).1 = 50 → σ.2.1 6 p1 ≤ 200) := wf_6 hw h_p1
    have g2x := g2.2
    replace g2 := g2.1
    clear g2x
    refine tn_icmp_ge (tgt := 51) dX3_see_9 (by decide) ⟨by omega, by omega⟩ ⟨by omega, by omega⟩ (fun h3 => ?_) (fun h3 => ?_)
    · exact tn_vret rfl dX3_see_51 ⟨rfl, rfl, hw, FrC.rfl⟩
    · refine tn_aload_n dX3_see_12 rfl 0 rfl ?_
      refine tn_iload_n dX3_see_13 rfl 2 rfl ?_
      refine tn_callV (M := m_X3_see) (pc := 14) (ix := 100) (ci := 3) (M' := m_X3_isSeen) (As := [.int (iI p2)]) (rest := []) dX3_see_14 ok_X3_isSeen im_X3_isSeen se_X3_isSeen ml3_100 np_X3_isSeen rfl rfl ha rfl (Nat.le_of_ble_eq_true rfl) (Nat.le_of_ble_eq_true rfl) rfl (k_X3_isSeen (d) (T := T) (σ := σ) (a := a) (p1 := p2) ha (by omega) hw ) (fun r4 T6 σ5 gt7 hp => ?_)
      obtain ⟨v9, rfl, rfl, rfl, f8⟩ := hp
      clear gt7
      show Tn _ _ 17 T σ [(0, .ref a), (1, .ref p1), (2, .int (iI p2))] [.int (iI v9)] _
      refine tn_if_ne (tgt := 51) dX3_see_17 (by decide) ⟨by omega, by omega⟩ (fun h10 => ?_) (fun h10 => ?_)
      · exact tn_vret rfl dX3_see_51 ⟨rfl, rfl, hw, FrC.rfl⟩
      · refine tn_aload_n dX3_see_20 rfl 0 rfl ?_
        obtain ⟨x11, hx12, hk13, hl14⟩ : ∃ x : Nat, σ.2.1 20 a = (x : Int) ∧ AR T x 1 201 201 := wf_20 hw ha
        have hk13i : IA T x11 := by unfold IA; omega
        refine tn_getR (ci := 3) (i := 2) (n := 20) (x := x11) dX3_see_21 rfl lay_3 (by decide) fl3_18 ha rfl rfl (hx12) ?_
        refine tn_iload_n dX3_see_24 rfl 2 rfl ?_
        refine tn_iconst dX3_see_25 ?_
        refine tn_callSN (M := m_X3_see) (pc := 26) (ix := 103) (M' := m_X11_put) (As := [.ref x11, .int (iI p2), .int (iI 1)]) (rest := []) dX3_see_26 ok_X11_put stt_X11_put nl3_103 np_X11_put rfl (Nat.le_of_ble_eq_true rfl) (Nat.le_of_ble_eq_true rfl) rfl (k_X11_put (d + 1) (T := T) (σ := σ) (x := x11) (i := p2) (y := 1) hk13i (by omega) (by omega) (by decide) hw (nh_k hk13 (by unfold HT; omega)) (vok_1 (by have q9 := hk13; omega) (by omega))) (fun r15 T17 σ16 gt18 hp => ?_)
        obtain ⟨rfl, rfl, w20, F21⟩ := hp
        clear gt18
        show Tn _ _ 29 T σ16 [(0, .ref a), (1, .ref p1), (2, .int (iI p2))] [] _
        refine tn_aload_n dX3_see_29 rfl 0 rfl ?_
        obtain ⟨x22, hx23, hk24, hl25⟩ : ∃ x : Nat, σ.2.1 21 a = (x : Int) ∧ AR T x 1 201 201 := wf_21 hw ha
        have hk24i : IA T x22 := by unfold IA; omega
        refine tn_getR (ci := 3) (i := 3) (n := 21) (x := x22) dX3_see_30 rfl lay_3 (by decide) fl3_22 ha rfl rfl (rc_F F21 (Or.inl (by decide)) (by decide) (hx23)) ?_
        refine tn_aload_n dX3_see_33 rfl 0 rfl ?_
        refine tn_getI (ci := 3) (i := 4) (n := 22) (t := σ.2.1 22 a) dX3_see_34 rfl lay_3 (by decide) fl3_94 ha rfl rfl (rc_F F21 (Or.inl (by decide)) (by decide) (rfl)) ?_
        have g26 : ((-2147483648 : Int) ≤ σ.2.1 22 a ∧ σ.2.1 22 a ≤ 2147483647) := wf_22 hw ha
        refine tn_iload_n dX3_see_37 rfl 2 rfl ?_
        refine tn_callSN (M := m_X3_see) (pc := 38) (ix := 103) (M' := m_X11_put) (As := [.ref x22, .int (iI (σ.2.1 22 a)), .int (iI p2)]) (rest := []) dX3_see_38 ok_X11_put stt_X11_put nl3_103 np_X11_put rfl (Nat.le_of_ble_eq_true rfl) (Nat.le_of_ble_eq_true rfl) rfl (k_X11_put (d + 1) (T := T) (σ := σ16) (x := x22) (i := σ.2.1 22 a) (y := p2) hk24i (by omega) (by omega) (by omega) w20 (nh_k hk24 (by unfold HT; omega)) (vok_1 (by have q9 := hk24; omega) (by omega))) (fun r27 T29 σ28 gt30 hp => ?_)
        obtain ⟨rfl, rfl, w32, F33⟩ := hp
        clear gt30
        show Tn _ _ 41 T σ28 [(0, .ref a), (1, .ref p1), (2, .int (iI p2))] [] _
        refine tn_aload_n dX3_see_41 rfl 0 rfl ?_
        refine tn_dup dX3_see_42 rfl ?_
        refine tn_getI (ci := 3) (i := 4) (n := 22) (t := σ.2.1 22 a) dX3_see_43 rfl lay_3 (by decide) fl3_94 ha rfl rfl (rc_F F33 (Or.inl (by decide)) (by decide) (rc_F F21 (Or.inl (by decide)) (by decide) (rfl))) ?_
        refine tn_iconst dX3_see_46 ?_
        refine tn_iadd dX3_see_47 ?_
        refine tn_any (fun z34 g35 => ?_)
        have g35r : -2147483648 ≤ z34 ∧ z34 ≤ 2147483647 := g35
        refine tn_putV (ci := 3) (i := 4) (n := 22) (r := false) (v := z34) tyX3 tyX3_ok nmX3 dX3_see_48 rfl lay_3 (by decide) fl3_94 rfl (tyX3_ok 4 (by decide)) rfl rfl rfl ha rfl rfl ?_
        exact tn_vret rfl dX3_see_51 ⟨rfl, rfl, (w32.put (by decide) (by decide) (fo_22 (by omega))), (((FrC.rfl.trans (FrC.sub F21 (by decide))).trans (FrC.sub F33 (by decide))).put (by decide) (by decide))⟩
