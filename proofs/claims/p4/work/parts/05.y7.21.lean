theorem cd_X6_standsStill : Cond.code yX6_standsStill cX6_standsStill 3 (some .boolean) ∈ pWW := pw5 (List.mem_of_getElem? (i := 108) rfl) rfl
abbrev m_X6_standsStill : MT := (yX6_standsStill, cX6_standsStill, 3, (some .boolean))
theorem ok_X6_standsStill : pOk m_X6_standsStill := ⟨⟨cd_X6_standsStill, ini_6⟩, by decide +kernel, ⟨by decide +kernel, by decide +kernel⟩, Nat.le_of_ble_eq_true rfl⟩
theorem np_X6_standsStill : (parseMethodDescriptor yX6_standsStill.desc).map (fun d => d.parameters.length) = some 2 := by decide +kernel
theorem im_X6_standsStill : Cond.instanceMethod yX6_standsStill ∈ pWW := pw5 (List.mem_of_getElem? (i := 107) rfl) rfl
theorem se_X6_standsStill : Cond.selects RX6 yX6_standsStill yX6_standsStill ∈ pWW := pws (List.mem_map.mpr ⟨_, lw_pin 61 rfl, rfl⟩) rfl
theorem nl6_131 : (RX6, 131, yX11_has, "LineKeeper") ∈ nst_M := List.mem_of_getElem? (i := 35) rfl
theorem dX6_standsStill_0 : decode cX6_standsStill 0 = .ok (.aload_n 1, 1) := by decide +kernel
theorem dX6_standsStill_1 : decode cX6_standsStill 1 = .ok (.iload_n 2, 1) := by decide +kernel
theorem dX6_standsStill_2 : decode cX6_standsStill 2 = .ok (.iconst 3, 1) := by decide +kernel
theorem dX6_standsStill_3 : decode cX6_standsStill 3 = .ok (.invokevirtual 34, 3) := by decide +kernel
theorem dX6_standsStill_6 : decode cX6_standsStill 6 = .ok (.iconst 2, 1) := by decide +kernel
theorem dX6_standsStill_7 : decode cX6_standsStill 7 = .ok (.if_icmp .ne 20, 3) := by decide +kernel
theorem dX6_standsStill_27 : decode cX6_standsStill 27 = .ok (.aload_n 1, 1) := by decide +kernel
theorem dX6_standsStill_28 : decode cX6_standsStill 28 = .ok (.iload_n 2, 1) := by decide +kernel
theorem dX6_standsStill_29 : decode cX6_standsStill 29 = .ok (.iconst 5, 1) := by decide +kernel
theorem dX6_standsStill_30 : decode cX6_standsStill 30 = .ok (.invokevirtual 34, 3) := by decide +kernel
theorem dX6_standsStill_33 : decode cX6_standsStill 33 = .ok (.iconst 2, 1) := by decide +kernel
theorem dX6_standsStill_34 : decode cX6_standsStill 34 = .ok (.if_icmp .ne 21, 3) := by decide +kernel
theorem dX6_standsStill_55 : decode cX6_standsStill 55 = .ok (.iconst 1, 1) := by decide +kernel
theorem dX6_standsStill_56 : decode cX6_standsStill 56 = .ok (.goto 4, 3) := by decide +kernel
theorem dX6_standsStill_60 : decode cX6_standsStill 60 = .ok (.ireturn, 1) := by decide +kernel
theorem dX6_standsStill_37 : decode cX6_standsStill 37 = .ok (.aload_n 0, 1) := by decide +kernel
theorem dX6_standsStill_38 : decode cX6_standsStill 38 = .ok (.getfield 18, 3) := by decide +kernel
theorem dX6_standsStill_41 : decode cX6_standsStill 41 = .ok (.iconst 0, 1) := by decide +kernel
theorem dX6_standsStill_42 : decode cX6_standsStill 42 = .ok (.aload_n 1, 1) := by decide +kernel
theorem dX6_standsStill_43 : decode cX6_standsStill 43 = .ok (.iload_n 2, 1) := by decide +kernel
theorem dX6_standsStill_44 : decode cX6_standsStill 44 = .ok (.bipush 6, 2) := by decide +kernel
theorem dX6_standsStill_46 : decode cX6_standsStill 46 = .ok (.invokevirtual 34, 3) := by decide +kernel
theorem dX6_standsStill_49 : decode cX6_standsStill 49 = .ok (.invokestatic 131, 3) := by decide +kernel
theorem dX6_standsStill_52 : decode cX6_standsStill 52 = .ok (.ifCond .ne 7, 3) := by decide +kernel
theorem dX6_standsStill_59 : decode cX6_standsStill 59 = .ok (.iconst 0, 1) := by decide +kernel
theorem dX6_standsStill_10 : decode cX6_standsStill 10 = .ok (.aload_n 0, 1) := by decide +kernel
theorem dX6_standsStill_11 : decode cX6_standsStill 11 = .ok (.getfield 18, 3) := by decide +kernel
theorem dX6_standsStill_14 : decode cX6_standsStill 14 = .ok (.iconst 0, 1) := by decide +kernel
theorem dX6_standsStill_15 : decode cX6_standsStill 15 = .ok (.aload_n 1, 1) := by decide +kernel
theorem dX6_standsStill_16 : decode cX6_standsStill 16 = .ok (.iload_n 2, 1) := by decide +kernel
theorem dX6_standsStill_17 : decode cX6_standsStill 17 = .ok (.iconst 4, 1) := by decide +kernel
theorem dX6_standsStill_18 : decode cX6_standsStill 18 = .ok (.invokevirtual 34, 3) := by decide +kernel
theorem dX6_standsStill_21 : decode cX6_standsStill 21 = .ok (.invokestatic 131, 3) := by decide +kernel
theorem dX6_standsStill_24 : decode cX6_standsStill 24 = .ok (.ifCond .ne 35, 3) := by decide +kernel
set_option maxRecDepth 20000 in
theorem k_X6_standsStill (d : Nat) {T : CT} {σ : MS} {a : Nat} {p1 : Nat} {p2 : Int} (ha : OB T a 6) (h_p1 : OB T p1 1) (t_p1 : (T p1).1 = 50) (h_p2 : -2147483648 ≤ p2 ∧ p2 ≤ 2147483647) (hw : WT T σ) : Tn (d + 3) m_X6_standsStill 0 T σ [(0, .ref a), (1, .ref p1), (2, .int (iI p2))] [] (fun ro T2 σ2 => ∃ v : Int, ro = some (.int (iI v)) ∧ T = T2 ∧ σ = σ2 ∧ (v = 0 ∨ v = 1)) := by
  refine tn_aload_n dX6_standsStill_0 rfl 1 rfl ?_
  refine tn_iload_n dX6_standsStill_1 rfl 2 rfl ?_
  refine tn_iconst dX6_standsStill_2 ?_
  refine tn_callV (M := m_X6_standsStill) (pc := 3) (ix := 34) (ci := 1) (M' := m_X1_get) (As := [.int (iI p2), .int (iI 3)]) (rest := []) dX6_standsStill_3 ok_X1_get im_X1_get se_X1_get ml6_34 np_X1_get rfl rfl h_p1 rfl (Nat.le_of_ble_eq_true rfl) (Nat.le_of_ble_eq_true rfl) rfl (k_X1_get (d + 1) (T := T) (σ := σ) (a := p1) (k := p2) (c := 3) h_p1 (by omega) (by decide) hw (by omega)) (fun r1 T3 σ2 gt4 hp => ?_)
  obtain ⟨v6, rfl, rfl, rfl, f5⟩ := hp
  clear gt4
  show Tn _ _ 6 T σ [(0, .ref a), (1, .ref p1), (2, .int (iI p2))] [.int (iI v6)] _
  refine tn_iconst dX6_standsStill_6 ?_
  refine tn_icmp_ne (tgt := 27) dX6_standsStill_7 (by decide) ⟨by omega, by omega⟩ ⟨by decide, by decide⟩ (fun h7 => ?_) (fun h7 => ?_)
  · refine tn_aload_n dX6_standsStill_27 rfl 1 rfl ?_
    refine tn_iload_n dX6_standsStill_28 rfl 2 rfl ?_
    refine tn_iconst dX6_standsStill_29 ?_
    refine tn_callV (M := m_X6_standsStill) (pc := 30) (ix := 34) (ci := 1) (M' := m_X1_get) (As := [.int (iI p2), .int (iI 5)]) (rest := []) dX6_standsStill_30 ok_X1_get im_X1_get se_X1_get ml6_34 np_X1_get rfl rfl h_p1 rfl (Nat.le_of_ble_eq_true rfl) (Nat.le_of_ble_eq_true rfl) rfl (k_X1_get (d + 1) (T := T) (σ := σ) (a := p1) (k := p2) (c := 5) h_p1 (by omega) (by decide) hw (by omega)) (fun r8 T10 σ9 gt11 hp => ?_)
    obtain ⟨v13, rfl, rfl, rfl, f12⟩ := hp
    clear gt11
    show Tn _ _ 33 T σ [(0, .ref a), (1, .ref p1), (2, .int (iI p2))] [.int (iI v13)] _
    refine tn_iconst dX6_standsStill_33 ?_
    refine tn_icmp_ne (tgt := 55) dX6_standsStill_34 (by decide) ⟨by omega, by omega⟩ ⟨by decide, by decide⟩ (fun h14 => ?_) (fun h14 => ?_)
    · refine tn_iconst dX6_standsStill_55 ?_
      refine tn_goto (tgt := 60) dX6_standsStill_56 (by decide) ?_
      exact tn_zret (v := 1) rfl (by decide) dX6_standsStill_60 ⟨_, rfl, rfl, rfl, by omega⟩
    · refine tn_aload_n dX6_standsStill_37 rfl 0 rfl ?_
      obtain ⟨x15, hx16, hk17, hl18⟩ : ∃ x : Nat, σ.2.1 54 a = (x : Int) ∧ AR T x 3 3 3 := wf_54 hw ha
      refine tn_getR (ci := 6) (i := 2) (n := 54) (x := x15) dX6_standsStill_38 rfl lay_6 (by decide) fl6_18 ha rfl rfl (hx16) ?_
      refine tn_iconst dX6_standsStill_41 ?_
      refine tn_aload_n dX6_standsStill_42 rfl 1 rfl ?_
      refine tn_iload_n dX6_standsStill_43 rfl 2 rfl ?_
      refine tn_bipush dX6_standsStill_44 (by decide) ?_
      refine tn_callV (M := m_X6_standsStill) (pc := 46) (ix := 34) (ci := 1) (M' := m_X1_get) (As := [.int (iI p2), .int (iI 6)]) (rest := [.int (iI 0), .ref x15]) dX6_standsStill_46 ok_X1_get im_X1_get se_X1_get ml6_34 np_X1_get rfl rfl h_p1 rfl (Nat.le_of_ble_eq_true rfl) (Nat.le_of_ble_eq_true rfl) rfl (k_X1_get (d + 1) (T := T) (σ := σ) (a := p1) (k := p2) (c := 6) h_p1 (by omega) (by decide) hw (by omega)) (fun r19 T21 σ20 gt22 hp => ?_)
      obtain ⟨v24, rfl, rfl, rfl, f23⟩ := hp
      clear gt22
      show Tn _ _ 49 T σ [(0, .ref a), (1, .ref p1), (2, .int (iI p2))] [.int (iI v24), .int (iI 0), .ref x15] _
      refine tn_callSN (M := m_X6_standsStill) (pc := 49) (ix := 131) (M' := m_X11_has) (As := [.ref x15, .int (iI 0), .int (iI v24)]) (rest := []) dX6_standsStill_49 ok_X11_has stt_X11_has nl6_131 np_X11_has rfl (Nat.le_of_ble_eq_true rfl) (Nat.le_of_ble_eq_true rfl) rfl (k_X11_has (d) (T := T) (σ := σ) (x := x15) (k := 0) (r := v24) hk17 (by omega) (by decide) (by omega) hw ) (fun r25 T27 σ26 gt28 hp => ?_)
      obtain ⟨v30, rfl, rfl, rfl, f29⟩ := hp
      clear gt28
      show Tn _ _ 52 T σ [(0, .ref a), (1, .ref p1), (2, .int (iI p2))] [.int (iI v30)] _
      refine tn_if_ne (tgt := 59) dX6_standsStill_52 (by decide) ⟨by omega, by omega⟩ (fun h31 => ?_) (fun h31 => ?_)
      · refine tn_iconst dX6_standsStill_59 ?_
        exact tn_zret (v := 0) rfl (by decide) dX6_standsStill_60 ⟨_, rfl, rfl, rfl, by omega⟩
      · refine tn_iconst dX6_standsStill_55 ?_
        refine tn_goto (tgt := 60) dX6_standsStill_56 (by decide) ?_
        exact tn_zret (v := 1) rfl (by decide) dX6_standsStill_60 ⟨_, rfl, rfl, rfl, by omega⟩
  · refine tn_aload_n dX6_standsStill_10 rfl 0 rfl ?_
    obtain ⟨x32, hx33, hk34, hl35⟩ : ∃ x : Nat, σ.2.1 54 a = (x : Int) ∧ AR T x 3 3 3 := wf_54 hw ha
    refine tn_getR (ci := 6) (i := 2) (n := 54) (x := x32) dX6_standsStill_11 rfl lay_6 (by decide) fl6_18 ha rfl rfl (hx33) ?_
    refine tn_iconst dX6_standsStill_14 ?_
    refine tn_aload_n dX6_standsStill_15 rfl 1 rfl ?_
    refine tn_iload_n dX6_standsStill_16 rfl 2 rfl ?_
    refine tn_iconst dX6_standsStill_17 ?_
    refine tn_callV (M := m_X6_standsStill) (pc := 18) (ix := 34) (ci := 1) (M' := m_X1_get) (As := [.int (iI p2), .int (iI 4)]) (rest := [.int (iI 0), .ref x32]) dX6_standsStill_18 ok_X1_get im_X1_get se_X1_get ml6_34 np_X1_get rfl rfl h_p1 rfl (Nat.le_of_ble_eq_true rfl) (Nat.le_of_ble_eq_true rfl) rfl (k_X1_get (d + 1) (T := T) (σ := σ) (a := p1) (k := p2) (c := 4) h_p1 (by omega) (by decide) hw (by omega)) (fun r36 T38 σ37 gt39 hp => ?_)
    obtain ⟨v41, rfl, rfl, rfl, f40⟩ := hp
    clear gt39
    show Tn _ _ 21 T σ [(0, .ref a), (1, .ref p1), (2, .int (iI p2))] [.int (iI v41), .int (iI 0), .ref x32] _
    refine tn_callSN (M := m_X6_standsStill) (pc := 21) (ix := 131) (M' := m_X11_has) (As := [.ref x32, .int (iI 0), .int (iI v41)]) (rest := []) dX6_standsStill_21 ok_X11_has stt_X11_has nl6_131 np_X11_has rfl (Nat.le_of_ble_eq_true rfl) (Nat.le_of_ble_eq_true rfl) rfl (k_X11_has (d) (T := T) (σ := σ) (x := x32) (k := 0) (r := v41) hk34 (by omega) (by decide) (by omega) hw ) (fun r42 T44 σ43 gt45 hp => ?_)
    obtain ⟨v47, rfl, rfl, rfl, f46⟩ := hp
    clear gt45
    show Tn _ _ 24 T σ [(0, .ref a), (1, .ref p1), (2, .int (iI p2))] [.int (iI v47)] _
    refine tn_if_ne (tgt := 59) dX6_standsStill_24 (by decide) ⟨by omega, by omega⟩ (fun h48 => ?_) (fun h48 => ?_)
    · refine tn_iconst dX6_standsStill_59 ?_
      exact tn_zret (v := 0) rfl (by decide) dX6_standsStill_60 ⟨_, rfl, rfl, rfl, by omega⟩
    · refine tn_aload_n dX6_standsStill_27 rfl 1 rfl ?_
      refine tn_iload_n dX6_standsStill_28 rfl 2 rfl ?_
      refine tn_iconst dX6_standsStill_29 ?_
      refine tn_callV (M := m_X6_standsStill) (pc := 30) (ix := 34) (ci := 1) (M' := m_X1_get) (As := [.int (iI p2), .int (iI 5)]) (rest := []) dX6_standsStill_30 ok_X1_get im_X1_get se_X1_get ml6_34 np_X1_get rfl rfl h_p1 rfl (Nat.le_of_ble_eq_true rfl) (Nat.le_of_ble_eq_true rfl) rfl (k_X1_get (d + 1) (T := T) (σ := σ) (a := p1) (k := p2) (c := 5) h_p1 (by omega) (by decide) hw (by omega)) (fun r49 T51 σ50 gt52 hp => ?_)
      obtain ⟨v54, rfl, rfl, rfl, f53⟩ := hp
      clear gt52
      show Tn _ _ 33 T σ [(0, .ref a), (1, .ref p1), (2, .int (iI p2))] [.int (iI v54)] _
      refine tn_iconst dX6_standsStill_33 ?_
      refine tn_icmp_ne (tgt := 55) dX6_standsStill_34 (by decide) ⟨by omega, by omega⟩ ⟨by decide, by decide⟩ (fun h55 => ?_) (fun h55 => ?_)
      · refine tn_iconst dX6_standsStill_55 ?_
        refine tn_goto (tgt := 60) dX6_standsStill_56 (by decide) ?_
        exact tn_zret (v := 1) rfl (by decide) dX6_standsStill_60 ⟨_, rfl, rfl, rfl, by omega⟩
      · refine tn_aload_n dX6_standsStill_37 rfl 0 rfl ?_
        refine tn_getR (ci := 6) (i := 2) (n := 54) (x := x32) dX6_standsStill_38 rfl lay_6 (by decide) fl6_18 ha rfl rfl (hx33) ?_
        refine tn_iconst dX6_standsStill_41 ?_
        refine tn_aload_n dX6_standsStill_42 rfl 1 rfl ?_
        refine tn_iload_n dX6_standsStill_43 rfl 2 rfl ?_
        refine tn_bipush dX6_standsStill_44 (by decide) ?_
        refine tn_callV (M := m_X6_standsStill) (pc := 46) (ix := 34) (ci := 1) (M' := m_X1_get) (As := [.int (iI p2), .int (iI 6)]) (rest := [.int (iI 0), .ref x32]) dX6_standsStill_46 ok_X1_get im_X1_get se_X1_get ml6_34 np_X1_get rfl rfl h_p1 rfl (Nat.le_of_ble_eq_true rfl) (Nat.le_of_ble_eq_true rfl) rfl (k_X1_get (d + 1) (T := T) (σ := σ) (a := p1) (k := p2) (c := 6) h_p1 (by omega) (by decide) hw (by omega)) (fun r56 T58 σ57 gt59 hp => ?_)
        obtain ⟨v61, rfl, rfl, rfl, f60⟩ := hp
        clear gt59
        show Tn _ _ 49 T σ [(0, .ref a), (1, .ref p1), (2, .int (iI p2))] [.int (iI v61), .int (iI 0), .ref x32] _
        refine tn_callSN (M := m_X6_standsStill) (pc := 49) (ix := 131) (M' := m_X11_has) (As := [.ref x32, .int (iI 0), .int (iI v61)]) (rest := []) dX6_standsStill_49 ok_X11_has stt_X11_has nl6_131 np_X11_has rfl (Nat.le_of_ble_eq_true rfl) (Nat.le_of_ble_eq_true rfl) rfl (k_X11_has (d) (T := T) (σ := σ) (x := x32) (k := 0) (r := v61) hk34 (by omega) (by decide) (by omega) hw ) (fun r62 T64 σ63 gt65 hp => ?_)
        obtain ⟨v67, rfl, rfl, rfl, f66⟩ := hp
        clear gt65
        show Tn _ _ 52 T σ [(0, .ref a), (1, .ref p1), (2, .int (iI p2))] [.int (iI v67)] _
        refine tn_if_ne (tgt := 59) dX6_standsStill_52 (by decide) ⟨by omega, by omega⟩ (fun h68 => ?_) (fun h68 => ?_)
        · refine tn_iconst dX6_standsStill_59 ?_
          exact tn_zret (v := 0) rfl (by decide) dX6_standsStill_60 ⟨_, rfl, rfl, rfl, by omega⟩
        · refine tn_iconst dX6_standsStill_55 ?_
          refine tn_goto (tgt := 60) dX6_standsStill_56 (by decide) ?_
          exact tn_zret (v := 1) rfl (by decide) dX6_standsStill_60 ⟨_, rfl, rfl, rfl, by omega⟩
