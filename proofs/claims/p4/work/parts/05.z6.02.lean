theorem cd_X11_feed : Cond.code yX11_feed cX11_feed 6 (some .int) ∈ pWW := pw3 (List.mem_of_getElem? (i := 8) rfl) rfl
abbrev m_X11_feed : MT := (yX11_feed, cX11_feed, 6, (some .int))
theorem ok_X11_feed : pOk m_X11_feed := ⟨⟨cd_X11_feed, ini_11⟩, by decide +kernel, ⟨by decide +kernel, by decide +kernel⟩, Nat.le_of_ble_eq_true rfl⟩
theorem np_X11_feed : (parseMethodDescriptor yX11_feed.desc).map (fun d => d.parameters.length) = some 5 := by decide +kernel
theorem im_X11_feed : Cond.instanceMethod yX11_feed ∈ pWW := pw3 (List.mem_of_getElem? (i := 6) rfl) rfl
theorem se_X11_feed : Cond.selects RX11 yX11_feed yX11_feed ∈ pWW := pw3 (List.mem_of_getElem? (i := 7) rfl) rfl
theorem ml11_90 : Cond.methodLink RX11 90 yX11_tapeNumber ∈ pWW := pw3 (List.mem_of_getElem? (i := 9) rfl) rfl
theorem dX11_feed_0 : decode cX11_feed 0 = .ok (.aload_n 0, 1) := by decide +kernel
theorem dX11_feed_1 : decode cX11_feed 1 = .ok (.getfield 87, 3) := by decide +kernel
theorem dX11_feed_4 : decode cX11_feed 4 = .ok (.bipush 20, 2) := by decide +kernel
theorem dX11_feed_6 : decode cX11_feed 6 = .ok (.iadd, 1) := by decide +kernel
theorem dX11_feed_7 : decode cX11_feed 7 = .ok (.sipush 1200, 3) := by decide +kernel
theorem dX11_feed_10 : decode cX11_feed 10 = .ok (.if_icmp .le 5, 3) := by decide +kernel
theorem dX11_feed_15 : decode cX11_feed 15 = .ok (.aload_n 0, 1) := by decide +kernel
theorem dX11_feed_16 : decode cX11_feed 16 = .ok (.iload_n 1, 1) := by decide +kernel
theorem dX11_feed_17 : decode cX11_feed 17 = .ok (.invokevirtual 90, 3) := by decide +kernel
theorem dX11_feed_20 : decode cX11_feed 20 = .ok (.aload_n 0, 1) := by decide +kernel
theorem dX11_feed_21 : decode cX11_feed 21 = .ok (.iload_n 2, 1) := by decide +kernel
theorem dX11_feed_22 : decode cX11_feed 22 = .ok (.invokevirtual 90, 3) := by decide +kernel
theorem dX11_feed_25 : decode cX11_feed 25 = .ok (.aload_n 0, 1) := by decide +kernel
theorem dX11_feed_26 : decode cX11_feed 26 = .ok (.iload_n 3, 1) := by decide +kernel
theorem dX11_feed_27 : decode cX11_feed 27 = .ok (.invokevirtual 90, 3) := by decide +kernel
theorem dX11_feed_30 : decode cX11_feed 30 = .ok (.aload_n 0, 1) := by decide +kernel
theorem dX11_feed_31 : decode cX11_feed 31 = .ok (.iload 4, 2) := by decide +kernel
theorem dX11_feed_33 : decode cX11_feed 33 = .ok (.invokevirtual 90, 3) := by decide +kernel
theorem dX11_feed_36 : decode cX11_feed 36 = .ok (.aload_n 0, 1) := by decide +kernel
theorem dX11_feed_37 : decode cX11_feed 37 = .ok (.iload 5, 2) := by decide +kernel
theorem dX11_feed_39 : decode cX11_feed 39 = .ok (.invokevirtual 90, 3) := by decide +kernel
theorem dX11_feed_42 : decode cX11_feed 42 = .ok (.aload_n 0, 1) := by decide +kernel
theorem dX11_feed_43 : decode cX11_feed 43 = .ok (.getfield 87, 3) := by decide +kernel
theorem dX11_feed_46 : decode cX11_feed 46 = .ok (.ireturn, 1) := by decide +kernel
theorem dX11_feed_13 : decode cX11_feed 13 = .ok (.iconst (-1), 1) := by decide +kernel
theorem dX11_feed_14 : decode cX11_feed 14 = .ok (.ireturn, 1) := by decide +kernel
set_option maxRecDepth 20000 in
theorem k_X11_feed (d : Nat) {T : CT} {σ : MS} {a : Nat} {p : Int} {q : Int} {r : Int} {s : Int} {t : Int} (ha : OB T a 11) (h_p : -2147483648 ≤ p ∧ p ≤ 2147483647) (h_q : -2147483648 ≤ q ∧ q ≤ 2147483647) (h_r : -2147483648 ≤ r ∧ r ≤ 2147483647) (h_s : -2147483648 ≤ s ∧ s ≤ 2147483647) (h_t : -2147483648 ≤ t ∧ t ≤ 2147483647) (hw : WT T σ) : Tn (d + 2) m_X11_feed 0 T σ [(0, .ref a), (1, .int (iI p)), (2, .int (iI q)), (3, .int (iI r)), (4, .int (iI s)), (5, .int (iI t))] [] (fun ro T2 σ2 => ∃ v : Int, ro = some (.int (iI v)) ∧ T = T2 ∧ WT T2 σ2 ∧ FrC T [96, 502] σ σ2 ∧ (-2147483648 ≤ v ∧ v ≤ 2147483647) ∧ ((σ.2.1 96 a ≤ 1180 ∧ v = σ.2.1 96 a + 20 ∧ σ2.2.1 96 a = σ.2.1 96 a + 20) ∨ (1180 < σ.2.1 96 a ∧ v = -1 ∧ σ2.2.1 96 a = σ.2.1 96 a))) := by
  refine tn_aload_n dX11_feed_0 rfl 0 rfl ?_
  refine tn_getI (ci := 11) (i := 1) (n := 96) (t := σ.2.1 96 a) dX11_feed_1 rfl lay_11 (by decide) fl11_87 ha rfl rfl (rfl) ?_
  have g1 : ((0 : Int) ≤ σ.2.1 96 a ∧ σ.2.1 96 a ≤ 1200) := wf_96 hw ha
  refine tn_bipush dX11_feed_4 (by decide) ?_
  refine tn_iadd dX11_feed_6 ?_
  refine tn_sipush dX11_feed_7 (by decide) ?_
  refine tn_icmp_le (tgt := 15) dX11_feed_10 (by decide) ⟨by omega, by omega⟩ ⟨by decide, by decide⟩ (fun h2 => ?_) (fun h2 => ?_)
  · refine tn_aload_n dX11_feed_15 rfl 0 rfl ?_
    refine tn_iload_n dX11_feed_16 rfl 1 rfl ?_
    refine tn_callV (M := m_X11_feed) (pc := 17) (ix := 90) (ci := 11) (M' := m_X11_tapeNumber) (As := [.int (iI p)]) (rest := []) dX11_feed_17 ok_X11_tapeNumber im_X11_tapeNumber se_X11_tapeNumber ml11_90 np_X11_tapeNumber rfl rfl ha rfl (Nat.le_of_ble_eq_true rfl) (Nat.le_of_ble_eq_true rfl) rfl (k_X11_tapeNumber_f (d) (T := T) (σ := σ) (a := a) (n := p) ha (by omega) hw (by rw [show σ.2.1 96 a = σ.2.1 96 a from rfl]; omega)) (fun r3 T5 σ4 gt6 hp => ?_)
    obtain ⟨rfl, rfl, w9, F10, f7⟩ := hp
    clear gt6
    show Tn _ _ 20 T σ4 [(0, .ref a), (1, .int (iI p)), (2, .int (iI q)), (3, .int (iI r)), (4, .int (iI s)), (5, .int (iI t))] [] _
    refine tn_aload_n dX11_feed_20 rfl 0 rfl ?_
    refine tn_iload_n dX11_feed_21 rfl 2 rfl ?_
    refine tn_callV (M := m_X11_feed) (pc := 22) (ix := 90) (ci := 11) (M' := m_X11_tapeNumber) (As := [.int (iI q)]) (rest := []) dX11_feed_22 ok_X11_tapeNumber im_X11_tapeNumber se_X11_tapeNumber ml11_90 np_X11_tapeNumber rfl rfl ha rfl (Nat.le_of_ble_eq_true rfl) (Nat.le_of_ble_eq_true rfl) rfl (k_X11_tapeNumber_f (d) (T := T) (σ := σ4) (a := a) (n := q) ha (by omega) w9 (by rw [show σ4.2.1 96 a = σ4.2.1 96 a from rfl]; omega)) (fun r11 T13 σ12 gt14 hp => ?_)
    obtain ⟨rfl, rfl, w17, F18, f15⟩ := hp
    clear gt14
    show Tn _ _ 25 T σ12 [(0, .ref a), (1, .int (iI p)), (2, .int (iI q)), (3, .int (iI r)), (4, .int (iI s)), (5, .int (iI t))] [] _
    refine tn_aload_n dX11_feed_25 rfl 0 rfl ?_
    refine tn_iload_n dX11_feed_26 rfl 3 rfl ?_
    refine tn_callV (M := m_X11_feed) (pc := 27) (ix := 90) (ci := 11) (M' := m_X11_tapeNumber) (As := [.int (iI r)]) (rest := []) dX11_feed_27 ok_X11_tapeNumber im_X11_tapeNumber se_X11_tapeNumber ml11_90 np_X11_tapeNumber rfl rfl ha rfl (Nat.le_of_ble_eq_true rfl) (Nat.le_of_ble_eq_true rfl) rfl (k_X11_tapeNumber_f (d) (T := T) (σ := σ12) (a := a) (n := r) ha (by omega) w17 (by rw [show σ12.2.1 96 a = σ12.2.1 96 a from rfl]; omega)) (fun r19 T21 σ20 gt22 hp => ?_)
    obtain ⟨rfl, rfl, w25, F26, f23⟩ := hp
    clear gt22
    show Tn _ _ 30 T σ20 [(0, .ref a), (1, .int (iI p)), (2, .int (iI q)), (3, .int (iI r)), (4, .int (iI s)), (5, .int (iI t))] [] _
    refine tn_aload_n dX11_feed_30 rfl 0 rfl ?_
    refine tn_iload dX11_feed_31 4 rfl ?_
    refine tn_callV (M := m_X11_feed) (pc := 33) (ix := 90) (ci := 11) (M' := m_X11_tapeNumber) (As := [.int (iI s)]) (rest := []) dX11_feed_33 ok_X11_tapeNumber im_X11_tapeNumber se_X11_tapeNumber ml11_90 np_X11_tapeNumber rfl rfl ha rfl (Nat.le_of_ble_eq_true rfl) (Nat.le_of_ble_eq_true rfl) rfl (k_X11_tapeNumber_f (d) (T := T) (σ := σ20) (a := a) (n := s) ha (by omega) w25 (by rw [show σ20.2.1 96 a = σ20.2.1 96 a from rfl]; omega)) (fun r27 T29 σ28 gt30 hp => ?_)
    obtain ⟨rfl, rfl, w33, F34, f31⟩ := hp
    clear gt30
    show Tn _ _ 36 T σ28 [(0, .ref a), (1, .int (iI p)), (2, .int (iI q)), (3, .int (iI r)), (4, .int (iI s)), (5, .int (iI t))] [] _
    refine tn_aload_n dX11_feed_36 rfl 0 rfl ?_
    refine tn_iload dX11_feed_37 5 rfl ?_
    refine tn_callV (M := m_X11_feed) (pc := 39) (ix := 90) (ci := 11) (M' := m_X11_tapeNumber) (As := [.int (iI t)]) (rest := []) dX11_feed_39 ok_X11_tapeNumber im_X11_tapeNumber se_X11_tapeNumber ml11_90 np_X11_tapeNumber rfl rfl ha rfl (Nat.le_of_ble_eq_true rfl) (Nat.le_of_ble_eq_true rfl) rfl (k_X11_tapeNumber_f (d) (T := T) (σ := σ28) (a := a) (n := t) ha (by omega) w33 (by rw [show σ28.2.1 96 a = σ28.2.1 96 a from rfl]; omega)) (fun r35 T37 σ36 gt38 hp => ?_)
    obtain ⟨rfl, rfl, w41, F42, f39⟩ := hp
    clear gt38
    show Tn _ _ 42 T σ36 [(0, .ref a), (1, .int (iI p)), (2, .int (iI q)), (3, .int (iI r)), (4, .int (iI s)), (5, .int (iI t))] [] _
    refine tn_aload_n dX11_feed_42 rfl 0 rfl ?_
    refine tn_getI (ci := 11) (i := 1) (n := 96) (t := σ36.2.1 96 a) dX11_feed_43 rfl lay_11 (by decide) fl11_87 ha rfl rfl (rfl) ?_
    have g43 : ((0 : Int) ≤ σ36.2.1 96 a ∧ σ36.2.1 96 a ≤ 1200) := wf_96 w41 ha
    have q44 : σ36.2.1 96 a = σ36.2.1 96 a := rfl
    exact tn_iret rfl dX11_feed_46 ⟨_, rfl, rfl, w41, (((((FrC.rfl.trans (FrC.sub F10 (by decide))).trans (FrC.sub F18 (by decide))).trans (FrC.sub F26 (by decide))).trans (FrC.sub F34 (by decide))).trans (FrC.sub F42 (by decide))), by omega, by omega⟩
  · refine tn_iconst dX11_feed_13 ?_
    have q45 : σ.2.1 96 a = σ.2.1 96 a := rfl
    exact tn_iret rfl dX11_feed_14 ⟨_, rfl, rfl, hw, FrC.rfl, by omega, by omega⟩
