set_option maxHeartbeats 4000000 in
set_option maxRecDepth 20000 in
theorem k_X11_feed_g (d : Nat) {T : CT} {σ : MS} {a : Nat} {p : Int} {q : Int} {r : Int} {s : Int} {t : Int} (ha : OB T a 11) (h_p : -2147483648 ≤ p ∧ p ≤ 2147483647) (h_q : -2147483648 ≤ q ∧ q ≤ 2147483647) (h_r : -2147483648 ≤ r ∧ r ≤ 2147483647) (h_s : -2147483648 ≤ s ∧ s ≤ 2147483647) (h_t : -2147483648 ≤ t ∧ t ≤ 2147483647) (hw : WT T σ) : Tn (d + 2) m_X11_feed 0 T σ [(0, .ref a), (1, .int (iI p)), (2, .int (iI q)), (3, .int (iI r)), (4, .int (iI s)), (5, .int (iI t))] [] (fun ro T2 σ2 => ∃ v : Int, ro = some (.int (iI v)) ∧ T = T2 ∧ WT T2 σ2 ∧ FrC T [96, 502] σ σ2 ∧ (-2147483648 ≤ v ∧ v ≤ 2147483647) ∧ ((σ.2.1 96 a ≤ 1180 ∧ v = σ.2.1 96 a + 20 ∧ σ2.2.1 96 a = σ.2.1 96 a + 20) ∨ (1180 < σ.2.1 96 a ∧ v = -1 ∧ σ2.2.1 96 a = σ.2.1 96 a)) ∧ (FWQ σ σ2 a p q r s t)) := by
  refine tn_aload_n dX11_feed_0 rfl 0 rfl ?_
  refine tn_getI (ci := 11) (i := 1) (n := 96) (t := σ.2.1 96 a) dX11_feed_1 rfl lay_11 (by decide) fl11_87 ha rfl rfl (rfl) ?_
  have g1 : ((0 : Int) ≤ σ.2.1 96 a ∧ σ.2.1 96 a ≤ 1200) := wf_96 hw ha
  refine tn_bipush dX11_feed_4 (by decide) ?_
  refine tn_iadd dX11_feed_6 ?_
  refine tn_sipush dX11_feed_7 (by decide) ?_
  refine tn_icmp_le (tgt := 15) dX11_feed_10 (by decide) ⟨by omega, by omega⟩ ⟨by decide, by decide⟩ (fun h2 => ?_) (fun h2 => ?_)
  · refine tn_aload_n dX11_feed_15 rfl 0 rfl ?_
    refine tn_iload_n dX11_feed_16 rfl 1 rfl ?_
    refine tn_callV (M := m_X11_feed) (pc := 17) (ix := 90) (ci := 11) (M' := m_X11_tapeNumber) (As := [.int (iI p)]) (rest := []) dX11_feed_17 ok_X11_tapeNumber im_X11_tapeNumber se_X11_tapeNumber ml11_90 np_X11_tapeNumber rfl rfl ha rfl (Nat.le_of_ble_eq_true rfl) (Nat.le_of_ble_eq_true rfl) rfl (k_X11_tapeNumber_g (d) (T := T) (σ := σ) (a := a) (n := p) ha (by omega) hw (by rw [show σ.2.1 96 a = σ.2.1 96 a from rfl]; omega)) (fun r3 T5 σ4 gt6 hp => ?_)
    obtain ⟨rfl, rfl, w10, F11, f7, f8⟩ := hp
    clear gt6
    show Tn _ _ 20 T σ4 [(0, .ref a), (1, .int (iI p)), (2, .int (iI q)), (3, .int (iI r)), (4, .int (iI s)), (5, .int (iI t))] [] _
    refine tn_aload_n dX11_feed_20 rfl 0 rfl ?_
    refine tn_iload_n dX11_feed_21 rfl 2 rfl ?_
    refine tn_callV (M := m_X11_feed) (pc := 22) (ix := 90) (ci := 11) (M' := m_X11_tapeNumber) (As := [.int (iI q)]) (rest := []) dX11_feed_22 ok_X11_tapeNumber im_X11_tapeNumber se_X11_tapeNumber ml11_90 np_X11_tapeNumber rfl rfl ha rfl (Nat.le_of_ble_eq_true rfl) (Nat.le_of_ble_eq_true rfl) rfl (k_X11_tapeNumber_g (d) (T := T) (σ := σ4) (a := a) (n := q) ha (by omega) w10 (by rw [show σ4.2.1 96 a = σ4.2.1 96 a from rfl]; omega)) (fun r12 T14 σ13 gt15 hp => ?_)
    obtain ⟨rfl, rfl, w19, F20, f16, f17⟩ := hp
    clear gt15
    show Tn _ _ 25 T σ13 [(0, .ref a), (1, .int (iI p)), (2, .int (iI q)), (3, .int (iI r)), (4, .int (iI s)), (5, .int (iI t))] [] _
    refine tn_aload_n dX11_feed_25 rfl 0 rfl ?_
    refine tn_iload_n dX11_feed_26 rfl 3 rfl ?_
    refine tn_callV (M := m_X11_feed) (pc := 27) (ix := 90) (ci := 11) (M' := m_X11_tapeNumber) (As := [.int (iI r)]) (rest := []) dX11_feed_27 ok_X11_tapeNumber im_X11_tapeNumber se_X11_tapeNumber ml11_90 np_X11_tapeNumber rfl rfl ha rfl (Nat.le_of_ble_eq_true rfl) (Nat.le_of_ble_eq_true rfl) rfl (k_X11_tapeNumber_g (d) (T := T) (σ := σ13) (a := a) (n := r) ha (by omega) w19 (by rw [show σ13.2.1 96 a = σ13.2.1 96 a from rfl]; omega)) (fun r21 T23 σ22 gt24 hp => ?_)
    obtain ⟨rfl, rfl, w28, F29, f25, f26⟩ := hp
    clear gt24
    show Tn _ _ 30 T σ22 [(0, .ref a), (1, .int (iI p)), (2, .int (iI q)), (3, .int (iI r)), (4, .int (iI s)), (5, .int (iI t))] [] _
    refine tn_aload_n dX11_feed_30 rfl 0 rfl ?_
    refine tn_iload dX11_feed_31 4 rfl ?_
    refine tn_callV (M := m_X11_feed) (pc := 33) (ix := 90) (ci := 11) (M' := m_X11_tapeNumber) (As := [.int (iI s)]) (rest := []) dX11_feed_33 ok_X11_tapeNumber im_X11_tapeNumber se_X11_tapeNumber ml11_90 np_X11_tapeNumber rfl rfl ha rfl (Nat.le_of_ble_eq_true rfl) (Nat.le_of_ble_eq_true rfl) rfl (k_X11_tapeNumber_g (d) (T := T) (σ := σ22) (a := a) (n := s) ha (by omega) w28 (by rw [show σ22.2.1 96 a = σ22.2.1 96 a from rfl]; omega)) (fun r30 T32 σ31 gt33 hp => ?_)
    obtain ⟨rfl, rfl, w37, F38, f34, f35⟩ := hp
    clear gt33
    show Tn _ _ 36 T σ31 [(0, .ref a), (1, .int (iI p)), (2, .int (iI q)), (3, .int (iI r)), (4, .int (iI s)), (5, .int (iI t))] [] _
    refine tn_aload_n dX11_feed_36 rfl 0 rfl ?_
    refine tn_iload dX11_feed_37 5 rfl ?_
    refine tn_callV (M := m_X11_feed) (pc := 39) (ix := 90) (ci := 11) (M' := m_X11_tapeNumber) (As := [.int (iI t)]) (rest := []) dX11_feed_39 ok_X11_tapeNumber im_X11_tapeNumber se_X11_tapeNumber ml11_90 np_X11_tapeNumber rfl rfl ha rfl (Nat.le_of_ble_eq_true rfl) (Nat.le_of_ble_eq_true rfl) rfl (k_X11_tapeNumber_g (d) (T := T) (σ := σ31) (a := a) (n := t) ha (by omega) w37 (by rw [show σ31.2.1 96 a = σ31.2.1 96 a from rfl]; omega)) (fun r39 T41 σ40 gt42 hp => ?_)
    obtain ⟨rfl, rfl, w46, F47, f43, f44⟩ := hp
    clear gt42
    show Tn _ _ 42 T σ40 [(0, .ref a), (1, .int (iI p)), (2, .int (iI q)), (3, .int (iI r)), (4, .int (iI s)), (5, .int (iI t))] [] _
    refine tn_aload_n dX11_feed_42 rfl 0 rfl ?_
    refine tn_getI (ci := 11) (i := 1) (n := 96) (t := σ40.2.1 96 a) dX11_feed_43 rfl lay_11 (by decide) fl11_87 ha rfl rfl (rfl) ?_
    have g48 : ((0 : Int) ≤ σ40.2.1 96 a ∧ σ40.2.1 96 a ≤ 1200) := wf_96 w46 ha
    have q49 : σ40.2.1 96 a = σ40.2.1 96 a := rfl
    obtain ⟨x50, hx51, hk52, hl53⟩ : ∃ x : Nat, σ.2.1 95 a = (x : Int) ∧ AR T x 2 1200 1200 := wf_95 hw ha
    have w54x0 : σ.2.1 95 a = (x50 : Int) := hx51
    have w54w0 := f8 x50 w54x0
    have w54x1 : σ4.2.1 95 a = (x50 : Int) := rc_F F11 (Or.inl (by decide)) (by decide) w54x0
    have w54w1 := f17 x50 w54x1
    have w54x2 : σ13.2.1 95 a = (x50 : Int) := rc_F F20 (Or.inl (by decide)) (by decide) w54x1
    have w54w2 := f26 x50 w54x2
    have w54x3 : σ22.2.1 95 a = (x50 : Int) := rc_F F29 (Or.inl (by decide)) (by decide) w54x2
    have w54w3 := f35 x50 w54x3
    have w54x4 : σ31.2.1 95 a = (x50 : Int) := rc_F F38 (Or.inl (by decide)) (by decide) w54x3
    have w54w4 := f44 x50 w54x4
    exact tn_iret rfl dX11_feed_46 ⟨_, rfl, rfl, w46, (((((FrC.rfl.trans (FrC.sub F11 (by decide))).trans (FrC.sub F20 (by decide))).trans (FrC.sub F29 (by decide))).trans (FrC.sub F38 (by decide))).trans (FrC.sub F47 (by decide))), by omega, by omega, fun y hy => ⟨fun _ => by
        have e : y = x50 := by omega
        rw [e, w54w4, w54w3, w54w2, w54w1, w54w0, show σ31.2.1 96 a = σ.2.1 96 a + 16 by omega, show σ22.2.1 96 a = σ.2.1 96 a + 12 by omega, show σ13.2.1 96 a = σ.2.1 96 a + 8 by omega, show σ4.2.1 96 a = σ.2.1 96 a + 4 by omega]; rfl, fun q => absurd q (by omega)⟩⟩
  · refine tn_iconst dX11_feed_13 ?_
    have q55 : σ.2.1 96 a = σ.2.1 96 a := rfl
    obtain ⟨x56, hx57, hk58, hl59⟩ : ∃ x : Nat, σ.2.1 95 a = (x : Int) ∧ AR T x 2 1200 1200 := wf_95 hw ha
    exact tn_iret rfl dX11_feed_14 ⟨_, rfl, rfl, hw, FrC.rfl, by omega, by omega, fun y hy => ⟨fun q => absurd q (by omega), fun _ => rfl⟩⟩
