set_option maxHeartbeats 1000000 in
set_option maxRecDepth 20000 in
theorem k_X11_feed_hg (d : Nat) {T : CT} {σ : MS} {a : Nat} {p : Int} {q : Int} {r : Int} {s : Int} {t : Int} {xt : Nat} (ha : OB T a 11) (h_p : -2147483648 ≤ p ∧ p ≤ 2147483647) (h_q : -2147483648 ≤ q ∧ q ≤ 2147483647) (h_r : -2147483648 ≤ r ∧ r ≤ 2147483647) (h_s : -2147483648 ≤ s ∧ s ≤ 2147483647) (h_t : -2147483648 ≤ t ∧ t ≤ 2147483647) (hw : WT T σ) (hxt : σ.2.1 95 a = (xt : Int)) : Tn (d + 2) m_X11_feed 0 T σ [(0, .ref a), (1, .int (iI p)), (2, .int (iI q)), (3, .int (iI r)), (4, .int (iI s)), (5, .int (iI t))] [] (fun ro T2 σ2 => ∃ v : Int, ro = some (.int (iI v)) ∧ T = T2 ∧ WT T2 σ2 ∧ FrC T [96, 502] σ σ2 ∧ (-2147483648 ≤ v ∧ v ≤ 2147483647) ∧ (CHX [(96, a)] [xt] [] σ σ2) ∧ ((σ.2.1 96 a ≤ 1180 ∧ v = σ.2.1 96 a + 20 ∧ σ2.2.1 96 a = σ.2.1 96 a + 20) ∨ (1180 < σ.2.1 96 a ∧ v = -1 ∧ σ2.2.1 96 a = σ.2.1 96 a)) ∧ (FWQ σ σ2 a p q r s t)) := by
  refine tn_aload_n dX11_feed_0 rfl 0 rfl ?_
  refine tn_getI (ci := 11) (i := 1) (n := 96) (t := σ.2.1 96 a) dX11_feed_1 rfl lay_11 (by decide) fl11_87 ha rfl rfl (rfl) ?_
  have g1 : ((0 : Int) ≤ σ.2.1 96 a ∧ σ.2.1 96 a ≤ 1200) := wf_96 hw ha
  refine tn_bipush dX11_feed_4 (by decide) ?_
  refine tn_iadd dX11_feed_6 ?_
  refine tn_sipush dX11_feed_7 (by decide) ?_
  refine tn_icmp_le (tgt := 15) dX11_feed_10 (by decide) ⟨by omega, by omega⟩ ⟨by decide, by decide⟩ (fun h2 => ?_) (fun h2 => ?_)
  · refine tn_aload_n dX11_feed_15 rfl 0 rfl ?_
    refine tn_iload_n dX11_feed_16 rfl 1 rfl ?_
    obtain ⟨hk5, hl6⟩ : AR T xt 2 1200 1200 := ar_of (wf_95 hw ha) hxt
    refine tn_callV (M := m_X11_feed) (pc := 17) (ix := 90) (ci := 11) (M' := m_X11_tapeNumber) (As := [.int (iI p)]) (rest := []) dX11_feed_17 ok_X11_tapeNumber im_X11_tapeNumber se_X11_tapeNumber ml11_90 np_X11_tapeNumber rfl rfl ha rfl (Nat.le_of_ble_eq_true rfl) (Nat.le_of_ble_eq_true rfl) rfl (k_X11_tapeNumber_hg (d) (T := T) (σ := σ) (a := a) (n := p) (xt := xt) ha (by omega) hw (hxt) (by rw [show σ.2.1 96 a = σ.2.1 96 a from rfl]; omega)) (fun r7 T9 σ8 gt10 hp => ?_)
    obtain ⟨rfl, rfl, w15, F16, f11, f12, f13⟩ := hp
    clear gt10
    show Tn _ _ 20 T σ8 [(0, .ref a), (1, .int (iI p)), (2, .int (iI q)), (3, .int (iI r)), (4, .int (iI s)), (5, .int (iI t))] [] _
    refine tn_aload_n dX11_feed_20 rfl 0 rfl ?_
    refine tn_iload_n dX11_feed_21 rfl 2 rfl ?_
    refine tn_callV (M := m_X11_feed) (pc := 22) (ix := 90) (ci := 11) (M' := m_X11_tapeNumber) (As := [.int (iI q)]) (rest := []) dX11_feed_22 ok_X11_tapeNumber im_X11_tapeNumber se_X11_tapeNumber ml11_90 np_X11_tapeNumber rfl rfl ha rfl (Nat.le_of_ble_eq_true rfl) (Nat.le_of_ble_eq_true rfl) rfl (k_X11_tapeNumber_hg (d) (T := T) (σ := σ8) (a := a) (n := q) (xt := xt) ha (by omega) w15 (rc_F F16 (Or.inl (by decide)) (by decide) (hxt)) (by rw [show σ8.2.1 96 a = σ8.2.1 96 a from rfl]; omega)) (fun r17 T19 σ18 gt20 hp => ?_)
    obtain ⟨rfl, rfl, w25, F26, f21, f22, f23⟩ := hp
    clear gt20
    show Tn _ _ 25 T σ18 [(0, .ref a), (1, .int (iI p)), (2, .int (iI q)), (3, .int (iI r)), (4, .int (iI s)), (5, .int (iI t))] [] _
    refine tn_aload_n dX11_feed_25 rfl 0 rfl ?_
    refine tn_iload_n dX11_feed_26 rfl 3 rfl ?_
    refine tn_callV (M := m_X11_feed) (pc := 27) (ix := 90) (ci := 11) (M' := m_X11_tapeNumber) (As := [.int (iI r)]) (rest := []) dX11_feed_27 ok_X11_tapeNumber im_X11_tapeNumber se_X11_tapeNumber ml11_90 np_X11_tapeNumber rfl rfl ha rfl (Nat.le_of_ble_eq_true rfl) (Nat.le_of_ble_eq_true rfl) rfl (k_X11_tapeNumber_hg (d) (T := T) (σ := σ18) (a := a) (n := r) (xt := xt) ha (by omega) w25 (rc_F F26 (Or.inl (by decide)) (by decide) (rc_F F16 (Or.inl (by decide)) (by decide) (hxt))) (by rw [show σ18.2.1 96 a = σ18.2.1 96 a from rfl]; omega)) (fun r27 T29 σ28 gt30 hp => ?_)
    obtain ⟨rfl, rfl, w35, F36, f31, f32, f33⟩ := hp
    clear gt30
    show Tn _ _ 30 T σ28 [(0, .ref a), (1, .int (iI p)), (2, .int (iI q)), (3, .int (iI r)), (4, .int (iI s)), (5, .int (iI t))] [] _
    refine tn_aload_n dX11_feed_30 rfl 0 rfl ?_
    refine tn_iload dX11_feed_31 4 rfl ?_
    refine tn_callV (M := m_X11_feed) (pc := 33) (ix := 90) (ci := 11) (M' := m_X11_tapeNumber) (As := [.int (iI s)]) (rest := []) dX11_feed_33 ok_X11_tapeNumber im_X11_tapeNumber se_X11_tapeNumber ml11_90 np_X11_tapeNumber rfl rfl ha rfl (Nat.le_of_ble_eq_true rfl) (Nat.le_of_ble_eq_true rfl) rfl (k_X11_tapeNumber_hg (d) (T := T) (σ := σ28) (a := a) (n := s) (xt := xt) ha (by omega) w35 (rc_F F36 (Or.inl (by decide)) (by decide) (rc_F F26 (Or.inl (by decide)) (by decide) (rc_F F16 (Or.inl (by decide)) (by decide) (hxt)))) (by rw [show σ28.2.1 96 a = σ28.2.1 96 a from rfl]; omega)) (fun r37 T39 σ38 gt40 hp => ?_)
    obtain ⟨rfl, rfl, w45, F46, f41, f42, f43⟩ := hp
    clear gt40
    show Tn _ _ 36 T σ38 [(0, .ref a), (1, .int (iI p)), (2, .int (iI q)), (3, .int (iI r)), (4, .int (iI s)), (5, .int (iI t))] [] _
    refine tn_aload_n dX11_feed_36 rfl 0 rfl ?_
    refine tn_iload dX11_feed_37 5 rfl ?_
    refine tn_callV (M := m_X11_feed) (pc := 39) (ix := 90) (ci := 11) (M' := m_X11_tapeNumber) (As := [.int (iI t)]) (rest := []) dX11_feed_39 ok_X11_tapeNumber im_X11_tapeNumber se_X11_tapeNumber ml11_90 np_X11_tapeNumber rfl rfl ha rfl (Nat.le_of_ble_eq_true rfl) (Nat.le_of_ble_eq_true rfl) rfl (k_X11_tapeNumber_hg (d) (T := T) (σ := σ38) (a := a) (n := t) (xt := xt) ha (by omega) w45 (rc_F F46 (Or.inl (by decide)) (by decide) (rc_F F36 (Or.inl (by decide)) (by decide) (rc_F F26 (Or.inl (by decide)) (by decide) (rc_F F16 (Or.inl (by decide)) (by decide) (hxt))))) (by rw [show σ38.2.1 96 a = σ38.2.1 96 a from rfl]; omega)) (fun r47 T49 σ48 gt50 hp => ?_)
    obtain ⟨rfl, rfl, w55, F56, f51, f52, f53⟩ := hp
    clear gt50
    show Tn _ _ 42 T σ48 [(0, .ref a), (1, .int (iI p)), (2, .int (iI q)), (3, .int (iI r)), (4, .int (iI s)), (5, .int (iI t))] [] _
    refine tn_aload_n dX11_feed_42 rfl 0 rfl ?_
    refine tn_getI (ci := 11) (i := 1) (n := 96) (t := σ48.2.1 96 a) dX11_feed_43 rfl lay_11 (by decide) fl11_87 ha rfl rfl (rfl) ?_
    have g57 : ((0 : Int) ≤ σ48.2.1 96 a ∧ σ48.2.1 96 a ≤ 1200) := wf_96 w55 ha
    have q58 : σ48.2.1 96 a = σ48.2.1 96 a := rfl
    have w59x0 : σ.2.1 95 a = (xt : Int) := hxt
    have w59w0 := f13 xt w59x0
    have w59x1 : σ8.2.1 95 a = (xt : Int) := rc_F F16 (Or.inl (by decide)) (by decide) w59x0
    have w59w1 := f23 xt w59x1
    have w59x2 : σ18.2.1 95 a = (xt : Int) := rc_F F26 (Or.inl (by decide)) (by decide) w59x1
    have w59w2 := f33 xt w59x2
    have w59x3 : σ28.2.1 95 a = (xt : Int) := rc_F F36 (Or.inl (by decide)) (by decide) w59x2
    have w59w3 := f43 xt w59x3
    have w59x4 : σ38.2.1 95 a = (xt : Int) := rc_F F46 (Or.inl (by decide)) (by decide) w59x3
    have w59w4 := f53 xt w59x4
    exact tn_iret rfl dX11_feed_46 ⟨_, rfl, rfl, w55, (((((FrC.rfl.trans (FrC.sub F16 (by decide))).trans (FrC.sub F26 (by decide))).trans (FrC.sub F36 (by decide))).trans (FrC.sub F46 (by decide))).trans (FrC.sub F56 (by decide))), by omega, (((((CHX.rfl.trans (CHX.sub f11 (by simp) (by simp) (by simp))).trans (CHX.sub f21 (by simp) (by simp) (by simp))).trans (CHX.sub f31 (by simp) (by simp) (by simp))).trans (CHX.sub f41 (by simp) (by simp) (by simp))).trans (CHX.sub f51 (by simp) (by simp) (by simp))), by omega, fun y hy => ⟨fun _ => by
        have e : y = xt := by omega
        rw [e, w59w4, w59w3, w59w2, w59w1, w59w0, show σ38.2.1 96 a = σ.2.1 96 a + 16 by omega, show σ28.2.1 96 a = σ.2.1 96 a + 12 by omega, show σ18.2.1 96 a = σ.2.1 96 a + 8 by omega, show σ8.2.1 96 a = σ.2.1 96 a + 4 by omega]; rfl, fun q => absurd q (by omega)⟩⟩
  · refine tn_iconst dX11_feed_13 ?_
    have q60 : σ.2.1 96 a = σ.2.1 96 a := rfl
    obtain ⟨hk63, hl64⟩ : AR T xt 2 1200 1200 := ar_of (wf_95 hw ha) hxt
    exact tn_iret rfl dX11_feed_14 ⟨_, rfl, rfl, hw, FrC.rfl, by omega, CHX.rfl, by omega, fun y hy => ⟨fun q => absurd q (by omega), fun _ => rfl⟩⟩
