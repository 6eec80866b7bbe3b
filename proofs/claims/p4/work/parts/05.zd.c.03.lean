set_option maxHeartbeats 4000000 in
set_option maxRecDepth 20000 in
theorem k_X1_empty_f (d : Nat) {T : CT} {σ : MS} {a : Nat} {r : Int} (ha : OB T a 1) (h_r : -2147483648 ≤ r ∧ r ≤ 2147483647) (hw : WT T σ) : Tn (d + 2) m_X1_empty 0 T σ [(0, .ref a), (1, .int (iI r))] [] (fun ro T2 σ2 => ro = none ∧ T = T2 ∧ WT T2 σ2 ∧ FrC T [6, 7, 8, 9, 10] σ σ2 ∧ (σ2.2.1 6 a = 0) ∧ (σ2.2.1 7 a = 0)) := by
  refine tn_aload_n dX1_empty_0 rfl 0 rfl ?_
  refine tn_iconst dX1_empty_1 ?_
  obtain ⟨x1, hx2, hl4, hk3a, hk3b⟩ := wf_5 hw ha
  have hk3i : IA T x1 := by unfold IA; omega
  have hk3c : CELL T a x1 := ⟨hk3a, hk3b⟩
  clear hk3a hk3b
  refine tn_putV (ci := 1) (i := 1) (n := 6) (r := false) (v := 0) tyX1 tyX1_ok nmX1 dX1_empty_2 rfl lay_1 (by decide) fl1_33 rfl (tyX1_ok 1 (by decide)) rfl rfl rfl ha rfl rfl ?_
  refine tn_aload_n dX1_empty_5 rfl 0 rfl ?_
  refine tn_iconst dX1_empty_6 ?_
  refine tn_putV (ci := 1) (i := 2) (n := 7) (r := false) (v := 0) tyX1 tyX1_ok nmX1 dX1_empty_7 rfl lay_1 (by decide) fl1_37 rfl (tyX1_ok 2 (by decide)) rfl rfl rfl ha rfl rfl ?_
  refine tn_aload_n dX1_empty_10 rfl 0 rfl ?_
  refine tn_iconst dX1_empty_11 ?_
  refine tn_putV (ci := 1) (i := 3) (n := 8) (r := false) (v := 0) tyX1 tyX1_ok nmX1 dX1_empty_12 rfl lay_1 (by decide) fl1_40 rfl (tyX1_ok 3 (by decide)) rfl rfl rfl ha rfl rfl ?_
  refine tn_aload_n dX1_empty_15 rfl 0 rfl ?_
  refine tn_iconst dX1_empty_16 ?_
  refine tn_putV (ci := 1) (i := 4) (n := 9) (r := false) (v := 0) tyX1 tyX1_ok nmX1 dX1_empty_17 rfl lay_1 (by decide) fl1_43 rfl (tyX1_ok 4 (by decide)) rfl rfl rfl ha rfl rfl ?_
  refine tn_aload_n dX1_empty_20 rfl 0 rfl ?_
  refine tn_iconst dX1_empty_21 ?_
  refine tn_putV (ci := 1) (i := 5) (n := 10) (r := false) (v := 1) tyX1 tyX1_ok nmX1 dX1_empty_22 rfl lay_1 (by decide) fl1_46 rfl (tyX1_ok 5 (by decide)) rfl rfl rfl ha rfl rfl ?_
  refine tn_aload_n dX1_empty_25 rfl 0 rfl ?_
  obtain ⟨x5, hx6, hk7, hl8⟩ : ∃ x : Nat, σ.2.1 11 a = (x : Int) ∧ AR T x 1 12 12 := wf_11 hw ha
  have hk7i : IA T x5 := by unfold IA; omega
  refine tn_getR (ci := 1) (i := 6) (n := 11) (x := x5) dX1_empty_26 rfl lay_1 (by decide) fl1_15 ha rfl rfl (rc_o (by decide) (rc_o (by decide) (rc_o (by decide) (rc_o (by decide) (rc_o (by decide) (hx6)))))) ?_
  refine tn_iconst dX1_empty_29 ?_
  refine tn_iload_n dX1_empty_30 rfl 1 rfl ?_
  refine tn_callSN (M := m_X1_empty) (pc := 31) (ix := 49) (M' := m_X11_put) (As := [.ref x5, .int (iI 0), .int (iI r)]) (rest := []) dX1_empty_31 ok_X11_put stt_X11_put nl1_49 np_X11_put rfl (Nat.le_of_ble_eq_true rfl) (Nat.le_of_ble_eq_true rfl) rfl (k_X11_put (d) (T := T) (σ := (sA 10 a (1) (sA 9 a (0) (sA 8 a (0) (sA 7 a (0) (sA 6 a (0) σ)))))) (x := x5) (i := 0) (y := r) hk7i (by omega) (by decide) (by omega) (((((hw.put6 (hx2) (fo_6 ⟨by omega, by omega⟩) (Or.inl (by omega))).put (by decide) (by decide) (fo_7 (by omega))).put (by decide) (by decide) (fo_8 (by omega))).put (by decide) (by decide) (fo_9 (by omega))).put (by decide) (by decide) (fo_10 (by omega))) (nh_k hk7 (by unfold HT; omega)) (vok_1 (by have q9 := hk7; omega) (by omega))) (fun r9 T11 σ10 gt12 hp => ?_)
  obtain ⟨rfl, rfl, w14, F15⟩ := hp
  clear gt12
  show Tn _ _ 34 T σ10 [(0, .ref a), (1, .int (iI r))] [] _
  refine tn_aload_n dX1_empty_34 rfl 0 rfl ?_
  obtain ⟨x16, hx17, hk18, hl19⟩ : ∃ x : Nat, σ.2.1 12 a = (x : Int) ∧ AR T x 1 12 12 := wf_12 hw ha
  have hk18i : IA T x16 := by unfold IA; omega
  refine tn_getR (ci := 1) (i := 7) (n := 12) (x := x16) dX1_empty_35 rfl lay_1 (by decide) fl1_18 ha rfl rfl (rc_F F15 (Or.inl (by decide)) (by decide) (rc_o (by decide) (rc_o (by decide) (rc_o (by decide) (rc_o (by decide) (rc_o (by decide) (hx17))))))) ?_
  refine tn_iconst dX1_empty_38 ?_
  refine tn_iconst dX1_empty_39 ?_
  refine tn_callSN (M := m_X1_empty) (pc := 40) (ix := 49) (M' := m_X11_put) (As := [.ref x16, .int (iI 0), .int (iI (-1))]) (rest := []) dX1_empty_40 ok_X11_put stt_X11_put nl1_49 np_X11_put rfl (Nat.le_of_ble_eq_true rfl) (Nat.le_of_ble_eq_true rfl) rfl (k_X11_put (d) (T := T) (σ := σ10) (x := x16) (i := 0) (y := -1) hk18i (by omega) (by decide) (by decide) w14 (nh_k hk18 (by unfold HT; omega)) (vok_1 (by have q9 := hk18; omega) (by omega))) (fun r20 T22 σ21 gt23 hp => ?_)
  obtain ⟨rfl, rfl, w25, F26⟩ := hp
  clear gt23
  show Tn _ _ 43 T σ21 [(0, .ref a), (1, .int (iI r))] [] _
  refine tn_aload_n dX1_empty_43 rfl 0 rfl ?_
  obtain ⟨x27, hx28, hk29, hl30⟩ : ∃ x : Nat, σ.2.1 13 a = (x : Int) ∧ AR T x 1 12 12 := wf_13 hw ha
  have hk29i : IA T x27 := by unfold IA; omega
  refine tn_getR (ci := 1) (i := 8) (n := 13) (x := x27) dX1_empty_44 rfl lay_1 (by decide) fl1_21 ha rfl rfl (rc_F F26 (Or.inl (by decide)) (by decide) (rc_F F15 (Or.inl (by decide)) (by decide) (rc_o (by decide) (rc_o (by decide) (rc_o (by decide) (rc_o (by decide) (rc_o (by decide) (hx28)))))))) ?_
  refine tn_iconst dX1_empty_47 ?_
  refine tn_iconst dX1_empty_48 ?_
  refine tn_callSN (M := m_X1_empty) (pc := 49) (ix := 49) (M' := m_X11_put) (As := [.ref x27, .int (iI 0), .int (iI 0)]) (rest := []) dX1_empty_49 ok_X11_put stt_X11_put nl1_49 np_X11_put rfl (Nat.le_of_ble_eq_true rfl) (Nat.le_of_ble_eq_true rfl) rfl (k_X11_put (d) (T := T) (σ := σ21) (x := x27) (i := 0) (y := 0) hk29i (by omega) (by decide) (by decide) w25 (nh_k hk29 (by unfold HT; omega)) vok_0) (fun r31 T33 σ32 gt34 hp => ?_)
  obtain ⟨rfl, rfl, w36, F37⟩ := hp
  clear gt34
  show Tn _ _ 52 T σ32 [(0, .ref a), (1, .int (iI r))] [] _
  refine tn_aload_n dX1_empty_52 rfl 0 rfl ?_
  obtain ⟨x38, hx39, hk40, hl41⟩ : ∃ x : Nat, σ.2.1 14 a = (x : Int) ∧ AR T x 11 12 12 := wf_14 hw ha
  have hk40i : IA T x38 := by unfold IA; omega
  refine tn_getR (ci := 1) (i := 9) (n := 14) (x := x38) dX1_empty_53 rfl lay_1 (by decide) fl1_24 ha rfl rfl (rc_F F37 (Or.inl (by decide)) (by decide) (rc_F F26 (Or.inl (by decide)) (by decide) (rc_F F15 (Or.inl (by decide)) (by decide) (rc_o (by decide) (rc_o (by decide) (rc_o (by decide) (rc_o (by decide) (rc_o (by decide) (hx39))))))))) ?_
  refine tn_iconst dX1_empty_56 ?_
  refine tn_iconst dX1_empty_57 ?_
  refine tn_callSN (M := m_X1_empty) (pc := 58) (ix := 49) (M' := m_X11_put) (As := [.ref x38, .int (iI 0), .int (iI 0)]) (rest := []) dX1_empty_58 ok_X11_put stt_X11_put nl1_49 np_X11_put rfl (Nat.le_of_ble_eq_true rfl) (Nat.le_of_ble_eq_true rfl) rfl (k_X11_put (d) (T := T) (σ := σ32) (x := x38) (i := 0) (y := 0) hk40i (by omega) (by decide) (by decide) w36 (nh_k hk40 (by unfold HT; omega)) vok_0) (fun r42 T44 σ43 gt45 hp => ?_)
  obtain ⟨rfl, rfl, w47, F48⟩ := hp
  clear gt45
  show Tn _ _ 61 T σ43 [(0, .ref a), (1, .int (iI r))] [] _
  have q49 : σ43.2.1 6 a = 0 := rc_F F48 (Or.inl (by decide)) (by decide) (rc_F F37 (Or.inl (by decide)) (by decide) (rc_F F26 (Or.inl (by decide)) (by decide) (rc_F F15 (Or.inl (by decide)) (by decide) (rc_o (by decide) (rc_o (by decide) (rc_o (by decide) (rc_o (by decide) (ra_eq))))))))
  have q50 : σ43.2.1 7 a = 0 := rc_F F48 (Or.inl (by decide)) (by decide) (rc_F F37 (Or.inl (by decide)) (by decide) (rc_F F26 (Or.inl (by decide)) (by decide) (rc_F F15 (Or.inl (by decide)) (by decide) (rc_o (by decide) (rc_o (by decide) (rc_o (by decide) (ra_eq)))))))
  exact tn_vret rfl dX1_empty_61 ⟨rfl, rfl, w47, (((((((((FrC.rfl.put (by decide) (by decide)).put (by decide) (by decide)).put (by decide) (by decide)).put (by decide) (by decide)).put (by decide) (by decide)).trans (FrC.sub F15 (by decide))).trans (FrC.sub F26 (by decide))).trans (FrC.sub F37 (by decide))).trans (FrC.sub F48 (by decide))), q49, q50⟩
