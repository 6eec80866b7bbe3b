set_option maxRecDepth 20000 in
theorem k_X7_openCall_57 (d : Nat) {T : CT} {σ : MS} {a : Nat} {c : Int} {r : Int} (ha : OB T a 7) (hta : (T a).1 = 57) (h_c : -2147483648 ≤ c ∧ c ≤ 2147483647) (h_r : -2147483648 ≤ r ∧ r ≤ 2147483647) (hw : WT T σ) (h8 : 0 ≤ c ∧ c ≤ 8) (hd : 0 ≤ σ.2.1 58 a ∧ σ.2.1 58 a ≤ 100) : Tn (d + 3) m_X7_openCall 0 T σ [(0, .ref a), (1, .int (iI c)), (2, .int (iI r))] [] (fun ro T2 σ2 => ro = none ∧ T = T2 ∧ WT T2 σ2 ∧ FrC T [57, 58, 69, 515] σ σ2 ∧ (σ2.2.1 57 a = c) ∧ (σ2.2.1 58 a = σ.2.1 58 a + 1) ∧ (FA a σ σ2)) := by
  refine tn_aload_n dX7_openCall_0 rfl 0 rfl ?_
  refine tn_iload_n dX7_openCall_1 rfl 1 rfl ?_
  refine tn_putV (ci := 7) (i := 2) (n := 57) (r := false) (v := c) tyX7 tyX7_ok nmX7 dX7_openCall_2 rfl lay_7 (by decide) fl7_65 rfl (tyX7_ok 2 (by decide)) rfl rfl rfl ha rfl rfl ?_
  refine tn_aload_n dX7_openCall_5 rfl 0 rfl ?_
  refine tn_dup dX7_openCall_6 rfl ?_
  refine tn_getI (ci := 7) (i := 3) (n := 58) (t := σ.2.1 58 a) dX7_openCall_7 rfl lay_7 (by decide) fl7_38 ha rfl rfl (rc_o (by decide) (rfl)) ?_
  have g1 : ((-2147483648 : Int) ≤ σ.2.1 58 a ∧ σ.2.1 58 a ≤ 2147483647) := wf_58 hw ha
  refine tn_iconst dX7_openCall_10 ?_
  refine tn_iadd dX7_openCall_11 ?_
  refine tn_putV (ci := 7) (i := 3) (n := 58) (r := false) (v := (σ.2.1 58 a) + 1) tyX7 tyX7_ok nmX7 dX7_openCall_12 rfl lay_7 (by decide) fl7_38 rfl (tyX7_ok 3 (by decide)) rfl rfl rfl ha rfl rfl ?_
  refine tn_aload_n dX7_openCall_15 rfl 0 rfl ?_
  refine tn_aload_n dX7_openCall_16 rfl 0 rfl ?_
  refine tn_iload_n dX7_openCall_17 rfl 2 rfl ?_
  refine tn_callV (M := m_X7_openCall) (pc := 18) (ix := 68) (ci := 7) (M' := m_X7_codeAt) (As := [.int (iI r)]) (rest := [.ref a]) dX7_openCall_18 ok_X7_codeAt im_X7_codeAt se_X7_codeAt ml7_68 np_X7_codeAt rfl rfl ha rfl (Nat.le_of_ble_eq_true rfl) (Nat.le_of_ble_eq_true rfl) rfl (k_X7_codeAt (d + 1) (T := T) (σ := (sA 58 a ((σ.2.1 58 a) + 1) (sA 57 a (c) σ))) (a := a) (r := r) ha (by omega) ((hw.put (by decide) (by decide) (fo_57 ⟨by omega, by omega⟩)).put (by decide) (by decide) (fo_58 (by omega))) ) (fun r2 T4 σ3 gt5 hp => ?_)
  obtain ⟨v7, rfl, rfl, rfl, rv8, f6⟩ := hp
  clear gt5
  clear f6
  rcases rv8 with rv8 | ⟨x9, rfl, hk10⟩
  · show Tn _ _ 21 T (sA 58 a ((σ.2.1 58 a) + 1) (sA 57 a (c) σ)) [(0, .ref a), (1, .int (iI c)), (2, .int (iI r))] (vl true v7 :: [.ref a]) _
    rw [vl_null rv8]
    refine tn_putV (ci := 7) (i := 14) (n := 69) (r := true) (v := -1) tyX7 tyX7_ok nmX7 dX7_openCall_21 rfl lay_7 (by decide) fl7_72 rfl (tyX7_ok 14 (by decide)) (vl_null (by decide)).symm rfl rfl ha rfl rfl ?_
    refine tn_aload_n dX7_openCall_24 rfl 0 rfl ?_
    obtain ⟨x11, hx12, hk13, hl14⟩ : ∃ x : Nat, σ.2.1 59 a = (x : Int) ∧ AR T x 15 9 9 := wf_59 hw ha
    have hk13i : IA T x11 := by unfold IA; omega
    refine tn_getR (ci := 7) (i := 4) (n := 59) (x := x11) dX7_openCall_25 rfl lay_7 (by decide) fl7_9 ha rfl rfl (rc_o (by decide) (rc_o (by decide) (rc_o (by decide) (hx12)))) ?_
    refine tn_iload_n dX7_openCall_28 rfl 1 rfl ?_
    refine tn_iload_n dX7_openCall_29 rfl 2 rfl ?_
    refine tn_callSN (M := m_X7_openCall) (pc := 30) (ix := 61) (M' := m_X11_put) (As := [.ref x11, .int (iI c), .int (iI r)]) (rest := []) dX7_openCall_30 ok_X11_put stt_X11_put nl7_61 np_X11_put rfl (Nat.le_of_ble_eq_true rfl) (Nat.le_of_ble_eq_true rfl) rfl (k_X11_put_15 (d + 1) (T := T) (σ := (sA 69 a (-1) (sA 58 a ((σ.2.1 58 a) + 1) (sA 57 a (c) σ)))) (x := x11) (i := c) (y := r) hk13i (by omega) hk13 (by omega) (by omega) (((hw.put (by decide) (by decide) (fo_57 ⟨by omega, by omega⟩)).put (by decide) (by decide) (fo_58 (by omega))).put (by decide) (by decide) (fo_69 (Or.inl (by decide)))) ) (fun r15 T17 σ16 gt18 hp => ?_)
    obtain ⟨rfl, rfl, w21, F22, f19⟩ := hp
    clear gt18
    show Tn _ _ 33 T σ16 [(0, .ref a), (1, .int (iI c)), (2, .int (iI r))] [] _
    refine tn_aload_n dX7_openCall_33 rfl 0 rfl ?_
    obtain ⟨x23, hx24, hk25, hl26⟩ : ∃ x : Nat, σ.2.1 60 a = (x : Int) ∧ AR T x 1 9 9 := wf_60 hw ha
    have hk25i : IA T x23 := by unfold IA; omega
    refine tn_getR (ci := 7) (i := 5) (n := 60) (x := x23) dX7_openCall_34 rfl lay_7 (by decide) fl7_15 ha rfl rfl (rc_F F22 (Or.inl (by decide)) (by decide) (rc_o (by decide) (rc_o (by decide) (rc_o (by decide) (hx24))))) ?_
    refine tn_iload_n dX7_openCall_37 rfl 1 rfl ?_
    refine tn_iconst dX7_openCall_38 ?_
    refine tn_callSN (M := m_X7_openCall) (pc := 39) (ix := 61) (M' := m_X11_put) (As := [.ref x23, .int (iI c), .int (iI 0)]) (rest := []) dX7_openCall_39 ok_X11_put stt_X11_put nl7_61 np_X11_put rfl (Nat.le_of_ble_eq_true rfl) (Nat.le_of_ble_eq_true rfl) rfl (k_X11_put (d + 1) (T := T) (σ := σ16) (x := x23) (i := c) (y := 0) hk25i (by omega) (by omega) (by decide) w21 (nh_k hk25 (by unfold HT; omega)) vok_0) (fun r27 T29 σ28 gt30 hp => ?_)
    obtain ⟨rfl, rfl, w32, F33⟩ := hp
    clear gt30
    show Tn _ _ 42 T σ28 [(0, .ref a), (1, .int (iI c)), (2, .int (iI r))] [] _
    refine tn_aload_n dX7_openCall_42 rfl 0 rfl ?_
    obtain ⟨x34, hx35, hl37, hk36a, hk36b⟩ := wf_61 hw ha
    have hk36 : (T x34).1 = 14 := hk36a (by omega)
    clear hk36a hk36b
    have hk36i : IA T x34 := by unfold IA; omega
    refine tn_getR (ci := 7) (i := 6) (n := 61) (x := x34) dX7_openCall_43 rfl lay_7 (by decide) fl7_18 ha rfl rfl (rc_F F33 (Or.inl (by decide)) (by decide) (rc_F F22 (Or.inl (by decide)) (by decide) (rc_o (by decide) (rc_o (by decide) (rc_o (by decide) (hx35)))))) ?_
    refine tn_iload_n dX7_openCall_46 rfl 1 rfl ?_
    refine tn_iconst dX7_openCall_47 ?_
    refine tn_callSN (M := m_X7_openCall) (pc := 48) (ix := 61) (M' := m_X11_put) (As := [.ref x34, .int (iI c), .int (iI 0)]) (rest := []) dX7_openCall_48 ok_X11_put stt_X11_put nl7_61 np_X11_put rfl (Nat.le_of_ble_eq_true rfl) (Nat.le_of_ble_eq_true rfl) rfl (k_X11_put (d + 1) (T := T) (σ := σ28) (x := x34) (i := c) (y := 0) hk36i (by omega) (by omega) (by decide) w32 (nh_k hk36 (by unfold HT; omega)) vok_0) (fun r38 T40 σ39 gt41 hp => ?_)
    obtain ⟨rfl, rfl, w43, F44⟩ := hp
    clear gt41
    show Tn _ _ 51 T σ39 [(0, .ref a), (1, .int (iI c)), (2, .int (iI r))] [] _
    refine tn_aload_n dX7_openCall_51 rfl 0 rfl ?_
    obtain ⟨x45, hx46, hk47, hl48⟩ : ∃ x : Nat, σ.2.1 62 a = (x : Int) ∧ AR T x 1 108 108 := wf_62 hw ha
    have hk47i : IA T x45 := by unfold IA; omega
    refine tn_getR (ci := 7) (i := 7) (n := 62) (x := x45) dX7_openCall_52 rfl lay_7 (by decide) fl7_21 ha rfl rfl (rc_F F44 (Or.inl (by decide)) (by decide) (rc_F F33 (Or.inl (by decide)) (by decide) (rc_F F22 (Or.inl (by decide)) (by decide) (rc_o (by decide) (rc_o (by decide) (rc_o (by decide) (hx46))))))) ?_
    refine tn_iload_n dX7_openCall_55 rfl 1 rfl ?_
    refine tn_bipush dX7_openCall_56 (by decide) ?_
    refine tn_imul dX7_openCall_58 ?_
    refine tn_iconst dX7_openCall_59 ?_
    refine tn_callSN (M := m_X7_openCall) (pc := 60) (ix := 61) (M' := m_X11_put) (As := [.ref x45, .int (iI (c * 12)), .int (iI 0)]) (rest := []) dX7_openCall_60 ok_X11_put stt_X11_put nl7_61 np_X11_put rfl (Nat.le_of_ble_eq_true rfl) (Nat.le_of_ble_eq_true rfl) rfl (k_X11_put (d + 1) (T := T) (σ := σ39) (x := x45) (i := c * 12) (y := 0) hk47i (by omega) (by omega) (by decide) w43 (nh_k hk47 (by unfold HT; omega)) vok_0) (fun r49 T51 σ50 gt52 hp => ?_)
    obtain ⟨rfl, rfl, w54, F55⟩ := hp
    clear gt52
    show Tn _ _ 63 T σ50 [(0, .ref a), (1, .int (iI c)), (2, .int (iI r))] [] _
    refine tn_iload_n dX7_openCall_63 rfl 1 rfl ?_
    refine tn_sipush dX7_openCall_64 (by decide) ?_
    refine tn_imul dX7_openCall_67 ?_
    refine tn_istore_n (L' := [(3, .int (iI (c * 192))), (0, .ref a), (1, .int (iI c)), (2, .int (iI r))]) dX7_openCall_68 rfl (by decide) rfl ?_
    refine tn_iload_n dX7_openCall_69 rfl 0 rfl ?_
    refine tn_if_lt (tgt := 100) dX7_openCall_70 (by decide) ⟨by omega, by omega⟩ (fun h56 => absurd h56 (by omega)) (fun h56 => ?_)
    refine tn_iload_n dX7_openCall_73 rfl 0 rfl ?_
    refine tn_sipush dX7_openCall_74 (by decide) ?_
    refine tn_iadd dX7_openCall_77 ?_
    refine tn_aload_n dX7_openCall_78 rfl 1 rfl ?_
    obtain ⟨x57, hx58, hk59, hl60⟩ : ∃ x : Nat, σ.2.1 63 a = (x : Int) ∧ AR T x 1 1728 1728 := wf_63 hw ha
    have hk59i : IA T x57 := by unfold IA; omega
    refine tn_getR (ci := 7) (i := 8) (n := 63) (x := x57) dX7_openCall_79 rfl lay_7 (by decide) fl7_24 ha rfl rfl (rc_F F55 (Or.inl (by decide)) (by decide) (rc_F F44 (Or.inl (by decide)) (by decide) (rc_F F33 (Or.inl (by decide)) (by decide) (rc_F F22 (Or.inl (by decide)) (by decide) (rc_o (by decide) (rc_o (by decide) (rc_o (by decide) (hx58)))))))) ?_
    refine tn_alenX dX7_openCall_82 (Or.inl hk59i) ?_
    refine tn_icmp_gt (tgt := 100) dX7_openCall_83 (by decide) ⟨by omega, by omega⟩ ⟨by omega, by omega⟩ (fun h61 => absurd h61 (by omega)) (fun h61 => ?_)
    refine tn_aload_n dX7_openCall_86 rfl 1 rfl ?_
    refine tn_getR (ci := 7) (i := 8) (n := 63) (x := x57) dX7_openCall_87 rfl lay_7 (by decide) fl7_24 ha rfl rfl (rc_F F55 (Or.inl (by decide)) (by decide) (rc_F F44 (Or.inl (by decide)) (by decide) (rc_F F33 (Or.inl (by decide)) (by decide) (rc_F F22 (Or.inl (by decide)) (by decide) (rc_o (by decide) (rc_o (by decide) (rc_o (by decide) (hx58)))))))) ?_
    refine tn_iload_n dX7_openCall_90 rfl 0 rfl ?_
    refine tn_iload_n dX7_openCall_91 rfl 0 rfl ?_
    refine tn_sipush dX7_openCall_92 (by decide) ?_
    refine tn_iadd dX7_openCall_95 ?_
    refine tn_iconst dX7_openCall_96 ?_
    refine tn_callS (M := m_X7_openCall) (pc := 97) (ix := 76) (M' := m_J7_fill_fda19) (As := [.ref x57, .int (iI (c * 192)), .int (iI ((c * 192) + 192)), .int (iI 0)]) (rest := []) dX7_openCall_97 ok_J7_fill_fda19 stt_J7_fill_fda19 ml7_76 np_J7_fill_fda19 rfl (Nat.le_of_ble_eq_true rfl) (Nat.le_of_ble_eq_true rfl) rfl (k_J7_fill_fda19 (d) (T := T) (σ := σ50) (x := x57) (f := c * 192) (t := (c * 192) + 192) (y := 0) hk59i (by omega) (by omega) (by omega) (by decide) w54 (nh_k hk59 (by unfold HT; omega)) (by omega) (by omega)) (fun r62 T64 σ63 gt65 hp => ?_)
    obtain ⟨rfl, rfl, w67, F68⟩ := hp
    clear gt65
    show Tn _ _ 100 T σ63 [(3, .int (iI (c * 192))), (0, .ref a), (1, .int (iI c)), (2, .int (iI r))] [] _
    have q69 : σ63.2.1 57 a = c := rc_F F68 (Or.inl (by decide)) (by decide) (rc_F F55 (Or.inl (by decide)) (by decide) (rc_F F44 (Or.inl (by decide)) (by decide) (rc_F F33 (Or.inl (by decide)) (by decide) (rc_F F22 (Or.inl (by decide)) (by decide) (rc_o (by decide) (rc_o (by decide) (ra_eq)))))))
    have q70 : σ63.2.1 58 a = (σ.2.1 58 a) + 1 := rc_F F68 (Or.inl (by decide)) (by decide) (rc_F F55 (Or.inl (by decide)) (by decide) (rc_F F44 (Or.inl (by decide)) (by decide) (rc_F F33 (Or.inl (by decide)) (by decide) (rc_F F22 (Or.inl (by decide)) (by decide) (rc_o (by decide) (ra_eq))))))
    exact tn_vret rfl dX7_openCall_100 ⟨rfl, rfl, w67, ((((((((FrC.rfl.put (by decide) (by decide)).put (by decide) (by decide)).put (by decide) (by decide)).trans (FrC.sub F22 (by decide))).trans (FrC.sub F33 (by decide))).trans (FrC.sub F44 (by decide))).trans (FrC.sub F55 (by decide))).trans (FrC.sub F68 (by decide))), by omega, by omega, ((((((((FA.rfl.put).put).put).trans (FA.of F22 (by decide))).trans (FA.of F33 (by decide))).trans (FA.of F44 (by decide))).trans (FA.of F55 (by decide))).trans (FA.of F68 (by decide)))⟩
  · show Tn _ _ 21 T (sA 58 a ((σ.2.1 58 a) + 1) (sA 57 a (c) σ)) [(0, .ref a), (1, .int (iI c)), (2, .int (iI r))] (vl true (x9 : Int) :: [.ref a]) _
    rw [vl_ref rfl]
    have hk10o : OB T x9 1 := hk10.1
    refine tn_putV (ci := 7) (i := 14) (n := 69) (r := true) (v := (x9 : Int)) tyX7 tyX7_ok nmX7 dX7_openCall_21 rfl lay_7 (by decide) fl7_72 rfl (tyX7_ok 14 (by decide)) (vl_ref rfl).symm rfl rfl ha rfl rfl ?_
    refine tn_aload_n dX7_openCall_24 rfl 0 rfl ?_
    obtain ⟨x71, hx72, hk73, hl74⟩ : ∃ x : Nat, σ.2.1 59 a = (x : Int) ∧ AR T x 15 9 9 := wf_59 hw ha
    have hk73i : IA T x71 := by unfold IA; omega
    refine tn_getR (ci := 7) (i := 4) (n := 59) (x := x71) dX7_openCall_25 rfl lay_7 (by decide) fl7_9 ha rfl rfl (rc_o (by decide) (rc_o (by decide) (rc_o (by decide) (hx72)))) ?_
    refine tn_iload_n dX7_openCall_28 rfl 1 rfl ?_
    refine tn_iload_n dX7_openCall_29 rfl 2 rfl ?_
    refine tn_callSN (M := m_X7_openCall) (pc := 30) (ix := 61) (M' := m_X11_put) (As := [.ref x71, .int (iI c), .int (iI r)]) (rest := []) dX7_openCall_30 ok_X11_put stt_X11_put nl7_61 np_X11_put rfl (Nat.le_of_ble_eq_true rfl) (Nat.le_of_ble_eq_true rfl) rfl (k_X11_put_15 (d + 1) (T := T) (σ := (sA 69 a ((x9 : Int)) (sA 58 a ((σ.2.1 58 a) + 1) (sA 57 a (c) σ)))) (x := x71) (i := c) (y := r) hk73i (by omega) hk73 (by omega) (by omega) (((hw.put (by decide) (by decide) (fo_57 ⟨by omega, by omega⟩)).put (by decide) (by decide) (fo_58 (by omega))).put (by decide) (by decide) (fo_69 (Or.inr ⟨_, rfl, hk10.2.1, hk10.2.2⟩))) ) (fun r75 T77 σ76 gt78 hp => ?_)
    obtain ⟨rfl, rfl, w81, F82, f79⟩ := hp
    clear gt78
    show Tn _ _ 33 T σ76 [(0, .ref a), (1, .int (iI c)), (2, .int (iI r))] [] _
    refine tn_aload_n dX7_openCall_33 rfl 0 rfl ?_
    obtain ⟨x83, hx84, hk85, hl86⟩ : ∃ x : Nat, σ.2.1 60 a = (x : Int) ∧ AR T x 1 9 9 := wf_60 hw ha
    have hk85i : IA T x83 := by unfold IA; omega
    refine tn_getR (ci := 7) (i := 5) (n := 60) (x := x83) dX7_openCall_34 rfl lay_7 (by decide) fl7_15 ha rfl rfl (rc_F F82 (Or.inl (by decide)) (by decide) (rc_o (by decide) (rc_o (by decide) (rc_o (by decide) (hx84))))) ?_
    refine tn_iload_n dX7_openCall_37 rfl 1 rfl ?_
    refine tn_iconst dX7_openCall_38 ?_
    refine tn_callSN (M := m_X7_openCall) (pc := 39) (ix := 61) (M' := m_X11_put) (As := [.ref x83, .int (iI c), .int (iI 0)]) (rest := []) dX7_openCall_39 ok_X11_put stt_X11_put nl7_61 np_X11_put rfl (Nat.le_of_ble_eq_true rfl) (Nat.le_of_ble_eq_true rfl) rfl (k_X11_put (d + 1) (T := T) (σ := σ76) (x := x83) (i := c) (y := 0) hk85i (by omega) (by omega) (by decide) w81 (nh_k hk85 (by unfold HT; omega)) vok_0) (fun r87 T89 σ88 gt90 hp => ?_)
    obtain ⟨rfl, rfl, w92, F93⟩ := hp
    clear gt90
    show Tn _ _ 42 T σ88 [(0, .ref a), (1, .int (iI c)), (2, .int (iI r))] [] _
    refine tn_aload_n dX7_openCall_42 rfl 0 rfl ?_
    obtain ⟨x94, hx95, hl97, hk96a, hk96b⟩ := wf_61 hw ha
    have hk96 : (T x94).1 = 14 := hk96a (by omega)
    clear hk96a hk96b
    have hk96i : IA T x94 := by unfold IA; omega
    refine tn_getR (ci := 7) (i := 6) (n := 61) (x := x94) dX7_openCall_43 rfl lay_7 (by decide) fl7_18 ha rfl rfl (rc_F F93 (Or.inl (by decide)) (by decide) (rc_F F82 (Or.inl (by decide)) (by decide) (rc_o (by decide) (rc_o (by decide) (rc_o (by decide) (hx95)))))) ?_
    refine tn_iload_n dX7_openCall_46 rfl 1 rfl ?_
    refine tn_iconst dX7_openCall_47 ?_
    refine tn_callSN (M := m_X7_openCall) (pc := 48) (ix := 61) (M' := m_X11_put) (As := [.ref x94, .int (iI c), .int (iI 0)]) (rest := []) dX7_openCall_48 ok_X11_put stt_X11_put nl7_61 np_X11_put rfl (Nat.le_of_ble_eq_true rfl) (Nat.le_of_ble_eq_true rfl) rfl (k_X11_put (d + 1) (T := T) (σ := σ88) (x := x94) (i := c) (y := 0) hk96i (by omega) (by omega) (by decide) w92 (nh_k hk96 (by unfold HT; omega)) vok_0) (fun r98 T100 σ99 gt101 hp => ?_)
    obtain ⟨rfl, rfl, w103, F104⟩ := hp
    clear gt101
    show Tn _ _ 51 T σ99 [(0, .ref a), (1, .int (iI c)), (2, .int (iI r))] [] _
    refine tn_aload_n dX7_openCall_51 rfl 0 rfl ?_
    obtain ⟨x105, hx106, hk107, hl108⟩ : ∃ x : Nat, σ.2.1 62 a = (x : Int) ∧ AR T x 1 108 108 := wf_62 hw ha
    have hk107i : IA T x105 := by unfold IA; omega
    refine tn_getR (ci := 7) (i := 7) (n := 62) (x := x105) dX7_openCall_52 rfl lay_7 (by decide) fl7_21 ha rfl rfl (rc_F F104 (Or.inl (by decide)) (by decide) (rc_F F93 (Or.inl (by decide)) (by decide) (rc_F F82 (Or.inl (by decide)) (by decide) (rc_o (by decide) (rc_o (by decide) (rc_o (by decide) (hx106))))))) ?_
    refine tn_iload_n dX7_openCall_55 rfl 1 rfl ?_
    refine tn_bipush dX7_openCall_56 (by decide) ?_
    refine tn_imul dX7_openCall_58 ?_
    refine tn_iconst dX7_openCall_59 ?_
    refine tn_callSN (M := m_X7_openCall) (pc := 60) (ix := 61) (M' := m_X11_put) (As := [.ref x105, .int (iI (c * 12)), .int (iI 0)]) (rest := []) dX7_openCall_60 ok_X11_put stt_X11_put nl7_61 np_X11_put rfl (Nat.le_of_ble_eq_true rfl) (Nat.le_of_ble_eq_true rfl) rfl (k_X11_put (d + 1) (T := T) (σ := σ99) (x := x105) (i := c * 12) (y := 0) hk107i (by omega) (by omega) (by decide) w103 (nh_k hk107 (by unfold HT; omega)) vok_0) (fun r109 T111 σ110 gt112 hp => ?_)
    obtain ⟨rfl, rfl, w114, F115⟩ := hp
    clear gt112
    show Tn _ _ 63 T σ110 [(0, .ref a), (1, .int (iI c)), (2, .int (iI r))] [] _
    refine tn_iload_n dX7_openCall_63 rfl 1 rfl ?_
    refine tn_sipush dX7_openCall_64 (by decide) ?_
    refine tn_imul dX7_openCall_67 ?_
    refine tn_istore_n (L' := [(3, .int (iI (c * 192))), (0, .ref a), (1, .int (iI c)), (2, .int (iI r))]) dX7_openCall_68 rfl (by decide) rfl ?_
    refine tn_iload_n dX7_openCall_69 rfl 0 rfl ?_
    refine tn_if_lt (tgt := 100) dX7_openCall_70 (by decide) ⟨by omega, by omega⟩ (fun h116 => absurd h116 (by omega)) (fun h116 => ?_)
    refine tn_iload_n dX7_openCall_73 rfl 0 rfl ?_
    refine tn_sipush dX7_openCall_74 (by decide) ?_
    refine tn_iadd dX7_openCall_77 ?_
    refine tn_aload_n dX7_openCall_78 rfl 1 rfl ?_
    obtain ⟨x117, hx118, hk119, hl120⟩ : ∃ x : Nat, σ.2.1 63 a = (x : Int) ∧ AR T x 1 1728 1728 := wf_63 hw ha
    have hk119i : IA T x117 := by unfold IA; omega
    refine tn_getR (ci := 7) (i := 8) (n := 63) (x := x117) dX7_openCall_79 rfl lay_7 (by decide) fl7_24 ha rfl rfl (rc_F F115 (Or.inl (by decide)) (by decide) (rc_F F104 (Or.inl (by decide)) (by decide) (rc_F F93 (Or.inl (by decide)) (by decide) (rc_F F82 (Or.inl (by decide)) (by decide) (rc_o (by decide) (rc_o (by decide) (rc_o (by decide) (hx118)))))))) ?_
    refine tn_alenX dX7_openCall_82 (Or.inl hk119i) ?_
    refine tn_icmp_gt (tgt := 100) dX7_openCall_83 (by decide) ⟨by omega, by omega⟩ ⟨by omega, by omega⟩ (fun h121 => absurd h121 (by omega)) (fun h121 => ?_)
    refine tn_aload_n dX7_openCall_86 rfl 1 rfl ?_
    refine tn_getR (ci := 7) (i := 8) (n := 63) (x := x117) dX7_openCall_87 rfl lay_7 (by decide) fl7_24 ha rfl rfl (rc_F F115 (Or.inl (by decide)) (by decide) (rc_F F104 (Or.inl (by decide)) (by decide) (rc_F F93 (Or.inl (by decide)) (by decide) (rc_F F82 (Or.inl (by decide)) (by decide) (rc_o (by decide) (rc_o (by decide) (rc_o (by decide) (hx118)))))))) ?_
    refine tn_iload_n dX7_openCall_90 rfl 0 rfl ?_
    refine tn_iload_n dX7_openCall_91 rfl 0 rfl ?_
    refine tn_sipush dX7_openCall_92 (by decide) ?_
    refine tn_iadd dX7_openCall_95 ?_
    refine tn_iconst dX7_openCall_96 ?_
    refine tn_callS (M := m_X7_openCall) (pc := 97) (ix := 76) (M' := m_J7_fill_fda19) (As := [.ref x117, .int (iI (c * 192)), .int (iI ((c * 192) + 192)), .int (iI 0)]) (rest := []) dX7_openCall_97 ok_J7_fill_fda19 stt_J7_fill_fda19 ml7_76 np_J7_fill_fda19 rfl (Nat.le_of_ble_eq_true rfl) (Nat.le_of_ble_eq_true rfl) rfl (k_J7_fill_fda19 (d) (T := T) (σ := σ110) (x := x117) (f := c * 192) (t := (c * 192) + 192) (y := 0) hk119i (by omega) (by omega) (by omega) (by decide) w114 (nh_k hk119 (by unfold HT; omega)) (by omega) (by omega)) (fun r122 T124 σ123 gt125 hp => ?_)
    obtain ⟨rfl, rfl, w127, F128⟩ := hp
    clear gt125
    show Tn _ _ 100 T σ123 [(3, .int (iI (c * 192))), (0, .ref a), (1, .int (iI c)), (2, .int (iI r))] [] _
    have q129 : σ123.2.1 57 a = c := rc_F F128 (Or.inl (by decide)) (by decide) (rc_F F115 (Or.inl (by decide)) (by decide) (rc_F F104 (Or.inl (by decide)) (by decide) (rc_F F93 (Or.inl (by decide)) (by decide) (rc_F F82 (Or.inl (by decide)) (by decide) (rc_o (by decide) (rc_o (by decide) (ra_eq)))))))
    have q130 : σ123.2.1 58 a = (σ.2.1 58 a) + 1 := rc_F F128 (Or.inl (by decide)) (by decide) (rc_F F115 (Or.inl (by decide)) (by decide) (rc_F F104 (Or.inl (by decide)) (by decide) (rc_F F93 (Or.inl (by decide)) (by decide) (rc_F F82 (Or.inl (by decide)) (by decide) (rc_o (by decide) (ra_eq))))))
    exact tn_vret rfl dX7_openCall_100 ⟨rfl, rfl, w127, ((((((((FrC.rfl.put (by decide) (by decide)).put (by decide) (by decide)).put (by decide) (by decide)).trans (FrC.sub F82 (by decide))).trans (FrC.sub F93 (by decide))).trans (FrC.sub F104 (by decide))).trans (FrC.sub F115 (by decide))).trans (FrC.sub F128 (by decide))), by omega, by omega, ((((((((FA.rfl.put).put).put).trans (FA.of F82 (by decide))).trans (FA.of F93 (by decide))).trans (FA.of F104 (by decide))).trans (FA.of F115 (by decide))).trans (FA.of F128 (by decide)))⟩
