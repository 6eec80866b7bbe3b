set_option maxRecDepth 20000 in
theorem k_X7_openCall_57 (d : Nat) {T : CT} {σ : MS} {a : Nat} {c : Int} {r : Int} (ha : OB T a 7) (hta : (T a).1 = 57) (h_c : -2147483648 ≤ c ∧ c ≤ 2147483647) (h_r : -2147483648 ≤ r ∧ r ≤ 2147483647) (hw : WT T σ) (h8 : 0 ≤ c ∧ c ≤ 8) (hd : 0 ≤ σ.2.1 58 a ∧ σ.2.1 58 a ≤ 100) : Tn (d + 3) m_X7_openCall 0 T σ [(0, .ref a), (1, .int (iI c)), (2, .int (iI r))] [] (fun ro T2 σ2 => ro = none ∧ T = T2 ∧ WT T2 σ2 ∧ FrC T [57, 58, 69, 515] σ σ2 ∧ (σ2.2.1 57 a = c) ∧ (σ2.2.1 58 a = σ.2.1 58 a + 1) ∧ (FA a σ σ2)) := by
  refine tn_aload_n dX7_openCall_0 rfl 0 rfl ?_
  refine tn_iload_n dX7_openCall_1 rfl 1 rfl ?_
  refine tn_putV (ci := 7) (i := 2) (n := 57) (r := false) (v := c) tyX7 tyX7_ok nmX7 dX7_openCall_2 rfl lay_7 (by decide) fl7_65 rfl (tyX7_ok 2 (by decide)) rfl rfl rfl ha rfl rfl ?_
  refine tn_aload_n dX7_openCall_5 rfl 0 rfl ?_
  refine tn_dup dX7_openCall_6 rfl ?_
  refine tn_getI (ci := 7) (i := 3) (n := 58) (t := σ.2.1 58 a) dX7_openCall_7 rfl lay_7 (by decide) fl7_38 ha rfl rfl (rc_o (by decide) (rfl)) ?_
  have g1 : ((-2147483648 : Int) ≤ σ.2.1 58 a ∧ σ.2.1 58 a ≤ 2147483647) := wf_58 hw ha
  refine tn_iconst dX7_openCall_10 ?_
  refine tn_iadd dX7_openCall_11 ?_
  refine tn_putV (ci := 7) (i := 3) (n := 58) (r := false) (v := (σ.2.1 58 a) + 1) tyX7 tyX7_ok nmX7 dX7_openCall_12 rfl lay_7 (by decide) fl7_38 rfl (tyX7_ok 3 (by decide)) rfl rfl rfl ha rfl rfl ?_
  refine tn_aload_n dX7_openCall_15 rfl 0 rfl ?_
  refine tn_aload_n dX7_openCall_16 rfl 0 rfl ?_
  refine tn_iload_n dX7_openCall_17 rfl 2 rfl ?_
  refine tn_callV (M := m_X7_openCall) (pc := 18) (ix := 68) (ci := 7) (M' := m_X7_codeAt) (As := [.int (iI r)]) (rest := [.ref a]) dX7_openCall_18 ok_X7_codeAt im_X7_codeAt se_X7_codeAt ml7_68 np_X7_codeAt rfl rfl ha rfl (Nat.le_of_ble_eq_true rfl) (Nat.le_of_ble_eq_true rfl) rfl (k_X7_codeAt (d + 1) (T := T) (σ := (sA 58 a ((σ.2.1 58 a) + 1) (sA 57 a (c) σ))) (a := a) (r := r) ha (by omega) ((hw.put (by decide) (by decide) (fo_57 ⟨by omega, by omega⟩)).put (by decide) (by decide) (fo_58 (by omega))) ) (fun r2 T4 σ3 gt5 hp => ?_)
  obtain ⟨v7, rfl, rfl, rfl, rv8, f6⟩ := hp
  clear gt5
  clear f6
  rcases rv8 with rv8 | ⟨x9, rfl, hk10⟩
  · show Tn _ _ 21 T (sA 58 a ((σ.2.1 58 a) + 1) (sA 57 a (c) σ)) [(0, .ref a), (1, .int (iI c)), (2, .int (iI r))] (vl true v7 :: [.ref a]) _
    rw [vl_null rv8]
    refine tn_putV (ci := 7) (i := 14) (n := 69) (r := true) (v := -1) tyX7 tyX7_ok nmX7 dX7_openCall_21 rfl lay_7 (by decide) fl7_72 rfl (tyX7_ok 14 (by decide)) (vl_null (by decide)).symm rfl rfl ha rfl rfl ?_
    refine tn_aload_n dX7_openCall_24 rfl 0 rfl ?_
    obtain ⟨x11, hx12, hk13, hl14⟩ : ∃ x : Nat, σ.2.1 59 a = (x : Int) ∧ AR T x 15 9 9 := wf_59 hw ha
    have hk13i : IA T x11 := by unfold IA; omega
    refine tn_getR (ci := 7) (i := 4) (n := 59) (x := x11) dX7_openCall_25 rfl lay_7 (by decide) fl7_9 ha rfl rfl (rc_o (by decide) (rc_o (by decide) (rc_o (by decide) (hx12)))) ?_
    refine tn_iload_n dX7_openCall_28 rfl 1 rfl ?_
    refine tn_iload_n dX7_openCall_29 rfl 2 rfl ?_
    refine tn_callSN (M := m_X7_openCall) (pc := 30) (ix := 61) (M' := m_X11_put) (As := [.ref x11, .int (iI c), .int (iI r)]) (rest := []) dX7_openCall_30 ok_X11_put stt_X11_put nl7_61 np_X11_put rfl (Nat.le_of_ble_eq_true rfl) (Nat.le_of_ble_eq_true rfl) rfl (k_X11_put_15 (d + 1) (T := T) (σ := (sA 69 a (-1) (sA 58 a ((σ.2.1 58 a) + 1) (sA 57 a (c) σ)))) (x := x11) (i := c) (y := r) hk13i (by omega) hk13 (by omega) (by omega) (((hw.put (by decide) (by decide) (fo_57 ⟨by omega, by omega⟩)).put (by decide) (by decide) (fo_58 (by omega))).put (by decide) (by decide) (fo_69 (Or.inl (by decide)))) ) (fun r15 T17 σ16 gt18 hp => ?_)
    obtain ⟨rfl, rfl, w20, F21⟩ := hp
    clear gt18
    show Tn _ _ 33 T σ16 [(0, .ref a), (1, .int (iI c)), (2, .int (iI r))] [] _
    refine tn_aload_n dX7_openCall_33 rfl 0 rfl ?_
    obtain ⟨x22, hx23, hk24, hl25⟩ : ∃ x : Nat, σ.2.1 60 a = (x : Int) ∧ AR T x 1 9 9 := wf_60 hw ha
    have hk24i : IA T x22 := by unfold IA; omega
    refine tn_getR (ci := 7) (i := 5) (n := 60) (x := x22) dX7_openCall_34 rfl lay_7 (by decide) fl7_15 ha rfl rfl (rc_F F21 (Or.inl (by decide)) (by decide) (rc_o (by decide) (rc_o (by decide) (rc_o (by decide) (hx23))))) ?_
    refine tn_iload_n dX7_openCall_37 rfl 1 rfl ?_
    refine tn_iconst dX7_openCall_38 ?_
    refine tn_callSN (M := m_X7_openCall) (pc := 39) (ix := 61) (M' := m_X11_put) (As := [.ref x22, .int (iI c), .int (iI 0)]) (rest := []) dX7_openCall_39 ok_X11_put stt_X11_put nl7_61 np_X11_put rfl (Nat.le_of_ble_eq_true rfl) (Nat.le_of_ble_eq_true rfl) rfl (k_X11_put (d + 1) (T := T) (σ := σ16) (x := x22) (i := c) (y := 0) hk24i (by omega) (by omega) (by decide) w20 ((by have q9 := hk24; omega)) vok_0) (fun r26 T28 σ27 gt29 hp => ?_)
    obtain ⟨rfl, rfl, w31, F32⟩ := hp
    clear gt29
    show Tn _ _ 42 T σ27 [(0, .ref a), (1, .int (iI c)), (2, .int (iI r))] [] _
    refine tn_aload_n dX7_openCall_42 rfl 0 rfl ?_
    obtain ⟨x33, hx34, hl36, hk35a, hk35b⟩ := wf_61 hw ha
    have hk35 : (T x33).1 = 14 := hk35a (by omega)
    clear hk35a hk35b
    have hk35i : IA T x33 := by unfold IA; omega
    refine tn_getR (ci := 7) (i := 6) (n := 61) (x := x33) dX7_openCall_43 rfl lay_7 (by decide) fl7_18 ha rfl rfl (rc_F F32 (Or.inl (by decide)) (by decide) (rc_F F21 (Or.inl (by decide)) (by decide) (rc_o (by decide) (rc_o (by decide) (rc_o (by decide) (hx34)))))) ?_
    refine tn_iload_n dX7_openCall_46 rfl 1 rfl ?_
    refine tn_iconst dX7_openCall_47 ?_
    refine tn_callSN (M := m_X7_openCall) (pc := 48) (ix := 61) (M' := m_X11_put) (As := [.ref x33, .int (iI c), .int (iI 0)]) (rest := []) dX7_openCall_48 ok_X11_put stt_X11_put nl7_61 np_X11_put rfl (Nat.le_of_ble_eq_true rfl) (Nat.le_of_ble_eq_true rfl) rfl (k_X11_put (d + 1) (T := T) (σ := σ27) (x := x33) (i := c) (y := 0) hk35i (by omega) (by omega) (by decide) w31 ((by have q9 := hk35; omega)) vok_0) (fun r37 T39 σ38 gt40 hp => ?_)
    obtain ⟨rfl, rfl, w42, F43⟩ := hp
    clear gt40
    show Tn _ _ 51 T σ38 [(0, .ref a), (1, .int (iI c)), (2, .int (iI r))] [] _
    refine tn_aload_n dX7_openCall_51 rfl 0 rfl ?_
    obtain ⟨x44, hx45, hk46, hl47⟩ : ∃ x : Nat, σ.2.1 62 a = (x : Int) ∧ AR T x 1 108 108 := wf_62 hw ha
    have hk46i : IA T x44 := by unfold IA; omega
    refine tn_getR (ci := 7) (i := 7) (n := 62) (x := x44) dX7_openCall_52 rfl lay_7 (by decide) fl7_21 ha rfl rfl (rc_F F43 (Or.inl (by decide)) (by decide) (rc_F F32 (Or.inl (by decide)) (by decide) (rc_F F21 (Or.inl (by decide)) (by decide) (rc_o (by decide) (rc_o (by decide) (rc_o (by decide) (hx45))))))) ?_
    refine tn_iload_n dX7_openCall_55 rfl 1 rfl ?_
    refine tn_bipush dX7_openCall_56 (by decide) ?_
    refine tn_imul dX7_openCall_58 ?_
    refine tn_iconst dX7_openCall_59 ?_
    refine tn_callSN (M := m_X7_openCall) (pc := 60) (ix := 61) (M' := m_X11_put) (As := [.ref x44, .int (iI (c * 12)), .int (iI 0)]) (rest := []) dX7_openCall_60 ok_X11_put stt_X11_put nl7_61 np_X11_put rfl (Nat.le_of_ble_eq_true rfl) (Nat.le_of_ble_eq_true rfl) rfl (k_X11_put (d + 1) (T := T) (σ := σ38) (x := x44) (i := c * 12) (y := 0) hk46i (by omega) (by omega) (by decide) w42 ((by have q9 := hk46; omega)) vok_0) (fun r48 T50 σ49 gt51 hp => ?_)
    obtain ⟨rfl, rfl, w53, F54⟩ := hp
    clear gt51
    show Tn _ _ 63 T σ49 [(0, .ref a), (1, .int (iI c)), (2, .int (iI r))] [] _
    refine tn_iload_n dX7_openCall_63 rfl 1 rfl ?_
    refine tn_sipush dX7_openCall_64 (by decide) ?_
    refine tn_imul dX7_openCall_67 ?_
    refine tn_istore_n (L' := [(3, .int (iI (c * 192))), (0, .ref a), (1, .int (iI c)), (2, .int (iI r))]) dX7_openCall_68 rfl (by decide) rfl ?_
    refine tn_iload_n dX7_openCall_69 rfl 0 rfl ?_
    refine tn_if_lt (tgt := 100) dX7_openCall_70 (by decide) ⟨by omega, by omega⟩ (fun h55 => absurd h55 (by omega)) (fun h55 => ?_)
    refine tn_iload_n dX7_openCall_73 rfl 0 rfl ?_
    refine tn_sipush dX7_openCall_74 (by decide) ?_
    refine tn_iadd dX7_openCall_77 ?_
    refine tn_aload_n dX7_openCall_78 rfl 1 rfl ?_
    obtain ⟨x56, hx57, hk58, hl59⟩ : ∃ x : Nat, σ.2.1 63 a = (x : Int) ∧ AR T x 1 1728 1728 := wf_63 hw ha
    have hk58i : IA T x56 := by unfold IA; omega
    refine tn_getR (ci := 7) (i := 8) (n := 63) (x := x56) dX7_openCall_79 rfl lay_7 (by decide) fl7_24 ha rfl rfl (rc_F F54 (Or.inl (by decide)) (by decide) (rc_F F43 (Or.inl (by decide)) (by decide) (rc_F F32 (Or.inl (by decide)) (by decide) (rc_F F21 (Or.inl (by decide)) (by decide) (rc_o (by decide) (rc_o (by decide) (rc_o (by decide) (hx57)))))))) ?_
    refine tn_alenX dX7_openCall_82 (Or.inl hk58i) ?_
    refine tn_icmp_gt (tgt := 100) dX7_openCall_83 (by decide) ⟨by omega, by omega⟩ ⟨by omega, by omega⟩ (fun h60 => absurd h60 (by omega)) (fun h60 => ?_)
    refine tn_aload_n dX7_openCall_86 rfl 1 rfl ?_
    refine tn_getR (ci := 7) (i := 8) (n := 63) (x := x56) dX7_openCall_87 rfl lay_7 (by decide) fl7_24 ha rfl rfl (rc_F F54 (Or.inl (by decide)) (by decide) (rc_F F43 (Or.inl (by decide)) (by decide) (rc_F F32 (Or.inl (by decide)) (by decide) (rc_F F21 (Or.inl (by decide)) (by decide) (rc_o (by decide) (rc_o (by decide) (rc_o (by decide) (hx57)))))))) ?_
    refine tn_iload_n dX7_openCall_90 rfl 0 rfl ?_
    refine tn_iload_n dX7_openCall_91 rfl 0 rfl ?_
    refine tn_sipush dX7_openCall_92 (by decide) ?_
    refine tn_iadd dX7_openCall_95 ?_
    refine tn_iconst dX7_openCall_96 ?_
    refine tn_callS (M := m_X7_openCall) (pc := 97) (ix := 76) (M' := m_J7_fill_fda19) (As := [.ref x56, .int (iI (c * 192)), .int (iI ((c * 192) + 192)), .int (iI 0)]) (rest := []) dX7_openCall_97 ok_J7_fill_fda19 stt_J7_fill_fda19 ml7_76 np_J7_fill_fda19 rfl (Nat.le_of_ble_eq_true rfl) (Nat.le_of_ble_eq_true rfl) rfl (k_J7_fill_fda19 (d) (T := T) (σ := σ49) (x := x56) (f := c * 192) (t := (c * 192) + 192) (y := 0) hk58i (by omega) (by omega) (by omega) (by decide) w53 ((by have q9 := hk58; omega)) (by omega) (by omega)) (fun r61 T63 σ62 gt64 hp => ?_)
    obtain ⟨rfl, rfl, w66, F67⟩ := hp
    clear gt64
    show Tn _ _ 100 T σ62 [(3, .int (iI (c * 192))), (0, .ref a), (1, .int (iI c)), (2, .int (iI r))] [] _
    have q68 : σ62.2.1 57 a = c := rc_F F67 (Or.inl (by decide)) (by decide) (rc_F F54 (Or.inl (by decide)) (by decide) (rc_F F43 (Or.inl (by decide)) (by decide) (rc_F F32 (Or.inl (by decide)) (by decide) (rc_F F21 (Or.inl (by decide)) (by decide) (rc_o (by decide) (rc_o (by decide) (ra_eq)))))))
    have q69 : σ62.2.1 58 a = (σ.2.1 58 a) + 1 := rc_F F67 (Or.inl (by decide)) (by decide) (rc_F F54 (Or.inl (by decide)) (by decide) (rc_F F43 (Or.inl (by decide)) (by decide) (rc_F F32 (Or.inl (by decide)) (by decide) (rc_F F21 (Or.inl (by decide)) (by decide) (rc_o (by decide) (ra_eq))))))
    exact tn_vret rfl dX7_openCall_100 ⟨rfl, rfl, w66, ((((((((FrC.rfl.put (by decide) (by decide)).put (by decide) (by decide)).put (by decide) (by decide)).trans (FrC.sub F21 (by decide))).trans (FrC.sub F32 (by decide))).trans (FrC.sub F43 (by decide))).trans (FrC.sub F54 (by decide))).trans (FrC.sub F67 (by decide))), by omega, by omega, ((((((((FA.rfl.put).put).put).trans (FA.of F21 (by decide))).trans (FA.of F32 (by decide))).trans (FA.of F43 (by decide))).trans (FA.of F54 (by decide))).trans (FA.of F67 (by decide)))⟩
  · show Tn _ _ 21 T (sA 58 a ((σ.2.1 58 a) + 1) (sA 57 a (c) σ)) [(0, .ref a), (1, .int (iI c)), (2, .int (iI r))] (vl true (x9 : Int) :: [.ref a]) _
    rw [vl_ref rfl]
    have hk10o : OB T x9 1 := hk10.1
    refine tn_putV (ci := 7) (i := 14) (n := 69) (r := true) (v := (x9 : Int)) tyX7 tyX7_ok nmX7 dX7_openCall_21 rfl lay_7 (by decide) fl7_72 rfl (tyX7_ok 14 (by decide)) (vl_ref rfl).symm rfl rfl ha rfl rfl ?_
    refine tn_aload_n dX7_openCall_24 rfl 0 rfl ?_
    obtain ⟨x70, hx71, hk72, hl73⟩ : ∃ x : Nat, σ.2.1 59 a = (x : Int) ∧ AR T x 15 9 9 := wf_59 hw ha
    have hk72i : IA T x70 := by unfold IA; omega
    refine tn_getR (ci := 7) (i := 4) (n := 59) (x := x70) dX7_openCall_25 rfl lay_7 (by decide) fl7_9 ha rfl rfl (rc_o (by decide) (rc_o (by decide) (rc_o (by decide) (hx71)))) ?_
    refine tn_iload_n dX7_openCall_28 rfl 1 rfl ?_
    refine tn_iload_n dX7_openCall_29 rfl 2 rfl ?_
    refine tn_callSN (M := m_X7_openCall) (pc := 30) (ix := 61) (M' := m_X11_put) (As := [.ref x70, .int (iI c), .int (iI r)]) (rest := []) dX7_openCall_30 ok_X11_put stt_X11_put nl7_61 np_X11_put rfl (Nat.le_of_ble_eq_true rfl) (Nat.le_of_ble_eq_true rfl) rfl (k_X11_put_15 (d + 1) (T := T) (σ := (sA 69 a ((x9 : Int)) (sA 58 a ((σ.2.1 58 a) + 1) (sA 57 a (c) σ)))) (x := x70) (i := c) (y := r) hk72i (by omega) hk72 (by omega) (by omega) (((hw.put (by decide) (by decide) (fo_57 ⟨by omega, by omega⟩)).put (by decide) (by decide) (fo_58 (by omega))).put (by decide) (by decide) (fo_69 (Or.inr ⟨_, rfl, hk10.2.1, hk10.2.2⟩))) ) (fun r74 T76 σ75 gt77 hp => ?_)
    obtain ⟨rfl, rfl, w79, F80⟩ := hp
    clear gt77
    show Tn _ _ 33 T σ75 [(0, .ref a), (1, .int (iI c)), (2, .int (iI r))] [] _
    refine tn_aload_n dX7_openCall_33 rfl 0 rfl ?_
    obtain ⟨x81, hx82, hk83, hl84⟩ : ∃ x : Nat, σ.2.1 60 a = (x : Int) ∧ AR T x 1 9 9 := wf_60 hw ha
    have hk83i : IA T x81 := by unfold IA; omega
    refine tn_getR (ci := 7) (i := 5) (n := 60) (x := x81) dX7_openCall_34 rfl lay_7 (by decide) fl7_15 ha rfl rfl (rc_F F80 (Or.inl (by decide)) (by decide) (rc_o (by decide) (rc_o (by decide) (rc_o (by decide) (hx82))))) ?_
    refine tn_iload_n dX7_openCall_37 rfl 1 rfl ?_
    refine tn_iconst dX7_openCall_38 ?_
    refine tn_callSN (M := m_X7_openCall) (pc := 39) (ix := 61) (M' := m_X11_put) (As := [.ref x81, .int (iI c), .int (iI 0)]) (rest := []) dX7_openCall_39 ok_X11_put stt_X11_put nl7_61 np_X11_put rfl (Nat.le_of_ble_eq_true rfl) (Nat.le_of_ble_eq_true rfl) rfl (k_X11_put (d + 1) (T := T) (σ := σ75) (x := x81) (i := c) (y := 0) hk83i (by omega) (by omega) (by decide) w79 ((by have q9 := hk83; omega)) vok_0) (fun r85 T87 σ86 gt88 hp => ?_)
    obtain ⟨rfl, rfl, w90, F91⟩ := hp
    clear gt88
    show Tn _ _ 42 T σ86 [(0, .ref a), (1, .int (iI c)), (2, .int (iI r))] [] _
    refine tn_aload_n dX7_openCall_42 rfl 0 rfl ?_
    obtain ⟨x92, hx93, hl95, hk94a, hk94b⟩ := wf_61 hw ha
    have hk94 : (T x92).1 = 14 := hk94a (by omega)
    clear hk94a hk94b
    have hk94i : IA T x92 := by unfold IA; omega
    refine tn_getR (ci := 7) (i := 6) (n := 61) (x := x92) dX7_openCall_43 rfl lay_7 (by decide) fl7_18 ha rfl rfl (rc_F F91 (Or.inl (by decide)) (by decide) (rc_F F80 (Or.inl (by decide)) (by decide) (rc_o (by decide) (rc_o (by decide) (rc_o (by decide) (hx93)))))) ?_
    refine tn_iload_n dX7_openCall_46 rfl 1 rfl ?_
    refine tn_iconst dX7_openCall_47 ?_
    refine tn_callSN (M := m_X7_openCall) (pc := 48) (ix := 61) (M' := m_X11_put) (As := [.ref x92, .int (iI c), .int (iI 0)]) (rest := []) dX7_openCall_48 ok_X11_put stt_X11_put nl7_61 np_X11_put rfl (Nat.le_of_ble_eq_true rfl) (Nat.le_of_ble_eq_true rfl) rfl (k_X11_put (d + 1) (T := T) (σ := σ86) (x := x92) (i := c) (y := 0) hk94i (by omega) (by omega) (by decide) w90 ((by have q9 := hk94; omega)) vok_0) (fun r96 T98 σ97 gt99 hp => ?_)
    obtain ⟨rfl, rfl, w101, F102⟩ := hp
    clear gt99
    show Tn _ _ 51 T σ97 [(0, .ref a), (1, .int (iI c)), (2, .int (iI r))] [] _
    refine tn_aload_n dX7_openCall_51 rfl 0 rfl ?_
    obtain ⟨x103, hx104, hk105, hl106⟩ : ∃ x : Nat, σ.2.1 62 a = (x : Int) ∧ AR T x 1 108 108 := wf_62 hw ha
    have hk105i : IA T x103 := by unfold IA; omega
    refine tn_getR (ci := 7) (i := 7) (n := 62) (x := x103) dX7_openCall_52 rfl lay_7 (by decide) fl7_21 ha rfl rfl (rc_F F102 (Or.inl (by decide)) (by decide) (rc_F F91 (Or.inl (by decide)) (by decide) (rc_F F80 (Or.inl (by decide)) (by decide) (rc_o (by decide) (rc_o (by decide) (rc_o (by decide) (hx104))))))) ?_
    refine tn_iload_n dX7_openCall_55 rfl 1 rfl ?_
    refine tn_bipush dX7_openCall_56 (by decide) ?_
    refine tn_imul dX7_openCall_58 ?_
    refine tn_iconst dX7_openCall_59 ?_
    refine tn_callSN (M := m_X7_openCall) (pc := 60) (ix := 61) (M' := m_X11_put) (As := [.ref x103, .int (iI (c * 12)), .int (iI 0)]) (rest := []) dX7_openCall_60 ok_X11_put stt_X11_put nl7_61 np_X11_put rfl (Nat.le_of_ble_eq_true rfl) (Nat.le_of_ble_eq_true rfl) rfl (k_X11_put (d + 1) (T := T) (σ := σ97) (x := x103) (i := c * 12) (y := 0) hk105i (by omega) (by omega) (by decide) w101 ((by have q9 := hk105; omega)) vok_0) (fun r107 T109 σ108 gt110 hp => ?_)
    obtain ⟨rfl, rfl, w112, F113⟩ := hp
    clear gt110
    show Tn _ _ 63 T σ108 [(0, .ref a), (1, .int (iI c)), (2, .int (iI r))] [] _
    refine tn_iload_n dX7_openCall_63 rfl 1 rfl ?_
    refine tn_sipush dX7_openCall_64 (by decide) ?_
    refine tn_imul dX7_openCall_67 ?_
    refine tn_istore_n (L' := [(3, .int (iI (c * 192))), (0, .ref a), (1, .int (iI c)), (2, .int (iI r))]) dX7_openCall_68 rfl (by decide) rfl ?_
    refine tn_iload_n dX7_openCall_69 rfl 0 rfl ?_
    refine tn_if_lt (tgt := 100) dX7_openCall_70 (by decide) ⟨by omega, by omega⟩ (fun h114 => absurd h114 (by omega)) (fun h114 => ?_)
    refine tn_iload_n dX7_openCall_73 rfl 0 rfl ?_
    refine tn_sipush dX7_openCall_74 (by decide) ?_
    refine tn_iadd dX7_openCall_77 ?_
    refine tn_aload_n dX7_openCall_78 rfl 1 rfl ?_
    obtain ⟨x115, hx116, hk117, hl118⟩ : ∃ x : Nat, σ.2.1 63 a = (x : Int) ∧ AR T x 1 1728 1728 := wf_63 hw ha
    have hk117i : IA T x115 := by unfold IA; omega
    refine tn_getR (ci := 7) (i := 8) (n := 63) (x := x115) dX7_openCall_79 rfl lay_7 (by decide) fl7_24 ha rfl rfl (rc_F F113 (Or.inl (by decide)) (by decide) (rc_F F102 (Or.inl (by decide)) (by decide) (rc_F F91 (Or.inl (by decide)) (by decide) (rc_F F80 (Or.inl (by decide)) (by decide) (rc_o (by decide) (rc_o (by decide) (rc_o (by decide) (hx116)))))))) ?_
    refine tn_alenX dX7_openCall_82 (Or.inl hk117i) ?_
    refine tn_icmp_gt (tgt := 100) dX7_openCall_83 (by decide) ⟨by omega, by omega⟩ ⟨by omega, by omega⟩ (fun h119 => absurd h119 (by omega)) (fun h119 => ?_)
    refine tn_aload_n dX7_openCall_86 rfl 1 rfl ?_
    refine tn_getR (ci := 7) (i := 8) (n := 63) (x := x115) dX7_openCall_87 rfl lay_7 (by decide) fl7_24 ha rfl rfl (rc_F F113 (Or.inl (by decide)) (by decide) (rc_F F102 (Or.inl (by decide)) (by decide) (rc_F F91 (Or.inl (by decide)) (by decide) (rc_F F80 (Or.inl (by decide)) (by decide) (rc_o (by decide) (rc_o (by decide) (rc_o (by decide) (hx116)))))))) ?_
    refine tn_iload_n dX7_openCall_90 rfl 0 rfl ?_
    refine tn_iload_n dX7_openCall_91 rfl 0 rfl ?_
    refine tn_sipush dX7_openCall_92 (by decide) ?_
    refine tn_iadd dX7_openCall_95 ?_
    refine tn_iconst dX7_openCall_96 ?_
    refine tn_callS (M := m_X7_openCall) (pc := 97) (ix := 76) (M' := m_J7_fill_fda19) (As := [.ref x115, .int (iI (c * 192)), .int (iI ((c * 192) + 192)), .int (iI 0)]) (rest := []) dX7_openCall_97 ok_J7_fill_fda19 stt_J7_fill_fda19 ml7_76 np_J7_fill_fda19 rfl (Nat.le_of_ble_eq_true rfl) (Nat.le_of_ble_eq_true rfl) rfl (k_J7_fill_fda19 (d) (T := T) (σ := σ108) (x := x115) (f := c * 192) (t := (c * 192) + 192) (y := 0) hk117i (by omega) (by omega) (by omega) (by decide) w112 ((by have q9 := hk117; omega)) (by omega) (by omega)) (fun r120 T122 σ121 gt123 hp => ?_)
    obtain ⟨rfl, rfl, w125, F126⟩ := hp
    clear gt123
    show Tn _ _ 100 T σ121 [(3, .int (iI (c * 192))), (0, .ref a), (1, .int (iI c)), (2, .int (iI r))] [] _
    have q127 : σ121.2.1 57 a = c := rc_F F126 (Or.inl (by decide)) (by decide) (rc_F F113 (Or.inl (by decide)) (by decide) (rc_F F102 (Or.inl (by decide)) (by decide) (rc_F F91 (Or.inl (by decide)) (by decide) (rc_F F80 (Or.inl (by decide)) (by decide) (rc_o (by decide) (rc_o (by decide) (ra_eq)))))))
    have q128 : σ121.2.1 58 a = (σ.2.1 58 a) + 1 := rc_F F126 (Or.inl (by decide)) (by decide) (rc_F F113 (Or.inl (by decide)) (by decide) (rc_F F102 (Or.inl (by decide)) (by decide) (rc_F F91 (Or.inl (by decide)) (by decide) (rc_F F80 (Or.inl (by decide)) (by decide) (rc_o (by decide) (ra_eq))))))
    exact tn_vret rfl dX7_openCall_100 ⟨rfl, rfl, w125, ((((((((FrC.rfl.put (by decide) (by decide)).put (by decide) (by decide)).put (by decide) (by decide)).trans (FrC.sub F80 (by decide))).trans (FrC.sub F91 (by decide))).trans (FrC.sub F102 (by decide))).trans (FrC.sub F113 (by decide))).trans (FrC.sub F126 (by decide))), by omega, by omega, ((((((((FA.rfl.put).put).put).trans (FA.of F80 (by decide))).trans (FA.of F91 (by decide))).trans (FA.of F102 (by decide))).trans (FA.of F113 (by decide))).trans (FA.of F126 (by decide)))⟩
