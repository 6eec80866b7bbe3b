set_option maxHeartbeats 1000000 in
set_option maxRecDepth 20000 in
theorem k_X7_openCall_j (d : Nat) {T : CT} {σ : MS} {a : Nat} {c : Int} {r : Int} {xa : Nat} {xb : Nat} {xc : Nat} {xd : Nat} {xe : Nat} {y : Nat} (ha : OB T a 7) (hta : (T a).1 = 37) (h_c : -2147483648 ≤ c ∧ c ≤ 2147483647) (h_r : -2147483648 ≤ r ∧ r ≤ 2147483647) (hw : WT T σ) (hxa : σ.2.1 59 a = (xa : Int)) (hxb : σ.2.1 60 a = (xb : Int)) (hxc : σ.2.1 61 a = (xc : Int)) (hxd : σ.2.1 62 a = (xd : Int)) (hxe : σ.2.1 63 a = (xe : Int)) (hy : σ.2.1 55 a = (y : Int)) (h8 : 0 ≤ c ∧ c ≤ 11184800) : Tn (d + 3) m_X7_openCall 0 T σ [(0, .ref a), (1, .int (iI c)), (2, .int (iI r))] [] (fun ro T2 σ2 => ro = none ∧ T = T2 ∧ WT T2 σ2 ∧ FrC T [57, 58, 69, 515] σ σ2 ∧ (CHX [(57, a), (58, a), (69, a)] [xa, xb, xc, xd, xe] [] σ σ2) ∧ (σ2.2.1 57 a = c) ∧ (JOC T σ a xa xb xc xd xe y c r σ2) ∧ (FA a σ σ2)) := by
  refine tn_aload_n dX7_openCall_0 rfl 0 rfl ?_
  refine tn_iload_n dX7_openCall_1 rfl 1 rfl ?_
  refine tn_putV (ci := 7) (i := 2) (n := 57) (r := false) (v := c) tyX7 tyX7_ok nmX7 dX7_openCall_2 rfl lay_7 (by decide) fl7_65 rfl (tyX7_ok 2 (by decide)) rfl rfl rfl ha rfl rfl ?_
  refine tn_aload_n dX7_openCall_5 rfl 0 rfl ?_
  refine tn_dup dX7_openCall_6 rfl ?_
  refine tn_getI (ci := 7) (i := 3) (n := 58) (t := σ.2.1 58 a) dX7_openCall_7 rfl lay_7 (by decide) fl7_38 ha rfl rfl (rc_o (by decide) (rfl)) ?_
  have g1 : ((-2147483648 : Int) ≤ σ.2.1 58 a ∧ σ.2.1 58 a ≤ 2147483647) := wf_58 hw ha
  refine tn_iconst dX7_openCall_10 ?_
  refine tn_iadd dX7_openCall_11 ?_
  rw [show iI ((σ.2.1 58 a) + 1) = iI (w32 ((σ.2.1 58 a) + 1)) from (iI_self _).symm]
  have g2r : -2147483648 ≤ w32 ((σ.2.1 58 a) + 1) ∧ w32 ((σ.2.1 58 a) + 1) ≤ 2147483647 := inR_toInt _
  refine tn_putV (ci := 7) (i := 3) (n := 58) (r := false) (v := w32 ((σ.2.1 58 a) + 1)) tyX7 tyX7_ok nmX7 dX7_openCall_12 rfl lay_7 (by decide) fl7_38 rfl (tyX7_ok 3 (by decide)) rfl rfl rfl ha rfl rfl ?_
  refine tn_aload_n dX7_openCall_15 rfl 0 rfl ?_
  refine tn_aload_n dX7_openCall_16 rfl 0 rfl ?_
  refine tn_iload_n dX7_openCall_17 rfl 2 rfl ?_
  obtain ⟨hl6, hk5a, hk5b⟩ := ex_at (wf_55 hw ha) hy
  have hk5i : (T y).1 = 4 ∨ (T y).1 = 5 := by omega
  have hk5c : RROW T a y := ⟨hk5a, hk5b⟩
  clear hk5a hk5b
  refine tn_callV (M := m_X7_openCall) (pc := 18) (ix := 68) (ci := 7) (M' := m_X7_codeAt) (As := [.int (iI r)]) (rest := [.ref a]) dX7_openCall_18 ok_X7_codeAt im_X7_codeAt se_X7_codeAt ml7_68 np_X7_codeAt rfl rfl ha rfl (Nat.le_of_ble_eq_true rfl) (Nat.le_of_ble_eq_true rfl) rfl (k_X7_codeAt_j (d + 1) (T := T) (σ := (sA 58 a (w32 ((σ.2.1 58 a) + 1)) (sA 57 a (c) σ))) (a := a) (r := r) (y := y) ha (by omega) ((hw.put (by decide) (by decide) (fo_57 ⟨by omega, by omega⟩)).put (by decide) (by decide) (fo_58 (by omega))) (rc_o (by decide) (rc_o (by decide) (hy)))) (fun r7 T9 σ8 gt10 hp => ?_)
  obtain ⟨v13, rfl, rfl, rfl, rv14, f11, f12⟩ := hp
  clear gt10
  rcases rv14 with rv14 | ⟨xq15, rfl, hk16⟩
  · show Tn _ _ 21 T (sA 58 a (w32 ((σ.2.1 58 a) + 1)) (sA 57 a (c) σ)) [(0, .ref a), (1, .int (iI c)), (2, .int (iI r))] (vl true v13 :: [.ref a]) _
    rw [vl_null rv14]
    refine tn_putV (ci := 7) (i := 14) (n := 69) (r := true) (v := -1) tyX7 tyX7_ok nmX7 dX7_openCall_21 rfl lay_7 (by decide) fl7_72 rfl (tyX7_ok 14 (by decide)) (vl_null (by decide)).symm rfl rfl ha rfl rfl ?_
    refine tn_aload_n dX7_openCall_24 rfl 0 rfl ?_
    obtain ⟨hk19, hl20⟩ : AR T xa 15 9 9 := ar_of (wf_59 hw ha) hxa
    have hk19i : IA T xa := by unfold IA; omega
    refine tn_getR (ci := 7) (i := 4) (n := 59) (x := xa) dX7_openCall_25 rfl lay_7 (by decide) fl7_9 ha rfl rfl (rc_o (by decide) (rc_o (by decide) (rc_o (by decide) (hxa)))) ?_
    refine tn_iload_n dX7_openCall_28 rfl 1 rfl ?_
    refine tn_iload_n dX7_openCall_29 rfl 2 rfl ?_
    refine tn_callSN (M := m_X7_openCall) (pc := 30) (ix := 61) (M' := m_X11_put) (As := [.ref xa, .int (iI c), .int (iI r)]) (rest := []) dX7_openCall_30 ok_X11_put stt_X11_put nl7_61 np_X11_put rfl (Nat.le_of_ble_eq_true rfl) (Nat.le_of_ble_eq_true rfl) rfl (k_X11_put_15 (d + 1) (T := T) (σ := (sA 69 a (-1) (sA 58 a (w32 ((σ.2.1 58 a) + 1)) (sA 57 a (c) σ)))) (x := xa) (i := c) (y := r) hk19i (by omega) hk19 (by omega) (by omega) (((hw.put (by decide) (by decide) (fo_57 ⟨by omega, by omega⟩)).put (by decide) (by decide) (fo_58 (by omega))).put (by decide) (by decide) (fo_69 (Or.inl (by decide)))) ) (fun r21 T23 σ22 gt24 hp => ?_)
    obtain ⟨rfl, rfl, w27, F28, f25⟩ := hp
    clear gt24
    have je29 : σ22 = jP T xa (c) (r) _ := f25
    show Tn _ _ 33 T σ22 [(0, .ref a), (1, .int (iI c)), (2, .int (iI r))] [] _
    refine tn_aload_n dX7_openCall_33 rfl 0 rfl ?_
    obtain ⟨hk32, hl33⟩ : AR T xb 1 9 9 := ar_of (wf_60 hw ha) hxb
    have hk32i : IA T xb := by unfold IA; omega
    refine tn_getR (ci := 7) (i := 5) (n := 60) (x := xb) dX7_openCall_34 rfl lay_7 (by decide) fl7_15 ha rfl rfl (rc_F F28 (Or.inl (by decide)) (by decide) (rc_o (by decide) (rc_o (by decide) (rc_o (by decide) (hxb))))) ?_
    refine tn_iload_n dX7_openCall_37 rfl 1 rfl ?_
    refine tn_iconst dX7_openCall_38 ?_
    refine tn_callSN (M := m_X7_openCall) (pc := 39) (ix := 61) (M' := m_X11_put) (As := [.ref xb, .int (iI c), .int (iI 0)]) (rest := []) dX7_openCall_39 ok_X11_put stt_X11_put nl7_61 np_X11_put rfl (Nat.le_of_ble_eq_true rfl) (Nat.le_of_ble_eq_true rfl) rfl (k_X11_put_x (d + 1) (T := T) (σ := σ22) (x := xb) (i := c) (y := 0) hk32i (by omega) (by omega) (by decide) w27 (nh_k hk32 (by unfold HT; omega)) vok_0) (fun r34 T36 σ35 gt37 hp => ?_)
    obtain ⟨rfl, rfl, w41, F42, f38, f39⟩ := hp
    clear gt37
    have je43 : σ35 = jP T xb (c) (0) _ := f39
    show Tn _ _ 42 T σ35 [(0, .ref a), (1, .int (iI c)), (2, .int (iI r))] [] _
    refine tn_aload_n dX7_openCall_42 rfl 0 rfl ?_
    obtain ⟨hl47, hk46a, hk46b⟩ := ex_at (wf_61 hw ha) hxc
    have hk46 : (T xc).1 = 1 := hk46b (by omega)
    clear hk46a hk46b
    have hk46i : IA T xc := by unfold IA; omega
    refine tn_getR (ci := 7) (i := 6) (n := 61) (x := xc) dX7_openCall_43 rfl lay_7 (by decide) fl7_18 ha rfl rfl (rc_F F42 (Or.inl (by decide)) (by decide) (rc_F F28 (Or.inl (by decide)) (by decide) (rc_o (by decide) (rc_o (by decide) (rc_o (by decide) (hxc)))))) ?_
    refine tn_iload_n dX7_openCall_46 rfl 1 rfl ?_
    refine tn_iconst dX7_openCall_47 ?_
    refine tn_callSN (M := m_X7_openCall) (pc := 48) (ix := 61) (M' := m_X11_put) (As := [.ref xc, .int (iI c), .int (iI 0)]) (rest := []) dX7_openCall_48 ok_X11_put stt_X11_put nl7_61 np_X11_put rfl (Nat.le_of_ble_eq_true rfl) (Nat.le_of_ble_eq_true rfl) rfl (k_X11_put_x (d + 1) (T := T) (σ := σ35) (x := xc) (i := c) (y := 0) hk46i (by omega) (by omega) (by decide) w41 (nh_k hk46 (by unfold HT; omega)) vok_0) (fun r48 T50 σ49 gt51 hp => ?_)
    obtain ⟨rfl, rfl, w55, F56, f52, f53⟩ := hp
    clear gt51
    have je57 : σ49 = jP T xc (c) (0) _ := f53
    show Tn _ _ 51 T σ49 [(0, .ref a), (1, .int (iI c)), (2, .int (iI r))] [] _
    refine tn_aload_n dX7_openCall_51 rfl 0 rfl ?_
    obtain ⟨hk60, hl61⟩ : AR T xd 1 108 108 := ar_of (wf_62 hw ha) hxd
    have hk60i : IA T xd := by unfold IA; omega
    refine tn_getR (ci := 7) (i := 7) (n := 62) (x := xd) dX7_openCall_52 rfl lay_7 (by decide) fl7_21 ha rfl rfl (rc_F F56 (Or.inl (by decide)) (by decide) (rc_F F42 (Or.inl (by decide)) (by decide) (rc_F F28 (Or.inl (by decide)) (by decide) (rc_o (by decide) (rc_o (by decide) (rc_o (by decide) (hxd))))))) ?_
    refine tn_iload_n dX7_openCall_55 rfl 1 rfl ?_
    refine tn_bipush dX7_openCall_56 (by decide) ?_
    refine tn_imul dX7_openCall_58 ?_
    refine tn_iconst dX7_openCall_59 ?_
    refine tn_callSN (M := m_X7_openCall) (pc := 60) (ix := 61) (M' := m_X11_put) (As := [.ref xd, .int (iI (c * 12)), .int (iI 0)]) (rest := []) dX7_openCall_60 ok_X11_put stt_X11_put nl7_61 np_X11_put rfl (Nat.le_of_ble_eq_true rfl) (Nat.le_of_ble_eq_true rfl) rfl (k_X11_put_x (d + 1) (T := T) (σ := σ49) (x := xd) (i := c * 12) (y := 0) hk60i (by omega) (by omega) (by decide) w55 (nh_k hk60 (by unfold HT; omega)) vok_0) (fun r62 T64 σ63 gt65 hp => ?_)
    obtain ⟨rfl, rfl, w69, F70, f66, f67⟩ := hp
    clear gt65
    have je71 : σ63 = jP T xd (c * 12) (0) _ := f67
    show Tn _ _ 63 T σ63 [(0, .ref a), (1, .int (iI c)), (2, .int (iI r))] [] _
    refine tn_iload_n dX7_openCall_63 rfl 1 rfl ?_
    refine tn_sipush dX7_openCall_64 (by decide) ?_
    refine tn_imul dX7_openCall_67 ?_
    refine tn_istore_n (L' := [(3, .int (iI (c * 192))), (0, .ref a), (1, .int (iI c)), (2, .int (iI r))]) dX7_openCall_68 rfl (by decide) rfl ?_
    refine tn_iload_n dX7_openCall_69 rfl 0 rfl ?_
    refine tn_if_lt (tgt := 100) dX7_openCall_70 (by decide) ⟨by omega, by omega⟩ (fun h72 => absurd h72 (by omega)) (fun h72 => ?_)
    refine tn_iload_n dX7_openCall_73 rfl 0 rfl ?_
    refine tn_sipush dX7_openCall_74 (by decide) ?_
    refine tn_iadd dX7_openCall_77 ?_
    refine tn_aload_n dX7_openCall_78 rfl 1 rfl ?_
    obtain ⟨hk75, hl76⟩ : AR T xe 1 1728 1728 := ar_of (wf_63 hw ha) hxe
    have hk75i : IA T xe := by unfold IA; omega
    refine tn_getR (ci := 7) (i := 8) (n := 63) (x := xe) dX7_openCall_79 rfl lay_7 (by decide) fl7_24 ha rfl rfl (rc_F F70 (Or.inl (by decide)) (by decide) (rc_F F56 (Or.inl (by decide)) (by decide) (rc_F F42 (Or.inl (by decide)) (by decide) (rc_F F28 (Or.inl (by decide)) (by decide) (rc_o (by decide) (rc_o (by decide) (rc_o (by decide) (hxe)))))))) ?_
    refine tn_alenX dX7_openCall_82 (Or.inl hk75i) ?_
    refine tn_icmp_gt (tgt := 100) dX7_openCall_83 (by decide) ⟨by omega, by omega⟩ ⟨by omega, by omega⟩ (fun h77 => ?_) (fun h77 => ?_)
    · have q78 : σ63.2.1 57 a = c := rc_F F70 (Or.inl (by decide)) (by decide) (rc_F F56 (Or.inl (by decide)) (by decide) (rc_F F42 (Or.inl (by decide)) (by decide) (rc_F F28 (Or.inl (by decide)) (by decide) (rc_o (by decide) (rc_o (by decide) (ra_eq))))))
      exact tn_vret rfl dX7_openCall_100 ⟨rfl, rfl, w69, (((((((FrC.rfl.put (by decide) (by decide)).put (by decide) (by decide)).put (by decide) (by decide)).trans (FrC.sub F28 (by decide))).trans (FrC.sub F42 (by decide))).trans (FrC.sub F56 (by decide))).trans (FrC.sub F70 (by decide))), (((((((CHX.rfl.fld (by simp) (by decide)).fld (by simp) (by decide)).fld (by simp) (by decide)).trans (CHX.sub (chx_put f25) (by simp) (by simp) (by simp))).trans (CHX.sub f38 (by simp) (by simp) (by simp))).trans (CHX.sub f52 (by simp) (by simp) (by simp))).trans (CHX.sub f66 (by simp) (by simp) (by simp))), by omega, ⟨-1, _, Or.inr ⟨by rw [← f12]; assumption, rfl⟩, by rw [je71, je57, je43, je29], Or.inl ⟨by omega, rfl⟩⟩, (((((((FA.rfl.put).put).put).trans (FA.of F28 (by decide))).trans (FA.of F42 (by decide))).trans (FA.of F56 (by decide))).trans (FA.of F70 (by decide)))⟩
    · refine tn_aload_n dX7_openCall_86 rfl 1 rfl ?_
      refine tn_getR (ci := 7) (i := 8) (n := 63) (x := xe) dX7_openCall_87 rfl lay_7 (by decide) fl7_24 ha rfl rfl (rc_F F70 (Or.inl (by decide)) (by decide) (rc_F F56 (Or.inl (by decide)) (by decide) (rc_F F42 (Or.inl (by decide)) (by decide) (rc_F F28 (Or.inl (by decide)) (by decide) (rc_o (by decide) (rc_o (by decide) (rc_o (by decide) (hxe)))))))) ?_
      refine tn_iload_n dX7_openCall_90 rfl 0 rfl ?_
      refine tn_iload_n dX7_openCall_91 rfl 0 rfl ?_
      refine tn_sipush dX7_openCall_92 (by decide) ?_
      refine tn_iadd dX7_openCall_95 ?_
      refine tn_iconst dX7_openCall_96 ?_
      refine tn_callS (M := m_X7_openCall) (pc := 97) (ix := 76) (M' := m_J7_fill_fda19) (As := [.ref xe, .int (iI (c * 192)), .int (iI ((c * 192) + 192)), .int (iI 0)]) (rest := []) dX7_openCall_97 ok_J7_fill_fda19 stt_J7_fill_fda19 ml7_76 np_J7_fill_fda19 rfl (Nat.le_of_ble_eq_true rfl) (Nat.le_of_ble_eq_true rfl) rfl (k_J7_fill_fda19_x (d) (T := T) (σ := σ63) (x := xe) (f := c * 192) (t := (c * 192) + 192) (y := 0) hk75i (by omega) (by omega) (by omega) (by decide) w69 (nh_k hk75 (by unfold HT; omega)) (by omega) (by omega)) (fun r79 T81 σ80 gt82 hp => ?_)
      obtain ⟨rfl, rfl, w86, F87, f83, f84⟩ := hp
      clear gt82
      show Tn _ _ 100 T σ80 [(3, .int (iI (c * 192))), (0, .ref a), (1, .int (iI c)), (2, .int (iI r))] [] _
      have q88 : σ80.2.1 57 a = c := rc_F F87 (Or.inl (by decide)) (by decide) (rc_F F70 (Or.inl (by decide)) (by decide) (rc_F F56 (Or.inl (by decide)) (by decide) (rc_F F42 (Or.inl (by decide)) (by decide) (rc_F F28 (Or.inl (by decide)) (by decide) (rc_o (by decide) (rc_o (by decide) (ra_eq)))))))
      exact tn_vret rfl dX7_openCall_100 ⟨rfl, rfl, w86, ((((((((FrC.rfl.put (by decide) (by decide)).put (by decide) (by decide)).put (by decide) (by decide)).trans (FrC.sub F28 (by decide))).trans (FrC.sub F42 (by decide))).trans (FrC.sub F56 (by decide))).trans (FrC.sub F70 (by decide))).trans (FrC.sub F87 (by decide))), ((((((((CHX.rfl.fld (by simp) (by decide)).fld (by simp) (by decide)).fld (by simp) (by decide)).trans (CHX.sub (chx_put f25) (by simp) (by simp) (by simp))).trans (CHX.sub f38 (by simp) (by simp) (by simp))).trans (CHX.sub f52 (by simp) (by simp) (by simp))).trans (CHX.sub f66 (by simp) (by simp) (by simp))).trans (CHX.sub f83 (by simp) (by simp) (by simp))), by omega, ⟨-1, _, Or.inr ⟨by rw [← f12]; assumption, rfl⟩, by rw [je71, je57, je43, je29], Or.inr ⟨by omega, f84, f83⟩⟩, ((((((((FA.rfl.put).put).put).trans (FA.of F28 (by decide))).trans (FA.of F42 (by decide))).trans (FA.of F56 (by decide))).trans (FA.of F70 (by decide))).trans (FA.of F87 (by decide)))⟩
  · show Tn _ _ 21 T (sA 58 a (w32 ((σ.2.1 58 a) + 1)) (sA 57 a (c) σ)) [(0, .ref a), (1, .int (iI c)), (2, .int (iI r))] (vl true (xq15 : Int) :: [.ref a]) _
    rw [vl_ref rfl]
    have hk16o : OB T xq15 1 := hk16.1
    refine tn_putV (ci := 7) (i := 14) (n := 69) (r := true) (v := (xq15 : Int)) tyX7 tyX7_ok nmX7 dX7_openCall_21 rfl lay_7 (by decide) fl7_72 rfl (tyX7_ok 14 (by decide)) (vl_ref rfl).symm rfl rfl ha rfl rfl ?_
    refine tn_aload_n dX7_openCall_24 rfl 0 rfl ?_
    obtain ⟨hk91, hl92⟩ : AR T xa 15 9 9 := ar_of (wf_59 hw ha) hxa
    have hk91i : IA T xa := by unfold IA; omega
    refine tn_getR (ci := 7) (i := 4) (n := 59) (x := xa) dX7_openCall_25 rfl lay_7 (by decide) fl7_9 ha rfl rfl (rc_o (by decide) (rc_o (by decide) (rc_o (by decide) (hxa)))) ?_
    refine tn_iload_n dX7_openCall_28 rfl 1 rfl ?_
    refine tn_iload_n dX7_openCall_29 rfl 2 rfl ?_
    refine tn_callSN (M := m_X7_openCall) (pc := 30) (ix := 61) (M' := m_X11_put) (As := [.ref xa, .int (iI c), .int (iI r)]) (rest := []) dX7_openCall_30 ok_X11_put stt_X11_put nl7_61 np_X11_put rfl (Nat.le_of_ble_eq_true rfl) (Nat.le_of_ble_eq_true rfl) rfl (k_X11_put_15 (d + 1) (T := T) (σ := (sA 69 a ((xq15 : Int)) (sA 58 a (w32 ((σ.2.1 58 a) + 1)) (sA 57 a (c) σ)))) (x := xa) (i := c) (y := r) hk91i (by omega) hk91 (by omega) (by omega) (((hw.put (by decide) (by decide) (fo_57 ⟨by omega, by omega⟩)).put (by decide) (by decide) (fo_58 (by omega))).put (by decide) (by decide) (fo_69 (Or.inr ⟨_, rfl, hk16.2.1, hk16.2.2⟩))) ) (fun r93 T95 σ94 gt96 hp => ?_)
    obtain ⟨rfl, rfl, w99, F100, f97⟩ := hp
    clear gt96
    have je101 : σ94 = jP T xa (c) (r) _ := f97
    show Tn _ _ 33 T σ94 [(0, .ref a), (1, .int (iI c)), (2, .int (iI r))] [] _
    refine tn_aload_n dX7_openCall_33 rfl 0 rfl ?_
    obtain ⟨hk104, hl105⟩ : AR T xb 1 9 9 := ar_of (wf_60 hw ha) hxb
    have hk104i : IA T xb := by unfold IA; omega
    refine tn_getR (ci := 7) (i := 5) (n := 60) (x := xb) dX7_openCall_34 rfl lay_7 (by decide) fl7_15 ha rfl rfl (rc_F F100 (Or.inl (by decide)) (by decide) (rc_o (by decide) (rc_o (by decide) (rc_o (by decide) (hxb))))) ?_
    refine tn_iload_n dX7_openCall_37 rfl 1 rfl ?_
    refine tn_iconst dX7_openCall_38 ?_
    refine tn_callSN (M := m_X7_openCall) (pc := 39) (ix := 61) (M' := m_X11_put) (As := [.ref xb, .int (iI c), .int (iI 0)]) (rest := []) dX7_openCall_39 ok_X11_put stt_X11_put nl7_61 np_X11_put rfl (Nat.le_of_ble_eq_true rfl) (Nat.le_of_ble_eq_true rfl) rfl (k_X11_put_x (d + 1) (T := T) (σ := σ94) (x := xb) (i := c) (y := 0) hk104i (by omega) (by omega) (by decide) w99 (nh_k hk104 (by unfold HT; omega)) vok_0) (fun r106 T108 σ107 gt109 hp => ?_)
    obtain ⟨rfl, rfl, w113, F114, f110, f111⟩ := hp
    clear gt109
    have je115 : σ107 = jP T xb (c) (0) _ := f111
    show Tn _ _ 42 T σ107 [(0, .ref a), (1, .int (iI c)), (2, .int (iI r))] [] _
    refine tn_aload_n dX7_openCall_42 rfl 0 rfl ?_
    obtain ⟨hl119, hk118a, hk118b⟩ := ex_at (wf_61 hw ha) hxc
    have hk118 : (T xc).1 = 1 := hk118b (by omega)
    clear hk118a hk118b
    have hk118i : IA T xc := by unfold IA; omega
    refine tn_getR (ci := 7) (i := 6) (n := 61) (x := xc) dX7_openCall_43 rfl lay_7 (by decide) fl7_18 ha rfl rfl (rc_F F114 (Or.inl (by decide)) (by decide) (rc_F F100 (Or.inl (by decide)) (by decide) (rc_o (by decide) (rc_o (by decide) (rc_o (by decide) (hxc)))))) ?_
    refine tn_iload_n dX7_openCall_46 rfl 1 rfl ?_
    refine tn_iconst dX7_openCall_47 ?_
    refine tn_callSN (M := m_X7_openCall) (pc := 48) (ix := 61) (M' := m_X11_put) (As := [.ref xc, .int (iI c), .int (iI 0)]) (rest := []) dX7_openCall_48 ok_X11_put stt_X11_put nl7_61 np_X11_put rfl (Nat.le_of_ble_eq_true rfl) (Nat.le_of_ble_eq_true rfl) rfl (k_X11_put_x (d + 1) (T := T) (σ := σ107) (x := xc) (i := c) (y := 0) hk118i (by omega) (by omega) (by decide) w113 (nh_k hk118 (by unfold HT; omega)) vok_0) (fun r120 T122 σ121 gt123 hp => ?_)
    obtain ⟨rfl, rfl, w127, F128, f124, f125⟩ := hp
    clear gt123
    have je129 : σ121 = jP T xc (c) (0) _ := f125
    show Tn _ _ 51 T σ121 [(0, .ref a), (1, .int (iI c)), (2, .int (iI r))] [] _
    refine tn_aload_n dX7_openCall_51 rfl 0 rfl ?_
    obtain ⟨hk132, hl133⟩ : AR T xd 1 108 108 := ar_of (wf_62 hw ha) hxd
    have hk132i : IA T xd := by unfold IA; omega
    refine tn_getR (ci := 7) (i := 7) (n := 62) (x := xd) dX7_openCall_52 rfl lay_7 (by decide) fl7_21 ha rfl rfl (rc_F F128 (Or.inl (by decide)) (by decide) (rc_F F114 (Or.inl (by decide)) (by decide) (rc_F F100 (Or.inl (by decide)) (by decide) (rc_o (by decide) (rc_o (by decide) (rc_o (by decide) (hxd))))))) ?_
    refine tn_iload_n dX7_openCall_55 rfl 1 rfl ?_
    refine tn_bipush dX7_openCall_56 (by decide) ?_
    refine tn_imul dX7_openCall_58 ?_
    refine tn_iconst dX7_openCall_59 ?_
    refine tn_callSN (M := m_X7_openCall) (pc := 60) (ix := 61) (M' := m_X11_put) (As := [.ref xd, .int (iI (c * 12)), .int (iI 0)]) (rest := []) dX7_openCall_60 ok_X11_put stt_X11_put nl7_61 np_X11_put rfl (Nat.le_of_ble_eq_true rfl) (Nat.le_of_ble_eq_true rfl) rfl (k_X11_put_x (d + 1) (T := T) (σ := σ121) (x := xd) (i := c * 12) (y := 0) hk132i (by omega) (by omega) (by decide) w127 (nh_k hk132 (by unfold HT; omega)) vok_0) (fun r134 T136 σ135 gt137 hp => ?_)
    obtain ⟨rfl, rfl, w141, F142, f138, f139⟩ := hp
    clear gt137
    have je143 : σ135 = jP T xd (c * 12) (0) _ := f139
    show Tn _ _ 63 T σ135 [(0, .ref a), (1, .int (iI c)), (2, .int (iI r))] [] _
    refine tn_iload_n dX7_openCall_63 rfl 1 rfl ?_
    refine tn_sipush dX7_openCall_64 (by decide) ?_
    refine tn_imul dX7_openCall_67 ?_
    refine tn_istore_n (L' := [(3, .int (iI (c * 192))), (0, .ref a), (1, .int (iI c)), (2, .int (iI r))]) dX7_openCall_68 rfl (by decide) rfl ?_
    refine tn_iload_n dX7_openCall_69 rfl 0 rfl ?_
    refine tn_if_lt (tgt := 100) dX7_openCall_70 (by decide) ⟨by omega, by omega⟩ (fun h144 => absurd h144 (by omega)) (fun h144 => ?_)
    refine tn_iload_n dX7_openCall_73 rfl 0 rfl ?_
    refine tn_sipush dX7_openCall_74 (by decide) ?_
    refine tn_iadd dX7_openCall_77 ?_
    refine tn_aload_n dX7_openCall_78 rfl 1 rfl ?_
    obtain ⟨hk147, hl148⟩ : AR T xe 1 1728 1728 := ar_of (wf_63 hw ha) hxe
    have hk147i : IA T xe := by unfold IA; omega
    refine tn_getR (ci := 7) (i := 8) (n := 63) (x := xe) dX7_openCall_79 rfl lay_7 (by decide) fl7_24 ha rfl rfl (rc_F F142 (Or.inl (by decide)) (by decide) (rc_F F128 (Or.inl (by decide)) (by decide) (rc_F F114 (Or.inl (by decide)) (by decide) (rc_F F100 (Or.inl (by decide)) (by decide) (rc_o (by decide) (rc_o (by decide) (rc_o (by decide) (hxe)))))))) ?_
    refine tn_alenX dX7_openCall_82 (Or.inl hk147i) ?_
    refine tn_icmp_gt (tgt := 100) dX7_openCall_83 (by decide) ⟨by omega, by omega⟩ ⟨by omega, by omega⟩ (fun h149 => ?_) (fun h149 => ?_)
    · have q150 : σ135.2.1 57 a = c := rc_F F142 (Or.inl (by decide)) (by decide) (rc_F F128 (Or.inl (by decide)) (by decide) (rc_F F114 (Or.inl (by decide)) (by decide) (rc_F F100 (Or.inl (by decide)) (by decide) (rc_o (by decide) (rc_o (by decide) (ra_eq))))))
      exact tn_vret rfl dX7_openCall_100 ⟨rfl, rfl, w141, (((((((FrC.rfl.put (by decide) (by decide)).put (by decide) (by decide)).put (by decide) (by decide)).trans (FrC.sub F100 (by decide))).trans (FrC.sub F114 (by decide))).trans (FrC.sub F128 (by decide))).trans (FrC.sub F142 (by decide))), (((((((CHX.rfl.fld (by simp) (by decide)).fld (by simp) (by decide)).fld (by simp) (by decide)).trans (CHX.sub (chx_put f97) (by simp) (by simp) (by simp))).trans (CHX.sub f110 (by simp) (by simp) (by simp))).trans (CHX.sub f124 (by simp) (by simp) (by simp))).trans (CHX.sub f138 (by simp) (by simp) (by simp))), by omega, ⟨(xq15 : Int), _, Or.inl f12, by rw [je143, je129, je115, je101], Or.inl ⟨by omega, rfl⟩⟩, (((((((FA.rfl.put).put).put).trans (FA.of F100 (by decide))).trans (FA.of F114 (by decide))).trans (FA.of F128 (by decide))).trans (FA.of F142 (by decide)))⟩
    · refine tn_aload_n dX7_openCall_86 rfl 1 rfl ?_
      refine tn_getR (ci := 7) (i := 8) (n := 63) (x := xe) dX7_openCall_87 rfl lay_7 (by decide) fl7_24 ha rfl rfl (rc_F F142 (Or.inl (by decide)) (by decide) (rc_F F128 (Or.inl (by decide)) (by decide) (rc_F F114 (Or.inl (by decide)) (by decide) (rc_F F100 (Or.inl (by decide)) (by decide) (rc_o (by decide) (rc_o (by decide) (rc_o (by decide) (hxe)))))))) ?_
      refine tn_iload_n dX7_openCall_90 rfl 0 rfl ?_
      refine tn_iload_n dX7_openCall_91 rfl 0 rfl ?_
      refine tn_sipush dX7_openCall_92 (by decide) ?_
      refine tn_iadd dX7_openCall_95 ?_
      refine tn_iconst dX7_openCall_96 ?_
      refine tn_callS (M := m_X7_openCall) (pc := 97) (ix := 76) (M' := m_J7_fill_fda19) (As := [.ref xe, .int (iI (c * 192)), .int (iI ((c * 192) + 192)), .int (iI 0)]) (rest := []) dX7_openCall_97 ok_J7_fill_fda19 stt_J7_fill_fda19 ml7_76 np_J7_fill_fda19 rfl (Nat.le_of_ble_eq_true rfl) (Nat.le_of_ble_eq_true rfl) rfl (k_J7_fill_fda19_x (d) (T := T) (σ := σ135) (x := xe) (f := c * 192) (t := (c * 192) + 192) (y := 0) hk147i (by omega) (by omega) (by omega) (by decide) w141 (nh_k hk147 (by unfold HT; omega)) (by omega) (by omega)) (fun r151 T153 σ152 gt154 hp => ?_)
      obtain ⟨rfl, rfl, w158, F159, f155, f156⟩ := hp
      clear gt154
      show Tn _ _ 100 T σ152 [(3, .int (iI (c * 192))), (0, .ref a), (1, .int (iI c)), (2, .int (iI r))] [] _
      have q160 : σ152.2.1 57 a = c := rc_F F159 (Or.inl (by decide)) (by decide) (rc_F F142 (Or.inl (by decide)) (by decide) (rc_F F128 (Or.inl (by decide)) (by decide) (rc_F F114 (Or.inl (by decide)) (by decide) (rc_F F100 (Or.inl (by decide)) (by decide) (rc_o (by decide) (rc_o (by decide) (ra_eq)))))))
      exact tn_vret rfl dX7_openCall_100 ⟨rfl, rfl, w158, ((((((((FrC.rfl.put (by decide) (by decide)).put (by decide) (by decide)).put (by decide) (by decide)).trans (FrC.sub F100 (by decide))).trans (FrC.sub F114 (by decide))).trans (FrC.sub F128 (by decide))).trans (FrC.sub F142 (by decide))).trans (FrC.sub F159 (by decide))), ((((((((CHX.rfl.fld (by simp) (by decide)).fld (by simp) (by decide)).fld (by simp) (by decide)).trans (CHX.sub (chx_put f97) (by simp) (by simp) (by simp))).trans (CHX.sub f110 (by simp) (by simp) (by simp))).trans (CHX.sub f124 (by simp) (by simp) (by simp))).trans (CHX.sub f138 (by simp) (by simp) (by simp))).trans (CHX.sub f155 (by simp) (by simp) (by simp))), by omega, ⟨(xq15 : Int), _, Or.inl f12, by rw [je143, je129, je115, je101], Or.inr ⟨by omega, f156, f155⟩⟩, ((((((((FA.rfl.put).put).put).trans (FA.of F100 (by decide))).trans (FA.of F114 (by decide))).trans (FA.of F128 (by decide))).trans (FA.of F142 (by decide))).trans (FA.of F159 (by decide)))⟩
