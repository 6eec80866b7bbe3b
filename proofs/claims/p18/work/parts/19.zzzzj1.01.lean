section
set_option maxHeartbeats 1000000 in
set_option maxRecDepth 20000 in
theorem k_X7_openCall_j57 (d : Nat) {T : CT} {σ : MS} {a : Nat} {c : Int} {r : Int} {xa : Nat} {xb : Nat} {xc : Nat} {xd : Nat} {xe : Nat} {y : Nat} (ha : OB T a 7) (hta : (T a).1 = 57) (h_c : -2147483648 ≤ c ∧ c ≤ 2147483647) (h_r : -2147483648 ≤ r ∧ r ≤ 2147483647) (hw : WT T σ) (hxa : σ.2.1 59 a = (xa : Int)) (hxb : σ.2.1 60 a = (xb : Int)) (hxc : σ.2.1 61 a = (xc : Int)) (hxd : σ.2.1 62 a = (xd : Int)) (hxe : σ.2.1 63 a = (xe : Int)) (hy : σ.2.1 55 a = (y : Int)) (h8 : 0 ≤ c ∧ c ≤ 8) (hd : 0 ≤ σ.2.1 58 a ∧ σ.2.1 58 a ≤ 100) : Tn (d + 3) m_X7_openCall 0 T σ [(0, .ref a), (1, .int (iI c)), (2, .int (iI r))] [] (fun ro T2 σ2 => ro = none ∧ T = T2 ∧ WT T2 σ2 ∧ FrC T [57, 58, 69, 515] σ σ2 ∧ (CHX [(57, a), (58, a), (69, a)] [xa, xb, xc, xd, xe] [] σ σ2) ∧ (σ2.2.1 57 a = c) ∧ (σ2.2.1 58 a = σ.2.1 58 a + 1) ∧ (JOC T σ a xa xb xc xd xe y c r σ2) ∧ (FA a σ σ2)) := by
  refine tn_aload_n dX7_openCall_0 rfl 0 rfl ?_
  refine tn_iload_n dX7_openCall_1 rfl 1 rfl ?_
  refine tn_putV (ci := 7) (i := 2) (n := 57) (r := false) (v := c) tyX7 tyX7_ok nmX7 dX7_openCall_2 rfl lay_7 (by decide) fl7_65 rfl (tyX7_ok 2 (by decide)) rfl rfl rfl ha rfl rfl ?_
  refine tn_aload_n dX7_openCall_5 rfl 0 rfl ?_
  refine tn_dup dX7_openCall_6 rfl ?_
  refine tn_getI (ci := 7) (i := 3) (n := 58) (t := σ.2.1 58 a) dX7_openCall_7 rfl lay_7 (by decide) fl7_38 ha rfl rfl (rc_o (by decide) (rfl)) ?_
  have g1 : ((-2147483648 : Int) ≤ σ.2.1 58 a ∧ σ.2.1 58 a ≤ 2147483647) := wf_58 hw ha
  refine tn_iconst dX7_openCall_10 ?_
  refine tn_iadd dX7_openCall_11 ?_
  refine tn_putV (ci := 7) (i := 3) (n := 58) (r := false) (v := (σ.2.1 58 a) + 1) tyX7 tyX7_ok nmX7 dX7_openCall_12 rfl lay_7 (by decide) fl7_38 rfl (tyX7_ok 3 (by decide)) rfl rfl rfl ha rfl rfl ?_
  refine tn_aload_n dX7_openCall_15 rfl 0 rfl ?_
  refine tn_aload_n dX7_openCall_16 rfl 0 rfl ?_
  refine tn_iload_n dX7_openCall_17 rfl 2 rfl ?_
  obtain ⟨hl5, hk4a, hk4b⟩ := ex_at (wf_55 hw ha) hy
  have hk4i : (T y).1 = 4 ∨ (T y).1 = 5 := by omega
  have hk4c : RROW T a y := ⟨hk4a, hk4b⟩
  clear hk4a hk4b
  refine tn_callV (M := m_X7_openCall) (pc := 18) (ix := 68) (ci := 7) (M' := m_X7_codeAt) (As := [.int (iI r)]) (rest := [.ref a]) dX7_openCall_18 ok_X7_codeAt im_X7_codeAt se_X7_codeAt ml7_68 np_X7_codeAt rfl rfl ha rfl (Nat.le_of_ble_eq_true rfl) (Nat.le_of_ble_eq_true rfl) rfl (k_X7_codeAt_j (d + 1) (T := T) (σ := (sA 58 a ((σ.2.1 58 a) + 1) (sA 57 a (c) σ))) (a := a) (r := r) (y := y) ha (by omega) ((hw.put (by decide) (by decide) (fo_57 ⟨by omega, by omega⟩)).put (by decide) (by decide) (fo_58 (by omega))) (rc_o (by decide) (rc_o (by decide) (hy)))) (fun r6 T8 σ7 gt9 hp => ?_)
  obtain ⟨v12, rfl, rfl, rfl, rv13, f10, f11⟩ := hp
  clear gt9
  rcases rv13 with rv13 | ⟨xq14, rfl, hk15⟩
  · show Tn _ _ 21 T (sA 58 a ((σ.2.1 58 a) + 1) (sA 57 a (c) σ)) [(0, .ref a), (1, .int (iI c)), (2, .int (iI r))] (vl true v12 :: [.ref a]) _
    rw [vl_null rv13]
    refine tn_putV (ci := 7) (i := 14) (n := 69) (r := true) (v := -1) tyX7 tyX7_ok nmX7 dX7_openCall_21 rfl lay_7 (by decide) fl7_72 rfl (tyX7_ok 14 (by decide)) (vl_null (by decide)).symm rfl rfl ha rfl rfl ?_
    refine tn_aload_n dX7_openCall_24 rfl 0 rfl ?_
    obtain ⟨hk18, hl19⟩ : AR T xa 15 9 9 := ar_of (wf_59 hw ha) hxa
    have hk18i : IA T xa := by unfold IA; omega
    refine tn_getR (ci := 7) (i := 4) (n := 59) (x := xa) dX7_openCall_25 rfl lay_7 (by decide) fl7_9 ha rfl rfl (rc_o (by decide) (rc_o (by decide) (rc_o (by decide) (hxa)))) ?_
    refine tn_iload_n dX7_openCall_28 rfl 1 rfl ?_
    refine tn_iload_n dX7_openCall_29 rfl 2 rfl ?_
    refine tn_callSN (M := m_X7_openCall) (pc := 30) (ix := 61) (M' := m_X11_put) (As := [.ref xa, .int (iI c), .int (iI r)]) (rest := []) dX7_openCall_30 ok_X11_put stt_X11_put nl7_61 np_X11_put rfl (Nat.le_of_ble_eq_true rfl) (Nat.le_of_ble_eq_true rfl) rfl (k_X11_put_15 (d + 1) (T := T) (σ := (sA 69 a (-1) (sA 58 a ((σ.2.1 58 a) + 1) (sA 57 a (c) σ)))) (x := xa) (i := c) (y := r) hk18i (by omega) hk18 (by omega) (by omega) (((hw.put (by decide) (by decide) (fo_57 ⟨by omega, by omega⟩)).put (by decide) (by decide) (fo_58 (by omega))).put (by decide) (by decide) (fo_69 (Or.inl (by decide)))) ) (fun r20 T22 σ21 gt23 hp => ?_)
    obtain ⟨rfl, rfl, w26, F27, f24⟩ := hp
    clear gt23
    have je28 : σ21 = jP T xa (c) (r) _ := f24
    show Tn _ _ 33 T σ21 [(0, .ref a), (1, .int (iI c)), (2, .int (iI r))] [] _
    refine tn_aload_n dX7_openCall_33 rfl 0 rfl ?_
    obtain ⟨hk31, hl32⟩ : AR T xb 1 9 9 := ar_of (wf_60 hw ha) hxb
    have hk31i : IA T xb := by unfold IA; omega
    refine tn_getR (ci := 7) (i := 5) (n := 60) (x := xb) dX7_openCall_34 rfl lay_7 (by decide) fl7_15 ha rfl rfl (rc_F F27 (Or.inl (by decide)) (by decide) (rc_o (by decide) (rc_o (by decide) (rc_o (by decide) (hxb))))) ?_
    refine tn_iload_n dX7_openCall_37 rfl 1 rfl ?_
    refine tn_iconst dX7_openCall_38 ?_
    refine tn_callSN (M := m_X7_openCall) (pc := 39) (ix := 61) (M' := m_X11_put) (As := [.ref xb, .int (iI c), .int (iI 0)]) (rest := []) dX7_openCall_39 ok_X11_put stt_X11_put nl7_61 np_X11_put rfl (Nat.le_of_ble_eq_true rfl) (Nat.le_of_ble_eq_true rfl) rfl (k_X11_put_x (d + 1) (T := T) (σ := σ21) (x := xb) (i := c) (y := 0) hk31i (by omega) (by omega) (by decide) w26 (nh_k hk31 (by unfold HT; omega)) vok_0) (fun r33 T35 σ34 gt36 hp => ?_)
    obtain ⟨rfl, rfl, w40, F41, f37, f38⟩ := hp
    clear gt36
    have je42 : σ34 = jP T xb (c) (0) _ := f38
    show Tn _ _ 42 T σ34 [(0, .ref a), (1, .int (iI c)), (2, .int (iI r))] [] _
    refine tn_aload_n dX7_openCall_42 rfl 0 rfl ?_
    obtain ⟨hl46, hk45a, hk45b⟩ := ex_at (wf_61 hw ha) hxc
    have hk45 : (T xc).1 = 14 := hk45a (by omega)
    clear hk45a hk45b
    have hk45i : IA T xc := by unfold IA; omega
    refine tn_getR (ci := 7) (i := 6) (n := 61) (x := xc) dX7_openCall_43 rfl lay_7 (by decide) fl7_18 ha rfl rfl (rc_F F41 (Or.inl (by decide)) (by decide) (rc_F F27 (Or.inl (by decide)) (by decide) (rc_o (by decide) (rc_o (by decide) (rc_o (by decide) (hxc)))))) ?_
    refine tn_iload_n dX7_openCall_46 rfl 1 rfl ?_
    refine tn_iconst dX7_openCall_47 ?_
    refine tn_callSN (M := m_X7_openCall) (pc := 48) (ix := 61) (M' := m_X11_put) (As := [.ref xc, .int (iI c), .int (iI 0)]) (rest := []) dX7_openCall_48 ok_X11_put stt_X11_put nl7_61 np_X11_put rfl (Nat.le_of_ble_eq_true rfl) (Nat.le_of_ble_eq_true rfl) rfl (k_X11_put_x (d + 1) (T := T) (σ := σ34) (x := xc) (i := c) (y := 0) hk45i (by omega) (by omega) (by decide) w40 (nh_k hk45 (by unfold HT; omega)) vok_0) (fun r47 T49 σ48 gt50 hp => ?_)
    obtain ⟨rfl, rfl, w54, F55, f51, f52⟩ := hp
    clear gt50
    have je56 : σ48 = jP T xc (c) (0) _ := f52
    show Tn _ _ 51 T σ48 [(0, .ref a), (1, .int (iI c)), (2, .int (iI r))] [] _
    refine tn_aload_n dX7_openCall_51 rfl 0 rfl ?_
    obtain ⟨hk59, hl60⟩ : AR T xd 1 108 108 := ar_of (wf_62 hw ha) hxd
    have hk59i : IA T xd := by unfold IA; omega
    refine tn_getR (ci := 7) (i := 7) (n := 62) (x := xd) dX7_openCall_52 rfl lay_7 (by decide) fl7_21 ha rfl rfl (rc_F F55 (Or.inl (by decide)) (by decide) (rc_F F41 (Or.inl (by decide)) (by decide) (rc_F F27 (Or.inl (by decide)) (by decide) (rc_o (by decide) (rc_o (by decide) (rc_o (by decide) (hxd))))))) ?_
    refine tn_iload_n dX7_openCall_55 rfl 1 rfl ?_
    refine tn_bipush dX7_openCall_56 (by decide) ?_
    refine tn_imul dX7_openCall_58 ?_
    refine tn_iconst dX7_openCall_59 ?_
    refine tn_callSN (M := m_X7_openCall) (pc := 60) (ix := 61) (M' := m_X11_put) (As := [.ref xd, .int (iI (c * 12)), .int (iI 0)]) (rest := []) dX7_openCall_60 ok_X11_put stt_X11_put nl7_61 np_X11_put rfl (Nat.le_of_ble_eq_true rfl) (Nat.le_of_ble_eq_true rfl) rfl (k_X11_put_x (d + 1) (T := T) (σ := σ48) (x := xd) (i := c * 12) (y := 0) hk59i (by omega) (by omega) (by decide) w54 (nh_k hk59 (by unfold HT; omega)) vok_0) (fun r61 T63 σ62 gt64 hp => ?_)
    obtain ⟨rfl, rfl, w68, F69, f65, f66⟩ := hp
    clear gt64
    have je70 : σ62 = jP T xd (c * 12) (0) _ := f66
    show Tn _ _ 63 T σ62 [(0, .ref a), (1, .int (iI c)), (2, .int (iI r))] [] _
    refine tn_iload_n dX7_openCall_63 rfl 1 rfl ?_
    refine tn_sipush dX7_openCall_64 (by decide) ?_
    refine tn_imul dX7_openCall_67 ?_
    refine tn_istore_n (L' := [(3, .int (iI (c * 192))), (0, .ref a), (1, .int (iI c)), (2, .int (iI r))]) dX7_openCall_68 rfl (by decide) rfl ?_
    refine tn_iload_n dX7_openCall_69 rfl 0 rfl ?_
    refine tn_if_lt (tgt := 100) dX7_openCall_70 (by decide) ⟨by omega, by omega⟩ (fun h71 => absurd h71 (by omega)) (fun h71 => ?_)
    refine tn_iload_n dX7_openCall_73 rfl 0 rfl ?_
    refine tn_sipush dX7_openCall_74 (by decide) ?_
    refine tn_iadd dX7_openCall_77 ?_
    refine tn_aload_n dX7_openCall_78 rfl 1 rfl ?_
    obtain ⟨hk74, hl75⟩ : AR T xe 1 1728 1728 := ar_of (wf_63 hw ha) hxe
    have hk74i : IA T xe := by unfold IA; omega
    refine tn_getR (ci := 7) (i := 8) (n := 63) (x := xe) dX7_openCall_79 rfl lay_7 (by decide) fl7_24 ha rfl rfl (rc_F F69 (Or.inl (by decide)) (by decide) (rc_F F55 (Or.inl (by decide)) (by decide) (rc_F F41 (Or.inl (by decide)) (by decide) (rc_F F27 (Or.inl (by decide)) (by decide) (rc_o (by decide) (rc_o (by decide) (rc_o (by decide) (hxe)))))))) ?_
    refine tn_alenX dX7_openCall_82 (Or.inl hk74i) ?_
    refine tn_icmp_gt (tgt := 100) dX7_openCall_83 (by decide) ⟨by omega, by omega⟩ ⟨by omega, by omega⟩ (fun h76 => absurd h76 (by omega)) (fun h76 => ?_)
    refine tn_aload_n dX7_openCall_86 rfl 1 rfl ?_
    refine tn_getR (ci := 7) (i := 8) (n := 63) (x := xe) dX7_openCall_87 rfl lay_7 (by decide) fl7_24 ha rfl rfl (rc_F F69 (Or.inl (by decide)) (by decide) (rc_F F55 (Or.inl (by decide)) (by decide) (rc_F F41 (Or.inl (by decide)) (by decide) (rc_F F27 (Or.inl (by decide)) (by decide) (rc_o (by decide) (rc_o (by decide) (rc_o (by decide) (hxe)))))))) ?_
    refine tn_iload_n dX7_openCall_90 rfl 0 rfl ?_
    refine tn_iload_n dX7_openCall_91 rfl 0 rfl ?_
    refine tn_sipush dX7_openCall_92 (by decide) ?_
    refine tn_iadd dX7_openCall_95 ?_
    refine tn_iconst dX7_openCall_96 ?_
    refine tn_callS (M := m_X7_openCall) (pc := 97) (ix := 76) (M' := m_J7_fill_fda19) (As := [.ref xe, .int (iI (c * 192)), .int (iI ((c * 192) + 192)), .int (iI 0)]) (rest := []) dX7_openCall_97 ok_J7_fill_fda19 stt_J7_fill_fda19 ml7_76 np_J7_fill_fda19 rfl (Nat.le_of_ble_eq_true rfl) (Nat.le_of_ble_eq_true rfl) rfl (k_J7_fill_fda19_x (d) (T := T) (σ := σ62) (x := xe) (f := c * 192) (t := (c * 192) + 192) (y := 0) hk74i (by omega) (by omega) (by omega) (by decide) w68 (nh_k hk74 (by unfold HT; omega)) (by omega) (by omega)) (fun r77 T79 σ78 gt80 hp => ?_)
    obtain ⟨rfl, rfl, w84, F85, f81, f82⟩ := hp
    clear gt80
    show Tn _ _ 100 T σ78 [(3, .int (iI (c * 192))), (0, .ref a), (1, .int (iI c)), (2, .int (iI r))] [] _
    have q86 : σ78.2.1 57 a = c := rc_F F85 (Or.inl (by decide)) (by decide) (rc_F F69 (Or.inl (by decide)) (by decide) (rc_F F55 (Or.inl (by decide)) (by decide) (rc_F F41 (Or.inl (by decide)) (by decide) (rc_F F27 (Or.inl (by decide)) (by decide) (rc_o (by decide) (rc_o (by decide) (ra_eq)))))))
    have q87 : σ78.2.1 58 a = (σ.2.1 58 a) + 1 := rc_F F85 (Or.inl (by decide)) (by decide) (rc_F F69 (Or.inl (by decide)) (by decide) (rc_F F55 (Or.inl (by decide)) (by decide) (rc_F F41 (Or.inl (by decide)) (by decide) (rc_F F27 (Or.inl (by decide)) (by decide) (rc_o (by decide) (ra_eq))))))
    exact tn_vret rfl dX7_openCall_100 ⟨rfl, rfl, w84, ((((((((FrC.rfl.put (by decide) (by decide)).put (by decide) (by decide)).put (by decide) (by decide)).trans (FrC.sub F27 (by decide))).trans (FrC.sub F41 (by decide))).trans (FrC.sub F55 (by decide))).trans (FrC.sub F69 (by decide))).trans (FrC.sub F85 (by decide))), ((((((((CHX.rfl.fld (by simp) (by decide)).fld (by simp) (by decide)).fld (by simp) (by decide)).trans (CHX.sub (chx_put f24) (by simp) (by simp) (by simp))).trans (CHX.sub f37 (by simp) (by simp) (by simp))).trans (CHX.sub f51 (by simp) (by simp) (by simp))).trans (CHX.sub f65 (by simp) (by simp) (by simp))).trans (CHX.sub f81 (by simp) (by simp) (by simp))), by omega, by omega, (by have e58 : w32 (σ.2.1 58 a + 1) = σ.2.1 58 a + 1 := w32_id (by omega); unfold JOC; rw [e58]; exact ⟨-1, _, Or.inr ⟨by rw [← f11]; assumption, rfl⟩, by rw [je70, je56, je42, je28], Or.inr ⟨by omega, f82, f81⟩⟩), ((((((((FA.rfl.put).put).put).trans (FA.of F27 (by decide))).trans (FA.of F41 (by decide))).trans (FA.of F55 (by decide))).trans (FA.of F69 (by decide))).trans (FA.of F85 (by decide)))⟩
  · show Tn _ _ 21 T (sA 58 a ((σ.2.1 58 a) + 1) (sA 57 a (c) σ)) [(0, .ref a), (1, .int (iI c)), (2, .int (iI r))] (vl true (xq14 : Int) :: [.ref a]) _
    rw [vl_ref rfl]
    have hk15o : OB T xq14 1 := hk15.1
    refine tn_putV (ci := 7) (i := 14) (n := 69) (r := true) (v := (xq14 : Int)) tyX7 tyX7_ok nmX7 dX7_openCall_21 rfl lay_7 (by decide) fl7_72 rfl (tyX7_ok 14 (by decide)) (vl_ref rfl).symm rfl rfl ha rfl rfl ?_
    refine tn_aload_n dX7_openCall_24 rfl 0 rfl ?_
    obtain ⟨hk90, hl91⟩ : AR T xa 15 9 9 := ar_of (wf_59 hw ha) hxa
    have hk90i : IA T xa := by unfold IA; omega
    refine tn_getR (ci := 7) (i := 4) (n := 59) (x := xa) dX7_openCall_25 rfl lay_7 (by decide) fl7_9 ha rfl rfl (rc_o (by decide) (rc_o (by decide) (rc_o (by decide) (hxa)))) ?_
    refine tn_iload_n dX7_openCall_28 rfl 1 rfl ?_
    refine tn_iload_n dX7_openCall_29 rfl 2 rfl ?_
    refine tn_callSN (M := m_X7_openCall) (pc := 30) (ix := 61) (M' := m_X11_put) (As := [.ref xa, .int (iI c), .int (iI r)]) (rest := []) dX7_openCall_30 ok_X11_put stt_X11_put nl7_61 np_X11_put rfl (Nat.le_of_ble_eq_true rfl) (Nat.le_of_ble_eq_true rfl) rfl (k_X11_put_15 (d + 1) (T := T) (σ := (sA 69 a ((xq14 : Int)) (sA 58 a ((σ.2.1 58 a) + 1) (sA 57 a (c) σ)))) (x := xa) (i := c) (y := r) hk90i (by omega) hk90 (by omega) (by omega) (((hw.put (by decide) (by decide) (fo_57 ⟨by omega, by omega⟩)).put (by decide) (by decide) (fo_58 (by omega))).put (by decide) (by decide) (fo_69 (Or.inr ⟨_, rfl, hk15.2.1, hk15.2.2⟩))) ) (fun r92 T94 σ93 gt95 hp => ?_)
    obtain ⟨rfl, rfl, w98, F99, f96⟩ := hp
    clear gt95
    have je100 : σ93 = jP T xa (c) (r) _ := f96
    show Tn _ _ 33 T σ93 [(0, .ref a), (1, .int (iI c)), (2, .int (iI r))] [] _
    refine tn_aload_n dX7_openCall_33 rfl 0 rfl ?_
    obtain ⟨hk103, hl104⟩ : AR T xb 1 9 9 := ar_of (wf_60 hw ha) hxb
    have hk103i : IA T xb := by unfold IA; omega
    refine tn_getR (ci := 7) (i := 5) (n := 60) (x := xb) dX7_openCall_34 rfl lay_7 (by decide) fl7_15 ha rfl rfl (rc_F F99 (Or.inl (by decide)) (by decide) (rc_o (by decide) (rc_o (by decide) (rc_o (by decide) (hxb))))) ?_
    refine tn_iload_n dX7_openCall_37 rfl 1 rfl ?_
    refine tn_iconst dX7_openCall_38 ?_
    refine tn_callSN (M := m_X7_openCall) (pc := 39) (ix := 61) (M' := m_X11_put) (As := [.ref xb, .int (iI c), .int (iI 0)]) (rest := []) dX7_openCall_39 ok_X11_put stt_X11_put nl7_61 np_X11_put rfl (Nat.le_of_ble_eq_true rfl) (Nat.le_of_ble_eq_true rfl) rfl (k_X11_put_x (d + 1) (T := T) (σ := σ93) (x := xb) (i := c) (y := 0) hk103i (by omega) (by omega) (by decide) w98 (nh_k hk103 (by unfold HT; omega)) vok_0) (fun r105 T107 σ106 gt108 hp => ?_)
    obtain ⟨rfl, rfl, w112, F113, f109, f110⟩ := hp
    clear gt108
    have je114 : σ106 = jP T xb (c) (0) _ := f110
    show Tn _ _ 42 T σ106 [(0, .ref a), (1, .int (iI c)), (2, .int (iI r))] [] _
    refine tn_aload_n dX7_openCall_42 rfl 0 rfl ?_
    obtain ⟨hl118, hk117a, hk117b⟩ := ex_at (wf_61 hw ha) hxc
    have hk117 : (T xc).1 = 14 := hk117a (by omega)
    clear hk117a hk117b
    have hk117i : IA T xc := by unfold IA; omega
    refine tn_getR (ci := 7) (i := 6) (n := 61) (x := xc) dX7_openCall_43 rfl lay_7 (by decide) fl7_18 ha rfl rfl (rc_F F113 (Or.inl (by decide)) (by decide) (rc_F F99 (Or.inl (by decide)) (by decide) (rc_o (by decide) (rc_o (by decide) (rc_o (by decide) (hxc)))))) ?_
    refine tn_iload_n dX7_openCall_46 rfl 1 rfl ?_
    refine tn_iconst dX7_openCall_47 ?_
    refine tn_callSN (M := m_X7_openCall) (pc := 48) (ix := 61) (M' := m_X11_put) (As := [.ref xc, .int (iI c), .int (iI 0)]) (rest := []) dX7_openCall_48 ok_X11_put stt_X11_put nl7_61 np_X11_put rfl (Nat.le_of_ble_eq_true rfl) (Nat.le_of_ble_eq_true rfl) rfl (k_X11_put_x (d + 1) (T := T) (σ := σ106) (x := xc) (i := c) (y := 0) hk117i (by omega) (by omega) (by decide) w112 (nh_k hk117 (by unfold HT; omega)) vok_0) (fun r119 T121 σ120 gt122 hp => ?_)
    obtain ⟨rfl, rfl, w126, F127, f123, f124⟩ := hp
    clear gt122
    have je128 : σ120 = jP T xc (c) (0) _ := f124
    show Tn _ _ 51 T σ120 [(0, .ref a), (1, .int (iI c)), (2, .int (iI r))] [] _
    refine tn_aload_n dX7_openCall_51 rfl 0 rfl ?_
    obtain ⟨hk131, hl132⟩ : AR T xd 1 108 108 := ar_of (wf_62 hw ha) hxd
    have hk131i : IA T xd := by unfold IA; omega
    refine tn_getR (ci := 7) (i := 7) (n := 62) (x := xd) dX7_openCall_52 rfl lay_7 (by decide) fl7_21 ha rfl rfl (rc_F F127 (Or.inl (by decide)) (by decide) (rc_F F113 (Or.inl (by decide)) (by decide) (rc_F F99 (Or.inl (by decide)) (by decide) (rc_o (by decide) (rc_o (by decide) (rc_o (by decide) (hxd))))))) ?_
    refine tn_iload_n dX7_openCall_55 rfl 1 rfl ?_
    refine tn_bipush dX7_openCall_56 (by decide) ?_
    refine tn_imul dX7_openCall_58 ?_
    refine tn_iconst dX7_openCall_59 ?_
    refine tn_callSN (M := m_X7_openCall) (pc := 60) (ix := 61) (M' := m_X11_put) (As := [.ref xd, .int (iI (c * 12)), .int (iI 0)]) (rest := []) dX7_openCall_60 ok_X11_put stt_X11_put nl7_61 np_X11_put rfl (Nat.le_of_ble_eq_true rfl) (Nat.le_of_ble_eq_true rfl) rfl (k_X11_put_x (d + 1) (T := T) (σ := σ120) (x := xd) (i := c * 12) (y := 0) hk131i (by omega) (by omega) (by decide) w126 (nh_k hk131 (by unfold HT; omega)) vok_0) (fun r133 T135 σ134 gt136 hp => ?_)
    obtain ⟨rfl, rfl, w140, F141, f137, f138⟩ := hp
    clear gt136
    have je142 : σ134 = jP T xd (c * 12) (0) _ := f138
    show Tn _ _ 63 T σ134 [(0, .ref a), (1, .int (iI c)), (2, .int (iI r))] [] _
    refine tn_iload_n dX7_openCall_63 rfl 1 rfl ?_
    refine tn_sipush dX7_openCall_64 (by decide) ?_
    refine tn_imul dX7_openCall_67 ?_
    refine tn_istore_n (L' := [(3, .int (iI (c * 192))), (0, .ref a), (1, .int (iI c)), (2, .int (iI r))]) dX7_openCall_68 rfl (by decide) rfl ?_
    refine tn_iload_n dX7_openCall_69 rfl 0 rfl ?_
    refine tn_if_lt (tgt := 100) dX7_openCall_70 (by decide) ⟨by omega, by omega⟩ (fun h143 => absurd h143 (by omega)) (fun h143 => ?_)
    refine tn_iload_n dX7_openCall_73 rfl 0 rfl ?_
    refine tn_sipush dX7_openCall_74 (by decide) ?_
    refine tn_iadd dX7_openCall_77 ?_
    refine tn_aload_n dX7_openCall_78 rfl 1 rfl ?_
    obtain ⟨hk146, hl147⟩ : AR T xe 1 1728 1728 := ar_of (wf_63 hw ha) hxe
    have hk146i : IA T xe := by unfold IA; omega
    refine tn_getR (ci := 7) (i := 8) (n := 63) (x := xe) dX7_openCall_79 rfl lay_7 (by decide) fl7_24 ha rfl rfl (rc_F F141 (Or.inl (by decide)) (by decide) (rc_F F127 (Or.inl (by decide)) (by decide) (rc_F F113 (Or.inl (by decide)) (by decide) (rc_F F99 (Or.inl (by decide)) (by decide) (rc_o (by decide) (rc_o (by decide) (rc_o (by decide) (hxe)))))))) ?_
    refine tn_alenX dX7_openCall_82 (Or.inl hk146i) ?_
    refine tn_icmp_gt (tgt := 100) dX7_openCall_83 (by decide) ⟨by omega, by omega⟩ ⟨by omega, by omega⟩ (fun h148 => absurd h148 (by omega)) (fun h148 => ?_)
    refine tn_aload_n dX7_openCall_86 rfl 1 rfl ?_
    refine tn_getR (ci := 7) (i := 8) (n := 63) (x := xe) dX7_openCall_87 rfl lay_7 (by decide) fl7_24 ha rfl rfl (rc_F F141 (Or.inl (by decide)) (by decide) (rc_F F127 (Or.inl (by decide)) (by decide) (rc_F F113 (Or.inl (by decide)) (by decide) (rc_F F99 (Or.inl (by decide)) (by decide) (rc_o (by decide) (rc_o (by decide) (rc_o (by decide) (hxe)))))))) ?_
    refine tn_iload_n dX7_openCall_90 rfl 0 rfl ?_
    refine tn_iload_n dX7_openCall_91 rfl 0 rfl ?_
    refine tn_sipush dX7_openCall_92 (by decide) ?_
    refine tn_iadd dX7_openCall_95 ?_
    refine tn_iconst dX7_openCall_96 ?_
    refine tn_callS (M := m_X7_openCall) (pc := 97) (ix := 76) (M' := m_J7_fill_fda19) (As := [.ref xe, .int (iI (c * 192)), .int (iI ((c * 192) + 192)), .int (iI 0)]) (rest := []) dX7_openCall_97 ok_J7_fill_fda19 stt_J7_fill_fda19 ml7_76 np_J7_fill_fda19 rfl (Nat.le_of_ble_eq_true rfl) (Nat.le_of_ble_eq_true rfl) rfl (k_J7_fill_fda19_x (d) (T := T) (σ := σ134) (x := xe) (f := c * 192) (t := (c * 192) + 192) (y := 0) hk146i (by omega) (by omega) (by omega) (by decide) w140 (nh_k hk146 (by unfold HT; omega)) (by omega) (by omega)) (fun r149 T151 σ150 gt152 hp => ?_)
    obtain ⟨rfl, rfl, w156, F157, f153, f154⟩ := hp
    clear gt152
    show Tn _ _ 100 T σ150 [(3, .int (iI (c * 192))), (0, .ref a), (1, .int (iI c)), (2, .int (iI r))] [] _
    have q158 : σ150.2.1 57 a = c := rc_F F157 (Or.inl (by decide)) (by decide) (rc_F F141 (Or.inl (by decide)) (by decide) (rc_F F127 (Or.inl (by decide)) (by decide) (rc_F F113 (Or.inl (by decide)) (by decide) (rc_F F99 (Or.inl (by decide)) (by decide) (rc_o (by decide) (rc_o (by decide) (ra_eq)))))))
    have q159 : σ150.2.1 58 a = (σ.2.1 58 a) + 1 := rc_F F157 (Or.inl (by decide)) (by decide) (rc_F F141 (Or.inl (by decide)) (by decide) (rc_F F127 (Or.inl (by decide)) (by decide) (rc_F F113 (Or.inl (by decide)) (by decide) (rc_F F99 (Or.inl (by decide)) (by decide) (rc_o (by decide) (ra_eq))))))
    exact tn_vret rfl dX7_openCall_100 ⟨rfl, rfl, w156, ((((((((FrC.rfl.put (by decide) (by decide)).put (by decide) (by decide)).put (by decide) (by decide)).trans (FrC.sub F99 (by decide))).trans (FrC.sub F113 (by decide))).trans (FrC.sub F127 (by decide))).trans (FrC.sub F141 (by decide))).trans (FrC.sub F157 (by decide))), ((((((((CHX.rfl.fld (by simp) (by decide)).fld (by simp) (by decide)).fld (by simp) (by decide)).trans (CHX.sub (chx_put f96) (by simp) (by simp) (by simp))).trans (CHX.sub f109 (by simp) (by simp) (by simp))).trans (CHX.sub f123 (by simp) (by simp) (by simp))).trans (CHX.sub f137 (by simp) (by simp) (by simp))).trans (CHX.sub f153 (by simp) (by simp) (by simp))), by omega, by omega, (by have e58 : w32 (σ.2.1 58 a + 1) = σ.2.1 58 a + 1 := w32_id (by omega); unfold JOC; rw [e58]; exact ⟨(xq14 : Int), _, Or.inl f11, by rw [je142, je128, je114, je100], Or.inr ⟨by omega, f154, f153⟩⟩), ((((((((FA.rfl.put).put).put).trans (FA.of F99 (by decide))).trans (FA.of F113 (by decide))).trans (FA.of F127 (by decide))).trans (FA.of F141 (by decide))).trans (FA.of F157 (by decide)))⟩
end
