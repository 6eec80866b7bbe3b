section
set_option maxHeartbeats 1000000 in
set_option maxRecDepth 20000 in
theorem k_X7_begin_j57 (d : Nat) {T : CT} {σ : MS} {a : Nat} {p1 : Int} {p2 : Int} {p3 : Int} {p4 : Int} {p5 : Int} {xa : Nat} {xb : Nat} {xc : Nat} {xd : Nat} {xe : Nat} {xf : Nat} {y : Nat} (ha : OB T a 7) (hta : (T a).1 = 57) (h_p1 : -2147483648 ≤ p1 ∧ p1 ≤ 2147483647) (h_p2 : -2147483648 ≤ p2 ∧ p2 ≤ 2147483647) (h_p3 : -2147483648 ≤ p3 ∧ p3 ≤ 2147483647) (h_p4 : -2147483648 ≤ p4 ∧ p4 ≤ 2147483647) (h_p5 : -2147483648 ≤ p5 ∧ p5 ≤ 2147483647) (hw : WT T σ) (hxa : σ.2.1 59 a = (xa : Int)) (hxb : σ.2.1 60 a = (xb : Int)) (hxc : σ.2.1 61 a = (xc : Int)) (hxd : σ.2.1 62 a = (xd : Int)) (hxe : σ.2.1 63 a = (xe : Int)) (hxf : σ.2.1 64 a = (xf : Int)) (hy : σ.2.1 55 a = (y : Int)) : Tn (d + 4) m_X7_begin 0 T σ [(0, .ref a), (1, .int (iI p1)), (2, .int (iI p2)), (3, .int (iI p3)), (4, .int (iI p4)), (5, .int (iI p5))] [] (fun ro T2 σ2 => ro = none ∧ T = T2 ∧ WT T2 σ2 ∧ FrC T [56, 57, 58, 65, 66, 67, 68, 69, 515] σ σ2 ∧ (CHX [(56, a), (57, a), (58, a), (65, a), (66, a), (67, a), (68, a), (69, a), (70, a), (71, a)] [xa, xb, xc, xd, xe, xf] [] σ σ2) ∧ (σ2.2.1 57 a = 0) ∧ (σ2.2.1 58 a = 1) ∧ (σ2.2.1 56 a = 1) ∧ (JBG T σ a xa xb xc xd xe y p1 p2 p3 p4 p5 σ2) ∧ (FA a σ σ2)) := by
  refine tn_aload_n dX7_begin_0 rfl 0 rfl ?_
  refine tn_iconst dX7_begin_1 ?_
  refine tn_putV (ci := 7) (i := 1) (n := 56) (r := false) (v := 1) tyX7 tyX7_ok nmX7 dX7_begin_2 rfl lay_7 (by decide) fl7_34 rfl (tyX7_ok 1 (by decide)) rfl rfl rfl ha rfl rfl ?_
  refine tn_aload_n dX7_begin_5 rfl 0 rfl ?_
  refine tn_iconst dX7_begin_6 ?_
  refine tn_putV (ci := 7) (i := 3) (n := 58) (r := false) (v := 0) tyX7 tyX7_ok nmX7 dX7_begin_7 rfl lay_7 (by decide) fl7_38 rfl (tyX7_ok 3 (by decide)) rfl rfl rfl ha rfl rfl ?_
  refine tn_aload_n dX7_begin_10 rfl 0 rfl ?_
  refine tn_iconst dX7_begin_11 ?_
  refine tn_putV (ci := 7) (i := 10) (n := 65) (r := false) (v := 0) tyX7 tyX7_ok nmX7 dX7_begin_12 rfl lay_7 (by decide) fl7_41 rfl (tyX7_ok 10 (by decide)) rfl rfl rfl ha rfl rfl ?_
  refine tn_aload_n dX7_begin_15 rfl 0 rfl ?_
  refine tn_iconst dX7_begin_16 ?_
  refine tn_putV (ci := 7) (i := 11) (n := 66) (r := false) (v := 0) tyX7 tyX7_ok nmX7 dX7_begin_17 rfl lay_7 (by decide) fl7_44 rfl (tyX7_ok 11 (by decide)) rfl rfl rfl ha rfl rfl ?_
  refine tn_aload_n dX7_begin_20 rfl 0 rfl ?_
  refine tn_iconst dX7_begin_21 ?_
  refine tn_putV (ci := 7) (i := 12) (n := 67) (r := false) (v := 0) tyX7 tyX7_ok nmX7 dX7_begin_22 rfl lay_7 (by decide) fl7_47 rfl (tyX7_ok 12 (by decide)) rfl rfl rfl ha rfl rfl ?_
  refine tn_aload_n dX7_begin_25 rfl 0 rfl ?_
  refine tn_iconst dX7_begin_26 ?_
  refine tn_putV (ci := 7) (i := 13) (n := 68) (r := false) (v := 0) tyX7 tyX7_ok nmX7 dX7_begin_27 rfl lay_7 (by decide) fl7_50 rfl (tyX7_ok 13 (by decide)) rfl rfl rfl ha rfl rfl ?_
  refine tn_aload_n dX7_begin_30 rfl 0 rfl ?_
  refine tn_iconst dX7_begin_31 ?_
  refine tn_iload_n dX7_begin_32 rfl 1 rfl ?_
  obtain ⟨hk3, hl4⟩ : AR T xa 15 9 9 := ar_of (wf_59 hw ha) hxa
  have hk3i : IA T xa := by unfold IA; omega
  obtain ⟨hk7, hl8⟩ : AR T xb 1 9 9 := ar_of (wf_60 hw ha) hxb
  have hk7i : IA T xb := by unfold IA; omega
  obtain ⟨hl12, hk11a, hk11b⟩ := ex_at (wf_61 hw ha) hxc
  have hk11 : (T xc).1 = 14 := hk11a (by omega)
  clear hk11a hk11b
  have hk11i : IA T xc := by unfold IA; omega
  obtain ⟨hk15, hl16⟩ : AR T xd 1 108 108 := ar_of (wf_62 hw ha) hxd
  have hk15i : IA T xd := by unfold IA; omega
  obtain ⟨hk19, hl20⟩ : AR T xe 1 1728 1728 := ar_of (wf_63 hw ha) hxe
  have hk19i : IA T xe := by unfold IA; omega
  obtain ⟨hl24, hk23a, hk23b⟩ := ex_at (wf_55 hw ha) hy
  have hk23i : (T y).1 = 4 ∨ (T y).1 = 5 := by omega
  have hk23c : RROW T a y := ⟨hk23a, hk23b⟩
  clear hk23a hk23b
  have q29 : (sA 68 a (0) (sA 67 a (0) (sA 66 a (0) (sA 65 a (0) (sA 58 a (0) (sA 56 a (1) σ)))))).2.1 58 a = 0 := rc_o (by decide) (rc_o (by decide) (rc_o (by decide) (rc_o (by decide) (ra_eq))))
  refine tn_callV (M := m_X7_begin) (pc := 33) (ix := 53) (ci := 7) (M' := m_X7_openCall) (As := [.int (iI 0), .int (iI p1)]) (rest := []) dX7_begin_33 ok_X7_openCall im_X7_openCall se_X7_openCall ml7_53 np_X7_openCall rfl rfl ha rfl (Nat.le_of_ble_eq_true rfl) (Nat.le_of_ble_eq_true rfl) rfl (k_X7_openCall_j57 (d) (T := T) (σ := (sA 68 a (0) (sA 67 a (0) (sA 66 a (0) (sA 65 a (0) (sA 58 a (0) (sA 56 a (1) σ))))))) (a := a) (c := 0) (r := p1) (xa := xa) (xb := xb) (xc := xc) (xd := xd) (xe := xe) (y := y) ha hta (by decide) (by omega) ((((((hw.put (by decide) (by decide) (fo_56 (by omega))).put (by decide) (by decide) (fo_58 (by omega))).put (by decide) (by decide) (fo_65 (by omega))).put (by decide) (by decide) (fo_66 (by omega))).put (by decide) (by decide) (fo_67 (by omega))).put (by decide) (by decide) (fo_68 (by omega))) (rc_o (by decide) (rc_o (by decide) (rc_o (by decide) (rc_o (by decide) (rc_o (by decide) (rc_o (by decide) (hxa))))))) (rc_o (by decide) (rc_o (by decide) (rc_o (by decide) (rc_o (by decide) (rc_o (by decide) (rc_o (by decide) (hxb))))))) (rc_o (by decide) (rc_o (by decide) (rc_o (by decide) (rc_o (by decide) (rc_o (by decide) (rc_o (by decide) (hxc))))))) (rc_o (by decide) (rc_o (by decide) (rc_o (by decide) (rc_o (by decide) (rc_o (by decide) (rc_o (by decide) (hxd))))))) (rc_o (by decide) (rc_o (by decide) (rc_o (by decide) (rc_o (by decide) (rc_o (by decide) (rc_o (by decide) (hxe))))))) (rc_o (by decide) (rc_o (by decide) (rc_o (by decide) (rc_o (by decide) (rc_o (by decide) (rc_o (by decide) (hy))))))) (by omega) (by rw [show (sA 68 a (0) (sA 67 a (0) (sA 66 a (0) (sA 65 a (0) (sA 58 a (0) (sA 56 a (1) σ)))))).2.1 58 a = 0 from rc_o (by decide) (rc_o (by decide) (rc_o (by decide) (rc_o (by decide) (ra_eq))))]; omega)) (fun r25 T27 σ26 gt28 hp => ?_)
  obtain ⟨rfl, rfl, w36, F37, f30, f31, f32, f33, f34⟩ := hp
  clear gt28
  show Tn _ _ 36 T σ26 [(0, .ref a), (1, .int (iI p1)), (2, .int (iI p2)), (3, .int (iI p3)), (4, .int (iI p4)), (5, .int (iI p5))] [] _
  refine tn_aload_n dX7_begin_36 rfl 0 rfl ?_
  refine tn_getR (ci := 7) (i := 8) (n := 63) (x := xe) dX7_begin_37 rfl lay_7 (by decide) fl7_24 ha rfl rfl (rc_F F37 (Or.inl (by decide)) (by decide) (rc_o (by decide) (rc_o (by decide) (rc_o (by decide) (rc_o (by decide) (rc_o (by decide) (rc_o (by decide) (hxe)))))))) ?_
  refine tn_aload_n dX7_begin_40 rfl 0 rfl ?_
  refine tn_iconst dX7_begin_41 ?_
  refine tn_callV (M := m_X7_begin) (pc := 42) (ix := 57) (ci := 7) (M' := m_X7_homeOfParam) (As := [.int (iI 0)]) (rest := [.ref xe]) dX7_begin_42 ok_X7_homeOfParam im_X7_homeOfParam se_X7_homeOfParam ml7_57 np_X7_homeOfParam rfl rfl ha rfl (Nat.le_of_ble_eq_true rfl) (Nat.le_of_ble_eq_true rfl) rfl (k_X7_homeOfParam_j (d) (T := T) (σ := σ26) (a := a) (p1 := 0) ha (by decide) w36 (by omega)) (fun r38 T40 σ39 gt41 hp => ?_)
  obtain ⟨v44, rfl, rfl, rfl, f42, f43⟩ := hp
  clear gt41
  show Tn _ _ 45 T σ26 [(0, .ref a), (1, .int (iI p1)), (2, .int (iI p2)), (3, .int (iI p3)), (4, .int (iI p4)), (5, .int (iI p5))] [.int (iI v44), .ref xe] _
  refine tn_iload_n dX7_begin_45 rfl 2 rfl ?_
  refine tn_callSN (M := m_X7_begin) (pc := 46) (ix := 61) (M' := m_X11_put) (As := [.ref xe, .int (iI v44), .int (iI p2)]) (rest := []) dX7_begin_46 ok_X11_put stt_X11_put nl7_61 np_X11_put rfl (Nat.le_of_ble_eq_true rfl) (Nat.le_of_ble_eq_true rfl) rfl (k_X11_put_x (d + 2) (T := T) (σ := σ26) (x := xe) (i := v44) (y := p2) hk19i (by omega) (by omega) (by omega) w36 (nh_k hk19 (by unfold HT; omega)) (vok_1 (by have q9 := hk19; omega) (by omega))) (fun r45 T47 σ46 gt48 hp => ?_)
  obtain ⟨rfl, rfl, w52, F53, f49, f50⟩ := hp
  clear gt48
  have je54 : σ46 = jP T xe (v44) (p2) _ := f50
  show Tn _ _ 49 T σ46 [(0, .ref a), (1, .int (iI p1)), (2, .int (iI p2)), (3, .int (iI p3)), (4, .int (iI p4)), (5, .int (iI p5))] [] _
  refine tn_aload_n dX7_begin_49 rfl 0 rfl ?_
  refine tn_getR (ci := 7) (i := 8) (n := 63) (x := xe) dX7_begin_50 rfl lay_7 (by decide) fl7_24 ha rfl rfl (rc_F F53 (Or.inl (by decide)) (by decide) (rc_F F37 (Or.inl (by decide)) (by decide) (rc_o (by decide) (rc_o (by decide) (rc_o (by decide) (rc_o (by decide) (rc_o (by decide) (rc_o (by decide) (hxe))))))))) ?_
  refine tn_aload_n dX7_begin_53 rfl 0 rfl ?_
  refine tn_iconst dX7_begin_54 ?_
  refine tn_callV (M := m_X7_begin) (pc := 55) (ix := 57) (ci := 7) (M' := m_X7_homeOfParam) (As := [.int (iI 1)]) (rest := [.ref xe]) dX7_begin_55 ok_X7_homeOfParam im_X7_homeOfParam se_X7_homeOfParam ml7_57 np_X7_homeOfParam rfl rfl ha rfl (Nat.le_of_ble_eq_true rfl) (Nat.le_of_ble_eq_true rfl) rfl (k_X7_homeOfParam_j (d) (T := T) (σ := σ46) (a := a) (p1 := 1) ha (by decide) w52 (by omega)) (fun r55 T57 σ56 gt58 hp => ?_)
  obtain ⟨v61, rfl, rfl, rfl, f59, f60⟩ := hp
  clear gt58
  show Tn _ _ 58 T σ46 [(0, .ref a), (1, .int (iI p1)), (2, .int (iI p2)), (3, .int (iI p3)), (4, .int (iI p4)), (5, .int (iI p5))] [.int (iI v61), .ref xe] _
  refine tn_iload_n dX7_begin_58 rfl 3 rfl ?_
  refine tn_callSN (M := m_X7_begin) (pc := 59) (ix := 61) (M' := m_X11_put) (As := [.ref xe, .int (iI v61), .int (iI p3)]) (rest := []) dX7_begin_59 ok_X11_put stt_X11_put nl7_61 np_X11_put rfl (Nat.le_of_ble_eq_true rfl) (Nat.le_of_ble_eq_true rfl) rfl (k_X11_put_x (d + 2) (T := T) (σ := σ46) (x := xe) (i := v61) (y := p3) hk19i (by omega) (by omega) (by omega) w52 (nh_k hk19 (by unfold HT; omega)) (vok_1 (by have q9 := hk19; omega) (by omega))) (fun r62 T64 σ63 gt65 hp => ?_)
  obtain ⟨rfl, rfl, w69, F70, f66, f67⟩ := hp
  clear gt65
  have je71 : σ63 = jP T xe (v61) (p3) _ := f67
  show Tn _ _ 62 T σ63 [(0, .ref a), (1, .int (iI p1)), (2, .int (iI p2)), (3, .int (iI p3)), (4, .int (iI p4)), (5, .int (iI p5))] [] _
  refine tn_aload_n dX7_begin_62 rfl 0 rfl ?_
  refine tn_getR (ci := 7) (i := 8) (n := 63) (x := xe) dX7_begin_63 rfl lay_7 (by decide) fl7_24 ha rfl rfl (rc_F F70 (Or.inl (by decide)) (by decide) (rc_F F53 (Or.inl (by decide)) (by decide) (rc_F F37 (Or.inl (by decide)) (by decide) (rc_o (by decide) (rc_o (by decide) (rc_o (by decide) (rc_o (by decide) (rc_o (by decide) (rc_o (by decide) (hxe)))))))))) ?_
  refine tn_aload_n dX7_begin_66 rfl 0 rfl ?_
  refine tn_iconst dX7_begin_67 ?_
  refine tn_callV (M := m_X7_begin) (pc := 68) (ix := 57) (ci := 7) (M' := m_X7_homeOfParam) (As := [.int (iI 2)]) (rest := [.ref xe]) dX7_begin_68 ok_X7_homeOfParam im_X7_homeOfParam se_X7_homeOfParam ml7_57 np_X7_homeOfParam rfl rfl ha rfl (Nat.le_of_ble_eq_true rfl) (Nat.le_of_ble_eq_true rfl) rfl (k_X7_homeOfParam_j (d) (T := T) (σ := σ63) (a := a) (p1 := 2) ha (by decide) w69 (by omega)) (fun r72 T74 σ73 gt75 hp => ?_)
  obtain ⟨v78, rfl, rfl, rfl, f76, f77⟩ := hp
  clear gt75
  show Tn _ _ 71 T σ63 [(0, .ref a), (1, .int (iI p1)), (2, .int (iI p2)), (3, .int (iI p3)), (4, .int (iI p4)), (5, .int (iI p5))] [.int (iI v78), .ref xe] _
  refine tn_iload dX7_begin_71 4 rfl ?_
  refine tn_callSN (M := m_X7_begin) (pc := 73) (ix := 61) (M' := m_X11_put) (As := [.ref xe, .int (iI v78), .int (iI p4)]) (rest := []) dX7_begin_73 ok_X11_put stt_X11_put nl7_61 np_X11_put rfl (Nat.le_of_ble_eq_true rfl) (Nat.le_of_ble_eq_true rfl) rfl (k_X11_put_x (d + 2) (T := T) (σ := σ63) (x := xe) (i := v78) (y := p4) hk19i (by omega) (by omega) (by omega) w69 (nh_k hk19 (by unfold HT; omega)) (vok_1 (by have q9 := hk19; omega) (by omega))) (fun r79 T81 σ80 gt82 hp => ?_)
  obtain ⟨rfl, rfl, w86, F87, f83, f84⟩ := hp
  clear gt82
  have je88 : σ80 = jP T xe (v78) (p4) _ := f84
  show Tn _ _ 76 T σ80 [(0, .ref a), (1, .int (iI p1)), (2, .int (iI p2)), (3, .int (iI p3)), (4, .int (iI p4)), (5, .int (iI p5))] [] _
  refine tn_aload_n dX7_begin_76 rfl 0 rfl ?_
  refine tn_getR (ci := 7) (i := 8) (n := 63) (x := xe) dX7_begin_77 rfl lay_7 (by decide) fl7_24 ha rfl rfl (rc_F F87 (Or.inl (by decide)) (by decide) (rc_F F70 (Or.inl (by decide)) (by decide) (rc_F F53 (Or.inl (by decide)) (by decide) (rc_F F37 (Or.inl (by decide)) (by decide) (rc_o (by decide) (rc_o (by decide) (rc_o (by decide) (rc_o (by decide) (rc_o (by decide) (rc_o (by decide) (hxe))))))))))) ?_
  refine tn_aload_n dX7_begin_80 rfl 0 rfl ?_
  refine tn_iconst dX7_begin_81 ?_
  refine tn_callV (M := m_X7_begin) (pc := 82) (ix := 57) (ci := 7) (M' := m_X7_homeOfParam) (As := [.int (iI 3)]) (rest := [.ref xe]) dX7_begin_82 ok_X7_homeOfParam im_X7_homeOfParam se_X7_homeOfParam ml7_57 np_X7_homeOfParam rfl rfl ha rfl (Nat.le_of_ble_eq_true rfl) (Nat.le_of_ble_eq_true rfl) rfl (k_X7_homeOfParam_j (d) (T := T) (σ := σ80) (a := a) (p1 := 3) ha (by decide) w86 (by omega)) (fun r89 T91 σ90 gt92 hp => ?_)
  obtain ⟨v95, rfl, rfl, rfl, f93, f94⟩ := hp
  clear gt92
  show Tn _ _ 85 T σ80 [(0, .ref a), (1, .int (iI p1)), (2, .int (iI p2)), (3, .int (iI p3)), (4, .int (iI p4)), (5, .int (iI p5))] [.int (iI v95), .ref xe] _
  refine tn_iload dX7_begin_85 5 rfl ?_
  refine tn_callSN (M := m_X7_begin) (pc := 87) (ix := 61) (M' := m_X11_put) (As := [.ref xe, .int (iI v95), .int (iI p5)]) (rest := []) dX7_begin_87 ok_X11_put stt_X11_put nl7_61 np_X11_put rfl (Nat.le_of_ble_eq_true rfl) (Nat.le_of_ble_eq_true rfl) rfl (k_X11_put_x (d + 2) (T := T) (σ := σ80) (x := xe) (i := v95) (y := p5) hk19i (by omega) (by omega) (by omega) w86 (nh_k hk19 (by unfold HT; omega)) (vok_1 (by have q9 := hk19; omega) (by omega))) (fun r96 T98 σ97 gt99 hp => ?_)
  obtain ⟨rfl, rfl, w103, F104, f100, f101⟩ := hp
  clear gt99
  have je105 : σ97 = jP T xe (v95) (p5) _ := f101
  show Tn _ _ 90 T σ97 [(0, .ref a), (1, .int (iI p1)), (2, .int (iI p2)), (3, .int (iI p3)), (4, .int (iI p4)), (5, .int (iI p5))] [] _
  have q106 : σ97.2.1 57 a = σ26.2.1 57 a := rc_F F104 (Or.inl (by decide)) (by decide) (rc_F F87 (Or.inl (by decide)) (by decide) (rc_F F70 (Or.inl (by decide)) (by decide) (rc_F F53 (Or.inl (by decide)) (by decide) (rfl))))
  have q107 : σ97.2.1 58 a = σ26.2.1 58 a := rc_F F104 (Or.inl (by decide)) (by decide) (rc_F F87 (Or.inl (by decide)) (by decide) (rc_F F70 (Or.inl (by decide)) (by decide) (rc_F F53 (Or.inl (by decide)) (by decide) (rfl))))
  have q108 : σ97.2.1 56 a = 1 := rc_F F104 (Or.inl (by decide)) (by decide) (rc_F F87 (Or.inl (by decide)) (by decide) (rc_F F70 (Or.inl (by decide)) (by decide) (rc_F F53 (Or.inl (by decide)) (by decide) (rc_F F37 (Or.inl (by decide)) (by decide) (rc_o (by decide) (rc_o (by decide) (rc_o (by decide) (rc_o (by decide) (rc_o (by decide) (ra_eq))))))))))
  exact tn_vret rfl dX7_begin_90 ⟨rfl, rfl, w103, (((((((((((FrC.rfl.put (by decide) (by decide)).put (by decide) (by decide)).put (by decide) (by decide)).put (by decide) (by decide)).put (by decide) (by decide)).put (by decide) (by decide)).trans (FrC.sub F37 (by decide))).trans (FrC.sub F53 (by decide))).trans (FrC.sub F70 (by decide))).trans (FrC.sub F87 (by decide))).trans (FrC.sub F104 (by decide))), (((((((((((CHX.rfl.fld (by simp) (by decide)).fld (by simp) (by decide)).fld (by simp) (by decide)).fld (by simp) (by decide)).fld (by simp) (by decide)).fld (by simp) (by decide)).trans (CHX.sub f30 (by simp) (by simp) (by simp))).trans (CHX.sub f49 (by simp) (by simp) (by simp))).trans (CHX.sub f66 (by simp) (by simp) (by simp))).trans (CHX.sub f83 (by simp) (by simp) (by simp))).trans (CHX.sub f100 (by simp) (by simp) (by simp))), by omega, by omega, by omega, ⟨_, f33, _, _, _, _, f43, (by rw [← je54]; exact f60), (by rw [← je54, ← je71]; exact f77), (by rw [← je54, ← je71, ← je88]; exact f94), by rw [je105, je88, je71, je54]⟩, (((((((((((FA.rfl.put).put).put).put).put).put).trans f34).trans (FA.of F53 (by decide))).trans (FA.of F70 (by decide))).trans (FA.of F87 (by decide))).trans (FA.of F104 (by decide)))⟩
end
