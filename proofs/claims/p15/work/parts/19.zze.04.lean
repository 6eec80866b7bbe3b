section
set_option maxHeartbeats 1000000 in
set_option maxRecDepth 20000 in
theorem k_X7_begin_h (d : Nat) {T : CT} {σ : MS} {a : Nat} {p1 : Int} {p2 : Int} {p3 : Int} {p4 : Int} {p5 : Int} {xa : Nat} {xb : Nat} {xc : Nat} {xd : Nat} {xe : Nat} {xf : Nat} (ha : OB T a 7) (hta : (T a).1 = 37) (h_p1 : -2147483648 ≤ p1 ∧ p1 ≤ 2147483647) (h_p2 : -2147483648 ≤ p2 ∧ p2 ≤ 2147483647) (h_p3 : -2147483648 ≤ p3 ∧ p3 ≤ 2147483647) (h_p4 : -2147483648 ≤ p4 ∧ p4 ≤ 2147483647) (h_p5 : -2147483648 ≤ p5 ∧ p5 ≤ 2147483647) (hw : WT T σ) (hxa : σ.2.1 59 a = (xa : Int)) (hxb : σ.2.1 60 a = (xb : Int)) (hxc : σ.2.1 61 a = (xc : Int)) (hxd : σ.2.1 62 a = (xd : Int)) (hxe : σ.2.1 63 a = (xe : Int)) (hxf : σ.2.1 64 a = (xf : Int)) : Tn (d + 4) m_X7_begin 0 T σ [(0, .ref a), (1, .int (iI p1)), (2, .int (iI p2)), (3, .int (iI p3)), (4, .int (iI p4)), (5, .int (iI p5))] [] (fun ro T2 σ2 => ro = none ∧ T = T2 ∧ WT T2 σ2 ∧ FrC T [56, 57, 58, 65, 66, 67, 68, 69, 515] σ σ2 ∧ (CHX [(56, a), (57, a), (58, a), (65, a), (66, a), (67, a), (68, a), (69, a), (70, a), (71, a)] [xa, xb, xc, xd, xe, xf] [] σ σ2) ∧ (σ2.2.1 57 a = 0) ∧ (FA a σ σ2)) := by
  refine tn_aload_n dX7_begin_0 rfl 0 rfl ?_
  refine tn_iconst dX7_begin_1 ?_
  refine tn_putV (ci := 7) (i := 1) (n := 56) (r := false) (v := 1) tyX7 tyX7_ok nmX7 dX7_begin_2 rfl lay_7 (by decide) fl7_34 rfl (tyX7_ok 1 (by decide)) rfl rfl rfl ha rfl rfl ?_
  refine tn_aload_n dX7_begin_5 rfl 0 rfl ?_
  refine tn_iconst dX7_begin_6 ?_
  refine tn_putV (ci := 7) (i := 3) (n := 58) (r := false) (v := 0) tyX7 tyX7_ok nmX7 dX7_begin_7 rfl lay_7 (by decide) fl7_38 rfl (tyX7_ok 3 (by decide)) rfl rfl rfl ha rfl rfl ?_
  refine tn_aload_n dX7_begin_10 rfl 0 rfl ?_
  refine tn_iconst dX7_begin_11 ?_
  refine tn_putV (ci := 7) (i := 10) (n := 65) (r := false) (v := 0) tyX7 tyX7_ok nmX7 dX7_begin_12 rfl lay_7 (by decide) fl7_41 rfl (tyX7_ok 10 (by decide)) rfl rfl rfl ha rfl rfl ?_
  refine tn_aload_n dX7_begin_15 rfl 0 rfl ?_
  refine tn_iconst dX7_begin_16 ?_
  refine tn_putV (ci := 7) (i := 11) (n := 66) (r := false) (v := 0) tyX7 tyX7_ok nmX7 dX7_begin_17 rfl lay_7 (by decide) fl7_44 rfl (tyX7_ok 11 (by decide)) rfl rfl rfl ha rfl rfl ?_
  refine tn_aload_n dX7_begin_20 rfl 0 rfl ?_
  refine tn_iconst dX7_begin_21 ?_
  refine tn_putV (ci := 7) (i := 12) (n := 67) (r := false) (v := 0) tyX7 tyX7_ok nmX7 dX7_begin_22 rfl lay_7 (by decide) fl7_47 rfl (tyX7_ok 12 (by decide)) rfl rfl rfl ha rfl rfl ?_
  refine tn_aload_n dX7_begin_25 rfl 0 rfl ?_
  refine tn_iconst dX7_begin_26 ?_
  refine tn_putV (ci := 7) (i := 13) (n := 68) (r := false) (v := 0) tyX7 tyX7_ok nmX7 dX7_begin_27 rfl lay_7 (by decide) fl7_50 rfl (tyX7_ok 13 (by decide)) rfl rfl rfl ha rfl rfl ?_
  refine tn_aload_n dX7_begin_30 rfl 0 rfl ?_
  refine tn_iconst dX7_begin_31 ?_
  refine tn_iload_n dX7_begin_32 rfl 1 rfl ?_
  obtain ⟨hk3, hl4⟩ : AR T xa 15 9 9 := ar_of (wf_59 hw ha) hxa
  have hk3i : IA T xa := by unfold IA; omega
  obtain ⟨hk7, hl8⟩ : AR T xb 1 9 9 := ar_of (wf_60 hw ha) hxb
  have hk7i : IA T xb := by unfold IA; omega
  obtain ⟨hl12, hk11a, hk11b⟩ := ex_at (wf_61 hw ha) hxc
  have hk11 : (T xc).1 = 1 := hk11b (by omega)
  clear hk11a hk11b
  have hk11i : IA T xc := by unfold IA; omega
  obtain ⟨hk15, hl16⟩ : AR T xd 1 108 108 := ar_of (wf_62 hw ha) hxd
  have hk15i : IA T xd := by unfold IA; omega
  obtain ⟨hk19, hl20⟩ : AR T xe 1 1728 1728 := ar_of (wf_63 hw ha) hxe
  have hk19i : IA T xe := by unfold IA; omega
  obtain ⟨hk23, hl24⟩ : AR T xf 1 200 200 := ar_of (wf_64 hw ha) hxf
  have hk23i : IA T xf := by unfold IA; omega
  refine tn_callV (M := m_X7_begin) (pc := 33) (ix := 53) (ci := 7) (M' := m_X7_openCall) (As := [.int (iI 0), .int (iI p1)]) (rest := []) dX7_begin_33 ok_X7_openCall im_X7_openCall se_X7_openCall ml7_53 np_X7_openCall rfl rfl ha rfl (Nat.le_of_ble_eq_true rfl) (Nat.le_of_ble_eq_true rfl) rfl (k_X7_openCall_h (d) (T := T) (σ := (sA 68 a (0) (sA 67 a (0) (sA 66 a (0) (sA 65 a (0) (sA 58 a (0) (sA 56 a (1) σ))))))) (a := a) (c := 0) (r := p1) (xa := xa) (xb := xb) (xc := xc) (xd := xd) (xe := xe) (xf := xf) ha hta (by decide) (by omega) ((((((hw.put (by decide) (by decide) (fo_56 (by omega))).put (by decide) (by decide) (fo_58 (by omega))).put (by decide) (by decide) (fo_65 (by omega))).put (by decide) (by decide) (fo_66 (by omega))).put (by decide) (by decide) (fo_67 (by omega))).put (by decide) (by decide) (fo_68 (by omega))) (rc_o (by decide) (rc_o (by decide) (rc_o (by decide) (rc_o (by decide) (rc_o (by decide) (rc_o (by decide) (hxa))))))) (rc_o (by decide) (rc_o (by decide) (rc_o (by decide) (rc_o (by decide) (rc_o (by decide) (rc_o (by decide) (hxb))))))) (rc_o (by decide) (rc_o (by decide) (rc_o (by decide) (rc_o (by decide) (rc_o (by decide) (rc_o (by decide) (hxc))))))) (rc_o (by decide) (rc_o (by decide) (rc_o (by decide) (rc_o (by decide) (rc_o (by decide) (rc_o (by decide) (hxd))))))) (rc_o (by decide) (rc_o (by decide) (rc_o (by decide) (rc_o (by decide) (rc_o (by decide) (rc_o (by decide) (hxe))))))) (rc_o (by decide) (rc_o (by decide) (rc_o (by decide) (rc_o (by decide) (rc_o (by decide) (rc_o (by decide) (hxf))))))) (by omega)) (fun r25 T27 σ26 gt28 hp => ?_)
  obtain ⟨rfl, rfl, w33, F34, f29, f30, f31⟩ := hp
  clear gt28
  show Tn _ _ 36 T σ26 [(0, .ref a), (1, .int (iI p1)), (2, .int (iI p2)), (3, .int (iI p3)), (4, .int (iI p4)), (5, .int (iI p5))] [] _
  refine tn_aload_n dX7_begin_36 rfl 0 rfl ?_
  refine tn_getR (ci := 7) (i := 8) (n := 63) (x := xe) dX7_begin_37 rfl lay_7 (by decide) fl7_24 ha rfl rfl (rc_F F34 (Or.inl (by decide)) (by decide) (rc_o (by decide) (rc_o (by decide) (rc_o (by decide) (rc_o (by decide) (rc_o (by decide) (rc_o (by decide) (hxe)))))))) ?_
  refine tn_aload_n dX7_begin_40 rfl 0 rfl ?_
  refine tn_iconst dX7_begin_41 ?_
  refine tn_callV (M := m_X7_begin) (pc := 42) (ix := 57) (ci := 7) (M' := m_X7_homeOfParam) (As := [.int (iI 0)]) (rest := [.ref xe]) dX7_begin_42 ok_X7_homeOfParam im_X7_homeOfParam se_X7_homeOfParam ml7_57 np_X7_homeOfParam rfl rfl ha rfl (Nat.le_of_ble_eq_true rfl) (Nat.le_of_ble_eq_true rfl) rfl (k_X7_homeOfParam (d) (T := T) (σ := σ26) (a := a) (p1 := 0) ha (by decide) w33 ) (fun r35 T37 σ36 gt38 hp => ?_)
  obtain ⟨v40, rfl, rfl, rfl, f39⟩ := hp
  clear gt38
  show Tn _ _ 45 T σ26 [(0, .ref a), (1, .int (iI p1)), (2, .int (iI p2)), (3, .int (iI p3)), (4, .int (iI p4)), (5, .int (iI p5))] [.int (iI v40), .ref xe] _
  refine tn_iload_n dX7_begin_45 rfl 2 rfl ?_
  refine tn_callSN (M := m_X7_begin) (pc := 46) (ix := 61) (M' := m_X11_put) (As := [.ref xe, .int (iI v40), .int (iI p2)]) (rest := []) dX7_begin_46 ok_X11_put stt_X11_put nl7_61 np_X11_put rfl (Nat.le_of_ble_eq_true rfl) (Nat.le_of_ble_eq_true rfl) rfl (k_X11_put_x (d + 2) (T := T) (σ := σ26) (x := xe) (i := v40) (y := p2) hk19i (by omega) (by omega) (by omega) w33 (nh_k hk19 (by unfold HT; omega)) (vok_1 (by have q9 := hk19; omega) (by omega))) (fun r41 T43 σ42 gt44 hp => ?_)
  obtain ⟨rfl, rfl, w48, F49, f45, f46⟩ := hp
  clear gt44
  show Tn _ _ 49 T σ42 [(0, .ref a), (1, .int (iI p1)), (2, .int (iI p2)), (3, .int (iI p3)), (4, .int (iI p4)), (5, .int (iI p5))] [] _
  refine tn_aload_n dX7_begin_49 rfl 0 rfl ?_
  refine tn_getR (ci := 7) (i := 8) (n := 63) (x := xe) dX7_begin_50 rfl lay_7 (by decide) fl7_24 ha rfl rfl (rc_F F49 (Or.inl (by decide)) (by decide) (rc_F F34 (Or.inl (by decide)) (by decide) (rc_o (by decide) (rc_o (by decide) (rc_o (by decide) (rc_o (by decide) (rc_o (by decide) (rc_o (by decide) (hxe))))))))) ?_
  refine tn_aload_n dX7_begin_53 rfl 0 rfl ?_
  refine tn_iconst dX7_begin_54 ?_
  refine tn_callV (M := m_X7_begin) (pc := 55) (ix := 57) (ci := 7) (M' := m_X7_homeOfParam) (As := [.int (iI 1)]) (rest := [.ref xe]) dX7_begin_55 ok_X7_homeOfParam im_X7_homeOfParam se_X7_homeOfParam ml7_57 np_X7_homeOfParam rfl rfl ha rfl (Nat.le_of_ble_eq_true rfl) (Nat.le_of_ble_eq_true rfl) rfl (k_X7_homeOfParam (d) (T := T) (σ := σ42) (a := a) (p1 := 1) ha (by decide) w48 ) (fun r50 T52 σ51 gt53 hp => ?_)
  obtain ⟨v55, rfl, rfl, rfl, f54⟩ := hp
  clear gt53
  show Tn _ _ 58 T σ42 [(0, .ref a), (1, .int (iI p1)), (2, .int (iI p2)), (3, .int (iI p3)), (4, .int (iI p4)), (5, .int (iI p5))] [.int (iI v55), .ref xe] _
  refine tn_iload_n dX7_begin_58 rfl 3 rfl ?_
  refine tn_callSN (M := m_X7_begin) (pc := 59) (ix := 61) (M' := m_X11_put) (As := [.ref xe, .int (iI v55), .int (iI p3)]) (rest := []) dX7_begin_59 ok_X11_put stt_X11_put nl7_61 np_X11_put rfl (Nat.le_of_ble_eq_true rfl) (Nat.le_of_ble_eq_true rfl) rfl (k_X11_put_x (d + 2) (T := T) (σ := σ42) (x := xe) (i := v55) (y := p3) hk19i (by omega) (by omega) (by omega) w48 (nh_k hk19 (by unfold HT; omega)) (vok_1 (by have q9 := hk19; omega) (by omega))) (fun r56 T58 σ57 gt59 hp => ?_)
  obtain ⟨rfl, rfl, w63, F64, f60, f61⟩ := hp
  clear gt59
  show Tn _ _ 62 T σ57 [(0, .ref a), (1, .int (iI p1)), (2, .int (iI p2)), (3, .int (iI p3)), (4, .int (iI p4)), (5, .int (iI p5))] [] _
  refine tn_aload_n dX7_begin_62 rfl 0 rfl ?_
  refine tn_getR (ci := 7) (i := 8) (n := 63) (x := xe) dX7_begin_63 rfl lay_7 (by decide) fl7_24 ha rfl rfl (rc_F F64 (Or.inl (by decide)) (by decide) (rc_F F49 (Or.inl (by decide)) (by decide) (rc_F F34 (Or.inl (by decide)) (by decide) (rc_o (by decide) (rc_o (by decide) (rc_o (by decide) (rc_o (by decide) (rc_o (by decide) (rc_o (by decide) (hxe)))))))))) ?_
  refine tn_aload_n dX7_begin_66 rfl 0 rfl ?_
  refine tn_iconst dX7_begin_67 ?_
  refine tn_callV (M := m_X7_begin) (pc := 68) (ix := 57) (ci := 7) (M' := m_X7_homeOfParam) (As := [.int (iI 2)]) (rest := [.ref xe]) dX7_begin_68 ok_X7_homeOfParam im_X7_homeOfParam se_X7_homeOfParam ml7_57 np_X7_homeOfParam rfl rfl ha rfl (Nat.le_of_ble_eq_true rfl) (Nat.le_of_ble_eq_true rfl) rfl (k_X7_homeOfParam (d) (T := T) (σ := σ57) (a := a) (p1 := 2) ha (by decide) w63 ) (fun r65 T67 σ66 gt68 hp => ?_)
  obtain ⟨v70, rfl, rfl, rfl, f69⟩ := hp
  clear gt68
  show Tn _ _ 71 T σ57 [(0, .ref a), (1, .int (iI p1)), (2, .int (iI p2)), (3, .int (iI p3)), (4, .int (iI p4)), (5, .int (iI p5))] [.int (iI v70), .ref xe] _
  refine tn_iload dX7_begin_71 4 rfl ?_
  refine tn_callSN (M := m_X7_begin) (pc := 73) (ix := 61) (M' := m_X11_put) (As := [.ref xe, .int (iI v70), .int (iI p4)]) (rest := []) dX7_begin_73 ok_X11_put stt_X11_put nl7_61 np_X11_put rfl (Nat.le_of_ble_eq_true rfl) (Nat.le_of_ble_eq_true rfl) rfl (k_X11_put_x (d + 2) (T := T) (σ := σ57) (x := xe) (i := v70) (y := p4) hk19i (by omega) (by omega) (by omega) w63 (nh_k hk19 (by unfold HT; omega)) (vok_1 (by have q9 := hk19; omega) (by omega))) (fun r71 T73 σ72 gt74 hp => ?_)
  obtain ⟨rfl, rfl, w78, F79, f75, f76⟩ := hp
  clear gt74
  show Tn _ _ 76 T σ72 [(0, .ref a), (1, .int (iI p1)), (2, .int (iI p2)), (3, .int (iI p3)), (4, .int (iI p4)), (5, .int (iI p5))] [] _
  refine tn_aload_n dX7_begin_76 rfl 0 rfl ?_
  refine tn_getR (ci := 7) (i := 8) (n := 63) (x := xe) dX7_begin_77 rfl lay_7 (by decide) fl7_24 ha rfl rfl (rc_F F79 (Or.inl (by decide)) (by decide) (rc_F F64 (Or.inl (by decide)) (by decide) (rc_F F49 (Or.inl (by decide)) (by decide) (rc_F F34 (Or.inl (by decide)) (by decide) (rc_o (by decide) (rc_o (by decide) (rc_o (by decide) (rc_o (by decide) (rc_o (by decide) (rc_o (by decide) (hxe))))))))))) ?_
  refine tn_aload_n dX7_begin_80 rfl 0 rfl ?_
  refine tn_iconst dX7_begin_81 ?_
  refine tn_callV (M := m_X7_begin) (pc := 82) (ix := 57) (ci := 7) (M' := m_X7_homeOfParam) (As := [.int (iI 3)]) (rest := [.ref xe]) dX7_begin_82 ok_X7_homeOfParam im_X7_homeOfParam se_X7_homeOfParam ml7_57 np_X7_homeOfParam rfl rfl ha rfl (Nat.le_of_ble_eq_true rfl) (Nat.le_of_ble_eq_true rfl) rfl (k_X7_homeOfParam (d) (T := T) (σ := σ72) (a := a) (p1 := 3) ha (by decide) w78 ) (fun r80 T82 σ81 gt83 hp => ?_)
  obtain ⟨v85, rfl, rfl, rfl, f84⟩ := hp
  clear gt83
  show Tn _ _ 85 T σ72 [(0, .ref a), (1, .int (iI p1)), (2, .int (iI p2)), (3, .int (iI p3)), (4, .int (iI p4)), (5, .int (iI p5))] [.int (iI v85), .ref xe] _
  refine tn_iload dX7_begin_85 5 rfl ?_
  refine tn_callSN (M := m_X7_begin) (pc := 87) (ix := 61) (M' := m_X11_put) (As := [.ref xe, .int (iI v85), .int (iI p5)]) (rest := []) dX7_begin_87 ok_X11_put stt_X11_put nl7_61 np_X11_put rfl (Nat.le_of_ble_eq_true rfl) (Nat.le_of_ble_eq_true rfl) rfl (k_X11_put_x (d + 2) (T := T) (σ := σ72) (x := xe) (i := v85) (y := p5) hk19i (by omega) (by omega) (by omega) w78 (nh_k hk19 (by unfold HT; omega)) (vok_1 (by have q9 := hk19; omega) (by omega))) (fun r86 T88 σ87 gt89 hp => ?_)
  obtain ⟨rfl, rfl, w93, F94, f90, f91⟩ := hp
  clear gt89
  show Tn _ _ 90 T σ87 [(0, .ref a), (1, .int (iI p1)), (2, .int (iI p2)), (3, .int (iI p3)), (4, .int (iI p4)), (5, .int (iI p5))] [] _
  have q95 : σ87.2.1 57 a = σ26.2.1 57 a := rc_F F94 (Or.inl (by decide)) (by decide) (rc_F F79 (Or.inl (by decide)) (by decide) (rc_F F64 (Or.inl (by decide)) (by decide) (rc_F F49 (Or.inl (by decide)) (by decide) (rfl))))
  exact tn_vret rfl dX7_begin_90 ⟨rfl, rfl, w93, (((((((((((FrC.rfl.put (by decide) (by decide)).put (by decide) (by decide)).put (by decide) (by decide)).put (by decide) (by decide)).put (by decide) (by decide)).put (by decide) (by decide)).trans (FrC.sub F34 (by decide))).trans (FrC.sub F49 (by decide))).trans (FrC.sub F64 (by decide))).trans (FrC.sub F79 (by decide))).trans (FrC.sub F94 (by decide))), (((((((((((CHX.rfl.fld (by simp) (by decide)).fld (by simp) (by decide)).fld (by simp) (by decide)).fld (by simp) (by decide)).fld (by simp) (by decide)).fld (by simp) (by decide)).trans (CHX.sub f29 (by simp) (by simp) (by simp))).trans (CHX.sub f45 (by simp) (by simp) (by simp))).trans (CHX.sub f60 (by simp) (by simp) (by simp))).trans (CHX.sub f75 (by simp) (by simp) (by simp))).trans (CHX.sub f90 (by simp) (by simp) (by simp))), by omega, (((((((((((FA.rfl.put).put).put).put).put).put).trans f31).trans (FA.of F49 (by decide))).trans (FA.of F64 (by decide))).trans (FA.of F79 (by decide))).trans (FA.of F94 (by decide)))⟩
end
section
set_option maxHeartbeats 1000000 in
set_option maxRecDepth 20000 in
theorem k_X7_begin_h57 (d : Nat) {T : CT} {σ : MS} {a : Nat} {p1 : Int} {p2 : Int} {p3 : Int} {p4 : Int} {p5 : Int} {xa : Nat} {xb : Nat} {xc : Nat} {xd : Nat} {xe : Nat} {xf : Nat} (ha : OB T a 7) (hta : (T a).1 = 57) (h_p1 : -2147483648 ≤ p1 ∧ p1 ≤ 2147483647) (h_p2 : -2147483648 ≤ p2 ∧ p2 ≤ 2147483647) (h_p3 : -2147483648 ≤ p3 ∧ p3 ≤ 2147483647) (h_p4 : -2147483648 ≤ p4 ∧ p4 ≤ 2147483647) (h_p5 : -2147483648 ≤ p5 ∧ p5 ≤ 2147483647) (hw : WT T σ) (hxa : σ.2.1 59 a = (xa : Int)) (hxb : σ.2.1 60 a = (xb : Int)) (hxc : σ.2.1 61 a = (xc : Int)) (hxd : σ.2.1 62 a = (xd : Int)) (hxe : σ.2.1 63 a = (xe : Int)) (hxf : σ.2.1 64 a = (xf : Int)) : Tn (d + 4) m_X7_begin 0 T σ [(0, .ref a), (1, .int (iI p1)), (2, .int (iI p2)), (3, .int (iI p3)), (4, .int (iI p4)), (5, .int (iI p5))] [] (fun ro T2 σ2 => ro = none ∧ T = T2 ∧ WT T2 σ2 ∧ FrC T [56, 57, 58, 65, 66, 67, 68, 69, 515] σ σ2 ∧ (CHX [(56, a), (57, a), (58, a), (65, a), (66, a), (67, a), (68, a), (69, a), (70, a), (71, a)] [xa, xb, xc, xd, xe, xf] [] σ σ2) ∧ (σ2.2.1 57 a = 0) ∧ (σ2.2.1 58 a = 1) ∧ (σ2.2.1 56 a = 1) ∧ (FA a σ σ2)) := by
  refine tn_aload_n dX7_begin_0 rfl 0 rfl ?_
  refine tn_iconst dX7_begin_1 ?_
  refine tn_putV (ci := 7) (i := 1) (n := 56) (r := false) (v := 1) tyX7 tyX7_ok nmX7 dX7_begin_2 rfl lay_7 (by decide) fl7_34 rfl (tyX7_ok 1 (by decide)) rfl rfl rfl ha rfl rfl ?_
  refine tn_aload_n dX7_begin_5 rfl 0 rfl ?_
  refine tn_iconst dX7_begin_6 ?_
  refine tn_putV (ci := 7) (i := 3) (n := 58) (r := false) (v := 0) tyX7 tyX7_ok nmX7 dX7_begin_7 rfl lay_7 (by decide) fl7_38 rfl (tyX7_ok 3 (by decide)) rfl rfl rfl ha rfl rfl ?_
  refine tn_aload_n dX7_begin_10 rfl 0 rfl ?_
  refine tn_iconst dX7_begin_11 ?_
  refine tn_putV (ci := 7) (i := 10) (n := 65) (r := false) (v := 0) tyX7 tyX7_ok nmX7 dX7_begin_12 rfl lay_7 (by decide) fl7_41 rfl (tyX7_ok 10 (by decide)) rfl rfl rfl ha rfl rfl ?_
  refine tn_aload_n dX7_begin_15 rfl 0 rfl ?_
  refine tn_iconst dX7_begin_16 ?_
  refine tn_putV (ci := 7) (i := 11) (n := 66) (r := false) (v := 0) tyX7 tyX7_ok nmX7 dX7_begin_17 rfl lay_7 (by decide) fl7_44 rfl (tyX7_ok 11 (by decide)) rfl rfl rfl ha rfl rfl ?_
  refine tn_aload_n dX7_begin_20 rfl 0 rfl ?_
  refine tn_iconst dX7_begin_21 ?_
  refine tn_putV (ci := 7) (i := 12) (n := 67) (r := false) (v := 0) tyX7 tyX7_ok nmX7 dX7_begin_22 rfl lay_7 (by decide) fl7_47 rfl (tyX7_ok 12 (by decide)) rfl rfl rfl ha rfl rfl ?_
  refine tn_aload_n dX7_begin_25 rfl 0 rfl ?_
  refine tn_iconst dX7_begin_26 ?_
  refine tn_putV (ci := 7) (i := 13) (n := 68) (r := false) (v := 0) tyX7 tyX7_ok nmX7 dX7_begin_27 rfl lay_7 (by decide) fl7_50 rfl (tyX7_ok 13 (by decide)) rfl rfl rfl ha rfl rfl ?_
  refine tn_aload_n dX7_begin_30 rfl 0 rfl ?_
  refine tn_iconst dX7_begin_31 ?_
  refine tn_iload_n dX7_begin_32 rfl 1 rfl ?_
  obtain ⟨hk3, hl4⟩ : AR T xa 15 9 9 := ar_of (wf_59 hw ha) hxa
  have hk3i : IA T xa := by unfold IA; omega
  obtain ⟨hk7, hl8⟩ : AR T xb 1 9 9 := ar_of (wf_60 hw ha) hxb
  have hk7i : IA T xb := by unfold IA; omega
  obtain ⟨hl12, hk11a, hk11b⟩ := ex_at (wf_61 hw ha) hxc
  have hk11 : (T xc).1 = 14 := hk11a (by omega)
  clear hk11a hk11b
  have hk11i : IA T xc := by unfold IA; omega
  obtain ⟨hk15, hl16⟩ : AR T xd 1 108 108 := ar_of (wf_62 hw ha) hxd
  have hk15i : IA T xd := by unfold IA; omega
  obtain ⟨hk19, hl20⟩ : AR T xe 1 1728 1728 := ar_of (wf_63 hw ha) hxe
  have hk19i : IA T xe := by unfold IA; omega
  obtain ⟨hk23, hl24⟩ : AR T xf 1 200 200 := ar_of (wf_64 hw ha) hxf
  have hk23i : IA T xf := by unfold IA; omega
  have q29 : (sA 68 a (0) (sA 67 a (0) (sA 66 a (0) (sA 65 a (0) (sA 58 a (0) (sA 56 a (1) σ)))))).2.1 58 a = 0 := rc_o (by decide) (rc_o (by decide) (rc_o (by decide) (rc_o (by decide) (ra_eq))))
  refine tn_callV (M := m_X7_begin) (pc := 33) (ix := 53) (ci := 7) (M' := m_X7_openCall) (As := [.int (iI 0), .int (iI p1)]) (rest := []) dX7_begin_33 ok_X7_openCall im_X7_openCall se_X7_openCall ml7_53 np_X7_openCall rfl rfl ha rfl (Nat.le_of_ble_eq_true rfl) (Nat.le_of_ble_eq_true rfl) rfl (k_X7_openCall_h57 (d) (T := T) (σ := (sA 68 a (0) (sA 67 a (0) (sA 66 a (0) (sA 65 a (0) (sA 58 a (0) (sA 56 a (1) σ))))))) (a := a) (c := 0) (r := p1) (xa := xa) (xb := xb) (xc := xc) (xd := xd) (xe := xe) (xf := xf) ha hta (by decide) (by omega) ((((((hw.put (by decide) (by decide) (fo_56 (by omega))).put (by decide) (by decide) (fo_58 (by omega))).put (by decide) (by decide) (fo_65 (by omega))).put (by decide) (by decide) (fo_66 (by omega))).put (by decide) (by decide) (fo_67 (by omega))).put (by decide) (by decide) (fo_68 (by omega))) (rc_o (by decide) (rc_o (by decide) (rc_o (by decide) (rc_o (by decide) (rc_o (by decide) (rc_o (by decide) (hxa))))))) (rc_o (by decide) (rc_o (by decide) (rc_o (by decide) (rc_o (by decide) (rc_o (by decide) (rc_o (by decide) (hxb))))))) (rc_o (by decide) (rc_o (by decide) (rc_o (by decide) (rc_o (by decide) (rc_o (by decide) (rc_o (by decide) (hxc))))))) (rc_o (by decide) (rc_o (by decide) (rc_o (by decide) (rc_o (by decide) (rc_o (by decide) (rc_o (by decide) (hxd))))))) (rc_o (by decide) (rc_o (by decide) (rc_o (by decide) (rc_o (by decide) (rc_o (by decide) (rc_o (by decide) (hxe))))))) (rc_o (by decide) (rc_o (by decide) (rc_o (by decide) (rc_o (by decide) (rc_o (by decide) (rc_o (by decide) (hxf))))))) (by omega) (by rw [show (sA 68 a (0) (sA 67 a (0) (sA 66 a (0) (sA 65 a (0) (sA 58 a (0) (sA 56 a (1) σ)))))).2.1 58 a = 0 from rc_o (by decide) (rc_o (by decide) (rc_o (by decide) (rc_o (by decide) (ra_eq))))]; omega)) (fun r25 T27 σ26 gt28 hp => ?_)
  obtain ⟨rfl, rfl, w35, F36, f30, f31, f32, f33⟩ := hp
  clear gt28
  show Tn _ _ 36 T σ26 [(0, .ref a), (1, .int (iI p1)), (2, .int (iI p2)), (3, .int (iI p3)), (4, .int (iI p4)), (5, .int (iI p5))] [] _
  refine tn_aload_n dX7_begin_36 rfl 0 rfl ?_
  refine tn_getR (ci := 7) (i := 8) (n := 63) (x := xe) dX7_begin_37 rfl lay_7 (by decide) fl7_24 ha rfl rfl (rc_F F36 (Or.inl (by decide)) (by decide) (rc_o (by decide) (rc_o (by decide) (rc_o (by decide) (rc_o (by decide) (rc_o (by decide) (rc_o (by decide) (hxe)))))))) ?_
  refine tn_aload_n dX7_begin_40 rfl 0 rfl ?_
  refine tn_iconst dX7_begin_41 ?_
  refine tn_callV (M := m_X7_begin) (pc := 42) (ix := 57) (ci := 7) (M' := m_X7_homeOfParam) (As := [.int (iI 0)]) (rest := [.ref xe]) dX7_begin_42 ok_X7_homeOfParam im_X7_homeOfParam se_X7_homeOfParam ml7_57 np_X7_homeOfParam rfl rfl ha rfl (Nat.le_of_ble_eq_true rfl) (Nat.le_of_ble_eq_true rfl) rfl (k_X7_homeOfParam (d) (T := T) (σ := σ26) (a := a) (p1 := 0) ha (by decide) w35 ) (fun r37 T39 σ38 gt40 hp => ?_)
  obtain ⟨v42, rfl, rfl, rfl, f41⟩ := hp
  clear gt40
  show Tn _ _ 45 T σ26 [(0, .ref a), (1, .int (iI p1)), (2, .int (iI p2)), (3, .int (iI p3)), (4, .int (iI p4)), (5, .int (iI p5))] [.int (iI v42), .ref xe] _
  refine tn_iload_n dX7_begin_45 rfl 2 rfl ?_
  refine tn_callSN (M := m_X7_begin) (pc := 46) (ix := 61) (M' := m_X11_put) (As := [.ref xe, .int (iI v42), .int (iI p2)]) (rest := []) dX7_begin_46 ok_X11_put stt_X11_put nl7_61 np_X11_put rfl (Nat.le_of_ble_eq_true rfl) (Nat.le_of_ble_eq_true rfl) rfl (k_X11_put_x (d + 2) (T := T) (σ := σ26) (x := xe) (i := v42) (y := p2) hk19i (by omega) (by omega) (by omega) w35 (nh_k hk19 (by unfold HT; omega)) (vok_1 (by have q9 := hk19; omega) (by omega))) (fun r43 T45 σ44 gt46 hp => ?_)
  obtain ⟨rfl, rfl, w50, F51, f47, f48⟩ := hp
  clear gt46
  show Tn _ _ 49 T σ44 [(0, .ref a), (1, .int (iI p1)), (2, .int (iI p2)), (3, .int (iI p3)), (4, .int (iI p4)), (5, .int (iI p5))] [] _
  refine tn_aload_n dX7_begin_49 rfl 0 rfl ?_
  refine tn_getR (ci := 7) (i := 8) (n := 63) (x := xe) dX7_begin_50 rfl lay_7 (by decide) fl7_24 ha rfl rfl (rc_F F51 (Or.inl (by decide)) (by decide) (rc_F F36 (Or.inl (by decide)) (by decide) (rc_o (by decide) (rc_o (by decide) (rc_o (by decide) (rc_o (by decide) (rc_o (by decide) (rc_o (by decide) (hxe))))))))) ?_
  refine tn_aload_n dX7_begin_53 rfl 0 rfl ?_
  refine tn_iconst dX7_begin_54 ?_
  refine tn_callV (M := m_X7_begin) (pc := 55) (ix := 57) (ci := 7) (M' := m_X7_homeOfParam) (As := [.int (iI 1)]) (rest := [.ref xe]) dX7_begin_55 ok_X7_homeOfParam im_X7_homeOfParam se_X7_homeOfParam ml7_57 np_X7_homeOfParam rfl rfl ha rfl (Nat.le_of_ble_eq_true rfl) (Nat.le_of_ble_eq_true rfl) rfl (k_X7_homeOfParam (d) (T := T) (σ := σ44) (a := a) (p1 := 1) ha (by decide) w50 ) (fun r52 T54 σ53 gt55 hp => ?_)
  obtain ⟨v57, rfl, rfl, rfl, f56⟩ := hp
  clear gt55
  show Tn _ _ 58 T σ44 [(0, .ref a), (1, .int (iI p1)), (2, .int (iI p2)), (3, .int (iI p3)), (4, .int (iI p4)), (5, .int (iI p5))] [.int (iI v57), .ref xe] _
  refine tn_iload_n dX7_begin_58 rfl 3 rfl ?_
  refine tn_callSN (M := m_X7_begin) (pc := 59) (ix := 61) (M' := m_X11_put) (As := [.ref xe, .int (iI v57), .int (iI p3)]) (rest := []) dX7_begin_59 ok_X11_put stt_X11_put nl7_61 np_X11_put rfl (Nat.le_of_ble_eq_true rfl) (Nat.le_of_ble_eq_true rfl) rfl (k_X11_put_x (d + 2) (T := T) (σ := σ44) (x := xe) (i := v57) (y := p3) hk19i (by omega) (by omega) (by omega) w50 (nh_k hk19 (by unfold HT; omega)) (vok_1 (by have q9 := hk19; omega) (by omega))) (fun r58 T60 σ59 gt61 hp => ?_)
  obtain ⟨rfl, rfl, w65, F66, f62, f63⟩ := hp
  clear gt61
  show Tn _ _ 62 T σ59 [(0, .ref a), (1, .int (iI p1)), (2, .int (iI p2)), (3, .int (iI p3)), (4, .int (iI p4)), (5, .int (iI p5))] [] _
  refine tn_aload_n dX7_begin_62 rfl 0 rfl ?_
  refine tn_getR (ci := 7) (i := 8) (n := 63) (x := xe) dX7_begin_63 rfl lay_7 (by decide) fl7_24 ha rfl rfl (rc_F F66 (Or.inl (by decide)) (by decide) (rc_F F51 (Or.inl (by decide)) (by decide) (rc_F F36 (Or.inl (by decide)) (by decide) (rc_o (by decide) (rc_o (by decide) (rc_o (by decide) (rc_o (by decide) (rc_o (by decide) (rc_o (by decide) (hxe)))))))))) ?_
  refine tn_aload_n dX7_begin_66 rfl 0 rfl ?_
  refine tn_iconst dX7_begin_67 ?_
  refine tn_callV (M := m_X7_begin) (pc := 68) (ix := 57) (ci := 7) (M' := m_X7_homeOfParam) (As := [.int (iI 2)]) (rest := [.ref xe]) dX7_begin_68 ok_X7_homeOfParam im_X7_homeOfParam se_X7_homeOfParam ml7_57 np_X7_homeOfParam rfl rfl ha rfl (Nat.le_of_ble_eq_true rfl) (Nat.le_of_ble_eq_true rfl) rfl (k_X7_homeOfParam (d) (T := T) (σ := σ59) (a := a) (p1 := 2) ha (by decide) w65 ) (fun r67 T69 σ68 gt70 hp => ?_)
  obtain ⟨v72, rfl, rfl, rfl, f71⟩ := hp
  clear gt70
  show Tn _ _ 71 T σ59 [(0, .ref a), (1, .int (iI p1)), (2, .int (iI p2)), (3, .int (iI p3)), (4, .int (iI p4)), (5, .int (iI p5))] [.int (iI v72), .ref xe] _
  refine tn_iload dX7_begin_71 4 rfl ?_
  refine tn_callSN (M := m_X7_begin) (pc := 73) (ix := 61) (M' := m_X11_put) (As := [.ref xe, .int (iI v72), .int (iI p4)]) (rest := []) dX7_begin_73 ok_X11_put stt_X11_put nl7_61 np_X11_put rfl (Nat.le_of_ble_eq_true rfl) (Nat.le_of_ble_eq_true rfl) rfl (k_X11_put_x (d + 2) (T := T) (σ := σ59) (x := xe) (i := v72) (y := p4) hk19i (by omega) (by omega) (by omega) w65 (nh_k hk19 (by unfold HT; omega)) (vok_1 (by have q9 := hk19; omega) (by omega))) (fun r73 T75 σ74 gt76 hp => ?_)
  obtain ⟨rfl, rfl, w80, F81, f77, f78⟩ := hp
  clear gt76
  show Tn _ _ 76 T σ74 [(0, .ref a), (1, .int (iI p1)), (2, .int (iI p2)), (3, .int (iI p3)), (4, .int (iI p4)), (5, .int (iI p5))] [] _
  refine tn_aload_n dX7_begin_76 rfl 0 rfl ?_
  refine tn_getR (ci := 7) (i := 8) (n := 63) (x := xe) dX7_begin_77 rfl lay_7 (by decide) fl7_24 ha rfl rfl (rc_F F81 (Or.inl (by decide)) (by decide) (rc_F F66 (Or.inl (by decide)) (by decide) (rc_F F51 (Or.inl (by decide)) (by decide) (rc_F F36 (Or.inl (by decide)) (by decide) (rc_o (by decide) (rc_o (by decide) (rc_o (by decide) (rc_o (by decide) (rc_o (by decide) (rc_o (by decide) (hxe))))))))))) ?_
  refine tn_aload_n dX7_begin_80 rfl 0 rfl ?_
  refine tn_iconst dX7_begin_81 ?_
  refine tn_callV (M := m_X7_begin) (pc := 82) (ix := 57) (ci := 7) (M' := m_X7_homeOfParam) (As := [.int (iI 3)]) (rest := [.ref xe]) dX7_begin_82 ok_X7_homeOfParam im_X7_homeOfParam se_X7_homeOfParam ml7_57 np_X7_homeOfParam rfl rfl ha rfl (Nat.le_of_ble_eq_true rfl) (Nat.le_of_ble_eq_true rfl) rfl (k_X7_homeOfParam (d) (T := T) (σ := σ74) (a := a) (p1 := 3) ha (by decide) w80 ) (fun r82 T84 σ83 gt85 hp => ?_)
  obtain ⟨v87, rfl, rfl, rfl, f86⟩ := hp
  clear gt85
  show Tn _ _ 85 T σ74 [(0, .ref a), (1, .int (iI p1)), (2, .int (iI p2)), (3, .int (iI p3)), (4, .int (iI p4)), (5, .int (iI p5))] [.int (iI v87), .ref xe] _
  refine tn_iload dX7_begin_85 5 rfl ?_
  refine tn_callSN (M := m_X7_begin) (pc := 87) (ix := 61) (M' := m_X11_put) (As := [.ref xe, .int (iI v87), .int (iI p5)]) (rest := []) dX7_begin_87 ok_X11_put stt_X11_put nl7_61 np_X11_put rfl (Nat.le_of_ble_eq_true rfl) (Nat.le_of_ble_eq_true rfl) rfl (k_X11_put_x (d + 2) (T := T) (σ := σ74) (x := xe) (i := v87) (y := p5) hk19i (by omega) (by omega) (by omega) w80 (nh_k hk19 (by unfold HT; omega)) (vok_1 (by have q9 := hk19; omega) (by omega))) (fun r88 T90 σ89 gt91 hp => ?_)
  obtain ⟨rfl, rfl, w95, F96, f92, f93⟩ := hp
  clear gt91
  show Tn _ _ 90 T σ89 [(0, .ref a), (1, .int (iI p1)), (2, .int (iI p2)), (3, .int (iI p3)), (4, .int (iI p4)), (5, .int (iI p5))] [] _
  have q97 : σ89.2.1 57 a = σ26.2.1 57 a := rc_F F96 (Or.inl (by decide)) (by decide) (rc_F F81 (Or.inl (by decide)) (by decide) (rc_F F66 (Or.inl (by decide)) (by decide) (rc_F F51 (Or.inl (by decide)) (by decide) (rfl))))
  have q98 : σ89.2.1 58 a = σ26.2.1 58 a := rc_F F96 (Or.inl (by decide)) (by decide) (rc_F F81 (Or.inl (by decide)) (by decide) (rc_F F66 (Or.inl (by decide)) (by decide) (rc_F F51 (Or.inl (by decide)) (by decide) (rfl))))
  have q99 : σ89.2.1 56 a = 1 := rc_F F96 (Or.inl (by decide)) (by decide) (rc_F F81 (Or.inl (by decide)) (by decide) (rc_F F66 (Or.inl (by decide)) (by decide) (rc_F F51 (Or.inl (by decide)) (by decide) (rc_F F36 (Or.inl (by decide)) (by decide) (rc_o (by decide) (rc_o (by decide) (rc_o (by decide) (rc_o (by decide) (rc_o (by decide) (ra_eq))))))))))
  exact tn_vret rfl dX7_begin_90 ⟨rfl, rfl, w95, (((((((((((FrC.rfl.put (by decide) (by decide)).put (by decide) (by decide)).put (by decide) (by decide)).put (by decide) (by decide)).put (by decide) (by decide)).put (by decide) (by decide)).trans (FrC.sub F36 (by decide))).trans (FrC.sub F51 (by decide))).trans (FrC.sub F66 (by decide))).trans (FrC.sub F81 (by decide))).trans (FrC.sub F96 (by decide))), (((((((((((CHX.rfl.fld (by simp) (by decide)).fld (by simp) (by decide)).fld (by simp) (by decide)).fld (by simp) (by decide)).fld (by simp) (by decide)).fld (by simp) (by decide)).trans (CHX.sub f30 (by simp) (by simp) (by simp))).trans (CHX.sub f47 (by simp) (by simp) (by simp))).trans (CHX.sub f62 (by simp) (by simp) (by simp))).trans (CHX.sub f77 (by simp) (by simp) (by simp))).trans (CHX.sub f92 (by simp) (by simp) (by simp))), by omega, by omega, by omega, (((((((((((FA.rfl.put).put).put).put).put).put).trans f33).trans (FA.of F51 (by decide))).trans (FA.of F66 (by decide))).trans (FA.of F81 (by decide))).trans (FA.of F96 (by decide)))⟩
end
section
set_option maxHeartbeats 1000000 in
set_option maxRecDepth 20000 in
theorem k_X7_reckonAt_h (d : Nat) {T : CT} {σ : MS} {a : Nat} {k : Int} {e : Int} {xa : Nat} {xb : Nat} {xc : Nat} {xd : Nat} {xe : Nat} {xf : Nat} (ha : OB T a 7) (h_k : -2147483648 ≤ k ∧ k ≤ 2147483647) (h_e : -2147483648 ≤ e ∧ e ≤ 2147483647) (hw : WT T σ) (hxa : σ.2.1 59 a = (xa : Int)) (hxb : σ.2.1 60 a = (xb : Int)) (hxc : σ.2.1 61 a = (xc : Int)) (hxd : σ.2.1 62 a = (xd : Int)) (hxe : σ.2.1 63 a = (xe : Int)) (hxf : σ.2.1 64 a = (xf : Int)) (hn : 0 ≤ σ.2.1 69 a) : Tn (d + 3) m_X7_reckonAt 0 T σ [(0, .ref a), (1, .int (iI k)), (2, .int (iI e))] [] (fun ro T2 σ2 => ro = none ∧ T = T2 ∧ WT T2 σ2 ∧ FrC T [] σ σ2 ∧ (CHX [(56, a), (57, a), (58, a), (65, a), (66, a), (67, a), (68, a), (69, a), (70, a), (71, a)] [xa, xb, xc, xd, xe, xf] [] σ σ2)) := by
  refine tn_iload_n dX7_reckonAt_0 rfl 2 rfl ?_
  refine tn_callSN (M := m_X7_reckonAt) (pc := 1) (ix := 132) (M' := m_X11_isPure) (As := [.int (iI e)]) (rest := []) dX7_reckonAt_1 ok_X11_isPure stt_X11_isPure nl7_132 np_X11_isPure rfl (Nat.le_of_ble_eq_true rfl) (Nat.le_of_ble_eq_true rfl) rfl (k_X11_isPure (d + 1) (T := T) (σ := σ) (k := e) (by omega) hw ) (fun r1 T3 σ2 gt4 hp => ?_)
  obtain ⟨v6, rfl, rfl, rfl, f5⟩ := hp
  clear gt4
  show Tn _ _ 4 T σ [(0, .ref a), (1, .int (iI k)), (2, .int (iI e))] [.int (iI v6)] _
  refine tn_if_eq (tgt := 58) dX7_reckonAt_4 (by decide) ⟨by omega, by omega⟩ (fun h7 => ?_) (fun h7 => ?_)
  · exact tn_vret rfl dX7_reckonAt_58 ⟨rfl, rfl, hw, FrC.rfl, CHX.rfl⟩
  · refine tn_iload_n dX7_reckonAt_7 rfl 2 rfl ?_
    refine tn_if_ne (tgt := 15) dX7_reckonAt_8 (by decide) ⟨by omega, by omega⟩ (fun h8 => ?_) (fun h8 => ?_)
    · refine tn_aload_n dX7_reckonAt_15 rfl 0 rfl ?_
      refine tn_iload_n dX7_reckonAt_16 rfl 1 rfl ?_
      refine tn_iconst dX7_reckonAt_17 ?_
      refine tn_callV (M := m_X7_reckonAt) (pc := 18) (ix := 110) (ci := 7) (M' := m_X7_operand) (As := [.int (iI k), .int (iI 5)]) (rest := []) dX7_reckonAt_18 ok_X7_operand im_X7_operand se_X7_operand ml7_110 np_X7_operand rfl rfl ha rfl (Nat.le_of_ble_eq_true rfl) (Nat.le_of_ble_eq_true rfl) rfl (k_X7_operand (d) (T := T) (σ := σ) (a := a) (k := k) (c := 5) ha (by omega) (by decide) hw (by rw [show σ.2.1 69 a = σ.2.1 69 a from rfl]; exact hn) (by omega)) (fun r9 T11 σ10 gt12 hp => ?_)
      obtain ⟨v14, rfl, rfl, rfl, f13⟩ := hp
      clear gt12
      show Tn _ _ 21 T σ [(0, .ref a), (1, .int (iI k)), (2, .int (iI e))] [.int (iI v14)] _
      refine tn_istore_n (L' := [(3, .int (iI v14)), (0, .ref a), (1, .int (iI k)), (2, .int (iI e))]) dX7_reckonAt_21 rfl (by decide) rfl ?_
      refine tn_aload_n dX7_reckonAt_22 rfl 1 rfl ?_
      obtain ⟨hk17, hl18⟩ : AR T xe 1 1728 1728 := ar_of (wf_63 hw ha) hxe
      have hk17i : IA T xe := by unfold IA; omega
      refine tn_getR (ci := 7) (i := 8) (n := 63) (x := xe) dX7_reckonAt_23 rfl lay_7 (by decide) fl7_24 ha rfl rfl (hxe) ?_
      refine tn_aload_n dX7_reckonAt_26 rfl 1 rfl ?_
      refine tn_getI (ci := 7) (i := 2) (n := 57) (t := σ.2.1 57 a) dX7_reckonAt_27 rfl lay_7 (by decide) fl7_65 ha rfl rfl (rfl) ?_
      have g19 : ((0 : Int) ≤ σ.2.1 57 a ∧ σ.2.1 57 a ≤ 11184800) ∧ ((T a).1 = 57 → σ.2.1 57 a ≤ 8) := wf_57 hw ha
      have g19x := g19.2
      replace g19 := g19.1
      clear g19x
      refine tn_sipush dX7_reckonAt_30 (by decide) ?_
      refine tn_imul dX7_reckonAt_33 ?_
      refine tn_aload_n dX7_reckonAt_34 rfl 1 rfl ?_
      obtain ⟨xq24, hx25, hk26a, hk26b⟩ := (wf_69 hw ha).resolve_left (by have q9 := hn; omega)
      have hk26o : OB T xq24 1 := (show RC T a xq24 from ⟨hk26a, hk26b⟩).ob
      clear hk26a hk26b
      refine tn_getR (ci := 7) (i := 14) (n := 69) (x := xq24) dX7_reckonAt_35 rfl lay_7 (by decide) fl7_72 ha rfl rfl (hx25) ?_
      refine tn_iload_n dX7_reckonAt_38 rfl 2 rfl ?_
      refine tn_iconst dX7_reckonAt_39 ?_
      refine tn_callV (M := m_X7_reckonAt) (pc := 40) (ix := 117) (ci := 1) (M' := m_X1_get) (As := [.int (iI k), .int (iI 1)]) (rest := [.int (iI ((σ.2.1 57 a) * 192)), .ref xe]) dX7_reckonAt_40 ok_X1_get im_X1_get se_X1_get ml7_117 np_X1_get rfl rfl hk26o rfl (Nat.le_of_ble_eq_true rfl) (Nat.le_of_ble_eq_true rfl) rfl (k_X1_get (d + 1) (T := T) (σ := σ) (a := xq24) (k := k) (c := 1) hk26o (by omega) (by decide) hw (by omega)) (fun r27 T29 σ28 gt30 hp => ?_)
      obtain ⟨v32, rfl, rfl, rfl, f31⟩ := hp
      clear gt30
      show Tn _ _ 43 T σ [(3, .int (iI v14)), (0, .ref a), (1, .int (iI k)), (2, .int (iI e))] [.int (iI v32), .int (iI ((σ.2.1 57 a) * 192)), .ref xe] _
      refine tn_iadd dX7_reckonAt_43 ?_
      refine tn_any (fun z33 g34 => ?_)
      have g34r : -2147483648 ≤ z33 ∧ z33 ≤ 2147483647 := g34
      refine tn_iload_n dX7_reckonAt_44 rfl 3 rfl ?_
      refine tn_aload_n dX7_reckonAt_45 rfl 1 rfl ?_
      refine tn_iload_n dX7_reckonAt_46 rfl 2 rfl ?_
      refine tn_iconst dX7_reckonAt_47 ?_
      refine tn_callV (M := m_X7_reckonAt) (pc := 48) (ix := 110) (ci := 7) (M' := m_X7_operand) (As := [.int (iI k), .int (iI 3)]) (rest := [.int (iI e), .int (iI z33), .ref xe]) dX7_reckonAt_48 ok_X7_operand im_X7_operand se_X7_operand ml7_110 np_X7_operand rfl rfl ha rfl (Nat.le_of_ble_eq_true rfl) (Nat.le_of_ble_eq_true rfl) rfl (k_X7_operand (d) (T := T) (σ := σ) (a := a) (k := k) (c := 3) ha (by omega) (by decide) hw (by rw [show σ.2.1 69 a = _ from hx25]; omega) (by omega)) (fun r35 T37 σ36 gt38 hp => ?_)
      obtain ⟨v40, rfl, rfl, rfl, f39⟩ := hp
      clear gt38
      show Tn _ _ 51 T σ [(3, .int (iI v14)), (0, .ref a), (1, .int (iI k)), (2, .int (iI e))] [.int (iI v40), .int (iI e), .int (iI z33), .ref xe] _
      refine tn_iload_n dX7_reckonAt_51 rfl 0 rfl ?_
      refine tn_callSN (M := m_X7_reckonAt) (pc := 52) (ix := 136) (M' := m_X11_reckon) (As := [.int (iI e), .int (iI v40), .int (iI v14)]) (rest := [.int (iI z33), .ref xe]) dX7_reckonAt_52 ok_X11_reckon stt_X11_reckon nl7_136 np_X11_reckon rfl (Nat.le_of_ble_eq_true rfl) (Nat.le_of_ble_eq_true rfl) rfl (k_X11_reckon (d + 1) (T := T) (σ := σ) (k := e) (x := v40) (y := v14) (by omega) (by omega) (by omega) hw ) (fun r41 T43 σ42 gt44 hp => ?_)
      obtain ⟨v46, rfl, rfl, rfl, f45⟩ := hp
      clear gt44
      show Tn _ _ 55 T σ [(3, .int (iI v14)), (0, .ref a), (1, .int (iI k)), (2, .int (iI e))] [.int (iI v46), .int (iI z33), .ref xe] _
      refine tn_callSN (M := m_X7_reckonAt) (pc := 55) (ix := 61) (M' := m_X11_put) (As := [.ref xe, .int (iI z33), .int (iI v46)]) (rest := []) dX7_reckonAt_55 ok_X11_put stt_X11_put nl7_61 np_X11_put rfl (Nat.le_of_ble_eq_true rfl) (Nat.le_of_ble_eq_true rfl) rfl (k_X11_put_x (d + 1) (T := T) (σ := σ) (x := xe) (i := z33) (y := v46) hk17i (by omega) (by omega) (by omega) hw (nh_k hk17 (by unfold HT; omega)) (vok_1 (by have q9 := hk17; omega) (by omega))) (fun r47 T49 σ48 gt50 hp => ?_)
      obtain ⟨rfl, rfl, w54, F55, f51, f52⟩ := hp
      clear gt50
      show Tn _ _ 58 T σ48 [(3, .int (iI v14)), (0, .ref a), (1, .int (iI k)), (2, .int (iI e))] [] _
      exact tn_vret rfl dX7_reckonAt_58 ⟨rfl, rfl, w54, (FrC.rfl.trans (FrC.sub F55 (by decide))), (CHX.rfl.trans (CHX.sub f51 (by simp) (by simp) (by simp)))⟩
    · refine tn_iconst dX7_reckonAt_11 ?_
      refine tn_goto (tgt := 21) dX7_reckonAt_12 (by decide) ?_
      refine tn_istore_n (L' := [(3, .int (iI 0)), (0, .ref a), (1, .int (iI k)), (2, .int (iI e))]) dX7_reckonAt_21 rfl (by decide) rfl ?_
      refine tn_aload_n dX7_reckonAt_22 rfl 1 rfl ?_
      obtain ⟨hk58, hl59⟩ : AR T xe 1 1728 1728 := ar_of (wf_63 hw ha) hxe
      have hk58i : IA T xe := by unfold IA; omega
      refine tn_getR (ci := 7) (i := 8) (n := 63) (x := xe) dX7_reckonAt_23 rfl lay_7 (by decide) fl7_24 ha rfl rfl (hxe) ?_
      refine tn_aload_n dX7_reckonAt_26 rfl 1 rfl ?_
      refine tn_getI (ci := 7) (i := 2) (n := 57) (t := σ.2.1 57 a) dX7_reckonAt_27 rfl lay_7 (by decide) fl7_65 ha rfl rfl (rfl) ?_
      have g60 : ((0 : Int) ≤ σ.2.1 57 a ∧ σ.2.1 57 a ≤ 11184800) ∧ ((T a).1 = 57 → σ.2.1 57 a ≤ 8) := wf_57 hw ha
      have g60x := g60.2
      replace g60 := g60.1
      clear g60x
      refine tn_sipush dX7_reckonAt_30 (by decide) ?_
      refine tn_imul dX7_reckonAt_33 ?_
      refine tn_aload_n dX7_reckonAt_34 rfl 1 rfl ?_
      obtain ⟨xq65, hx66, hk67a, hk67b⟩ := (wf_69 hw ha).resolve_left (by have q9 := hn; omega)
      have hk67o : OB T xq65 1 := (show RC T a xq65 from ⟨hk67a, hk67b⟩).ob
      clear hk67a hk67b
      refine tn_getR (ci := 7) (i := 14) (n := 69) (x := xq65) dX7_reckonAt_35 rfl lay_7 (by decide) fl7_72 ha rfl rfl (hx66) ?_
      refine tn_iload_n dX7_reckonAt_38 rfl 2 rfl ?_
      refine tn_iconst dX7_reckonAt_39 ?_
      refine tn_callV (M := m_X7_reckonAt) (pc := 40) (ix := 117) (ci := 1) (M' := m_X1_get) (As := [.int (iI k), .int (iI 1)]) (rest := [.int (iI ((σ.2.1 57 a) * 192)), .ref xe]) dX7_reckonAt_40 ok_X1_get im_X1_get se_X1_get ml7_117 np_X1_get rfl rfl hk67o rfl (Nat.le_of_ble_eq_true rfl) (Nat.le_of_ble_eq_true rfl) rfl (k_X1_get (d + 1) (T := T) (σ := σ) (a := xq65) (k := k) (c := 1) hk67o (by omega) (by decide) hw (by omega)) (fun r68 T70 σ69 gt71 hp => ?_)
      obtain ⟨v73, rfl, rfl, rfl, f72⟩ := hp
      clear gt71
      show Tn _ _ 43 T σ [(3, .int (iI 0)), (0, .ref a), (1, .int (iI k)), (2, .int (iI e))] [.int (iI v73), .int (iI ((σ.2.1 57 a) * 192)), .ref xe] _
      refine tn_iadd dX7_reckonAt_43 ?_
      refine tn_any (fun z74 g75 => ?_)
      have g75r : -2147483648 ≤ z74 ∧ z74 ≤ 2147483647 := g75
      refine tn_iload_n dX7_reckonAt_44 rfl 3 rfl ?_
      refine tn_aload_n dX7_reckonAt_45 rfl 1 rfl ?_
      refine tn_iload_n dX7_reckonAt_46 rfl 2 rfl ?_
      refine tn_iconst dX7_reckonAt_47 ?_
      refine tn_callV (M := m_X7_reckonAt) (pc := 48) (ix := 110) (ci := 7) (M' := m_X7_operand) (As := [.int (iI k), .int (iI 3)]) (rest := [.int (iI e), .int (iI z74), .ref xe]) dX7_reckonAt_48 ok_X7_operand im_X7_operand se_X7_operand ml7_110 np_X7_operand rfl rfl ha rfl (Nat.le_of_ble_eq_true rfl) (Nat.le_of_ble_eq_true rfl) rfl (k_X7_operand (d) (T := T) (σ := σ) (a := a) (k := k) (c := 3) ha (by omega) (by decide) hw (by rw [show σ.2.1 69 a = _ from hx66]; omega) (by omega)) (fun r76 T78 σ77 gt79 hp => ?_)
      obtain ⟨v81, rfl, rfl, rfl, f80⟩ := hp
      clear gt79
      show Tn _ _ 51 T σ [(3, .int (iI 0)), (0, .ref a), (1, .int (iI k)), (2, .int (iI e))] [.int (iI v81), .int (iI e), .int (iI z74), .ref xe] _
      refine tn_iload_n dX7_reckonAt_51 rfl 0 rfl ?_
      refine tn_callSN (M := m_X7_reckonAt) (pc := 52) (ix := 136) (M' := m_X11_reckon) (As := [.int (iI e), .int (iI v81), .int (iI 0)]) (rest := [.int (iI z74), .ref xe]) dX7_reckonAt_52 ok_X11_reckon stt_X11_reckon nl7_136 np_X11_reckon rfl (Nat.le_of_ble_eq_true rfl) (Nat.le_of_ble_eq_true rfl) rfl (k_X11_reckon (d + 1) (T := T) (σ := σ) (k := e) (x := v81) (y := 0) (by omega) (by omega) (by decide) hw ) (fun r82 T84 σ83 gt85 hp => ?_)
      obtain ⟨v87, rfl, rfl, rfl, f86⟩ := hp
      clear gt85
      show Tn _ _ 55 T σ [(3, .int (iI 0)), (0, .ref a), (1, .int (iI k)), (2, .int (iI e))] [.int (iI v87), .int (iI z74), .ref xe] _
      refine tn_callSN (M := m_X7_reckonAt) (pc := 55) (ix := 61) (M' := m_X11_put) (As := [.ref xe, .int (iI z74), .int (iI v87)]) (rest := []) dX7_reckonAt_55 ok_X11_put stt_X11_put nl7_61 np_X11_put rfl (Nat.le_of_ble_eq_true rfl) (Nat.le_of_ble_eq_true rfl) rfl (k_X11_put_x (d + 1) (T := T) (σ := σ) (x := xe) (i := z74) (y := v87) hk58i (by omega) (by omega) (by omega) hw (nh_k hk58 (by unfold HT; omega)) (vok_1 (by have q9 := hk58; omega) (by omega))) (fun r88 T90 σ89 gt91 hp => ?_)
      obtain ⟨rfl, rfl, w95, F96, f92, f93⟩ := hp
      clear gt91
      show Tn _ _ 58 T σ89 [(3, .int (iI 0)), (0, .ref a), (1, .int (iI k)), (2, .int (iI e))] [] _
      exact tn_vret rfl dX7_reckonAt_58 ⟨rfl, rfl, w95, (FrC.rfl.trans (FrC.sub F96 (by decide))), (CHX.rfl.trans (CHX.sub f92 (by simp) (by simp) (by simp)))⟩
end
section
set_option maxHeartbeats 1000000 in
set_option maxRecDepth 20000 in
theorem k_X7_callFrom_h (d : Nat) {T : CT} {σ : MS} {a : Nat} {k : Int} {xa : Nat} {xb : Nat} {xc : Nat} {xd : Nat} {xe : Nat} {xf : Nat} (ha : OB T a 7) (hta : (T a).1 = 37) (h_k : -2147483648 ≤ k ∧ k ≤ 2147483647) (hw : WT T σ) (hxa : σ.2.1 59 a = (xa : Int)) (hxb : σ.2.1 60 a = (xb : Int)) (hxc : σ.2.1 61 a = (xc : Int)) (hxd : σ.2.1 62 a = (xd : Int)) (hxe : σ.2.1 63 a = (xe : Int)) (hxf : σ.2.1 64 a = (xf : Int)) (hn : 0 ≤ σ.2.1 69 a) (h8 : σ.2.1 57 a ≤ 11184799) : Tn (d + 4) m_X7_callFrom 0 T σ [(0, .ref a), (1, .int (iI k))] [] (fun ro T2 σ2 => ro = none ∧ T = T2 ∧ WT T2 σ2 ∧ FrC T [57, 58, 69, 515] σ σ2 ∧ (CHX [(56, a), (57, a), (58, a), (65, a), (66, a), (67, a), (68, a), (69, a), (70, a), (71, a)] [xa, xb, xc, xd, xe, xf] [] σ σ2) ∧ (σ2.2.1 57 a = σ.2.1 57 a + 1) ∧ (FA a σ σ2)) := by
  refine tn_aload_n dX7_callFrom_0 rfl 0 rfl ?_
  refine tn_iload_n dX7_callFrom_1 rfl 1 rfl ?_
  refine tn_iconst dX7_callFrom_2 ?_
  refine tn_callV (M := m_X7_callFrom) (pc := 3) (ix := 110) (ci := 7) (M' := m_X7_operand) (As := [.int (iI k), .int (iI 3)]) (rest := []) dX7_callFrom_3 ok_X7_operand im_X7_operand se_X7_operand ml7_110 np_X7_operand rfl rfl ha rfl (Nat.le_of_ble_eq_true rfl) (Nat.le_of_ble_eq_true rfl) rfl (k_X7_operand (d + 1) (T := T) (σ := σ) (a := a) (k := k) (c := 3) ha (by omega) (by decide) hw (by rw [show σ.2.1 69 a = σ.2.1 69 a from rfl]; exact hn) (by omega)) (fun r1 T3 σ2 gt4 hp => ?_)
  obtain ⟨v6, rfl, rfl, rfl, f5⟩ := hp
  clear gt4
  show Tn _ _ 6 T σ [(0, .ref a), (1, .int (iI k))] [.int (iI v6)] _
  refine tn_istore_n (L' := [(2, .int (iI v6)), (0, .ref a), (1, .int (iI k))]) dX7_callFrom_6 rfl (by decide) rfl ?_
  refine tn_aload_n dX7_callFrom_7 rfl 1 rfl ?_
  refine tn_iload_n dX7_callFrom_8 rfl 2 rfl ?_
  refine tn_iconst dX7_callFrom_9 ?_
  refine tn_callV (M := m_X7_callFrom) (pc := 10) (ix := 110) (ci := 7) (M' := m_X7_operand) (As := [.int (iI k), .int (iI 5)]) (rest := []) dX7_callFrom_10 ok_X7_operand im_X7_operand se_X7_operand ml7_110 np_X7_operand rfl rfl ha rfl (Nat.le_of_ble_eq_true rfl) (Nat.le_of_ble_eq_true rfl) rfl (k_X7_operand (d + 1) (T := T) (σ := σ) (a := a) (k := k) (c := 5) ha (by omega) (by decide) hw (by rw [show σ.2.1 69 a = σ.2.1 69 a from rfl]; exact hn) (by omega)) (fun r7 T9 σ8 gt10 hp => ?_)
  obtain ⟨v12, rfl, rfl, rfl, f11⟩ := hp
  clear gt10
  show Tn _ _ 13 T σ [(2, .int (iI v6)), (0, .ref a), (1, .int (iI k))] [.int (iI v12)] _
  refine tn_istore_n (L' := [(3, .int (iI v12)), (2, .int (iI v6)), (0, .ref a), (1, .int (iI k))]) dX7_callFrom_13 rfl (by decide) rfl ?_
  refine tn_aload_n dX7_callFrom_14 rfl 2 rfl ?_
  refine tn_iload_n dX7_callFrom_15 rfl 3 rfl ?_
  refine tn_bipush dX7_callFrom_16 (by decide) ?_
  refine tn_callV (M := m_X7_callFrom) (pc := 18) (ix := 110) (ci := 7) (M' := m_X7_operand) (As := [.int (iI k), .int (iI 7)]) (rest := []) dX7_callFrom_18 ok_X7_operand im_X7_operand se_X7_operand ml7_110 np_X7_operand rfl rfl ha rfl (Nat.le_of_ble_eq_true rfl) (Nat.le_of_ble_eq_true rfl) rfl (k_X7_operand (d + 1) (T := T) (σ := σ) (a := a) (k := k) (c := 7) ha (by omega) (by decide) hw (by rw [show σ.2.1 69 a = σ.2.1 69 a from rfl]; exact hn) (by omega)) (fun r13 T15 σ14 gt16 hp => ?_)
  obtain ⟨v18, rfl, rfl, rfl, f17⟩ := hp
  clear gt16
  show Tn _ _ 21 T σ [(3, .int (iI v12)), (2, .int (iI v6)), (0, .ref a), (1, .int (iI k))] [.int (iI v18)] _
  refine tn_istore (L' := [(4, .int (iI v18)), (3, .int (iI v12)), (2, .int (iI v6)), (0, .ref a), (1, .int (iI k))]) dX7_callFrom_21 (by decide) rfl ?_
  refine tn_aload_n dX7_callFrom_23 rfl 3 rfl ?_
  refine tn_iload_n dX7_callFrom_24 rfl 4 rfl ?_
  refine tn_bipush dX7_callFrom_25 (by decide) ?_
  refine tn_callV (M := m_X7_callFrom) (pc := 27) (ix := 110) (ci := 7) (M' := m_X7_operand) (As := [.int (iI k), .int (iI 9)]) (rest := []) dX7_callFrom_27 ok_X7_operand im_X7_operand se_X7_operand ml7_110 np_X7_operand rfl rfl ha rfl (Nat.le_of_ble_eq_true rfl) (Nat.le_of_ble_eq_true rfl) rfl (k_X7_operand (d + 1) (T := T) (σ := σ) (a := a) (k := k) (c := 9) ha (by omega) (by decide) hw (by rw [show σ.2.1 69 a = σ.2.1 69 a from rfl]; exact hn) (by omega)) (fun r19 T21 σ20 gt22 hp => ?_)
  obtain ⟨v24, rfl, rfl, rfl, f23⟩ := hp
  clear gt22
  show Tn _ _ 30 T σ [(4, .int (iI v18)), (3, .int (iI v12)), (2, .int (iI v6)), (0, .ref a), (1, .int (iI k))] [.int (iI v24)] _
  refine tn_istore (L' := [(5, .int (iI v24)), (4, .int (iI v18)), (3, .int (iI v12)), (2, .int (iI v6)), (0, .ref a), (1, .int (iI k))]) dX7_callFrom_30 (by decide) rfl ?_
  refine tn_aload_n dX7_callFrom_32 rfl 4 rfl ?_
  refine tn_aload_n dX7_callFrom_33 rfl 4 rfl ?_
  refine tn_getI (ci := 7) (i := 2) (n := 57) (t := σ.2.1 57 a) dX7_callFrom_34 rfl lay_7 (by decide) fl7_65 ha rfl rfl (rfl) ?_
  have g25 : ((0 : Int) ≤ σ.2.1 57 a ∧ σ.2.1 57 a ≤ 11184800) ∧ ((T a).1 = 57 → σ.2.1 57 a ≤ 8) := wf_57 hw ha
  have g25x := g25.2
  replace g25 := g25.1
  clear g25x
  refine tn_iconst dX7_callFrom_37 ?_
  refine tn_iadd dX7_callFrom_38 ?_
  refine tn_aload_n dX7_callFrom_39 rfl 4 rfl ?_
  obtain ⟨xq30, hx31, hk32a, hk32b⟩ := (wf_69 hw ha).resolve_left (by have q9 := hn; omega)
  have hk32 : (T xq30).1 = 50 := hk32b (by omega)
  clear hk32a hk32b
  have hk32o : OB T xq30 1 := ⟨by omega, by rw [hk32]; rfl, by omega⟩
  refine tn_getR (ci := 7) (i := 14) (n := 69) (x := xq30) dX7_callFrom_40 rfl lay_7 (by decide) fl7_72 ha rfl rfl (hx31) ?_
  refine tn_iload_n dX7_callFrom_43 rfl 5 rfl ?_
  refine tn_iconst dX7_callFrom_44 ?_
  refine tn_callV (M := m_X7_callFrom) (pc := 45) (ix := 117) (ci := 1) (M' := m_X1_get) (As := [.int (iI k), .int (iI 2)]) (rest := [.int (iI ((σ.2.1 57 a) + 1)), .ref a]) dX7_callFrom_45 ok_X1_get im_X1_get se_X1_get ml7_117 np_X1_get rfl rfl hk32o rfl (Nat.le_of_ble_eq_true rfl) (Nat.le_of_ble_eq_true rfl) rfl (k_X1_get (d + 2) (T := T) (σ := σ) (a := xq30) (k := k) (c := 2) hk32o (by omega) (by decide) hw (by omega)) (fun r33 T35 σ34 gt36 hp => ?_)
  obtain ⟨v38, rfl, rfl, rfl, f37⟩ := hp
  clear gt36
  show Tn _ _ 48 T σ [(5, .int (iI v24)), (4, .int (iI v18)), (3, .int (iI v12)), (2, .int (iI v6)), (0, .ref a), (1, .int (iI k))] [.int (iI v38), .int (iI ((σ.2.1 57 a) + 1)), .ref a] _
  obtain ⟨hk41, hl42⟩ : AR T xa 15 9 9 := ar_of (wf_59 hw ha) hxa
  have hk41i : IA T xa := by unfold IA; omega
  obtain ⟨hk45, hl46⟩ : AR T xb 1 9 9 := ar_of (wf_60 hw ha) hxb
  have hk45i : IA T xb := by unfold IA; omega
  obtain ⟨hl50, hk49a, hk49b⟩ := ex_at (wf_61 hw ha) hxc
  have hk49 : (T xc).1 = 1 := hk49b (by omega)
  clear hk49a hk49b
  have hk49i : IA T xc := by unfold IA; omega
  obtain ⟨hk53, hl54⟩ : AR T xd 1 108 108 := ar_of (wf_62 hw ha) hxd
  have hk53i : IA T xd := by unfold IA; omega
  obtain ⟨hk57, hl58⟩ : AR T xe 1 1728 1728 := ar_of (wf_63 hw ha) hxe
  have hk57i : IA T xe := by unfold IA; omega
  obtain ⟨hk61, hl62⟩ : AR T xf 1 200 200 := ar_of (wf_64 hw ha) hxf
  have hk61i : IA T xf := by unfold IA; omega
  refine tn_callV (M := m_X7_callFrom) (pc := 48) (ix := 53) (ci := 7) (M' := m_X7_openCall) (As := [.int (iI ((σ.2.1 57 a) + 1)), .int (iI v38)]) (rest := []) dX7_callFrom_48 ok_X7_openCall im_X7_openCall se_X7_openCall ml7_53 np_X7_openCall rfl rfl ha rfl (Nat.le_of_ble_eq_true rfl) (Nat.le_of_ble_eq_true rfl) rfl (k_X7_openCall_h (d) (T := T) (σ := σ) (a := a) (c := (σ.2.1 57 a) + 1) (r := v38) (xa := xa) (xb := xb) (xc := xc) (xd := xd) (xe := xe) (xf := xf) ha hta (by omega) (by omega) hw (hxa) (hxb) (hxc) (hxd) (hxe) (hxf) (by omega)) (fun r63 T65 σ64 gt66 hp => ?_)
  obtain ⟨rfl, rfl, w71, F72, f67, f68, f69⟩ := hp
  clear gt66
  show Tn _ _ 51 T σ64 [(5, .int (iI v24)), (4, .int (iI v18)), (3, .int (iI v12)), (2, .int (iI v6)), (0, .ref a), (1, .int (iI k))] [] _
  refine tn_aload_n dX7_callFrom_51 rfl 4 rfl ?_
  refine tn_getR (ci := 7) (i := 8) (n := 63) (x := xe) dX7_callFrom_52 rfl lay_7 (by decide) fl7_24 ha rfl rfl (rc_F F72 (Or.inl (by decide)) (by decide) (hxe)) ?_
  refine tn_aload_n dX7_callFrom_55 rfl 4 rfl ?_
  refine tn_iconst dX7_callFrom_56 ?_
  refine tn_callV (M := m_X7_callFrom) (pc := 57) (ix := 57) (ci := 7) (M' := m_X7_homeOfParam) (As := [.int (iI 0)]) (rest := [.ref xe]) dX7_callFrom_57 ok_X7_homeOfParam im_X7_homeOfParam se_X7_homeOfParam ml7_57 np_X7_homeOfParam rfl rfl ha rfl (Nat.le_of_ble_eq_true rfl) (Nat.le_of_ble_eq_true rfl) rfl (k_X7_homeOfParam (d) (T := T) (σ := σ64) (a := a) (p1 := 0) ha (by decide) w71 ) (fun r73 T75 σ74 gt76 hp => ?_)
  obtain ⟨v78, rfl, rfl, rfl, f77⟩ := hp
  clear gt76
  show Tn _ _ 60 T σ64 [(5, .int (iI v24)), (4, .int (iI v18)), (3, .int (iI v12)), (2, .int (iI v6)), (0, .ref a), (1, .int (iI k))] [.int (iI v78), .ref xe] _
  refine tn_iload_n dX7_callFrom_60 rfl 3 rfl ?_
  refine tn_callSN (M := m_X7_callFrom) (pc := 61) (ix := 61) (M' := m_X11_put) (As := [.ref xe, .int (iI v78), .int (iI v6)]) (rest := []) dX7_callFrom_61 ok_X11_put stt_X11_put nl7_61 np_X11_put rfl (Nat.le_of_ble_eq_true rfl) (Nat.le_of_ble_eq_true rfl) rfl (k_X11_put_x (d + 2) (T := T) (σ := σ64) (x := xe) (i := v78) (y := v6) hk57i (by omega) (by omega) (by omega) w71 (nh_k hk57 (by unfold HT; omega)) (vok_1 (by have q9 := hk57; omega) (by omega))) (fun r79 T81 σ80 gt82 hp => ?_)
  obtain ⟨rfl, rfl, w86, F87, f83, f84⟩ := hp
  clear gt82
  show Tn _ _ 64 T σ80 [(5, .int (iI v24)), (4, .int (iI v18)), (3, .int (iI v12)), (2, .int (iI v6)), (0, .ref a), (1, .int (iI k))] [] _
  refine tn_aload_n dX7_callFrom_64 rfl 4 rfl ?_
  refine tn_getR (ci := 7) (i := 8) (n := 63) (x := xe) dX7_callFrom_65 rfl lay_7 (by decide) fl7_24 ha rfl rfl (rc_F F87 (Or.inl (by decide)) (by decide) (rc_F F72 (Or.inl (by decide)) (by decide) (hxe))) ?_
  refine tn_aload_n dX7_callFrom_68 rfl 4 rfl ?_
  refine tn_iconst dX7_callFrom_69 ?_
  refine tn_callV (M := m_X7_callFrom) (pc := 70) (ix := 57) (ci := 7) (M' := m_X7_homeOfParam) (As := [.int (iI 1)]) (rest := [.ref xe]) dX7_callFrom_70 ok_X7_homeOfParam im_X7_homeOfParam se_X7_homeOfParam ml7_57 np_X7_homeOfParam rfl rfl ha rfl (Nat.le_of_ble_eq_true rfl) (Nat.le_of_ble_eq_true rfl) rfl (k_X7_homeOfParam (d) (T := T) (σ := σ80) (a := a) (p1 := 1) ha (by decide) w86 ) (fun r88 T90 σ89 gt91 hp => ?_)
  obtain ⟨v93, rfl, rfl, rfl, f92⟩ := hp
  clear gt91
  show Tn _ _ 73 T σ80 [(5, .int (iI v24)), (4, .int (iI v18)), (3, .int (iI v12)), (2, .int (iI v6)), (0, .ref a), (1, .int (iI k))] [.int (iI v93), .ref xe] _
  refine tn_iload_n dX7_callFrom_73 rfl 2 rfl ?_
  refine tn_callSN (M := m_X7_callFrom) (pc := 74) (ix := 61) (M' := m_X11_put) (As := [.ref xe, .int (iI v93), .int (iI v12)]) (rest := []) dX7_callFrom_74 ok_X11_put stt_X11_put nl7_61 np_X11_put rfl (Nat.le_of_ble_eq_true rfl) (Nat.le_of_ble_eq_true rfl) rfl (k_X11_put_x (d + 2) (T := T) (σ := σ80) (x := xe) (i := v93) (y := v12) hk57i (by omega) (by omega) (by omega) w86 (nh_k hk57 (by unfold HT; omega)) (vok_1 (by have q9 := hk57; omega) (by omega))) (fun r94 T96 σ95 gt97 hp => ?_)
  obtain ⟨rfl, rfl, w101, F102, f98, f99⟩ := hp
  clear gt97
  show Tn _ _ 77 T σ95 [(5, .int (iI v24)), (4, .int (iI v18)), (3, .int (iI v12)), (2, .int (iI v6)), (0, .ref a), (1, .int (iI k))] [] _
  refine tn_aload_n dX7_callFrom_77 rfl 4 rfl ?_
  refine tn_getR (ci := 7) (i := 8) (n := 63) (x := xe) dX7_callFrom_78 rfl lay_7 (by decide) fl7_24 ha rfl rfl (rc_F F102 (Or.inl (by decide)) (by decide) (rc_F F87 (Or.inl (by decide)) (by decide) (rc_F F72 (Or.inl (by decide)) (by decide) (hxe)))) ?_
  refine tn_aload_n dX7_callFrom_81 rfl 4 rfl ?_
  refine tn_iconst dX7_callFrom_82 ?_
  refine tn_callV (M := m_X7_callFrom) (pc := 83) (ix := 57) (ci := 7) (M' := m_X7_homeOfParam) (As := [.int (iI 2)]) (rest := [.ref xe]) dX7_callFrom_83 ok_X7_homeOfParam im_X7_homeOfParam se_X7_homeOfParam ml7_57 np_X7_homeOfParam rfl rfl ha rfl (Nat.le_of_ble_eq_true rfl) (Nat.le_of_ble_eq_true rfl) rfl (k_X7_homeOfParam (d) (T := T) (σ := σ95) (a := a) (p1 := 2) ha (by decide) w101 ) (fun r103 T105 σ104 gt106 hp => ?_)
  obtain ⟨v108, rfl, rfl, rfl, f107⟩ := hp
  clear gt106
  show Tn _ _ 86 T σ95 [(5, .int (iI v24)), (4, .int (iI v18)), (3, .int (iI v12)), (2, .int (iI v6)), (0, .ref a), (1, .int (iI k))] [.int (iI v108), .ref xe] _
  refine tn_iload dX7_callFrom_86 1 rfl ?_
  refine tn_callSN (M := m_X7_callFrom) (pc := 88) (ix := 61) (M' := m_X11_put) (As := [.ref xe, .int (iI v108), .int (iI v18)]) (rest := []) dX7_callFrom_88 ok_X11_put stt_X11_put nl7_61 np_X11_put rfl (Nat.le_of_ble_eq_true rfl) (Nat.le_of_ble_eq_true rfl) rfl (k_X11_put_x (d + 2) (T := T) (σ := σ95) (x := xe) (i := v108) (y := v18) hk57i (by omega) (by omega) (by omega) w101 (nh_k hk57 (by unfold HT; omega)) (vok_1 (by have q9 := hk57; omega) (by omega))) (fun r109 T111 σ110 gt112 hp => ?_)
  obtain ⟨rfl, rfl, w116, F117, f113, f114⟩ := hp
  clear gt112
  show Tn _ _ 91 T σ110 [(5, .int (iI v24)), (4, .int (iI v18)), (3, .int (iI v12)), (2, .int (iI v6)), (0, .ref a), (1, .int (iI k))] [] _
  refine tn_aload_n dX7_callFrom_91 rfl 4 rfl ?_
  refine tn_getR (ci := 7) (i := 8) (n := 63) (x := xe) dX7_callFrom_92 rfl lay_7 (by decide) fl7_24 ha rfl rfl (rc_F F117 (Or.inl (by decide)) (by decide) (rc_F F102 (Or.inl (by decide)) (by decide) (rc_F F87 (Or.inl (by decide)) (by decide) (rc_F F72 (Or.inl (by decide)) (by decide) (hxe))))) ?_
  refine tn_aload_n dX7_callFrom_95 rfl 4 rfl ?_
  refine tn_iconst dX7_callFrom_96 ?_
  refine tn_callV (M := m_X7_callFrom) (pc := 97) (ix := 57) (ci := 7) (M' := m_X7_homeOfParam) (As := [.int (iI 3)]) (rest := [.ref xe]) dX7_callFrom_97 ok_X7_homeOfParam im_X7_homeOfParam se_X7_homeOfParam ml7_57 np_X7_homeOfParam rfl rfl ha rfl (Nat.le_of_ble_eq_true rfl) (Nat.le_of_ble_eq_true rfl) rfl (k_X7_homeOfParam (d) (T := T) (σ := σ110) (a := a) (p1 := 3) ha (by decide) w116 ) (fun r118 T120 σ119 gt121 hp => ?_)
  obtain ⟨v123, rfl, rfl, rfl, f122⟩ := hp
  clear gt121
  show Tn _ _ 100 T σ110 [(5, .int (iI v24)), (4, .int (iI v18)), (3, .int (iI v12)), (2, .int (iI v6)), (0, .ref a), (1, .int (iI k))] [.int (iI v123), .ref xe] _
  refine tn_iload dX7_callFrom_100 0 rfl ?_
  refine tn_callSN (M := m_X7_callFrom) (pc := 102) (ix := 61) (M' := m_X11_put) (As := [.ref xe, .int (iI v123), .int (iI v24)]) (rest := []) dX7_callFrom_102 ok_X11_put stt_X11_put nl7_61 np_X11_put rfl (Nat.le_of_ble_eq_true rfl) (Nat.le_of_ble_eq_true rfl) rfl (k_X11_put_x (d + 2) (T := T) (σ := σ110) (x := xe) (i := v123) (y := v24) hk57i (by omega) (by omega) (by omega) w116 (nh_k hk57 (by unfold HT; omega)) (vok_1 (by have q9 := hk57; omega) (by omega))) (fun r124 T126 σ125 gt127 hp => ?_)
  obtain ⟨rfl, rfl, w131, F132, f128, f129⟩ := hp
  clear gt127
  show Tn _ _ 105 T σ125 [(5, .int (iI v24)), (4, .int (iI v18)), (3, .int (iI v12)), (2, .int (iI v6)), (0, .ref a), (1, .int (iI k))] [] _
  have q133 : σ125.2.1 57 a = σ64.2.1 57 a := rc_F F132 (Or.inl (by decide)) (by decide) (rc_F F117 (Or.inl (by decide)) (by decide) (rc_F F102 (Or.inl (by decide)) (by decide) (rc_F F87 (Or.inl (by decide)) (by decide) (rfl))))
  exact tn_vret rfl dX7_callFrom_105 ⟨rfl, rfl, w131, (((((FrC.rfl.trans (FrC.sub F72 (by decide))).trans (FrC.sub F87 (by decide))).trans (FrC.sub F102 (by decide))).trans (FrC.sub F117 (by decide))).trans (FrC.sub F132 (by decide))), (((((CHX.rfl.trans (CHX.sub f67 (by simp) (by simp) (by simp))).trans (CHX.sub f83 (by simp) (by simp) (by simp))).trans (CHX.sub f98 (by simp) (by simp) (by simp))).trans (CHX.sub f113 (by simp) (by simp) (by simp))).trans (CHX.sub f128 (by simp) (by simp) (by simp))), by omega, (((((FA.rfl.trans f69).trans (FA.of F87 (by decide))).trans (FA.of F102 (by decide))).trans (FA.of F117 (by decide))).trans (FA.of F132 (by decide)))⟩
end
section
set_option maxHeartbeats 1000000 in
set_option maxRecDepth 20000 in
theorem k_X7_callFrom_h57 (d : Nat) {T : CT} {σ : MS} {a : Nat} {k : Int} {xa : Nat} {xb : Nat} {xc : Nat} {xd : Nat} {xe : Nat} {xf : Nat} (ha : OB T a 7) (hta : (T a).1 = 57) (h_k : -2147483648 ≤ k ∧ k ≤ 2147483647) (hw : WT T σ) (hxa : σ.2.1 59 a = (xa : Int)) (hxb : σ.2.1 60 a = (xb : Int)) (hxc : σ.2.1 61 a = (xc : Int)) (hxd : σ.2.1 62 a = (xd : Int)) (hxe : σ.2.1 63 a = (xe : Int)) (hxf : σ.2.1 64 a = (xf : Int)) (hn : 0 ≤ σ.2.1 69 a) (h8 : σ.2.1 57 a ≤ 7) (hd : 0 ≤ σ.2.1 58 a ∧ σ.2.1 58 a ≤ 100) : Tn (d + 4) m_X7_callFrom 0 T σ [(0, .ref a), (1, .int (iI k))] [] (fun ro T2 σ2 => ro = none ∧ T = T2 ∧ WT T2 σ2 ∧ FrC T [57, 58, 69, 515] σ σ2 ∧ (CHX [(56, a), (57, a), (58, a), (65, a), (66, a), (67, a), (68, a), (69, a), (70, a), (71, a)] [xa, xb, xc, xd, xe, xf] [] σ σ2) ∧ (σ2.2.1 57 a = σ.2.1 57 a + 1) ∧ (σ2.2.1 58 a = σ.2.1 58 a + 1) ∧ (FA a σ σ2)) := by
  refine tn_aload_n dX7_callFrom_0 rfl 0 rfl ?_
  refine tn_iload_n dX7_callFrom_1 rfl 1 rfl ?_
  refine tn_iconst dX7_callFrom_2 ?_
  refine tn_callV (M := m_X7_callFrom) (pc := 3) (ix := 110) (ci := 7) (M' := m_X7_operand) (As := [.int (iI k), .int (iI 3)]) (rest := []) dX7_callFrom_3 ok_X7_operand im_X7_operand se_X7_operand ml7_110 np_X7_operand rfl rfl ha rfl (Nat.le_of_ble_eq_true rfl) (Nat.le_of_ble_eq_true rfl) rfl (k_X7_operand (d + 1) (T := T) (σ := σ) (a := a) (k := k) (c := 3) ha (by omega) (by decide) hw (by rw [show σ.2.1 69 a = σ.2.1 69 a from rfl]; exact hn) (by omega)) (fun r1 T3 σ2 gt4 hp => ?_)
  obtain ⟨v6, rfl, rfl, rfl, f5⟩ := hp
  clear gt4
  show Tn _ _ 6 T σ [(0, .ref a), (1, .int (iI k))] [.int (iI v6)] _
  refine tn_istore_n (L' := [(2, .int (iI v6)), (0, .ref a), (1, .int (iI k))]) dX7_callFrom_6 rfl (by decide) rfl ?_
  refine tn_aload_n dX7_callFrom_7 rfl 1 rfl ?_
  refine tn_iload_n dX7_callFrom_8 rfl 2 rfl ?_
  refine tn_iconst dX7_callFrom_9 ?_
  refine tn_callV (M := m_X7_callFrom) (pc := 10) (ix := 110) (ci := 7) (M' := m_X7_operand) (As := [.int (iI k), .int (iI 5)]) (rest := []) dX7_callFrom_10 ok_X7_operand im_X7_operand se_X7_operand ml7_110 np_X7_operand rfl rfl ha rfl (Nat.le_of_ble_eq_true rfl) (Nat.le_of_ble_eq_true rfl) rfl (k_X7_operand (d + 1) (T := T) (σ := σ) (a := a) (k := k) (c := 5) ha (by omega) (by decide) hw (by rw [show σ.2.1 69 a = σ.2.1 69 a from rfl]; exact hn) (by omega)) (fun r7 T9 σ8 gt10 hp => ?_)
  obtain ⟨v12, rfl, rfl, rfl, f11⟩ := hp
  clear gt10
  show Tn _ _ 13 T σ [(2, .int (iI v6)), (0, .ref a), (1, .int (iI k))] [.int (iI v12)] _
  refine tn_istore_n (L' := [(3, .int (iI v12)), (2, .int (iI v6)), (0, .ref a), (1, .int (iI k))]) dX7_callFrom_13 rfl (by decide) rfl ?_
  refine tn_aload_n dX7_callFrom_14 rfl 2 rfl ?_
  refine tn_iload_n dX7_callFrom_15 rfl 3 rfl ?_
  refine tn_bipush dX7_callFrom_16 (by decide) ?_
  refine tn_callV (M := m_X7_callFrom) (pc := 18) (ix := 110) (ci := 7) (M' := m_X7_operand) (As := [.int (iI k), .int (iI 7)]) (rest := []) dX7_callFrom_18 ok_X7_operand im_X7_operand se_X7_operand ml7_110 np_X7_operand rfl rfl ha rfl (Nat.le_of_ble_eq_true rfl) (Nat.le_of_ble_eq_true rfl) rfl (k_X7_operand (d + 1) (T := T) (σ := σ) (a := a) (k := k) (c := 7) ha (by omega) (by decide) hw (by rw [show σ.2.1 69 a = σ.2.1 69 a from rfl]; exact hn) (by omega)) (fun r13 T15 σ14 gt16 hp => ?_)
  obtain ⟨v18, rfl, rfl, rfl, f17⟩ := hp
  clear gt16
  show Tn _ _ 21 T σ [(3, .int (iI v12)), (2, .int (iI v6)), (0, .ref a), (1, .int (iI k))] [.int (iI v18)] _
  refine tn_istore (L' := [(4, .int (iI v18)), (3, .int (iI v12)), (2, .int (iI v6)), (0, .ref a), (1, .int (iI k))]) dX7_callFrom_21 (by decide) rfl ?_
  refine tn_aload_n dX7_callFrom_23 rfl 3 rfl ?_
  refine tn_iload_n dX7_callFrom_24 rfl 4 rfl ?_
  refine tn_bipush dX7_callFrom_25 (by decide) ?_
  refine tn_callV (M := m_X7_callFrom) (pc := 27) (ix := 110) (ci := 7) (M' := m_X7_operand) (As := [.int (iI k), .int (iI 9)]) (rest := []) dX7_callFrom_27 ok_X7_operand im_X7_operand se_X7_operand ml7_110 np_X7_operand rfl rfl ha rfl (Nat.le_of_ble_eq_true rfl) (Nat.le_of_ble_eq_true rfl) rfl (k_X7_operand (d + 1) (T := T) (σ := σ) (a := a) (k := k) (c := 9) ha (by omega) (by decide) hw (by rw [show σ.2.1 69 a = σ.2.1 69 a from rfl]; exact hn) (by omega)) (fun r19 T21 σ20 gt22 hp => ?_)
  obtain ⟨v24, rfl, rfl, rfl, f23⟩ := hp
  clear gt22
  show Tn _ _ 30 T σ [(4, .int (iI v18)), (3, .int (iI v12)), (2, .int (iI v6)), (0, .ref a), (1, .int (iI k))] [.int (iI v24)] _
  refine tn_istore (L' := [(5, .int (iI v24)), (4, .int (iI v18)), (3, .int (iI v12)), (2, .int (iI v6)), (0, .ref a), (1, .int (iI k))]) dX7_callFrom_30 (by decide) rfl ?_
  refine tn_aload_n dX7_callFrom_32 rfl 4 rfl ?_
  refine tn_aload_n dX7_callFrom_33 rfl 4 rfl ?_
  refine tn_getI (ci := 7) (i := 2) (n := 57) (t := σ.2.1 57 a) dX7_callFrom_34 rfl lay_7 (by decide) fl7_65 ha rfl rfl (rfl) ?_
  have g25 : ((0 : Int) ≤ σ.2.1 57 a ∧ σ.2.1 57 a ≤ 11184800) ∧ ((T a).1 = 57 → σ.2.1 57 a ≤ 8) := wf_57 hw ha
  have g25x := g25.2
  replace g25 := g25.1
  have g25x := g25x hta
  refine tn_iconst dX7_callFrom_37 ?_
  refine tn_iadd dX7_callFrom_38 ?_
  refine tn_aload_n dX7_callFrom_39 rfl 4 rfl ?_
  obtain ⟨xq30, hx31, hk32a, hk32b⟩ := (wf_69 hw ha).resolve_left (by have q9 := hn; omega)
  have hk32 : (T xq30).1 = 31 := hk32a (by omega)
  clear hk32a hk32b
  have hk32o : OB T xq30 1 := ⟨by omega, by rw [hk32]; rfl, by omega⟩
  refine tn_getR (ci := 7) (i := 14) (n := 69) (x := xq30) dX7_callFrom_40 rfl lay_7 (by decide) fl7_72 ha rfl rfl (hx31) ?_
  refine tn_iload_n dX7_callFrom_43 rfl 5 rfl ?_
  refine tn_iconst dX7_callFrom_44 ?_
  refine tn_callV (M := m_X7_callFrom) (pc := 45) (ix := 117) (ci := 1) (M' := m_X1_get) (As := [.int (iI k), .int (iI 2)]) (rest := [.int (iI ((σ.2.1 57 a) + 1)), .ref a]) dX7_callFrom_45 ok_X1_get im_X1_get se_X1_get ml7_117 np_X1_get rfl rfl hk32o rfl (Nat.le_of_ble_eq_true rfl) (Nat.le_of_ble_eq_true rfl) rfl (k_X1_get (d + 2) (T := T) (σ := σ) (a := xq30) (k := k) (c := 2) hk32o (by omega) (by decide) hw (by omega)) (fun r33 T35 σ34 gt36 hp => ?_)
  obtain ⟨v38, rfl, rfl, rfl, f37⟩ := hp
  clear gt36
  show Tn _ _ 48 T σ [(5, .int (iI v24)), (4, .int (iI v18)), (3, .int (iI v12)), (2, .int (iI v6)), (0, .ref a), (1, .int (iI k))] [.int (iI v38), .int (iI ((σ.2.1 57 a) + 1)), .ref a] _
  obtain ⟨hk41, hl42⟩ : AR T xa 15 9 9 := ar_of (wf_59 hw ha) hxa
  have hk41i : IA T xa := by unfold IA; omega
  obtain ⟨hk45, hl46⟩ : AR T xb 1 9 9 := ar_of (wf_60 hw ha) hxb
  have hk45i : IA T xb := by unfold IA; omega
  obtain ⟨hl50, hk49a, hk49b⟩ := ex_at (wf_61 hw ha) hxc
  have hk49 : (T xc).1 = 14 := hk49a (by omega)
  clear hk49a hk49b
  have hk49i : IA T xc := by unfold IA; omega
  obtain ⟨hk53, hl54⟩ : AR T xd 1 108 108 := ar_of (wf_62 hw ha) hxd
  have hk53i : IA T xd := by unfold IA; omega
  obtain ⟨hk57, hl58⟩ : AR T xe 1 1728 1728 := ar_of (wf_63 hw ha) hxe
  have hk57i : IA T xe := by unfold IA; omega
  obtain ⟨hk61, hl62⟩ : AR T xf 1 200 200 := ar_of (wf_64 hw ha) hxf
  have hk61i : IA T xf := by unfold IA; omega
  refine tn_callV (M := m_X7_callFrom) (pc := 48) (ix := 53) (ci := 7) (M' := m_X7_openCall) (As := [.int (iI ((σ.2.1 57 a) + 1)), .int (iI v38)]) (rest := []) dX7_callFrom_48 ok_X7_openCall im_X7_openCall se_X7_openCall ml7_53 np_X7_openCall rfl rfl ha rfl (Nat.le_of_ble_eq_true rfl) (Nat.le_of_ble_eq_true rfl) rfl (k_X7_openCall_h57 (d) (T := T) (σ := σ) (a := a) (c := (σ.2.1 57 a) + 1) (r := v38) (xa := xa) (xb := xb) (xc := xc) (xd := xd) (xe := xe) (xf := xf) ha hta (by omega) (by omega) hw (hxa) (hxb) (hxc) (hxd) (hxe) (hxf) (by omega) (by rw [show σ.2.1 58 a = σ.2.1 58 a from rfl]; omega)) (fun r63 T65 σ64 gt66 hp => ?_)
  obtain ⟨rfl, rfl, w72, F73, f67, f68, f69, f70⟩ := hp
  clear gt66
  show Tn _ _ 51 T σ64 [(5, .int (iI v24)), (4, .int (iI v18)), (3, .int (iI v12)), (2, .int (iI v6)), (0, .ref a), (1, .int (iI k))] [] _
  refine tn_aload_n dX7_callFrom_51 rfl 4 rfl ?_
  refine tn_getR (ci := 7) (i := 8) (n := 63) (x := xe) dX7_callFrom_52 rfl lay_7 (by decide) fl7_24 ha rfl rfl (rc_F F73 (Or.inl (by decide)) (by decide) (hxe)) ?_
  refine tn_aload_n dX7_callFrom_55 rfl 4 rfl ?_
  refine tn_iconst dX7_callFrom_56 ?_
  refine tn_callV (M := m_X7_callFrom) (pc := 57) (ix := 57) (ci := 7) (M' := m_X7_homeOfParam) (As := [.int (iI 0)]) (rest := [.ref xe]) dX7_callFrom_57 ok_X7_homeOfParam im_X7_homeOfParam se_X7_homeOfParam ml7_57 np_X7_homeOfParam rfl rfl ha rfl (Nat.le_of_ble_eq_true rfl) (Nat.le_of_ble_eq_true rfl) rfl (k_X7_homeOfParam (d) (T := T) (σ := σ64) (a := a) (p1 := 0) ha (by decide) w72 ) (fun r74 T76 σ75 gt77 hp => ?_)
  obtain ⟨v79, rfl, rfl, rfl, f78⟩ := hp
  clear gt77
  show Tn _ _ 60 T σ64 [(5, .int (iI v24)), (4, .int (iI v18)), (3, .int (iI v12)), (2, .int (iI v6)), (0, .ref a), (1, .int (iI k))] [.int (iI v79), .ref xe] _
  refine tn_iload_n dX7_callFrom_60 rfl 3 rfl ?_
  refine tn_callSN (M := m_X7_callFrom) (pc := 61) (ix := 61) (M' := m_X11_put) (As := [.ref xe, .int (iI v79), .int (iI v6)]) (rest := []) dX7_callFrom_61 ok_X11_put stt_X11_put nl7_61 np_X11_put rfl (Nat.le_of_ble_eq_true rfl) (Nat.le_of_ble_eq_true rfl) rfl (k_X11_put_x (d + 2) (T := T) (σ := σ64) (x := xe) (i := v79) (y := v6) hk57i (by omega) (by omega) (by omega) w72 (nh_k hk57 (by unfold HT; omega)) (vok_1 (by have q9 := hk57; omega) (by omega))) (fun r80 T82 σ81 gt83 hp => ?_)
  obtain ⟨rfl, rfl, w87, F88, f84, f85⟩ := hp
  clear gt83
  show Tn _ _ 64 T σ81 [(5, .int (iI v24)), (4, .int (iI v18)), (3, .int (iI v12)), (2, .int (iI v6)), (0, .ref a), (1, .int (iI k))] [] _
  refine tn_aload_n dX7_callFrom_64 rfl 4 rfl ?_
  refine tn_getR (ci := 7) (i := 8) (n := 63) (x := xe) dX7_callFrom_65 rfl lay_7 (by decide) fl7_24 ha rfl rfl (rc_F F88 (Or.inl (by decide)) (by decide) (rc_F F73 (Or.inl (by decide)) (by decide) (hxe))) ?_
  refine tn_aload_n dX7_callFrom_68 rfl 4 rfl ?_
  refine tn_iconst dX7_callFrom_69 ?_
  refine tn_callV (M := m_X7_callFrom) (pc := 70) (ix := 57) (ci := 7) (M' := m_X7_homeOfParam) (As := [.int (iI 1)]) (rest := [.ref xe]) dX7_callFrom_70 ok_X7_homeOfParam im_X7_homeOfParam se_X7_homeOfParam ml7_57 np_X7_homeOfParam rfl rfl ha rfl (Nat.le_of_ble_eq_true rfl) (Nat.le_of_ble_eq_true rfl) rfl (k_X7_homeOfParam (d) (T := T) (σ := σ81) (a := a) (p1 := 1) ha (by decide) w87 ) (fun r89 T91 σ90 gt92 hp => ?_)
  obtain ⟨v94, rfl, rfl, rfl, f93⟩ := hp
  clear gt92
  show Tn _ _ 73 T σ81 [(5, .int (iI v24)), (4, .int (iI v18)), (3, .int (iI v12)), (2, .int (iI v6)), (0, .ref a), (1, .int (iI k))] [.int (iI v94), .ref xe] _
  refine tn_iload_n dX7_callFrom_73 rfl 2 rfl ?_
  refine tn_callSN (M := m_X7_callFrom) (pc := 74) (ix := 61) (M' := m_X11_put) (As := [.ref xe, .int (iI v94), .int (iI v12)]) (rest := []) dX7_callFrom_74 ok_X11_put stt_X11_put nl7_61 np_X11_put rfl (Nat.le_of_ble_eq_true rfl) (Nat.le_of_ble_eq_true rfl) rfl (k_X11_put_x (d + 2) (T := T) (σ := σ81) (x := xe) (i := v94) (y := v12) hk57i (by omega) (by omega) (by omega) w87 (nh_k hk57 (by unfold HT; omega)) (vok_1 (by have q9 := hk57; omega) (by omega))) (fun r95 T97 σ96 gt98 hp => ?_)
  obtain ⟨rfl, rfl, w102, F103, f99, f100⟩ := hp
  clear gt98
  show Tn _ _ 77 T σ96 [(5, .int (iI v24)), (4, .int (iI v18)), (3, .int (iI v12)), (2, .int (iI v6)), (0, .ref a), (1, .int (iI k))] [] _
  refine tn_aload_n dX7_callFrom_77 rfl 4 rfl ?_
  refine tn_getR (ci := 7) (i := 8) (n := 63) (x := xe) dX7_callFrom_78 rfl lay_7 (by decide) fl7_24 ha rfl rfl (rc_F F103 (Or.inl (by decide)) (by decide) (rc_F F88 (Or.inl (by decide)) (by decide) (rc_F F73 (Or.inl (by decide)) (by decide) (hxe)))) ?_
  refine tn_aload_n dX7_callFrom_81 rfl 4 rfl ?_
  refine tn_iconst dX7_callFrom_82 ?_
  refine tn_callV (M := m_X7_callFrom) (pc := 83) (ix := 57) (ci := 7) (M' := m_X7_homeOfParam) (As := [.int (iI 2)]) (rest := [.ref xe]) dX7_callFrom_83 ok_X7_homeOfParam im_X7_homeOfParam se_X7_homeOfParam ml7_57 np_X7_homeOfParam rfl rfl ha rfl (Nat.le_of_ble_eq_true rfl) (Nat.le_of_ble_eq_true rfl) rfl (k_X7_homeOfParam (d) (T := T) (σ := σ96) (a := a) (p1 := 2) ha (by decide) w102 ) (fun r104 T106 σ105 gt107 hp => ?_)
  obtain ⟨v109, rfl, rfl, rfl, f108⟩ := hp
  clear gt107
  show Tn _ _ 86 T σ96 [(5, .int (iI v24)), (4, .int (iI v18)), (3, .int (iI v12)), (2, .int (iI v6)), (0, .ref a), (1, .int (iI k))] [.int (iI v109), .ref xe] _
  refine tn_iload dX7_callFrom_86 1 rfl ?_
  refine tn_callSN (M := m_X7_callFrom) (pc := 88) (ix := 61) (M' := m_X11_put) (As := [.ref xe, .int (iI v109), .int (iI v18)]) (rest := []) dX7_callFrom_88 ok_X11_put stt_X11_put nl7_61 np_X11_put rfl (Nat.le_of_ble_eq_true rfl) (Nat.le_of_ble_eq_true rfl) rfl (k_X11_put_x (d + 2) (T := T) (σ := σ96) (x := xe) (i := v109) (y := v18) hk57i (by omega) (by omega) (by omega) w102 (nh_k hk57 (by unfold HT; omega)) (vok_1 (by have q9 := hk57; omega) (by omega))) (fun r110 T112 σ111 gt113 hp => ?_)
  obtain ⟨rfl, rfl, w117, F118, f114, f115⟩ := hp
  clear gt113
  show Tn _ _ 91 T σ111 [(5, .int (iI v24)), (4, .int (iI v18)), (3, .int (iI v12)), (2, .int (iI v6)), (0, .ref a), (1, .int (iI k))] [] _
  refine tn_aload_n dX7_callFrom_91 rfl 4 rfl ?_
  refine tn_getR (ci := 7) (i := 8) (n := 63) (x := xe) dX7_callFrom_92 rfl lay_7 (by decide) fl7_24 ha rfl rfl (rc_F F118 (Or.inl (by decide)) (by decide) (rc_F F103 (Or.inl (by decide)) (by decide) (rc_F F88 (Or.inl (by decide)) (by decide) (rc_F F73 (Or.inl (by decide)) (by decide) (hxe))))) ?_
  refine tn_aload_n dX7_callFrom_95 rfl 4 rfl ?_
  refine tn_iconst dX7_callFrom_96 ?_
  refine tn_callV (M := m_X7_callFrom) (pc := 97) (ix := 57) (ci := 7) (M' := m_X7_homeOfParam) (As := [.int (iI 3)]) (rest := [.ref xe]) dX7_callFrom_97 ok_X7_homeOfParam im_X7_homeOfParam se_X7_homeOfParam ml7_57 np_X7_homeOfParam rfl rfl ha rfl (Nat.le_of_ble_eq_true rfl) (Nat.le_of_ble_eq_true rfl) rfl (k_X7_homeOfParam (d) (T := T) (σ := σ111) (a := a) (p1 := 3) ha (by decide) w117 ) (fun r119 T121 σ120 gt122 hp => ?_)
  obtain ⟨v124, rfl, rfl, rfl, f123⟩ := hp
  clear gt122
  show Tn _ _ 100 T σ111 [(5, .int (iI v24)), (4, .int (iI v18)), (3, .int (iI v12)), (2, .int (iI v6)), (0, .ref a), (1, .int (iI k))] [.int (iI v124), .ref xe] _
  refine tn_iload dX7_callFrom_100 0 rfl ?_
  refine tn_callSN (M := m_X7_callFrom) (pc := 102) (ix := 61) (M' := m_X11_put) (As := [.ref xe, .int (iI v124), .int (iI v24)]) (rest := []) dX7_callFrom_102 ok_X11_put stt_X11_put nl7_61 np_X11_put rfl (Nat.le_of_ble_eq_true rfl) (Nat.le_of_ble_eq_true rfl) rfl (k_X11_put_x (d + 2) (T := T) (σ := σ111) (x := xe) (i := v124) (y := v24) hk57i (by omega) (by omega) (by omega) w117 (nh_k hk57 (by unfold HT; omega)) (vok_1 (by have q9 := hk57; omega) (by omega))) (fun r125 T127 σ126 gt128 hp => ?_)
  obtain ⟨rfl, rfl, w132, F133, f129, f130⟩ := hp
  clear gt128
  show Tn _ _ 105 T σ126 [(5, .int (iI v24)), (4, .int (iI v18)), (3, .int (iI v12)), (2, .int (iI v6)), (0, .ref a), (1, .int (iI k))] [] _
  have q134 : σ126.2.1 57 a = σ64.2.1 57 a := rc_F F133 (Or.inl (by decide)) (by decide) (rc_F F118 (Or.inl (by decide)) (by decide) (rc_F F103 (Or.inl (by decide)) (by decide) (rc_F F88 (Or.inl (by decide)) (by decide) (rfl))))
  have q135 : σ126.2.1 58 a = σ64.2.1 58 a := rc_F F133 (Or.inl (by decide)) (by decide) (rc_F F118 (Or.inl (by decide)) (by decide) (rc_F F103 (Or.inl (by decide)) (by decide) (rc_F F88 (Or.inl (by decide)) (by decide) (rfl))))
  exact tn_vret rfl dX7_callFrom_105 ⟨rfl, rfl, w132, (((((FrC.rfl.trans (FrC.sub F73 (by decide))).trans (FrC.sub F88 (by decide))).trans (FrC.sub F103 (by decide))).trans (FrC.sub F118 (by decide))).trans (FrC.sub F133 (by decide))), (((((CHX.rfl.trans (CHX.sub f67 (by simp) (by simp) (by simp))).trans (CHX.sub f84 (by simp) (by simp) (by simp))).trans (CHX.sub f99 (by simp) (by simp) (by simp))).trans (CHX.sub f114 (by simp) (by simp) (by simp))).trans (CHX.sub f129 (by simp) (by simp) (by simp))), by omega, by omega, (((((FA.rfl.trans f70).trans (FA.of F88 (by decide))).trans (FA.of F103 (by decide))).trans (FA.of F118 (by decide))).trans (FA.of F133 (by decide)))⟩
end
section
set_option maxHeartbeats 1000000 in
set_option maxRecDepth 20000 in
theorem k_X7_giveBack_h (d : Nat) {T : CT} {σ : MS} {a : Nat} {n : Int} {xa : Nat} {xb : Nat} {xc : Nat} {xd : Nat} {xe : Nat} {xf : Nat} (ha : OB T a 7) (hta : (T a).1 = 37) (h_n : -2147483648 ≤ n ∧ n ≤ 2147483647) (hw : WT T σ) (hxa : σ.2.1 59 a = (xa : Int)) (hxb : σ.2.1 60 a = (xb : Int)) (hxc : σ.2.1 61 a = (xc : Int)) (hxd : σ.2.1 62 a = (xd : Int)) (hxe : σ.2.1 63 a = (xe : Int)) (hxf : σ.2.1 64 a = (xf : Int)) : Tn (d + 3) m_X7_giveBack 0 T σ [(0, .ref a), (1, .int (iI n))] [] (fun ro T2 σ2 => ro = none ∧ T = T2 ∧ WT T2 σ2 ∧ FrC T [56, 57, 58, 68, 69] σ σ2 ∧ (CHX [(56, a), (57, a), (58, a), (65, a), (66, a), (67, a), (68, a), (69, a), (70, a), (71, a)] [xa, xb, xc, xd, xe, xf] [] σ σ2) ∧ (σ2.2.1 57 a ≤ σ.2.1 57 a) ∧ (FA a σ σ2)) := by
  refine tn_aload_n dX7_giveBack_0 rfl 0 rfl ?_
  refine tn_dup dX7_giveBack_1 rfl ?_
  refine tn_getI (ci := 7) (i := 3) (n := 58) (t := σ.2.1 58 a) dX7_giveBack_2 rfl lay_7 (by decide) fl7_38 ha rfl rfl (rfl) ?_
  have g1 : ((-2147483648 : Int) ≤ σ.2.1 58 a ∧ σ.2.1 58 a ≤ 2147483647) := wf_58 hw ha
  refine tn_aload_n dX7_giveBack_5 rfl 0 rfl ?_
  refine tn_aload_n dX7_giveBack_6 rfl 0 rfl ?_
  refine tn_getI (ci := 7) (i := 2) (n := 57) (t := σ.2.1 57 a) dX7_giveBack_7 rfl lay_7 (by decide) fl7_65 ha rfl rfl (rfl) ?_
  have g2 : ((0 : Int) ≤ σ.2.1 57 a ∧ σ.2.1 57 a ≤ 11184800) ∧ ((T a).1 = 57 → σ.2.1 57 a ≤ 8) := wf_57 hw ha
  have g2x := g2.2
  replace g2 := g2.1
  clear g2x
  refine tn_callV (M := m_X7_giveBack) (pc := 10) (ix := 140) (ci := 7) (M' := m_X7_chainOf) (As := [.int (iI (σ.2.1 57 a))]) (rest := [.int (iI (σ.2.1 58 a)), .ref a]) dX7_giveBack_10 ok_X7_chainOf im_X7_chainOf se_X7_chainOf ml7_140 np_X7_chainOf rfl rfl ha rfl (Nat.le_of_ble_eq_true rfl) (Nat.le_of_ble_eq_true rfl) rfl (k_X7_chainOf (d) (T := T) (σ := σ) (a := a) (p1 := σ.2.1 57 a) ha (by omega) hw ) (fun r3 T5 σ4 gt6 hp => ?_)
  obtain ⟨v8, rfl, rfl, rfl, f7⟩ := hp
  clear gt6
  show Tn _ _ 13 T σ [(0, .ref a), (1, .int (iI n))] [.int (iI v8), .int (iI (σ.2.1 58 a)), .ref a] _
  refine tn_isub dX7_giveBack_13 ?_
  refine tn_any (fun z9 g10 => ?_)
  have g10r : -2147483648 ≤ z9 ∧ z9 ≤ 2147483647 := g10
  refine tn_putV (ci := 7) (i := 3) (n := 58) (r := false) (v := z9) tyX7 tyX7_ok nmX7 dX7_giveBack_14 rfl lay_7 (by decide) fl7_38 rfl (tyX7_ok 3 (by decide)) rfl rfl rfl ha rfl rfl ?_
  refine tn_aload_n dX7_giveBack_17 rfl 0 rfl ?_
  refine tn_getI (ci := 7) (i := 2) (n := 57) (t := σ.2.1 57 a) dX7_giveBack_18 rfl lay_7 (by decide) fl7_65 ha rfl rfl (rc_o (by decide) (rfl)) ?_
  refine tn_if_ne (tgt := 40) dX7_giveBack_21 (by decide) ⟨by omega, by omega⟩ (fun h11 => ?_) (fun h11 => ?_)
  · refine tn_aload_n dX7_giveBack_40 rfl 0 rfl ?_
    refine tn_dup dX7_giveBack_41 rfl ?_
    refine tn_getI (ci := 7) (i := 2) (n := 57) (t := σ.2.1 57 a) dX7_giveBack_42 rfl lay_7 (by decide) fl7_65 ha rfl rfl (rc_o (by decide) (rfl)) ?_
    refine tn_iconst dX7_giveBack_45 ?_
    refine tn_isub dX7_giveBack_46 ?_
    refine tn_putV (ci := 7) (i := 2) (n := 57) (r := false) (v := (σ.2.1 57 a) - 1) tyX7 tyX7_ok nmX7 dX7_giveBack_47 rfl lay_7 (by decide) fl7_65 rfl (tyX7_ok 2 (by decide)) rfl rfl rfl ha rfl rfl ?_
    refine tn_aload_n dX7_giveBack_50 rfl 0 rfl ?_
    refine tn_aload_n dX7_giveBack_51 rfl 0 rfl ?_
    refine tn_aload_n dX7_giveBack_52 rfl 0 rfl ?_
    obtain ⟨hk14, hl15⟩ : AR T xa 15 9 9 := ar_of (wf_59 hw ha) hxa
    have hk14i : IA T xa := by unfold IA; omega
    refine tn_getR (ci := 7) (i := 4) (n := 59) (x := xa) dX7_giveBack_53 rfl lay_7 (by decide) fl7_9 ha rfl rfl (rc_o (by decide) (rc_o (by decide) (hxa))) ?_
    refine tn_aload_n dX7_giveBack_56 rfl 0 rfl ?_
    refine tn_getI (ci := 7) (i := 2) (n := 57) (t := (σ.2.1 57 a) - 1) dX7_giveBack_57 rfl lay_7 (by decide) fl7_65 ha rfl rfl (ra_eq) ?_
    refine tn_callSN (M := m_X7_giveBack) (pc := 60) (ix := 91) (M' := m_X11_at) (As := [.ref xa, .int (iI ((σ.2.1 57 a) - 1))]) (rest := [.ref a, .ref a]) dX7_giveBack_60 ok_X11_at stt_X11_at nl7_91 np_X11_at rfl (Nat.le_of_ble_eq_true rfl) (Nat.le_of_ble_eq_true rfl) rfl (k_X11_at (d + 1) (T := T) (σ := (sA 57 a ((σ.2.1 57 a) - 1) (sA 58 a (z9) σ))) (x := xa) (i := (σ.2.1 57 a) - 1) hk14i (by omega) (by omega) ((hw.put (by decide) (by decide) (fo_58 (by omega))).put (by decide) (by decide) (fo_57 ⟨by omega, by omega⟩)) ) (fun r16 T18 σ17 gt19 hp => ?_)
    obtain ⟨v23, rfl, rfl, rfl, f20, f21, f22⟩ := hp
    clear gt19
    clear f21
    show Tn _ _ 63 T (sA 57 a ((σ.2.1 57 a) - 1) (sA 58 a (z9) σ)) [(0, .ref a), (1, .int (iI n))] [.int (iI v23), .ref a, .ref a] _
    refine tn_callV (M := m_X7_giveBack) (pc := 63) (ix := 68) (ci := 7) (M' := m_X7_codeAt) (As := [.int (iI v23)]) (rest := [.ref a]) dX7_giveBack_63 ok_X7_codeAt im_X7_codeAt se_X7_codeAt ml7_68 np_X7_codeAt rfl rfl ha rfl (Nat.le_of_ble_eq_true rfl) (Nat.le_of_ble_eq_true rfl) rfl (k_X7_codeAt (d + 1) (T := T) (σ := (sA 57 a ((σ.2.1 57 a) - 1) (sA 58 a (z9) σ))) (a := a) (r := v23) ha (by omega) ((hw.put (by decide) (by decide) (fo_58 (by omega))).put (by decide) (by decide) (fo_57 ⟨by omega, by omega⟩)) ) (fun r24 T26 σ25 gt27 hp => ?_)
    obtain ⟨v29, rfl, rfl, rfl, rv30, f28⟩ := hp
    clear gt27
    clear f28
    rcases rv30 with rv30 | ⟨xq31, rfl, hk32⟩
    · show Tn _ _ 66 T (sA 57 a ((σ.2.1 57 a) - 1) (sA 58 a (z9) σ)) [(0, .ref a), (1, .int (iI n))] (vl true v29 :: [.ref a]) _
      rw [vl_null rv30]
      refine tn_putV (ci := 7) (i := 14) (n := 69) (r := true) (v := -1) tyX7 tyX7_ok nmX7 dX7_giveBack_66 rfl lay_7 (by decide) fl7_72 rfl (tyX7_ok 14 (by decide)) (vl_null (by decide)).symm rfl rfl ha rfl rfl ?_
      refine tn_aload_n dX7_giveBack_69 rfl 0 rfl ?_
      refine tn_getN (ci := 7) (i := 14) (n := 69) dX7_giveBack_70 rfl lay_7 (by decide) fl7_72 ha rfl rfl (by rw [ra_eq]; decide) ?_
      refine tn_ifnullN (tgt := 105) dX7_giveBack_73 (by decide) ?_
      refine tn_aload_n dX7_giveBack_105 rfl 0 rfl ?_
      obtain ⟨hk35, hl36⟩ : AR T xb 1 9 9 := ar_of (wf_60 hw ha) hxb
      have hk35i : IA T xb := by unfold IA; omega
      refine tn_getR (ci := 7) (i := 5) (n := 60) (x := xb) dX7_giveBack_106 rfl lay_7 (by decide) fl7_15 ha rfl rfl (rc_o (by decide) (rc_o (by decide) (rc_o (by decide) (hxb)))) ?_
      refine tn_aload_n dX7_giveBack_109 rfl 0 rfl ?_
      refine tn_getI (ci := 7) (i := 2) (n := 57) (t := (σ.2.1 57 a) - 1) dX7_giveBack_110 rfl lay_7 (by decide) fl7_65 ha rfl rfl (rc_o (by decide) (ra_eq)) ?_
      refine tn_aload_n dX7_giveBack_113 rfl 0 rfl ?_
      refine tn_callV (M := m_X7_giveBack) (pc := 114) (ix := 103) (ci := 7) (M' := m_X7_place) (As := []) (rest := [.int (iI ((σ.2.1 57 a) - 1)), .ref xb]) dX7_giveBack_114 ok_X7_place im_X7_place se_X7_place ml7_103 np_X7_place rfl rfl ha rfl (Nat.le_of_ble_eq_true rfl) (Nat.le_of_ble_eq_true rfl) rfl (k_X7_place (d) (T := T) (σ := (sA 69 a (-1) (sA 57 a ((σ.2.1 57 a) - 1) (sA 58 a (z9) σ)))) (a := a) ha (((hw.put (by decide) (by decide) (fo_58 (by omega))).put (by decide) (by decide) (fo_57 ⟨by omega, by omega⟩)).put (by decide) (by decide) (fo_69 (Or.inl (by decide)))) ) (fun r37 T39 σ38 gt40 hp => ?_)
      obtain ⟨v42, rfl, rfl, rfl, f41⟩ := hp
      clear gt40
      show Tn _ _ 117 T (sA 69 a (-1) (sA 57 a ((σ.2.1 57 a) - 1) (sA 58 a (z9) σ))) [(0, .ref a), (1, .int (iI n))] [.int (iI v42), .int (iI ((σ.2.1 57 a) - 1)), .ref xb] _
      refine tn_iconst dX7_giveBack_117 ?_
      refine tn_iadd dX7_giveBack_118 ?_
      refine tn_any (fun z43 g44 => ?_)
      have g44r : -2147483648 ≤ z43 ∧ z43 ≤ 2147483647 := g44
      refine tn_callSN (M := m_X7_giveBack) (pc := 119) (ix := 61) (M' := m_X11_put) (As := [.ref xb, .int (iI ((σ.2.1 57 a) - 1)), .int (iI z43)]) (rest := []) dX7_giveBack_119 ok_X11_put stt_X11_put nl7_61 np_X11_put rfl (Nat.le_of_ble_eq_true rfl) (Nat.le_of_ble_eq_true rfl) rfl (k_X11_put_x (d + 1) (T := T) (σ := (sA 69 a (-1) (sA 57 a ((σ.2.1 57 a) - 1) (sA 58 a (z9) σ)))) (x := xb) (i := (σ.2.1 57 a) - 1) (y := z43) hk35i (by omega) (by omega) (by omega) (((hw.put (by decide) (by decide) (fo_58 (by omega))).put (by decide) (by decide) (fo_57 ⟨by omega, by omega⟩)).put (by decide) (by decide) (fo_69 (Or.inl (by decide)))) (nh_k hk35 (by unfold HT; omega)) (vok_1 (by have q9 := hk35; omega) (by omega))) (fun r45 T47 σ46 gt48 hp => ?_)
      obtain ⟨rfl, rfl, w52, F53, f49, f50⟩ := hp
      clear gt48
      show Tn _ _ 122 T σ46 [(0, .ref a), (1, .int (iI n))] [] _
      have q54 : σ46.2.1 57 a = (σ.2.1 57 a) - 1 := rc_F F53 (Or.inl (by decide)) (by decide) (rc_o (by decide) (ra_eq))
      exact tn_vret rfl dX7_giveBack_122 ⟨rfl, rfl, w52, ((((FrC.rfl.put (by decide) (by decide)).put (by decide) (by decide)).put (by decide) (by decide)).trans (FrC.sub F53 (by decide))), ((((CHX.rfl.fld (by simp) (by decide)).fld (by simp) (by decide)).fld (by simp) (by decide)).trans (CHX.sub f49 (by simp) (by simp) (by simp))), by omega, ((((FA.rfl.put).put).put).trans (FA.of F53 (by decide)))⟩
    · show Tn _ _ 66 T (sA 57 a ((σ.2.1 57 a) - 1) (sA 58 a (z9) σ)) [(0, .ref a), (1, .int (iI n))] (vl true (xq31 : Int) :: [.ref a]) _
      rw [vl_ref rfl]
      have hk32o : OB T xq31 1 := hk32.1
      refine tn_putV (ci := 7) (i := 14) (n := 69) (r := true) (v := (xq31 : Int)) tyX7 tyX7_ok nmX7 dX7_giveBack_66 rfl lay_7 (by decide) fl7_72 rfl (tyX7_ok 14 (by decide)) (vl_ref rfl).symm rfl rfl ha rfl rfl ?_
      refine tn_aload_n dX7_giveBack_69 rfl 0 rfl ?_
      refine tn_getR (ci := 7) (i := 14) (n := 69) (x := xq31) dX7_giveBack_70 rfl lay_7 (by decide) fl7_72 ha rfl rfl (ra_eq) ?_
      refine tn_ifnull dX7_giveBack_73 ?_
      refine tn_aload_n dX7_giveBack_76 rfl 0 rfl ?_
      obtain ⟨hk57, hl58⟩ : AR T xe 1 1728 1728 := ar_of (wf_63 hw ha) hxe
      have hk57i : IA T xe := by unfold IA; omega
      refine tn_getR (ci := 7) (i := 8) (n := 63) (x := xe) dX7_giveBack_77 rfl lay_7 (by decide) fl7_24 ha rfl rfl (rc_o (by decide) (rc_o (by decide) (rc_o (by decide) (hxe)))) ?_
      refine tn_aload_n dX7_giveBack_80 rfl 0 rfl ?_
      refine tn_getI (ci := 7) (i := 2) (n := 57) (t := (σ.2.1 57 a) - 1) dX7_giveBack_81 rfl lay_7 (by decide) fl7_65 ha rfl rfl (rc_o (by decide) (ra_eq)) ?_
      refine tn_sipush dX7_giveBack_84 (by decide) ?_
      refine tn_imul dX7_giveBack_87 ?_
      refine tn_aload_n dX7_giveBack_88 rfl 0 rfl ?_
      refine tn_getR (ci := 7) (i := 14) (n := 69) (x := xq31) dX7_giveBack_89 rfl lay_7 (by decide) fl7_72 ha rfl rfl (ra_eq) ?_
      refine tn_aload_n dX7_giveBack_92 rfl 0 rfl ?_
      refine tn_callV (M := m_X7_giveBack) (pc := 93) (ix := 103) (ci := 7) (M' := m_X7_place) (As := []) (rest := [.ref xq31, .int (iI (((σ.2.1 57 a) - 1) * 192)), .ref xe]) dX7_giveBack_93 ok_X7_place im_X7_place se_X7_place ml7_103 np_X7_place rfl rfl ha rfl (Nat.le_of_ble_eq_true rfl) (Nat.le_of_ble_eq_true rfl) rfl (k_X7_place (d) (T := T) (σ := (sA 69 a ((xq31 : Int)) (sA 57 a ((σ.2.1 57 a) - 1) (sA 58 a (z9) σ)))) (a := a) ha (((hw.put (by decide) (by decide) (fo_58 (by omega))).put (by decide) (by decide) (fo_57 ⟨by omega, by omega⟩)).put (by decide) (by decide) (fo_69 (Or.inr ⟨_, rfl, hk32.2.1, hk32.2.2⟩))) ) (fun r59 T61 σ60 gt62 hp => ?_)
      obtain ⟨v64, rfl, rfl, rfl, f63⟩ := hp
      clear gt62
      show Tn _ _ 96 T (sA 69 a ((xq31 : Int)) (sA 57 a ((σ.2.1 57 a) - 1) (sA 58 a (z9) σ))) [(0, .ref a), (1, .int (iI n))] [.int (iI v64), .ref xq31, .int (iI (((σ.2.1 57 a) - 1) * 192)), .ref xe] _
      refine tn_iconst dX7_giveBack_96 ?_
      refine tn_callV (M := m_X7_giveBack) (pc := 97) (ix := 117) (ci := 1) (M' := m_X1_get) (As := [.int (iI v64), .int (iI 1)]) (rest := [.int (iI (((σ.2.1 57 a) - 1) * 192)), .ref xe]) dX7_giveBack_97 ok_X1_get im_X1_get se_X1_get ml7_117 np_X1_get rfl rfl hk32o rfl (Nat.le_of_ble_eq_true rfl) (Nat.le_of_ble_eq_true rfl) rfl (k_X1_get (d + 1) (T := T) (σ := (sA 69 a ((xq31 : Int)) (sA 57 a ((σ.2.1 57 a) - 1) (sA 58 a (z9) σ)))) (a := xq31) (k := v64) (c := 1) hk32o (by omega) (by decide) (((hw.put (by decide) (by decide) (fo_58 (by omega))).put (by decide) (by decide) (fo_57 ⟨by omega, by omega⟩)).put (by decide) (by decide) (fo_69 (Or.inr ⟨_, rfl, hk32.2.1, hk32.2.2⟩))) (by omega)) (fun r65 T67 σ66 gt68 hp => ?_)
      obtain ⟨v70, rfl, rfl, rfl, f69⟩ := hp
      clear gt68
      show Tn _ _ 100 T (sA 69 a ((xq31 : Int)) (sA 57 a ((σ.2.1 57 a) - 1) (sA 58 a (z9) σ))) [(0, .ref a), (1, .int (iI n))] [.int (iI v70), .int (iI (((σ.2.1 57 a) - 1) * 192)), .ref xe] _
      refine tn_iadd dX7_giveBack_100 ?_
      refine tn_any (fun z71 g72 => ?_)
      have g72r : -2147483648 ≤ z71 ∧ z71 ≤ 2147483647 := g72
      refine tn_iload_n dX7_giveBack_101 rfl 1 rfl ?_
      refine tn_callSN (M := m_X7_giveBack) (pc := 102) (ix := 61) (M' := m_X11_put) (As := [.ref xe, .int (iI z71), .int (iI n)]) (rest := []) dX7_giveBack_102 ok_X11_put stt_X11_put nl7_61 np_X11_put rfl (Nat.le_of_ble_eq_true rfl) (Nat.le_of_ble_eq_true rfl) rfl (k_X11_put_x (d + 1) (T := T) (σ := (sA 69 a ((xq31 : Int)) (sA 57 a ((σ.2.1 57 a) - 1) (sA 58 a (z9) σ)))) (x := xe) (i := z71) (y := n) hk57i (by omega) (by omega) (by omega) (((hw.put (by decide) (by decide) (fo_58 (by omega))).put (by decide) (by decide) (fo_57 ⟨by omega, by omega⟩)).put (by decide) (by decide) (fo_69 (Or.inr ⟨_, rfl, hk32.2.1, hk32.2.2⟩))) (nh_k hk57 (by unfold HT; omega)) (vok_1 (by have q9 := hk57; omega) (by omega))) (fun r73 T75 σ74 gt76 hp => ?_)
      obtain ⟨rfl, rfl, w80, F81, f77, f78⟩ := hp
      clear gt76
      show Tn _ _ 105 T σ74 [(0, .ref a), (1, .int (iI n))] [] _
      refine tn_aload_n dX7_giveBack_105 rfl 0 rfl ?_
      obtain ⟨hk84, hl85⟩ : AR T xb 1 9 9 := ar_of (wf_60 hw ha) hxb
      have hk84i : IA T xb := by unfold IA; omega
      refine tn_getR (ci := 7) (i := 5) (n := 60) (x := xb) dX7_giveBack_106 rfl lay_7 (by decide) fl7_15 ha rfl rfl (rc_F F81 (Or.inl (by decide)) (by decide) (rc_o (by decide) (rc_o (by decide) (rc_o (by decide) (hxb))))) ?_
      refine tn_aload_n dX7_giveBack_109 rfl 0 rfl ?_
      refine tn_getI (ci := 7) (i := 2) (n := 57) (t := (σ.2.1 57 a) - 1) dX7_giveBack_110 rfl lay_7 (by decide) fl7_65 ha rfl rfl (rc_F F81 (Or.inl (by decide)) (by decide) (rc_o (by decide) (ra_eq))) ?_
      refine tn_aload_n dX7_giveBack_113 rfl 0 rfl ?_
      refine tn_callV (M := m_X7_giveBack) (pc := 114) (ix := 103) (ci := 7) (M' := m_X7_place) (As := []) (rest := [.int (iI ((σ.2.1 57 a) - 1)), .ref xb]) dX7_giveBack_114 ok_X7_place im_X7_place se_X7_place ml7_103 np_X7_place rfl rfl ha rfl (Nat.le_of_ble_eq_true rfl) (Nat.le_of_ble_eq_true rfl) rfl (k_X7_place (d) (T := T) (σ := σ74) (a := a) ha w80 ) (fun r86 T88 σ87 gt89 hp => ?_)
      obtain ⟨v91, rfl, rfl, rfl, f90⟩ := hp
      clear gt89
      show Tn _ _ 117 T σ74 [(0, .ref a), (1, .int (iI n))] [.int (iI v91), .int (iI ((σ.2.1 57 a) - 1)), .ref xb] _
      refine tn_iconst dX7_giveBack_117 ?_
      refine tn_iadd dX7_giveBack_118 ?_
      refine tn_any (fun z92 g93 => ?_)
      have g93r : -2147483648 ≤ z92 ∧ z92 ≤ 2147483647 := g93
      refine tn_callSN (M := m_X7_giveBack) (pc := 119) (ix := 61) (M' := m_X11_put) (As := [.ref xb, .int (iI ((σ.2.1 57 a) - 1)), .int (iI z92)]) (rest := []) dX7_giveBack_119 ok_X11_put stt_X11_put nl7_61 np_X11_put rfl (Nat.le_of_ble_eq_true rfl) (Nat.le_of_ble_eq_true rfl) rfl (k_X11_put_x (d + 1) (T := T) (σ := σ74) (x := xb) (i := (σ.2.1 57 a) - 1) (y := z92) hk84i (by omega) (by omega) (by omega) w80 (nh_k hk84 (by unfold HT; omega)) (vok_1 (by have q9 := hk84; omega) (by omega))) (fun r94 T96 σ95 gt97 hp => ?_)
      obtain ⟨rfl, rfl, w101, F102, f98, f99⟩ := hp
      clear gt97
      show Tn _ _ 122 T σ95 [(0, .ref a), (1, .int (iI n))] [] _
      have q103 : σ95.2.1 57 a = (σ.2.1 57 a) - 1 := rc_F F102 (Or.inl (by decide)) (by decide) (rc_F F81 (Or.inl (by decide)) (by decide) (rc_o (by decide) (ra_eq)))
      exact tn_vret rfl dX7_giveBack_122 ⟨rfl, rfl, w101, (((((FrC.rfl.put (by decide) (by decide)).put (by decide) (by decide)).put (by decide) (by decide)).trans (FrC.sub F81 (by decide))).trans (FrC.sub F102 (by decide))), (((((CHX.rfl.fld (by simp) (by decide)).fld (by simp) (by decide)).fld (by simp) (by decide)).trans (CHX.sub f77 (by simp) (by simp) (by simp))).trans (CHX.sub f98 (by simp) (by simp) (by simp))), by omega, (((((FA.rfl.put).put).put).trans (FA.of F81 (by decide))).trans (FA.of F102 (by decide)))⟩
  · refine tn_aload_n dX7_giveBack_24 rfl 0 rfl ?_
    refine tn_iconst dX7_giveBack_25 ?_
    refine tn_putV (ci := 7) (i := 1) (n := 56) (r := false) (v := 2) tyX7 tyX7_ok nmX7 dX7_giveBack_26 rfl lay_7 (by decide) fl7_34 rfl (tyX7_ok 1 (by decide)) rfl rfl rfl ha rfl rfl ?_
    refine tn_aload_n dX7_giveBack_29 rfl 0 rfl ?_
    refine tn_iload_n dX7_giveBack_30 rfl 1 rfl ?_
    refine tn_putV (ci := 7) (i := 13) (n := 68) (r := false) (v := n) tyX7 tyX7_ok nmX7 dX7_giveBack_31 rfl lay_7 (by decide) fl7_50 rfl (tyX7_ok 13 (by decide)) rfl rfl rfl ha rfl rfl ?_
    refine tn_aload_n dX7_giveBack_34 rfl 0 rfl ?_
    refine tn_iconst dX7_giveBack_35 ?_
    refine tn_putV (ci := 7) (i := 3) (n := 58) (r := false) (v := 0) tyX7 tyX7_ok nmX7 dX7_giveBack_36 rfl lay_7 (by decide) fl7_38 rfl (tyX7_ok 3 (by decide)) rfl rfl rfl ha rfl rfl ?_
    have q104 : (sA 58 a (0) (sA 68 a (n) (sA 56 a (2) (sA 58 a (z9) σ)))).2.1 57 a = σ.2.1 57 a := rc_o (by decide) (rc_o (by decide) (rc_o (by decide) (rc_o (by decide) (rfl))))
    exact tn_vret rfl dX7_giveBack_39 ⟨rfl, rfl, ((((hw.put (by decide) (by decide) (fo_58 (by omega))).put (by decide) (by decide) (fo_56 (by omega))).put (by decide) (by decide) (fo_68 (by omega))).put (by decide) (by decide) (fo_58 (by omega))), ((((FrC.rfl.put (by decide) (by decide)).put (by decide) (by decide)).put (by decide) (by decide)).put (by decide) (by decide)), ((((CHX.rfl.fld (by simp) (by decide)).fld (by simp) (by decide)).fld (by simp) (by decide)).fld (by simp) (by decide)), by omega, ((((FA.rfl.put).put).put).put)⟩
end
section
set_option maxHeartbeats 1000000 in
set_option maxRecDepth 20000 in
theorem k_X7_giveBack_h57 (d : Nat) {T : CT} {σ : MS} {a : Nat} {n : Int} {xa : Nat} {xb : Nat} {xc : Nat} {xd : Nat} {xe : Nat} {xf : Nat} (ha : OB T a 7) (hta : (T a).1 = 57) (h_n : -2147483648 ≤ n ∧ n ≤ 2147483647) (hw : WT T σ) (hxa : σ.2.1 59 a = (xa : Int)) (hxb : σ.2.1 60 a = (xb : Int)) (hxc : σ.2.1 61 a = (xc : Int)) (hxd : σ.2.1 62 a = (xd : Int)) (hxe : σ.2.1 63 a = (xe : Int)) (hxf : σ.2.1 64 a = (xf : Int)) (hp : σ.2.1 58 a = σ.2.1 57 a + 1) : Tn (d + 3) m_X7_giveBack 0 T σ [(0, .ref a), (1, .int (iI n))] [] (fun ro T2 σ2 => ro = none ∧ T = T2 ∧ WT T2 σ2 ∧ FrC T [56, 57, 58, 68, 69] σ σ2 ∧ (CHX [(56, a), (57, a), (58, a), (65, a), (66, a), (67, a), (68, a), (69, a), (70, a), (71, a)] [xa, xb, xc, xd, xe, xf] [] σ σ2) ∧ (PIv σ2 a) ∧ (FA a σ σ2)) := by
  refine tn_aload_n dX7_giveBack_0 rfl 0 rfl ?_
  refine tn_dup dX7_giveBack_1 rfl ?_
  refine tn_getI (ci := 7) (i := 3) (n := 58) (t := σ.2.1 58 a) dX7_giveBack_2 rfl lay_7 (by decide) fl7_38 ha rfl rfl (rfl) ?_
  have g1 : ((-2147483648 : Int) ≤ σ.2.1 58 a ∧ σ.2.1 58 a ≤ 2147483647) := wf_58 hw ha
  refine tn_aload_n dX7_giveBack_5 rfl 0 rfl ?_
  refine tn_aload_n dX7_giveBack_6 rfl 0 rfl ?_
  refine tn_getI (ci := 7) (i := 2) (n := 57) (t := σ.2.1 57 a) dX7_giveBack_7 rfl lay_7 (by decide) fl7_65 ha rfl rfl (rfl) ?_
  have g2 : ((0 : Int) ≤ σ.2.1 57 a ∧ σ.2.1 57 a ≤ 11184800) ∧ ((T a).1 = 57 → σ.2.1 57 a ≤ 8) := wf_57 hw ha
  have g2x := g2.2
  replace g2 := g2.1
  have g2x := g2x hta
  refine tn_callV (M := m_X7_giveBack) (pc := 10) (ix := 140) (ci := 7) (M' := m_X7_chainOf) (As := [.int (iI (σ.2.1 57 a))]) (rest := [.int (iI (σ.2.1 58 a)), .ref a]) dX7_giveBack_10 ok_X7_chainOf im_X7_chainOf se_X7_chainOf ml7_140 np_X7_chainOf rfl rfl ha rfl (Nat.le_of_ble_eq_true rfl) (Nat.le_of_ble_eq_true rfl) rfl (k_X7_chainOf_57 (d) (T := T) (σ := σ) (a := a) (p1 := σ.2.1 57 a) ha hta (by omega) hw ) (fun r3 T5 σ4 gt6 hp => ?_)
  obtain ⟨v9, rfl, rfl, rfl, f7, f8⟩ := hp
  clear gt6
  show Tn _ _ 13 T σ [(0, .ref a), (1, .int (iI n))] [.int (iI v9), .int (iI (σ.2.1 58 a)), .ref a] _
  refine tn_isub dX7_giveBack_13 ?_
  refine tn_putV (ci := 7) (i := 3) (n := 58) (r := false) (v := (σ.2.1 58 a) - v9) tyX7 tyX7_ok nmX7 dX7_giveBack_14 rfl lay_7 (by decide) fl7_38 rfl (tyX7_ok 3 (by decide)) rfl rfl rfl ha rfl rfl ?_
  refine tn_aload_n dX7_giveBack_17 rfl 0 rfl ?_
  refine tn_getI (ci := 7) (i := 2) (n := 57) (t := σ.2.1 57 a) dX7_giveBack_18 rfl lay_7 (by decide) fl7_65 ha rfl rfl (rc_o (by decide) (rfl)) ?_
  refine tn_if_ne (tgt := 40) dX7_giveBack_21 (by decide) ⟨by omega, by omega⟩ (fun h10 => ?_) (fun h10 => ?_)
  · refine tn_aload_n dX7_giveBack_40 rfl 0 rfl ?_
    refine tn_dup dX7_giveBack_41 rfl ?_
    refine tn_getI (ci := 7) (i := 2) (n := 57) (t := σ.2.1 57 a) dX7_giveBack_42 rfl lay_7 (by decide) fl7_65 ha rfl rfl (rc_o (by decide) (rfl)) ?_
    refine tn_iconst dX7_giveBack_45 ?_
    refine tn_isub dX7_giveBack_46 ?_
    refine tn_putV (ci := 7) (i := 2) (n := 57) (r := false) (v := (σ.2.1 57 a) - 1) tyX7 tyX7_ok nmX7 dX7_giveBack_47 rfl lay_7 (by decide) fl7_65 rfl (tyX7_ok 2 (by decide)) rfl rfl rfl ha rfl rfl ?_
    refine tn_aload_n dX7_giveBack_50 rfl 0 rfl ?_
    refine tn_aload_n dX7_giveBack_51 rfl 0 rfl ?_
    refine tn_aload_n dX7_giveBack_52 rfl 0 rfl ?_
    obtain ⟨hk13, hl14⟩ : AR T xa 15 9 9 := ar_of (wf_59 hw ha) hxa
    have hk13i : IA T xa := by unfold IA; omega
    refine tn_getR (ci := 7) (i := 4) (n := 59) (x := xa) dX7_giveBack_53 rfl lay_7 (by decide) fl7_9 ha rfl rfl (rc_o (by decide) (rc_o (by decide) (hxa))) ?_
    refine tn_aload_n dX7_giveBack_56 rfl 0 rfl ?_
    refine tn_getI (ci := 7) (i := 2) (n := 57) (t := (σ.2.1 57 a) - 1) dX7_giveBack_57 rfl lay_7 (by decide) fl7_65 ha rfl rfl (ra_eq) ?_
    refine tn_callSN (M := m_X7_giveBack) (pc := 60) (ix := 91) (M' := m_X11_at) (As := [.ref xa, .int (iI ((σ.2.1 57 a) - 1))]) (rest := [.ref a, .ref a]) dX7_giveBack_60 ok_X11_at stt_X11_at nl7_91 np_X11_at rfl (Nat.le_of_ble_eq_true rfl) (Nat.le_of_ble_eq_true rfl) rfl (k_X11_at (d + 1) (T := T) (σ := (sA 57 a ((σ.2.1 57 a) - 1) (sA 58 a ((σ.2.1 58 a) - v9) σ))) (x := xa) (i := (σ.2.1 57 a) - 1) hk13i (by omega) (by omega) ((hw.put (by decide) (by decide) (fo_58 (by omega))).put (by decide) (by decide) (fo_57 ⟨by omega, by omega⟩)) ) (fun r15 T17 σ16 gt18 hp => ?_)
    obtain ⟨v22, rfl, rfl, rfl, f19, f20, f21⟩ := hp
    clear gt18
    clear f20
    show Tn _ _ 63 T (sA 57 a ((σ.2.1 57 a) - 1) (sA 58 a ((σ.2.1 58 a) - v9) σ)) [(0, .ref a), (1, .int (iI n))] [.int (iI v22), .ref a, .ref a] _
    refine tn_callV (M := m_X7_giveBack) (pc := 63) (ix := 68) (ci := 7) (M' := m_X7_codeAt) (As := [.int (iI v22)]) (rest := [.ref a]) dX7_giveBack_63 ok_X7_codeAt im_X7_codeAt se_X7_codeAt ml7_68 np_X7_codeAt rfl rfl ha rfl (Nat.le_of_ble_eq_true rfl) (Nat.le_of_ble_eq_true rfl) rfl (k_X7_codeAt (d + 1) (T := T) (σ := (sA 57 a ((σ.2.1 57 a) - 1) (sA 58 a ((σ.2.1 58 a) - v9) σ))) (a := a) (r := v22) ha (by omega) ((hw.put (by decide) (by decide) (fo_58 (by omega))).put (by decide) (by decide) (fo_57 ⟨by omega, by omega⟩)) ) (fun r23 T25 σ24 gt26 hp => ?_)
    obtain ⟨v28, rfl, rfl, rfl, rv29, f27⟩ := hp
    clear gt26
    clear f27
    rcases rv29 with rv29 | ⟨xq30, rfl, hk31⟩
    · show Tn _ _ 66 T (sA 57 a ((σ.2.1 57 a) - 1) (sA 58 a ((σ.2.1 58 a) - v9) σ)) [(0, .ref a), (1, .int (iI n))] (vl true v28 :: [.ref a]) _
      rw [vl_null rv29]
      refine tn_putV (ci := 7) (i := 14) (n := 69) (r := true) (v := -1) tyX7 tyX7_ok nmX7 dX7_giveBack_66 rfl lay_7 (by decide) fl7_72 rfl (tyX7_ok 14 (by decide)) (vl_null (by decide)).symm rfl rfl ha rfl rfl ?_
      refine tn_aload_n dX7_giveBack_69 rfl 0 rfl ?_
      refine tn_getN (ci := 7) (i := 14) (n := 69) dX7_giveBack_70 rfl lay_7 (by decide) fl7_72 ha rfl rfl (by rw [ra_eq]; decide) ?_
      refine tn_ifnullN (tgt := 105) dX7_giveBack_73 (by decide) ?_
      refine tn_aload_n dX7_giveBack_105 rfl 0 rfl ?_
      obtain ⟨hk34, hl35⟩ : AR T xb 1 9 9 := ar_of (wf_60 hw ha) hxb
      have hk34i : IA T xb := by unfold IA; omega
      refine tn_getR (ci := 7) (i := 5) (n := 60) (x := xb) dX7_giveBack_106 rfl lay_7 (by decide) fl7_15 ha rfl rfl (rc_o (by decide) (rc_o (by decide) (rc_o (by decide) (hxb)))) ?_
      refine tn_aload_n dX7_giveBack_109 rfl 0 rfl ?_
      refine tn_getI (ci := 7) (i := 2) (n := 57) (t := (σ.2.1 57 a) - 1) dX7_giveBack_110 rfl lay_7 (by decide) fl7_65 ha rfl rfl (rc_o (by decide) (ra_eq)) ?_
      refine tn_aload_n dX7_giveBack_113 rfl 0 rfl ?_
      refine tn_callV (M := m_X7_giveBack) (pc := 114) (ix := 103) (ci := 7) (M' := m_X7_place) (As := []) (rest := [.int (iI ((σ.2.1 57 a) - 1)), .ref xb]) dX7_giveBack_114 ok_X7_place im_X7_place se_X7_place ml7_103 np_X7_place rfl rfl ha rfl (Nat.le_of_ble_eq_true rfl) (Nat.le_of_ble_eq_true rfl) rfl (k_X7_place (d) (T := T) (σ := (sA 69 a (-1) (sA 57 a ((σ.2.1 57 a) - 1) (sA 58 a ((σ.2.1 58 a) - v9) σ)))) (a := a) ha (((hw.put (by decide) (by decide) (fo_58 (by omega))).put (by decide) (by decide) (fo_57 ⟨by omega, by omega⟩)).put (by decide) (by decide) (fo_69 (Or.inl (by decide)))) ) (fun r36 T38 σ37 gt39 hp => ?_)
      obtain ⟨v41, rfl, rfl, rfl, f40⟩ := hp
      clear gt39
      show Tn _ _ 117 T (sA 69 a (-1) (sA 57 a ((σ.2.1 57 a) - 1) (sA 58 a ((σ.2.1 58 a) - v9) σ))) [(0, .ref a), (1, .int (iI n))] [.int (iI v41), .int (iI ((σ.2.1 57 a) - 1)), .ref xb] _
      refine tn_iconst dX7_giveBack_117 ?_
      refine tn_iadd dX7_giveBack_118 ?_
      refine tn_any (fun z42 g43 => ?_)
      have g43r : -2147483648 ≤ z42 ∧ z42 ≤ 2147483647 := g43
      refine tn_callSN (M := m_X7_giveBack) (pc := 119) (ix := 61) (M' := m_X11_put) (As := [.ref xb, .int (iI ((σ.2.1 57 a) - 1)), .int (iI z42)]) (rest := []) dX7_giveBack_119 ok_X11_put stt_X11_put nl7_61 np_X11_put rfl (Nat.le_of_ble_eq_true rfl) (Nat.le_of_ble_eq_true rfl) rfl (k_X11_put_x (d + 1) (T := T) (σ := (sA 69 a (-1) (sA 57 a ((σ.2.1 57 a) - 1) (sA 58 a ((σ.2.1 58 a) - v9) σ)))) (x := xb) (i := (σ.2.1 57 a) - 1) (y := z42) hk34i (by omega) (by omega) (by omega) (((hw.put (by decide) (by decide) (fo_58 (by omega))).put (by decide) (by decide) (fo_57 ⟨by omega, by omega⟩)).put (by decide) (by decide) (fo_69 (Or.inl (by decide)))) (nh_k hk34 (by unfold HT; omega)) (vok_1 (by have q9 := hk34; omega) (by omega))) (fun r44 T46 σ45 gt47 hp => ?_)
      obtain ⟨rfl, rfl, w51, F52, f48, f49⟩ := hp
      clear gt47
      show Tn _ _ 122 T σ45 [(0, .ref a), (1, .int (iI n))] [] _
      have q53 : σ45.2.1 56 a = σ.2.1 56 a := rc_F F52 (Or.inl (by decide)) (by decide) (rc_o (by decide) (rc_o (by decide) (rc_o (by decide) (rfl))))
      have q54 : σ45.2.1 57 a = (σ.2.1 57 a) - 1 := rc_F F52 (Or.inl (by decide)) (by decide) (rc_o (by decide) (ra_eq))
      have q55 : σ45.2.1 58 a = (σ.2.1 58 a) - v9 := rc_F F52 (Or.inl (by decide)) (by decide) (rc_o (by decide) (rc_o (by decide) (ra_eq)))
      exact tn_vret rfl dX7_giveBack_122 ⟨rfl, rfl, w51, ((((FrC.rfl.put (by decide) (by decide)).put (by decide) (by decide)).put (by decide) (by decide)).trans (FrC.sub F52 (by decide))), ((((CHX.rfl.fld (by simp) (by decide)).fld (by simp) (by decide)).fld (by simp) (by decide)).trans (CHX.sub f48 (by simp) (by simp) (by simp))), by unfold PIv; rw [q53, q54, q55]; omega, ((((FA.rfl.put).put).put).trans (FA.of F52 (by decide)))⟩
    · show Tn _ _ 66 T (sA 57 a ((σ.2.1 57 a) - 1) (sA 58 a ((σ.2.1 58 a) - v9) σ)) [(0, .ref a), (1, .int (iI n))] (vl true (xq30 : Int) :: [.ref a]) _
      rw [vl_ref rfl]
      have hk31o : OB T xq30 1 := hk31.1
      refine tn_putV (ci := 7) (i := 14) (n := 69) (r := true) (v := (xq30 : Int)) tyX7 tyX7_ok nmX7 dX7_giveBack_66 rfl lay_7 (by decide) fl7_72 rfl (tyX7_ok 14 (by decide)) (vl_ref rfl).symm rfl rfl ha rfl rfl ?_
      refine tn_aload_n dX7_giveBack_69 rfl 0 rfl ?_
      refine tn_getR (ci := 7) (i := 14) (n := 69) (x := xq30) dX7_giveBack_70 rfl lay_7 (by decide) fl7_72 ha rfl rfl (ra_eq) ?_
      refine tn_ifnull dX7_giveBack_73 ?_
      refine tn_aload_n dX7_giveBack_76 rfl 0 rfl ?_
      obtain ⟨hk58, hl59⟩ : AR T xe 1 1728 1728 := ar_of (wf_63 hw ha) hxe
      have hk58i : IA T xe := by unfold IA; omega
      refine tn_getR (ci := 7) (i := 8) (n := 63) (x := xe) dX7_giveBack_77 rfl lay_7 (by decide) fl7_24 ha rfl rfl (rc_o (by decide) (rc_o (by decide) (rc_o (by decide) (hxe)))) ?_
      refine tn_aload_n dX7_giveBack_80 rfl 0 rfl ?_
      refine tn_getI (ci := 7) (i := 2) (n := 57) (t := (σ.2.1 57 a) - 1) dX7_giveBack_81 rfl lay_7 (by decide) fl7_65 ha rfl rfl (rc_o (by decide) (ra_eq)) ?_
      refine tn_sipush dX7_giveBack_84 (by decide) ?_
      refine tn_imul dX7_giveBack_87 ?_
      refine tn_aload_n dX7_giveBack_88 rfl 0 rfl ?_
      refine tn_getR (ci := 7) (i := 14) (n := 69) (x := xq30) dX7_giveBack_89 rfl lay_7 (by decide) fl7_72 ha rfl rfl (ra_eq) ?_
      refine tn_aload_n dX7_giveBack_92 rfl 0 rfl ?_
      refine tn_callV (M := m_X7_giveBack) (pc := 93) (ix := 103) (ci := 7) (M' := m_X7_place) (As := []) (rest := [.ref xq30, .int (iI (((σ.2.1 57 a) - 1) * 192)), .ref xe]) dX7_giveBack_93 ok_X7_place im_X7_place se_X7_place ml7_103 np_X7_place rfl rfl ha rfl (Nat.le_of_ble_eq_true rfl) (Nat.le_of_ble_eq_true rfl) rfl (k_X7_place (d) (T := T) (σ := (sA 69 a ((xq30 : Int)) (sA 57 a ((σ.2.1 57 a) - 1) (sA 58 a ((σ.2.1 58 a) - v9) σ)))) (a := a) ha (((hw.put (by decide) (by decide) (fo_58 (by omega))).put (by decide) (by decide) (fo_57 ⟨by omega, by omega⟩)).put (by decide) (by decide) (fo_69 (Or.inr ⟨_, rfl, hk31.2.1, hk31.2.2⟩))) ) (fun r60 T62 σ61 gt63 hp => ?_)
      obtain ⟨v65, rfl, rfl, rfl, f64⟩ := hp
      clear gt63
      show Tn _ _ 96 T (sA 69 a ((xq30 : Int)) (sA 57 a ((σ.2.1 57 a) - 1) (sA 58 a ((σ.2.1 58 a) - v9) σ))) [(0, .ref a), (1, .int (iI n))] [.int (iI v65), .ref xq30, .int (iI (((σ.2.1 57 a) - 1) * 192)), .ref xe] _
      refine tn_iconst dX7_giveBack_96 ?_
      refine tn_callV (M := m_X7_giveBack) (pc := 97) (ix := 117) (ci := 1) (M' := m_X1_get) (As := [.int (iI v65), .int (iI 1)]) (rest := [.int (iI (((σ.2.1 57 a) - 1) * 192)), .ref xe]) dX7_giveBack_97 ok_X1_get im_X1_get se_X1_get ml7_117 np_X1_get rfl rfl hk31o rfl (Nat.le_of_ble_eq_true rfl) (Nat.le_of_ble_eq_true rfl) rfl (k_X1_get (d + 1) (T := T) (σ := (sA 69 a ((xq30 : Int)) (sA 57 a ((σ.2.1 57 a) - 1) (sA 58 a ((σ.2.1 58 a) - v9) σ)))) (a := xq30) (k := v65) (c := 1) hk31o (by omega) (by decide) (((hw.put (by decide) (by decide) (fo_58 (by omega))).put (by decide) (by decide) (fo_57 ⟨by omega, by omega⟩)).put (by decide) (by decide) (fo_69 (Or.inr ⟨_, rfl, hk31.2.1, hk31.2.2⟩))) (by omega)) (fun r66 T68 σ67 gt69 hp => ?_)
      obtain ⟨v71, rfl, rfl, rfl, f70⟩ := hp
      clear gt69
      show Tn _ _ 100 T (sA 69 a ((xq30 : Int)) (sA 57 a ((σ.2.1 57 a) - 1) (sA 58 a ((σ.2.1 58 a) - v9) σ))) [(0, .ref a), (1, .int (iI n))] [.int (iI v71), .int (iI (((σ.2.1 57 a) - 1) * 192)), .ref xe] _
      refine tn_iadd dX7_giveBack_100 ?_
      refine tn_any (fun z72 g73 => ?_)
      have g73r : -2147483648 ≤ z72 ∧ z72 ≤ 2147483647 := g73
      refine tn_iload_n dX7_giveBack_101 rfl 1 rfl ?_
      refine tn_callSN (M := m_X7_giveBack) (pc := 102) (ix := 61) (M' := m_X11_put) (As := [.ref xe, .int (iI z72), .int (iI n)]) (rest := []) dX7_giveBack_102 ok_X11_put stt_X11_put nl7_61 np_X11_put rfl (Nat.le_of_ble_eq_true rfl) (Nat.le_of_ble_eq_true rfl) rfl (k_X11_put_x (d + 1) (T := T) (σ := (sA 69 a ((xq30 : Int)) (sA 57 a ((σ.2.1 57 a) - 1) (sA 58 a ((σ.2.1 58 a) - v9) σ)))) (x := xe) (i := z72) (y := n) hk58i (by omega) (by omega) (by omega) (((hw.put (by decide) (by decide) (fo_58 (by omega))).put (by decide) (by decide) (fo_57 ⟨by omega, by omega⟩)).put (by decide) (by decide) (fo_69 (Or.inr ⟨_, rfl, hk31.2.1, hk31.2.2⟩))) (nh_k hk58 (by unfold HT; omega)) (vok_1 (by have q9 := hk58; omega) (by omega))) (fun r74 T76 σ75 gt77 hp => ?_)
      obtain ⟨rfl, rfl, w81, F82, f78, f79⟩ := hp
      clear gt77
      show Tn _ _ 105 T σ75 [(0, .ref a), (1, .int (iI n))] [] _
      refine tn_aload_n dX7_giveBack_105 rfl 0 rfl ?_
      obtain ⟨hk85, hl86⟩ : AR T xb 1 9 9 := ar_of (wf_60 hw ha) hxb
      have hk85i : IA T xb := by unfold IA; omega
      refine tn_getR (ci := 7) (i := 5) (n := 60) (x := xb) dX7_giveBack_106 rfl lay_7 (by decide) fl7_15 ha rfl rfl (rc_F F82 (Or.inl (by decide)) (by decide) (rc_o (by decide) (rc_o (by decide) (rc_o (by decide) (hxb))))) ?_
      refine tn_aload_n dX7_giveBack_109 rfl 0 rfl ?_
      refine tn_getI (ci := 7) (i := 2) (n := 57) (t := (σ.2.1 57 a) - 1) dX7_giveBack_110 rfl lay_7 (by decide) fl7_65 ha rfl rfl (rc_F F82 (Or.inl (by decide)) (by decide) (rc_o (by decide) (ra_eq))) ?_
      refine tn_aload_n dX7_giveBack_113 rfl 0 rfl ?_
      refine tn_callV (M := m_X7_giveBack) (pc := 114) (ix := 103) (ci := 7) (M' := m_X7_place) (As := []) (rest := [.int (iI ((σ.2.1 57 a) - 1)), .ref xb]) dX7_giveBack_114 ok_X7_place im_X7_place se_X7_place ml7_103 np_X7_place rfl rfl ha rfl (Nat.le_of_ble_eq_true rfl) (Nat.le_of_ble_eq_true rfl) rfl (k_X7_place (d) (T := T) (σ := σ75) (a := a) ha w81 ) (fun r87 T89 σ88 gt90 hp => ?_)
      obtain ⟨v92, rfl, rfl, rfl, f91⟩ := hp
      clear gt90
      show Tn _ _ 117 T σ75 [(0, .ref a), (1, .int (iI n))] [.int (iI v92), .int (iI ((σ.2.1 57 a) - 1)), .ref xb] _
      refine tn_iconst dX7_giveBack_117 ?_
      refine tn_iadd dX7_giveBack_118 ?_
      refine tn_any (fun z93 g94 => ?_)
      have g94r : -2147483648 ≤ z93 ∧ z93 ≤ 2147483647 := g94
      refine tn_callSN (M := m_X7_giveBack) (pc := 119) (ix := 61) (M' := m_X11_put) (As := [.ref xb, .int (iI ((σ.2.1 57 a) - 1)), .int (iI z93)]) (rest := []) dX7_giveBack_119 ok_X11_put stt_X11_put nl7_61 np_X11_put rfl (Nat.le_of_ble_eq_true rfl) (Nat.le_of_ble_eq_true rfl) rfl (k_X11_put_x (d + 1) (T := T) (σ := σ75) (x := xb) (i := (σ.2.1 57 a) - 1) (y := z93) hk85i (by omega) (by omega) (by omega) w81 (nh_k hk85 (by unfold HT; omega)) (vok_1 (by have q9 := hk85; omega) (by omega))) (fun r95 T97 σ96 gt98 hp => ?_)
      obtain ⟨rfl, rfl, w102, F103, f99, f100⟩ := hp
      clear gt98
      show Tn _ _ 122 T σ96 [(0, .ref a), (1, .int (iI n))] [] _
      have q104 : σ96.2.1 56 a = σ.2.1 56 a := rc_F F103 (Or.inl (by decide)) (by decide) (rc_F F82 (Or.inl (by decide)) (by decide) (rc_o (by decide) (rc_o (by decide) (rc_o (by decide) (rfl)))))
      have q105 : σ96.2.1 57 a = (σ.2.1 57 a) - 1 := rc_F F103 (Or.inl (by decide)) (by decide) (rc_F F82 (Or.inl (by decide)) (by decide) (rc_o (by decide) (ra_eq)))
      have q106 : σ96.2.1 58 a = (σ.2.1 58 a) - v9 := rc_F F103 (Or.inl (by decide)) (by decide) (rc_F F82 (Or.inl (by decide)) (by decide) (rc_o (by decide) (rc_o (by decide) (ra_eq))))
      exact tn_vret rfl dX7_giveBack_122 ⟨rfl, rfl, w102, (((((FrC.rfl.put (by decide) (by decide)).put (by decide) (by decide)).put (by decide) (by decide)).trans (FrC.sub F82 (by decide))).trans (FrC.sub F103 (by decide))), (((((CHX.rfl.fld (by simp) (by decide)).fld (by simp) (by decide)).fld (by simp) (by decide)).trans (CHX.sub f78 (by simp) (by simp) (by simp))).trans (CHX.sub f99 (by simp) (by simp) (by simp))), by unfold PIv; rw [q104, q105, q106]; omega, (((((FA.rfl.put).put).put).trans (FA.of F82 (by decide))).trans (FA.of F103 (by decide)))⟩
  · refine tn_aload_n dX7_giveBack_24 rfl 0 rfl ?_
    refine tn_iconst dX7_giveBack_25 ?_
    refine tn_putV (ci := 7) (i := 1) (n := 56) (r := false) (v := 2) tyX7 tyX7_ok nmX7 dX7_giveBack_26 rfl lay_7 (by decide) fl7_34 rfl (tyX7_ok 1 (by decide)) rfl rfl rfl ha rfl rfl ?_
    refine tn_aload_n dX7_giveBack_29 rfl 0 rfl ?_
    refine tn_iload_n dX7_giveBack_30 rfl 1 rfl ?_
    refine tn_putV (ci := 7) (i := 13) (n := 68) (r := false) (v := n) tyX7 tyX7_ok nmX7 dX7_giveBack_31 rfl lay_7 (by decide) fl7_50 rfl (tyX7_ok 13 (by decide)) rfl rfl rfl ha rfl rfl ?_
    refine tn_aload_n dX7_giveBack_34 rfl 0 rfl ?_
    refine tn_iconst dX7_giveBack_35 ?_
    refine tn_putV (ci := 7) (i := 3) (n := 58) (r := false) (v := 0) tyX7 tyX7_ok nmX7 dX7_giveBack_36 rfl lay_7 (by decide) fl7_38 rfl (tyX7_ok 3 (by decide)) rfl rfl rfl ha rfl rfl ?_
    have q107 : (sA 58 a (0) (sA 68 a (n) (sA 56 a (2) (sA 58 a ((σ.2.1 58 a) - v9) σ)))).2.1 56 a = 2 := rc_o (by decide) (rc_o (by decide) (ra_eq))
    have q108 : (sA 58 a (0) (sA 68 a (n) (sA 56 a (2) (sA 58 a ((σ.2.1 58 a) - v9) σ)))).2.1 57 a = σ.2.1 57 a := rc_o (by decide) (rc_o (by decide) (rc_o (by decide) (rc_o (by decide) (rfl))))
    have q109 : (sA 58 a (0) (sA 68 a (n) (sA 56 a (2) (sA 58 a ((σ.2.1 58 a) - v9) σ)))).2.1 58 a = 0 := ra_eq
    exact tn_vret rfl dX7_giveBack_39 ⟨rfl, rfl, ((((hw.put (by decide) (by decide) (fo_58 (by omega))).put (by decide) (by decide) (fo_56 (by omega))).put (by decide) (by decide) (fo_68 (by omega))).put (by decide) (by decide) (fo_58 (by omega))), ((((FrC.rfl.put (by decide) (by decide)).put (by decide) (by decide)).put (by decide) (by decide)).put (by decide) (by decide)), ((((CHX.rfl.fld (by simp) (by decide)).fld (by simp) (by decide)).fld (by simp) (by decide)).fld (by simp) (by decide)), by unfold PIv; rw [q107, q108, q109]; omega, ((((FA.rfl.put).put).put).put)⟩
end
