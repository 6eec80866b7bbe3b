section
set_option maxHeartbeats 1000000 in
set_option maxRecDepth 20000 in
theorem k_X7_stops_j (d : Nat) {T : CT} {σ : MS} {a : Nat} {p1 : Int} {p2 : Int} (ha : OB T a 7) (h_p1 : -2147483648 ≤ p1 ∧ p1 ≤ 2147483647) (h_p2 : -2147483648 ≤ p2 ∧ p2 ≤ 2147483647) (hw : WT T σ) : Tn (d + 1) m_X7_stops 0 T σ [(0, .ref a), (1, .int (iI p1)), (2, .int (iI p2))] [] (fun ro T2 σ2 => ∃ v : Int, ro = some (.int (iI v)) ∧ T = T2 ∧ σ = σ2 ∧ (v = 0 ∨ v = 1) ∧ ((v = 1 ∧ cST p1 p2 (σ.2.1 58 a)) ∨ (v = 0 ∧ ¬ cST p1 p2 (σ.2.1 58 a)))) := by
  refine tn_iload_n dX7_stops_0 rfl 1 rfl ?_
  refine tn_if_ne (tgt := 6) dX7_stops_1 (by decide) ⟨by omega, by omega⟩ (fun h1 => ?_) (fun h1 => ?_)
  · refine tn_iload_n dX7_stops_6 rfl 1 rfl ?_
    refine tn_iconst dX7_stops_7 ?_
    refine tn_icmp_ne (tgt := 27) dX7_stops_8 (by decide) ⟨by omega, by omega⟩ ⟨by decide, by decide⟩ (fun h2 => ?_) (fun h2 => ?_)
    · refine tn_aload_n dX7_stops_27 rfl 0 rfl ?_
      refine tn_getI (ci := 7) (i := 3) (n := 58) (t := σ.2.1 58 a) dX7_stops_28 rfl lay_7 (by decide) fl7_38 ha rfl rfl (rfl) ?_
      have g3 : ((-2147483648 : Int) ≤ σ.2.1 58 a ∧ σ.2.1 58 a ≤ 2147483647) := wf_58 hw ha
      refine tn_iload_n dX7_stops_31 rfl 2 rfl ?_
      refine tn_icmp_ge (tgt := 39) dX7_stops_32 (by decide) ⟨by omega, by omega⟩ ⟨by omega, by omega⟩ (fun h4 => ?_) (fun h4 => ?_)
      · refine tn_iconst dX7_stops_39 ?_
        exact tn_zret (v := 0) rfl (by decide) dX7_stops_40 ⟨_, rfl, rfl, rfl, by omega, by unfold cST; omega⟩
      · refine tn_iconst dX7_stops_35 ?_
        refine tn_goto (tgt := 40) dX7_stops_36 (by decide) ?_
        exact tn_zret (v := 1) rfl (by decide) dX7_stops_40 ⟨_, rfl, rfl, rfl, by omega, by unfold cST; omega⟩
    · refine tn_aload_n dX7_stops_11 rfl 0 rfl ?_
      refine tn_getI (ci := 7) (i := 3) (n := 58) (t := σ.2.1 58 a) dX7_stops_12 rfl lay_7 (by decide) fl7_38 ha rfl rfl (rfl) ?_
      have g5 : ((-2147483648 : Int) ≤ σ.2.1 58 a ∧ σ.2.1 58 a ≤ 2147483647) := wf_58 hw ha
      refine tn_iload_n dX7_stops_15 rfl 2 rfl ?_
      refine tn_icmp_gt (tgt := 23) dX7_stops_16 (by decide) ⟨by omega, by omega⟩ ⟨by omega, by omega⟩ (fun h6 => ?_) (fun h6 => ?_)
      · refine tn_iconst dX7_stops_23 ?_
        refine tn_goto (tgt := 40) dX7_stops_24 (by decide) ?_
        exact tn_zret (v := 0) rfl (by decide) dX7_stops_40 ⟨_, rfl, rfl, rfl, by omega, by unfold cST; omega⟩
      · refine tn_iconst dX7_stops_19 ?_
        refine tn_goto (tgt := 40) dX7_stops_20 (by decide) ?_
        exact tn_zret (v := 1) rfl (by decide) dX7_stops_40 ⟨_, rfl, rfl, rfl, by omega, by unfold cST; omega⟩
  · refine tn_iconst dX7_stops_4 ?_
    exact tn_zret (v := 1) rfl (by decide) dX7_stops_5 ⟨_, rfl, rfl, rfl, by omega, by unfold cST; omega⟩
end
section
set_option maxHeartbeats 1000000 in
set_option maxRecDepth 20000 in
theorem k_X7_begin_j (d : Nat) {T : CT} {σ : MS} {a : Nat} {p1 : Int} {p2 : Int} {p3 : Int} {p4 : Int} {p5 : Int} {xa : Nat} {xb : Nat} {xc : Nat} {xd : Nat} {xe : Nat} {xf : Nat} {y : Nat} (ha : OB T a 7) (hta : (T a).1 = 37) (h_p1 : -2147483648 ≤ p1 ∧ p1 ≤ 2147483647) (h_p2 : -2147483648 ≤ p2 ∧ p2 ≤ 2147483647) (h_p3 : -2147483648 ≤ p3 ∧ p3 ≤ 2147483647) (h_p4 : -2147483648 ≤ p4 ∧ p4 ≤ 2147483647) (h_p5 : -2147483648 ≤ p5 ∧ p5 ≤ 2147483647) (hw : WT T σ) (hxa : σ.2.1 59 a = (xa : Int)) (hxb : σ.2.1 60 a = (xb : Int)) (hxc : σ.2.1 61 a = (xc : Int)) (hxd : σ.2.1 62 a = (xd : Int)) (hxe : σ.2.1 63 a = (xe : Int)) (hxf : σ.2.1 64 a = (xf : Int)) (hy : σ.2.1 55 a = (y : Int)) : Tn (d + 4) m_X7_begin 0 T σ [(0, .ref a), (1, .int (iI p1)), (2, .int (iI p2)), (3, .int (iI p3)), (4, .int (iI p4)), (5, .int (iI p5))] [] (fun ro T2 σ2 => ro = none ∧ T = T2 ∧ WT T2 σ2 ∧ FrC T [56, 57, 58, 65, 66, 67, 68, 69, 515] σ σ2 ∧ (CHX [(56, a), (57, a), (58, a), (65, a), (66, a), (67, a), (68, a), (69, a), (70, a), (71, a)] [xa, xb, xc, xd, xe, xf] [] σ σ2) ∧ (σ2.2.1 57 a = 0) ∧ (JBG T σ a xa xb xc xd xe y p1 p2 p3 p4 p5 σ2) ∧ (FA a σ σ2)) := by
  refine tn_aload_n dX7_begin_0 rfl 0 rfl ?_
  refine tn_iconst dX7_begin_1 ?_
  refine tn_putV (ci := 7) (i := 1) (n := 56) (r := false) (v := 1) tyX7 tyX7_ok nmX7 dX7_begin_2 rfl lay_7 (by decide) fl7_34 rfl (tyX7_ok 1 (by decide)) rfl rfl rfl ha rfl rfl ?_
  refine tn_aload_n dX7_begin_5 rfl 0 rfl ?_
  refine tn_iconst dX7_begin_6 ?_
  refine tn_putV (ci := 7) (i := 3) (n := 58) (r := false) (v := 0) tyX7 tyX7_ok nmX7 dX7_begin_7 rfl lay_7 (by decide) fl7_38 rfl (tyX7_ok 3 (by decide)) rfl rfl rfl ha rfl rfl ?_
  refine tn_aload_n dX7_begin_10 rfl 0 rfl ?_
  refine tn_iconst dX7_begin_11 ?_
  refine tn_putV (ci := 7) (i := 10) (n := 65) (r := false) (v := 0) tyX7 tyX7_ok nmX7 dX7_begin_12 rfl lay_7 (by decide) fl7_41 rfl (tyX7_ok 10 (by decide)) rfl rfl rfl ha rfl rfl ?_
  refine tn_aload_n dX7_begin_15 rfl 0 rfl ?_
  refine tn_iconst dX7_begin_16 ?_
  refine tn_putV (ci := 7) (i := 11) (n := 66) (r := false) (v := 0) tyX7 tyX7_ok nmX7 dX7_begin_17 rfl lay_7 (by decide) fl7_44 rfl (tyX7_ok 11 (by decide)) rfl rfl rfl ha rfl rfl ?_
  refine tn_aload_n dX7_begin_20 rfl 0 rfl ?_
  refine tn_iconst dX7_begin_21 ?_
  refine tn_putV (ci := 7) (i := 12) (n := 67) (r := false) (v := 0) tyX7 tyX7_ok nmX7 dX7_begin_22 rfl lay_7 (by decide) fl7_47 rfl (tyX7_ok 12 (by decide)) rfl rfl rfl ha rfl rfl ?_
  refine tn_aload_n dX7_begin_25 rfl 0 rfl ?_
  refine tn_iconst dX7_begin_26 ?_
  refine tn_putV (ci := 7) (i := 13) (n := 68) (r := false) (v := 0) tyX7 tyX7_ok nmX7 dX7_begin_27 rfl lay_7 (by decide) fl7_50 rfl (tyX7_ok 13 (by decide)) rfl rfl rfl ha rfl rfl ?_
  refine tn_aload_n dX7_begin_30 rfl 0 rfl ?_
  refine tn_iconst dX7_begin_31 ?_
  refine tn_iload_n dX7_begin_32 rfl 1 rfl ?_
  obtain ⟨hk3, hl4⟩ : AR T xa 15 9 9 := ar_of (wf_59 hw ha) hxa
  have hk3i : IA T xa := by unfold IA; omega
  obtain ⟨hk7, hl8⟩ : AR T xb 1 9 9 := ar_of (wf_60 hw ha) hxb
  have hk7i : IA T xb := by unfold IA; omega
  obtain ⟨hl12, hk11a, hk11b⟩ := ex_at (wf_61 hw ha) hxc
  have hk11 : (T xc).1 = 1 := hk11b (by omega)
  clear hk11a hk11b
  have hk11i : IA T xc := by unfold IA; omega
  obtain ⟨hk15, hl16⟩ : AR T xd 1 108 108 := ar_of (wf_62 hw ha) hxd
  have hk15i : IA T xd := by unfold IA; omega
  obtain ⟨hk19, hl20⟩ : AR T xe 1 1728 1728 := ar_of (wf_63 hw ha) hxe
  have hk19i : IA T xe := by unfold IA; omega
  obtain ⟨hl24, hk23a, hk23b⟩ := ex_at (wf_55 hw ha) hy
  have hk23i : (T y).1 = 4 ∨ (T y).1 = 5 := by omega
  have hk23c : RROW T a y := ⟨hk23a, hk23b⟩
  clear hk23a hk23b
  refine tn_callV (M := m_X7_begin) (pc := 33) (ix := 53) (ci := 7) (M' := m_X7_openCall) (As := [.int (iI 0), .int (iI p1)]) (rest := []) dX7_begin_33 ok_X7_openCall im_X7_openCall se_X7_openCall ml7_53 np_X7_openCall rfl rfl ha rfl (Nat.le_of_ble_eq_true rfl) (Nat.le_of_ble_eq_true rfl) rfl (k_X7_openCall_j (d) (T := T) (σ := (sA 68 a (0) (sA 67 a (0) (sA 66 a (0) (sA 65 a (0) (sA 58 a (0) (sA 56 a (1) σ))))))) (a := a) (c := 0) (r := p1) (xa := xa) (xb := xb) (xc := xc) (xd := xd) (xe := xe) (y := y) ha hta (by decide) (by omega) ((((((hw.put (by decide) (by decide) (fo_56 (by omega))).put (by decide) (by decide) (fo_58 (by omega))).put (by decide) (by decide) (fo_65 (by omega))).put (by decide) (by decide) (fo_66 (by omega))).put (by decide) (by decide) (fo_67 (by omega))).put (by decide) (by decide) (fo_68 (by omega))) (rc_o (by decide) (rc_o (by decide) (rc_o (by decide) (rc_o (by decide) (rc_o (by decide) (rc_o (by decide) (hxa))))))) (rc_o (by decide) (rc_o (by decide) (rc_o (by decide) (rc_o (by decide) (rc_o (by decide) (rc_o (by decide) (hxb))))))) (rc_o (by decide) (rc_o (by decide) (rc_o (by decide) (rc_o (by decide) (rc_o (by decide) (rc_o (by decide) (hxc))))))) (rc_o (by decide) (rc_o (by decide) (rc_o (by decide) (rc_o (by decide) (rc_o (by decide) (rc_o (by decide) (hxd))))))) (rc_o (by decide) (rc_o (by decide) (rc_o (by decide) (rc_o (by decide) (rc_o (by decide) (rc_o (by decide) (hxe))))))) (rc_o (by decide) (rc_o (by decide) (rc_o (by decide) (rc_o (by decide) (rc_o (by decide) (rc_o (by decide) (hy))))))) (by omega)) (fun r25 T27 σ26 gt28 hp => ?_)
  obtain ⟨rfl, rfl, w34, F35, f29, f30, f31, f32⟩ := hp
  clear gt28
  show Tn _ _ 36 T σ26 [(0, .ref a), (1, .int (iI p1)), (2, .int (iI p2)), (3, .int (iI p3)), (4, .int (iI p4)), (5, .int (iI p5))] [] _
  refine tn_aload_n dX7_begin_36 rfl 0 rfl ?_
  refine tn_getR (ci := 7) (i := 8) (n := 63) (x := xe) dX7_begin_37 rfl lay_7 (by decide) fl7_24 ha rfl rfl (rc_F F35 (Or.inl (by decide)) (by decide) (rc_o (by decide) (rc_o (by decide) (rc_o (by decide) (rc_o (by decide) (rc_o (by decide) (rc_o (by decide) (hxe)))))))) ?_
  refine tn_aload_n dX7_begin_40 rfl 0 rfl ?_
  refine tn_iconst dX7_begin_41 ?_
  refine tn_callV (M := m_X7_begin) (pc := 42) (ix := 57) (ci := 7) (M' := m_X7_homeOfParam) (As := [.int (iI 0)]) (rest := [.ref xe]) dX7_begin_42 ok_X7_homeOfParam im_X7_homeOfParam se_X7_homeOfParam ml7_57 np_X7_homeOfParam rfl rfl ha rfl (Nat.le_of_ble_eq_true rfl) (Nat.le_of_ble_eq_true rfl) rfl (k_X7_homeOfParam_j (d) (T := T) (σ := σ26) (a := a) (p1 := 0) ha (by decide) w34 (by omega)) (fun r36 T38 σ37 gt39 hp => ?_)
  obtain ⟨v42, rfl, rfl, rfl, f40, f41⟩ := hp
  clear gt39
  show Tn _ _ 45 T σ26 [(0, .ref a), (1, .int (iI p1)), (2, .int (iI p2)), (3, .int (iI p3)), (4, .int (iI p4)), (5, .int (iI p5))] [.int (iI v42), .ref xe] _
  refine tn_iload_n dX7_begin_45 rfl 2 rfl ?_
  refine tn_callSN (M := m_X7_begin) (pc := 46) (ix := 61) (M' := m_X11_put) (As := [.ref xe, .int (iI v42), .int (iI p2)]) (rest := []) dX7_begin_46 ok_X11_put stt_X11_put nl7_61 np_X11_put rfl (Nat.le_of_ble_eq_true rfl) (Nat.le_of_ble_eq_true rfl) rfl (k_X11_put_x (d + 2) (T := T) (σ := σ26) (x := xe) (i := v42) (y := p2) hk19i (by omega) (by omega) (by omega) w34 (nh_k hk19 (by unfold HT; omega)) (vok_1 (by have q9 := hk19; omega) (by omega))) (fun r43 T45 σ44 gt46 hp => ?_)
  obtain ⟨rfl, rfl, w50, F51, f47, f48⟩ := hp
  clear gt46
  have je52 : σ44 = jP T xe (v42) (p2) _ := f48
  show Tn _ _ 49 T σ44 [(0, .ref a), (1, .int (iI p1)), (2, .int (iI p2)), (3, .int (iI p3)), (4, .int (iI p4)), (5, .int (iI p5))] [] _
  refine tn_aload_n dX7_begin_49 rfl 0 rfl ?_
  refine tn_getR (ci := 7) (i := 8) (n := 63) (x := xe) dX7_begin_50 rfl lay_7 (by decide) fl7_24 ha rfl rfl (rc_F F51 (Or.inl (by decide)) (by decide) (rc_F F35 (Or.inl (by decide)) (by decide) (rc_o (by decide) (rc_o (by decide) (rc_o (by decide) (rc_o (by decide) (rc_o (by decide) (rc_o (by decide) (hxe))))))))) ?_
  refine tn_aload_n dX7_begin_53 rfl 0 rfl ?_
  refine tn_iconst dX7_begin_54 ?_
  refine tn_callV (M := m_X7_begin) (pc := 55) (ix := 57) (ci := 7) (M' := m_X7_homeOfParam) (As := [.int (iI 1)]) (rest := [.ref xe]) dX7_begin_55 ok_X7_homeOfParam im_X7_homeOfParam se_X7_homeOfParam ml7_57 np_X7_homeOfParam rfl rfl ha rfl (Nat.le_of_ble_eq_true rfl) (Nat.le_of_ble_eq_true rfl) rfl (k_X7_homeOfParam_j (d) (T := T) (σ := σ44) (a := a) (p1 := 1) ha (by decide) w50 (by omega)) (fun r53 T55 σ54 gt56 hp => ?_)
  obtain ⟨v59, rfl, rfl, rfl, f57, f58⟩ := hp
  clear gt56
  show Tn _ _ 58 T σ44 [(0, .ref a), (1, .int (iI p1)), (2, .int (iI p2)), (3, .int (iI p3)), (4, .int (iI p4)), (5, .int (iI p5))] [.int (iI v59), .ref xe] _
  refine tn_iload_n dX7_begin_58 rfl 3 rfl ?_
  refine tn_callSN (M := m_X7_begin) (pc := 59) (ix := 61) (M' := m_X11_put) (As := [.ref xe, .int (iI v59), .int (iI p3)]) (rest := []) dX7_begin_59 ok_X11_put stt_X11_put nl7_61 np_X11_put rfl (Nat.le_of_ble_eq_true rfl) (Nat.le_of_ble_eq_true rfl) rfl (k_X11_put_x (d + 2) (T := T) (σ := σ44) (x := xe) (i := v59) (y := p3) hk19i (by omega) (by omega) (by omega) w50 (nh_k hk19 (by unfold HT; omega)) (vok_1 (by have q9 := hk19; omega) (by omega))) (fun r60 T62 σ61 gt63 hp => ?_)
  obtain ⟨rfl, rfl, w67, F68, f64, f65⟩ := hp
  clear gt63
  have je69 : σ61 = jP T xe (v59) (p3) _ := f65
  show Tn _ _ 62 T σ61 [(0, .ref a), (1, .int (iI p1)), (2, .int (iI p2)), (3, .int (iI p3)), (4, .int (iI p4)), (5, .int (iI p5))] [] _
  refine tn_aload_n dX7_begin_62 rfl 0 rfl ?_
  refine tn_getR (ci := 7) (i := 8) (n := 63) (x := xe) dX7_begin_63 rfl lay_7 (by decide) fl7_24 ha rfl rfl (rc_F F68 (Or.inl (by decide)) (by decide) (rc_F F51 (Or.inl (by decide)) (by decide) (rc_F F35 (Or.inl (by decide)) (by decide) (rc_o (by decide) (rc_o (by decide) (rc_o (by decide) (rc_o (by decide) (rc_o (by decide) (rc_o (by decide) (hxe)))))))))) ?_
  refine tn_aload_n dX7_begin_66 rfl 0 rfl ?_
  refine tn_iconst dX7_begin_67 ?_
  refine tn_callV (M := m_X7_begin) (pc := 68) (ix := 57) (ci := 7) (M' := m_X7_homeOfParam) (As := [.int (iI 2)]) (rest := [.ref xe]) dX7_begin_68 ok_X7_homeOfParam im_X7_homeOfParam se_X7_homeOfParam ml7_57 np_X7_homeOfParam rfl rfl ha rfl (Nat.le_of_ble_eq_true rfl) (Nat.le_of_ble_eq_true rfl) rfl (k_X7_homeOfParam_j (d) (T := T) (σ := σ61) (a := a) (p1 := 2) ha (by decide) w67 (by omega)) (fun r70 T72 σ71 gt73 hp => ?_)
  obtain ⟨v76, rfl, rfl, rfl, f74, f75⟩ := hp
  clear gt73
  show Tn _ _ 71 T σ61 [(0, .ref a), (1, .int (iI p1)), (2, .int (iI p2)), (3, .int (iI p3)), (4, .int (iI p4)), (5, .int (iI p5))] [.int (iI v76), .ref xe] _
  refine tn_iload dX7_begin_71 4 rfl ?_
  refine tn_callSN (M := m_X7_begin) (pc := 73) (ix := 61) (M' := m_X11_put) (As := [.ref xe, .int (iI v76), .int (iI p4)]) (rest := []) dX7_begin_73 ok_X11_put stt_X11_put nl7_61 np_X11_put rfl (Nat.le_of_ble_eq_true rfl) (Nat.le_of_ble_eq_true rfl) rfl (k_X11_put_x (d + 2) (T := T) (σ := σ61) (x := xe) (i := v76) (y := p4) hk19i (by omega) (by omega) (by omega) w67 (nh_k hk19 (by unfold HT; omega)) (vok_1 (by have q9 := hk19; omega) (by omega))) (fun r77 T79 σ78 gt80 hp => ?_)
  obtain ⟨rfl, rfl, w84, F85, f81, f82⟩ := hp
  clear gt80
  have je86 : σ78 = jP T xe (v76) (p4) _ := f82
  show Tn _ _ 76 T σ78 [(0, .ref a), (1, .int (iI p1)), (2, .int (iI p2)), (3, .int (iI p3)), (4, .int (iI p4)), (5, .int (iI p5))] [] _
  refine tn_aload_n dX7_begin_76 rfl 0 rfl ?_
  refine tn_getR (ci := 7) (i := 8) (n := 63) (x := xe) dX7_begin_77 rfl lay_7 (by decide) fl7_24 ha rfl rfl (rc_F F85 (Or.inl (by decide)) (by decide) (rc_F F68 (Or.inl (by decide)) (by decide) (rc_F F51 (Or.inl (by decide)) (by decide) (rc_F F35 (Or.inl (by decide)) (by decide) (rc_o (by decide) (rc_o (by decide) (rc_o (by decide) (rc_o (by decide) (rc_o (by decide) (rc_o (by decide) (hxe))))))))))) ?_
  refine tn_aload_n dX7_begin_80 rfl 0 rfl ?_
  refine tn_iconst dX7_begin_81 ?_
  refine tn_callV (M := m_X7_begin) (pc := 82) (ix := 57) (ci := 7) (M' := m_X7_homeOfParam) (As := [.int (iI 3)]) (rest := [.ref xe]) dX7_begin_82 ok_X7_homeOfParam im_X7_homeOfParam se_X7_homeOfParam ml7_57 np_X7_homeOfParam rfl rfl ha rfl (Nat.le_of_ble_eq_true rfl) (Nat.le_of_ble_eq_true rfl) rfl (k_X7_homeOfParam_j (d) (T := T) (σ := σ78) (a := a) (p1 := 3) ha (by decide) w84 (by omega)) (fun r87 T89 σ88 gt90 hp => ?_)
  obtain ⟨v93, rfl, rfl, rfl, f91, f92⟩ := hp
  clear gt90
  show Tn _ _ 85 T σ78 [(0, .ref a), (1, .int (iI p1)), (2, .int (iI p2)), (3, .int (iI p3)), (4, .int (iI p4)), (5, .int (iI p5))] [.int (iI v93), .ref xe] _
  refine tn_iload dX7_begin_85 5 rfl ?_
  refine tn_callSN (M := m_X7_begin) (pc := 87) (ix := 61) (M' := m_X11_put) (As := [.ref xe, .int (iI v93), .int (iI p5)]) (rest := []) dX7_begin_87 ok_X11_put stt_X11_put nl7_61 np_X11_put rfl (Nat.le_of_ble_eq_true rfl) (Nat.le_of_ble_eq_true rfl) rfl (k_X11_put_x (d + 2) (T := T) (σ := σ78) (x := xe) (i := v93) (y := p5) hk19i (by omega) (by omega) (by omega) w84 (nh_k hk19 (by unfold HT; omega)) (vok_1 (by have q9 := hk19; omega) (by omega))) (fun r94 T96 σ95 gt97 hp => ?_)
  obtain ⟨rfl, rfl, w101, F102, f98, f99⟩ := hp
  clear gt97
  have je103 : σ95 = jP T xe (v93) (p5) _ := f99
  show Tn _ _ 90 T σ95 [(0, .ref a), (1, .int (iI p1)), (2, .int (iI p2)), (3, .int (iI p3)), (4, .int (iI p4)), (5, .int (iI p5))] [] _
  have q104 : σ95.2.1 57 a = σ26.2.1 57 a := rc_F F102 (Or.inl (by decide)) (by decide) (rc_F F85 (Or.inl (by decide)) (by decide) (rc_F F68 (Or.inl (by decide)) (by decide) (rc_F F51 (Or.inl (by decide)) (by decide) (rfl))))
  exact tn_vret rfl dX7_begin_90 ⟨rfl, rfl, w101, (((((((((((FrC.rfl.put (by decide) (by decide)).put (by decide) (by decide)).put (by decide) (by decide)).put (by decide) (by decide)).put (by decide) (by decide)).put (by decide) (by decide)).trans (FrC.sub F35 (by decide))).trans (FrC.sub F51 (by decide))).trans (FrC.sub F68 (by decide))).trans (FrC.sub F85 (by decide))).trans (FrC.sub F102 (by decide))), (((((((((((CHX.rfl.fld (by simp) (by decide)).fld (by simp) (by decide)).fld (by simp) (by decide)).fld (by simp) (by decide)).fld (by simp) (by decide)).fld (by simp) (by decide)).trans (CHX.sub f29 (by simp) (by simp) (by simp))).trans (CHX.sub f47 (by simp) (by simp) (by simp))).trans (CHX.sub f64 (by simp) (by simp) (by simp))).trans (CHX.sub f81 (by simp) (by simp) (by simp))).trans (CHX.sub f98 (by simp) (by simp) (by simp))), by omega, ⟨_, f31, _, _, _, _, f41, (by rw [← je52]; exact f58), (by rw [← je52, ← je69]; exact f75), (by rw [← je52, ← je69, ← je86]; exact f92), by rw [je103, je86, je69, je52]⟩, (((((((((((FA.rfl.put).put).put).put).put).put).trans f32).trans (FA.of F51 (by decide))).trans (FA.of F68 (by decide))).trans (FA.of F85 (by decide))).trans (FA.of F102 (by decide)))⟩
end
section
set_option maxHeartbeats 1000000 in
set_option maxRecDepth 20000 in
theorem l_X7_advance_j_8 (d : Nat) {T : CT} {σ0 : MS} {a : Nat} {c1 : Int} {c2 : Int} {c3 : Int} {tg : Int} {xa : Nat} {xb : Nat} {xc : Nat} {xd : Nat} {xe : Nat} {xf : Nat} {y : Nat} {post : Option Value → CT → MS → Prop} (h_a : OB T a 7) (t_a : (T a).1 = 37) (r_c1 : -2147483648 ≤ c1 ∧ c1 ≤ 2147483647) (r_c2 : -2147483648 ≤ c2 ∧ c2 ≤ 20000) (r_c3 : -2147483648 ≤ c3 ∧ c3 ≤ 2147483647) (hw0 : WT T σ0) (hxa : σ0.2.1 59 a = (xa : Int)) (hxb : σ0.2.1 60 a = (xb : Int)) (hxc : σ0.2.1 61 a = (xc : Int)) (hxd : σ0.2.1 62 a = (xd : Int)) (hxe : σ0.2.1 63 a = (xe : Int)) (hxf : σ0.2.1 64 a = (xf : Int)) (hy : σ0.2.1 55 a = (y : Int)) (hx_50 : ∀ (i4 : Int) (σ : MS) , (WT T σ) → (FrC T [56, 57, 58, 65, 66, 67, 68, 69, 515] σ0 σ) → (0 ≤ i4 ∧ i4 ≤ 20000) → (CHX [(56, a), (57, a), (58, a), (65, a), (66, a), (67, a), (68, a), (69, a), (70, a), (71, a)] [xa, xb, xc, xd, xe, xf] [] σ0 σ) → (σ.2.1 57 a ≤ tg + i4 + 1 ∧ tg ≤ 11164000) → (True) → (True) → (∃ τ1 : MS, JCN T a xa xb xc xd xe xf y c1 c3 i4.toNat σ0 τ1 ∧ CHX (RNL a) [xa, xb, xc, xd, xe, xf] [] σ0 τ1 ∧ τ1.2.1 56 a = 1 ∧ ∃ u : Int, JST T τ1 a xa xb xc xd xe xf y u σ ∧ σ.2.1 56 a = 1 ∧ u = 1 ∧ cST c1 c3 (σ.2.1 58 a)) → (i4 < c2) → Tn (d + 6) m_X7_advance 50 T σ [(0, .ref a), (1, .int (iI c1)), (2, .int (iI c2)), (3, .int (iI c3)), (4, .int (iI i4))] [] post) (hx_58 : ∀ (i4 : Int) (σ : MS) , (WT T σ) → (FrC T [56, 57, 58, 65, 66, 67, 68, 69, 515] σ0 σ) → (0 ≤ i4 ∧ i4 ≤ 20000) → (CHX [(56, a), (57, a), (58, a), (65, a), (66, a), (67, a), (68, a), (69, a), (70, a), (71, a)] [xa, xb, xc, xd, xe, xf] [] σ0 σ) → (σ.2.1 57 a ≤ tg + i4 + 1 ∧ tg ≤ 11164000) → (True) → (True) → (JCN T a xa xb xc xd xe xf y c1 c3 i4.toNat σ0 σ ∧ CHX (RNL a) [xa, xb, xc, xd, xe, xf] [] σ0 σ) → (¬ (i4 < c2 ∧ σ.2.1 56 a = 1)) → (i4 ≤ 0 ∨ i4 ≤ c2) → Tn (d + 6) m_X7_advance 58 T σ [(0, .ref a), (1, .int (iI c1)), (2, .int (iI c2)), (3, .int (iI c3)), (4, .int (iI i4))] [] post) : ∀ (nq9 : Nat) (i4 : Int) (σ : MS) , (WT T σ) → (FrC T [56, 57, 58, 65, 66, 67, 68, 69, 515] σ0 σ) → (0 ≤ i4 ∧ i4 ≤ 20000) → (CHX [(56, a), (57, a), (58, a), (65, a), (66, a), (67, a), (68, a), (69, a), (70, a), (71, a)] [xa, xb, xc, xd, xe, xf] [] σ0 σ) → (σ.2.1 57 a ≤ tg + i4 ∧ tg ≤ 11164000) → (JCN T a xa xb xc xd xe xf y c1 c3 i4.toNat σ0 σ) → (i4 ≤ 0 ∨ i4 ≤ c2) → (2147483700 - i4).toNat = nq9 → Tn (d + 6) m_X7_advance 8 T σ [(0, .ref a), (1, .int (iI c1)), (2, .int (iI c2)), (3, .int (iI c3)), (4, .int (iI i4))] [] post := by
  intro nq9
  induction nq9 using Nat.strongRecOn with
  | _ nq9 ih =>
    intro i4 σ hw hF r_i4 hC h0 hJ hI hm
    refine tn_iload dX7_advance_8 4 rfl ?_
    refine tn_iload_n dX7_advance_10 rfl 2 rfl ?_
    refine tn_icmp_ge (tgt := 58) dX7_advance_11 (by decide) ⟨by omega, by omega⟩ ⟨by omega, by omega⟩ (fun h1 => ?_) (fun h1 => ?_)
    · exact tn_sub [0, 1, 2, 3, 4] rfl (hx_58 (i4) σ hw (FrC.rfl.trans (FrC.sub hF (by decide))) (by omega) hC (by omega) trivial trivial ⟨hJ, hC⟩ (by omega) (by omega))
    · refine tn_aload_n dX7_advance_14 rfl 0 rfl ?_
      refine tn_getI (ci := 7) (i := 1) (n := 56) (t := σ.2.1 56 a) dX7_advance_15 rfl lay_7 (by decide) fl7_34 h_a rfl rfl (rfl) ?_
      have g2 : ((-2147483648 : Int) ≤ σ.2.1 56 a ∧ σ.2.1 56 a ≤ 2147483647) := wf_56 hw h_a
      refine tn_iconst dX7_advance_18 ?_
      refine tn_icmp_ne (tgt := 58) dX7_advance_19 (by decide) ⟨by omega, by omega⟩ ⟨by decide, by decide⟩ (fun h3 => ?_) (fun h3 => ?_)
      · exact tn_sub [0, 1, 2, 3, 4] rfl (hx_58 (i4) σ hw (FrC.rfl.trans (FrC.sub hF (by decide))) (by omega) hC (by omega) trivial trivial ⟨hJ, hC⟩ (by omega) (by omega))
      · refine tn_aload_n dX7_advance_22 rfl 0 rfl ?_
        obtain ⟨hk6, hl7⟩ : AR T xa 15 9 9 := ar_of (wf_59 hw0 h_a) hxa
        have hk6i : IA T xa := by unfold IA; omega
        obtain ⟨hk10, hl11⟩ : AR T xb 1 9 9 := ar_of (wf_60 hw0 h_a) hxb
        have hk10i : IA T xb := by unfold IA; omega
        obtain ⟨hl15, hk14a, hk14b⟩ := ex_at (wf_61 hw0 h_a) hxc
        have hk14 : (T xc).1 = 1 := hk14b (by omega)
        clear hk14a hk14b
        have hk14i : IA T xc := by unfold IA; omega
        obtain ⟨hk18, hl19⟩ : AR T xd 1 108 108 := ar_of (wf_62 hw0 h_a) hxd
        have hk18i : IA T xd := by unfold IA; omega
        obtain ⟨hk22, hl23⟩ : AR T xe 1 1728 1728 := ar_of (wf_63 hw0 h_a) hxe
        have hk22i : IA T xe := by unfold IA; omega
        obtain ⟨hk26, hl27⟩ : AR T xf 1 200 200 := ar_of (wf_64 hw0 h_a) hxf
        have hk26i : IA T xf := by unfold IA; omega
        obtain ⟨hl31, hk30a, hk30b⟩ := ex_at (wf_55 hw0 h_a) hy
        have hk30i : (T y).1 = 4 ∨ (T y).1 = 5 := by omega
        have hk30c : RROW T a y := ⟨hk30a, hk30b⟩
        clear hk30a hk30b
        refine tn_callV (M := m_X7_advance) (pc := 23) (ix := 95) (ci := 7) (M' := m_X7_step) (As := []) (rest := []) dX7_advance_23 ok_X7_step im_X7_step se_X7_step ml7_95 np_X7_step rfl rfl h_a rfl (Nat.le_of_ble_eq_true rfl) (Nat.le_of_ble_eq_true rfl) rfl (k_X7_step_j (d) (T := T) (σ := σ) (a := a) (xa := xa) (xb := xb) (xc := xc) (xd := xd) (xe := xe) (xf := xf) (y := y) h_a t_a hw (rc_F hF (Or.inl (by decide)) (by decide) (hxa)) (rc_F hF (Or.inl (by decide)) (by decide) (hxb)) (rc_F hF (Or.inl (by decide)) (by decide) (hxc)) (rc_F hF (Or.inl (by decide)) (by decide) (hxd)) (rc_F hF (Or.inl (by decide)) (by decide) (hxe)) (rc_F hF (Or.inl (by decide)) (by decide) (hxf)) (rc_F hF (Or.inl (by decide)) (by decide) (hy)) (by rw [show σ.2.1 57 a = σ.2.1 57 a from rfl]; omega)) (fun r32 T34 σ33 gt35 hp => ?_)
        obtain ⟨v41, rfl, rfl, w42, F43, f36, f37, f38, f39, f40⟩ := hp
        clear gt35
        show Tn _ _ 26 T σ33 [(0, .ref a), (1, .int (iI c1)), (2, .int (iI c2)), (3, .int (iI c3)), (4, .int (iI i4))] [.int (iI v41)] _
        refine tn_istore (L' := [(5, .int (iI v41)), (0, .ref a), (1, .int (iI c1)), (2, .int (iI c2)), (3, .int (iI c3)), (4, .int (iI i4))]) dX7_advance_26 (by decide) rfl ?_
        refine tn_aload_n dX7_advance_28 rfl 1 rfl ?_
        refine tn_getI (ci := 7) (i := 1) (n := 56) (t := σ33.2.1 56 a) dX7_advance_29 rfl lay_7 (by decide) fl7_34 h_a rfl rfl (rfl) ?_
        have g44 : ((-2147483648 : Int) ≤ σ33.2.1 56 a ∧ σ33.2.1 56 a ≤ 2147483647) := wf_56 w42 h_a
        refine tn_iconst dX7_advance_32 ?_
        refine tn_icmp_ne (tgt := 52) dX7_advance_33 (by decide) ⟨by omega, by omega⟩ ⟨by decide, by decide⟩ (fun h45 => ?_) (fun h45 => ?_)
        · refine tn_iinc (q0 := 5) (L' := [(4, .int (iI (i4 + 1))), (5, .int (iI v41)), (0, .ref a), (1, .int (iI c1)), (2, .int (iI c2)), (3, .int (iI c3))]) dX7_advance_52 rfl (by decide) rfl ?_
          refine tn_goto (tgt := 8) dX7_advance_55 (by decide) ?_
          exact tn_sub [2, 3, 4, 5, 0] rfl (ih _ (by omega) (i4 + 1) σ33 w42 ((FrC.rfl.trans (FrC.sub hF (by decide))).trans (FrC.sub F43 (by decide))) (by omega) (hC.trans (CHX.sub f37 (by simp) (by simp) (by simp))) (by omega) (JCN.s hJ (by omega) hC (by omega) f39 (fun z => by omega)) (by omega) rfl)
        · refine tn_iload dX7_advance_36 0 rfl ?_
          refine tn_if_eq (tgt := 52) dX7_advance_38 (by decide) ⟨by omega, by omega⟩ (fun h46 => ?_) (fun h46 => ?_)
          · refine tn_iinc (q0 := 5) (L' := [(4, .int (iI (i4 + 1))), (5, .int (iI v41)), (0, .ref a), (1, .int (iI c1)), (2, .int (iI c2)), (3, .int (iI c3))]) dX7_advance_52 rfl (by decide) rfl ?_
            refine tn_goto (tgt := 8) dX7_advance_55 (by decide) ?_
            exact tn_sub [2, 3, 4, 5, 0] rfl (ih _ (by omega) (i4 + 1) σ33 w42 ((FrC.rfl.trans (FrC.sub hF (by decide))).trans (FrC.sub F43 (by decide))) (by omega) (hC.trans (CHX.sub f37 (by simp) (by simp) (by simp))) (by omega) (JCN.s hJ (by omega) hC (by omega) f39 (fun z => by omega)) (by omega) rfl)
          · refine tn_aload_n dX7_advance_41 rfl 1 rfl ?_
            refine tn_iload_n dX7_advance_42 rfl 2 rfl ?_
            refine tn_iload_n dX7_advance_43 rfl 4 rfl ?_
            refine tn_callV (M := m_X7_advance) (pc := 44) (ix := 99) (ci := 7) (M' := m_X7_stops) (As := [.int (iI c1), .int (iI c3)]) (rest := []) dX7_advance_44 ok_X7_stops im_X7_stops se_X7_stops ml7_99 np_X7_stops rfl rfl h_a rfl (Nat.le_of_ble_eq_true rfl) (Nat.le_of_ble_eq_true rfl) rfl (k_X7_stops_j (d + 4) (T := T) (σ := σ33) (a := a) (p1 := c1) (p2 := c3) h_a (by omega) (by omega) w42 ) (fun r47 T49 σ48 gt50 hp => ?_)
            obtain ⟨v53, rfl, rfl, rfl, f51, f52⟩ := hp
            clear gt50
            show Tn _ _ 47 T σ33 [(5, .int (iI v41)), (0, .ref a), (1, .int (iI c1)), (2, .int (iI c2)), (3, .int (iI c3)), (4, .int (iI i4))] [.int (iI v53)] _
            refine tn_if_eq (tgt := 52) dX7_advance_47 (by decide) ⟨by omega, by omega⟩ (fun h54 => ?_) (fun h54 => ?_)
            · refine tn_iinc (q0 := 5) (L' := [(4, .int (iI (i4 + 1))), (5, .int (iI v41)), (0, .ref a), (1, .int (iI c1)), (2, .int (iI c2)), (3, .int (iI c3))]) dX7_advance_52 rfl (by decide) rfl ?_
              refine tn_goto (tgt := 8) dX7_advance_55 (by decide) ?_
              exact tn_sub [2, 3, 4, 5, 0] rfl (ih _ (by omega) (i4 + 1) σ33 w42 ((FrC.rfl.trans (FrC.sub hF (by decide))).trans (FrC.sub F43 (by decide))) (by omega) (hC.trans (CHX.sub f37 (by simp) (by simp) (by simp))) (by omega) (JCN.s hJ (by omega) hC (by omega) f39 (fun z => f52.elim (fun q => by omega) (fun q => q.2 z.2.2))) (by omega) rfl)
            · exact tn_sub [1, 2, 3, 4, 5] rfl (hx_50 (i4) σ33 w42 ((FrC.rfl.trans (FrC.sub hF (by decide))).trans (FrC.sub F43 (by decide))) (by omega) (hC.trans (CHX.sub f37 (by simp) (by simp) (by simp))) (by omega) trivial trivial ⟨σ, hJ, hC, by omega, _, f39, by omega, by omega, (f52.resolve_right (fun q => by omega)).2⟩ (by omega))
set_option maxHeartbeats 1000000 in
set_option maxRecDepth 20000 in
theorem k_X7_advance_j (d : Nat) {T : CT} {σ : MS} {a : Nat} {w : Int} {n : Int} {xa : Nat} {xb : Nat} {xc : Nat} {xd : Nat} {xe : Nat} {xf : Nat} {y : Nat} (ha : OB T a 7) (hta : (T a).1 = 37) (h_w : -2147483648 ≤ w ∧ w ≤ 2147483647) (h_n : -2147483648 ≤ n ∧ n ≤ 2147483647) (hw : WT T σ) (hxa : σ.2.1 59 a = (xa : Int)) (hxb : σ.2.1 60 a = (xb : Int)) (hxc : σ.2.1 61 a = (xc : Int)) (hxd : σ.2.1 62 a = (xd : Int)) (hxe : σ.2.1 63 a = (xe : Int)) (hxf : σ.2.1 64 a = (xf : Int)) (hy : σ.2.1 55 a = (y : Int)) (hn2 : n ≤ 20000) (h8 : σ.2.1 57 a ≤ 11164000) : Tn (d + 6) m_X7_advance 0 T σ [(0, .ref a), (1, .int (iI w)), (2, .int (iI n))] [] (fun ro T2 σ2 => ∃ v : Int, ro = some (.int (iI v)) ∧ T = T2 ∧ WT T2 σ2 ∧ FrC T [56, 57, 58, 65, 66, 67, 68, 69, 515] σ σ2 ∧ (-2147483648 ≤ v ∧ v ≤ 2147483647) ∧ (CHX [(56, a), (57, a), (58, a), (65, a), (66, a), (67, a), (68, a), (69, a), (70, a), (71, a)] [xa, xb, xc, xd, xe, xf] [] σ σ2) ∧ (σ2.2.1 57 a ≤ σ.2.1 57 a + 20001) ∧ (JAD T σ a xa xb xc xd xe xf y w n v σ2)) := by
  refine tn_aload_n dX7_advance_0 rfl 0 rfl ?_
  refine tn_getI (ci := 7) (i := 3) (n := 58) (t := σ.2.1 58 a) dX7_advance_1 rfl lay_7 (by decide) fl7_38 ha rfl rfl (rfl) ?_
  have g1 : ((-2147483648 : Int) ≤ σ.2.1 58 a ∧ σ.2.1 58 a ≤ 2147483647) := wf_58 hw ha
  refine tn_istore_n (L' := [(3, .int (iI (σ.2.1 58 a))), (0, .ref a), (1, .int (iI w)), (2, .int (iI n))]) dX7_advance_4 rfl (by decide) rfl ?_
  refine tn_iconst dX7_advance_5 ?_
  refine tn_istore (L' := [(4, .int (iI 0)), (3, .int (iI (σ.2.1 58 a))), (0, .ref a), (1, .int (iI w)), (2, .int (iI n))]) dX7_advance_6 (by decide) rfl ?_
  refine tn_sub [2, 3, 4, 1, 0] rfl (l_X7_advance_j_8 (d) (T := T) (σ0 := σ) (a := a) (c1 := w) (c2 := n) (c3 := σ.2.1 58 a) (xa := xa) (xb := xb) (xc := xc) (xd := xd) (xe := xe) (xf := xf) (y := y) (tg := σ.2.1 57 a) ha hta (by omega) (by omega) (by omega) hw (hxa) (hxb) (hxc) (hxd) (hxe) (hxf) (hy) (fun i42 σ3 w6 F7 r8 f9 f10 f11 f12 f13 f14 => ?_) (fun i415 σ16 w19 F20 r21 f22 f23 f24 f25 f26 f27 f28 => ?_) _ (0) σ hw FrC.rfl (by omega) CHX.rfl (by omega) rfl (by omega) rfl)
  · show Tn _ _ 50 T σ3 [(0, .ref a), (1, .int (iI w)), (2, .int (iI n)), (3, .int (iI (σ.2.1 58 a))), (4, .int (iI i42))] [] _
    refine tn_iconst dX7_advance_50 ?_
    have q29 : σ3.2.1 57 a = σ3.2.1 57 a := rfl
    exact tn_iret rfl dX7_advance_51 ⟨_, rfl, rfl, w6, (FrC.rfl.trans (FrC.sub F7 (by decide))), by omega, (CHX.rfl.trans (CHX.sub f9 (by simp) (by simp) (by simp))), by omega, f13.elim (fun τ1 q => ⟨_, τ1, q.1, q.2.1, Or.inl ⟨by omega, q.2.2.1, rfl, q.2.2.2⟩⟩)⟩
  · show Tn _ _ 58 T σ16 [(0, .ref a), (1, .int (iI w)), (2, .int (iI n)), (3, .int (iI (σ.2.1 58 a))), (4, .int (iI i415))] [] _
    refine tn_aload_n dX7_advance_58 rfl 0 rfl ?_
    refine tn_getI (ci := 7) (i := 1) (n := 56) (t := σ16.2.1 56 a) dX7_advance_59 rfl lay_7 (by decide) fl7_34 ha rfl rfl (rfl) ?_
    have g30 : ((-2147483648 : Int) ≤ σ16.2.1 56 a ∧ σ16.2.1 56 a ≤ 2147483647) := wf_56 w19 ha
    refine tn_iconst dX7_advance_62 ?_
    refine tn_icmp_ne (tgt := 68) dX7_advance_63 (by decide) ⟨by omega, by omega⟩ ⟨by decide, by decide⟩ (fun h31 => ?_) (fun h31 => ?_)
    · refine tn_aload_n dX7_advance_68 rfl 0 rfl ?_
      refine tn_getI (ci := 7) (i := 1) (n := 56) (t := σ16.2.1 56 a) dX7_advance_69 rfl lay_7 (by decide) fl7_34 ha rfl rfl (rfl) ?_
      refine tn_iconst dX7_advance_72 ?_
      refine tn_icmp_ne (tgt := 80) dX7_advance_73 (by decide) ⟨by omega, by omega⟩ ⟨by decide, by decide⟩ (fun h32 => ?_) (fun h32 => ?_)
      · refine tn_iconst dX7_advance_80 ?_
        have q33 : σ16.2.1 57 a = σ16.2.1 57 a := rfl
        exact tn_iret rfl dX7_advance_81 ⟨_, rfl, rfl, w19, (FrC.rfl.trans (FrC.sub F20 (by decide))), by omega, (CHX.rfl.trans (CHX.sub f22 (by simp) (by simp) (by simp))), by omega, ⟨_, _, f26.1, f26.2, Or.inr ⟨by omega, by omega, rfl, by omega⟩⟩⟩
      · refine tn_iconst dX7_advance_76 ?_
        refine tn_goto (tgt := 81) dX7_advance_77 (by decide) ?_
        have q34 : σ16.2.1 57 a = σ16.2.1 57 a := rfl
        exact tn_iret rfl dX7_advance_81 ⟨_, rfl, rfl, w19, (FrC.rfl.trans (FrC.sub F20 (by decide))), by omega, (CHX.rfl.trans (CHX.sub f22 (by simp) (by simp) (by simp))), by omega, ⟨_, _, f26.1, f26.2, Or.inr ⟨by omega, by omega, rfl, by omega⟩⟩⟩
    · refine tn_iconst dX7_advance_66 ?_
      have q35 : σ16.2.1 57 a = σ16.2.1 57 a := rfl
      exact tn_iret rfl dX7_advance_67 ⟨_, rfl, rfl, w19, (FrC.rfl.trans (FrC.sub F20 (by decide))), by omega, (CHX.rfl.trans (CHX.sub f22 (by simp) (by simp) (by simp))), by omega, ⟨_, _, f26.1, f26.2, Or.inr ⟨by omega, by omega, rfl, by omega⟩⟩⟩
end
section
set_option maxHeartbeats 1000000 in
set_option maxRecDepth 20000 in
theorem k_X11_go_j (d : Nat) {T : CT} {σ : MS} {a : Nat} {w : Int} {n : Int} {rn : Nat} {xa : Nat} {xb : Nat} {xc : Nat} {xd : Nat} {xe : Nat} {xf : Nat} {y : Nat} {B : Int} (ha : OB T a 11) (h_w : -2147483648 ≤ w ∧ w ≤ 2147483647) (h_n : -2147483648 ≤ n ∧ n ≤ 2147483647) (hw : WT T σ) (hrn : σ.2.1 103 a = (rn : Int)) (hxa : σ.2.1 59 rn = (xa : Int)) (hxb : σ.2.1 60 rn = (xb : Int)) (hxc : σ.2.1 61 rn = (xc : Int)) (hxd : σ.2.1 62 rn = (xd : Int)) (hxe : σ.2.1 63 rn = (xe : Int)) (hxf : σ.2.1 64 rn = (xf : Int)) (hy : σ.2.1 55 rn = (y : Int)) (htr : TR σ a B) (hB : B ≤ 11164000) : Tn (d + 7) m_X11_go 0 T σ [(0, .ref a), (1, .int (iI w)), (2, .int (iI n))] [] (fun ro T2 σ2 => ∃ v : Int, ro = some (.int (iI v)) ∧ T = T2 ∧ WT T2 σ2 ∧ FrC T [56, 57, 58, 65, 66, 67, 68, 69, 515] σ σ2 ∧ (-2147483648 ≤ v ∧ v ≤ 2147483647) ∧ (CHX [(56, rn), (57, rn), (58, rn), (65, rn), (66, rn), (67, rn), (68, rn), (69, rn), (70, rn), (71, rn)] [xa, xb, xc, xd, xe, xf] [] σ σ2) ∧ (TR σ2 a (B + 20001)) ∧ ((¬ ((0 ≤ w ∧ w ≤ 2) ∧ (1 ≤ n ∧ n ≤ 20000) ∧ σ.2.1 56 rn ≠ 0) ∧ v = -1 ∧ σ2 = σ) ∨ (((0 ≤ w ∧ w ≤ 2) ∧ (1 ≤ n ∧ n ≤ 20000) ∧ σ.2.1 56 rn ≠ 0) ∧ JAD T σ rn xa xb xc xd xe xf y w n v σ2))) := by
  refine tn_iload_n dX11_go_0 rfl 1 rfl ?_
  refine tn_if_lt (tgt := 31) dX11_go_1 (by decide) ⟨by omega, by omega⟩ (fun h1 => ?_) (fun h1 => ?_)
  · refine tn_iconst dX11_go_31 ?_
    exact tn_iret rfl dX11_go_32 ⟨_, rfl, rfl, hw, FrC.rfl, by omega, CHX.rfl, htr.up (by omega), Or.inl ⟨by omega, rfl, rfl⟩⟩
  · refine tn_iload_n dX11_go_4 rfl 1 rfl ?_
    refine tn_iconst dX11_go_5 ?_
    refine tn_icmp_gt (tgt := 31) dX11_go_6 (by decide) ⟨by omega, by omega⟩ ⟨by decide, by decide⟩ (fun h2 => ?_) (fun h2 => ?_)
    · refine tn_iconst dX11_go_31 ?_
      exact tn_iret rfl dX11_go_32 ⟨_, rfl, rfl, hw, FrC.rfl, by omega, CHX.rfl, htr.up (by omega), Or.inl ⟨by omega, rfl, rfl⟩⟩
    · refine tn_iload_n dX11_go_9 rfl 2 rfl ?_
      refine tn_iconst dX11_go_10 ?_
      refine tn_icmp_lt (tgt := 31) dX11_go_11 (by decide) ⟨by omega, by omega⟩ ⟨by decide, by decide⟩ (fun h3 => ?_) (fun h3 => ?_)
      · refine tn_iconst dX11_go_31 ?_
        exact tn_iret rfl dX11_go_32 ⟨_, rfl, rfl, hw, FrC.rfl, by omega, CHX.rfl, htr.up (by omega), Or.inl ⟨by omega, rfl, rfl⟩⟩
      · refine tn_iload_n dX11_go_14 rfl 2 rfl ?_
        refine tn_sipush dX11_go_15 (by decide) ?_
        refine tn_icmp_gt (tgt := 31) dX11_go_18 (by decide) ⟨by omega, by omega⟩ ⟨by decide, by decide⟩ (fun h4 => ?_) (fun h4 => ?_)
        · refine tn_iconst dX11_go_31 ?_
          exact tn_iret rfl dX11_go_32 ⟨_, rfl, rfl, hw, FrC.rfl, by omega, CHX.rfl, htr.up (by omega), Or.inl ⟨by omega, rfl, rfl⟩⟩
        · refine tn_aload_n dX11_go_21 rfl 0 rfl ?_
          have hk7 : (T rn).1 = 37 := ob_of (wf_103 hw ha) hrn
          have hk7o : OB T rn 7 := ⟨by omega, by rw [hk7]; rfl, by omega⟩
          refine tn_getR (ci := 11) (i := 8) (n := 103) (x := rn) dX11_go_22 rfl lay_11 (by decide) fl11_83 ha rfl rfl (hrn) ?_
          refine tn_getI (ci := 7) (i := 1) (n := 56) (t := σ.2.1 56 rn) dX11_go_25 rfl lay_7 (by decide) fl11_208 hk7o rfl rfl (rfl) ?_
          have g9 : ((-2147483648 : Int) ≤ σ.2.1 56 rn ∧ σ.2.1 56 rn ≤ 2147483647) := wf_56 hw hk7o
          refine tn_if_ne (tgt := 33) dX11_go_28 (by decide) ⟨by omega, by omega⟩ (fun h10 => ?_) (fun h10 => ?_)
          · refine tn_aload_n dX11_go_33 rfl 0 rfl ?_
            refine tn_getR (ci := 11) (i := 8) (n := 103) (x := rn) dX11_go_34 rfl lay_11 (by decide) fl11_83 ha rfl rfl (hrn) ?_
            refine tn_iload_n dX11_go_37 rfl 1 rfl ?_
            refine tn_iload_n dX11_go_38 rfl 2 rfl ?_
            obtain ⟨hk13, hl14⟩ : AR T xa 15 9 9 := ar_of (wf_59 hw hk7o) hxa
            have hk13i : IA T xa := by unfold IA; omega
            obtain ⟨hk17, hl18⟩ : AR T xb 1 9 9 := ar_of (wf_60 hw hk7o) hxb
            have hk17i : IA T xb := by unfold IA; omega
            obtain ⟨hl22, hk21a, hk21b⟩ := ex_at (wf_61 hw hk7o) hxc
            have hk21 : (T xc).1 = 1 := hk21b (by omega)
            clear hk21a hk21b
            have hk21i : IA T xc := by unfold IA; omega
            obtain ⟨hk25, hl26⟩ : AR T xd 1 108 108 := ar_of (wf_62 hw hk7o) hxd
            have hk25i : IA T xd := by unfold IA; omega
            obtain ⟨hk29, hl30⟩ : AR T xe 1 1728 1728 := ar_of (wf_63 hw hk7o) hxe
            have hk29i : IA T xe := by unfold IA; omega
            obtain ⟨hk33, hl34⟩ : AR T xf 1 200 200 := ar_of (wf_64 hw hk7o) hxf
            have hk33i : IA T xf := by unfold IA; omega
            obtain ⟨hl38, hk37a, hk37b⟩ := ex_at (wf_55 hw hk7o) hy
            have hk37i : (T y).1 = 4 ∨ (T y).1 = 5 := by omega
            have hk37c : RROW T rn y := ⟨hk37a, hk37b⟩
            clear hk37a hk37b
            refine tn_callV (M := m_X11_go) (pc := 39) (ix := 211) (ci := 7) (M' := m_X7_advance) (As := [.int (iI w), .int (iI n)]) (rest := []) dX11_go_39 ok_X7_advance im_X7_advance se_X7_advance ml11_211 np_X7_advance rfl rfl hk7o rfl (Nat.le_of_ble_eq_true rfl) (Nat.le_of_ble_eq_true rfl) rfl (k_X7_advance_j (d) (T := T) (σ := σ) (a := rn) (w := w) (n := n) (xa := xa) (xb := xb) (xc := xc) (xd := xd) (xe := xe) (xf := xf) (y := y) hk7o hk7 (by omega) (by omega) hw (hxa) (hxb) (hxc) (hxd) (hxe) (hxf) (hy) (by omega) (by have q9 := htr rn (hrn); omega)) (fun r39 T41 σ40 gt42 hp => ?_)
            obtain ⟨v47, rfl, rfl, w48, F49, f43, f44, f45, f46⟩ := hp
            clear gt42
            show Tn _ _ 42 T σ40 [(0, .ref a), (1, .int (iI w)), (2, .int (iI n))] [.int (iI v47)] _
            exact tn_iret rfl dX11_go_42 ⟨_, rfl, rfl, w48, (FrC.rfl.trans (FrC.sub F49 (by decide))), by omega, (CHX.rfl.trans (CHX.sub f44 (by simp) (by simp) (by simp))), TR.of (rc_F F49 (Or.inl (by decide)) (by decide) (hrn)) (by have q9 := htr rn hrn; omega), Or.inr ⟨⟨by omega, by omega, by omega⟩, f46⟩⟩
          · refine tn_iconst dX11_go_31 ?_
            exact tn_iret rfl dX11_go_32 ⟨_, rfl, rfl, hw, FrC.rfl, by omega, CHX.rfl, htr.up (by omega), Or.inl ⟨by omega, rfl, rfl⟩⟩
end
section
set_option maxHeartbeats 1000000 in
set_option maxRecDepth 20000 in
theorem k_X11_run_j (d : Nat) {T : CT} {σ : MS} {a : Nat} {w : Int} {rn : Nat} {xb : Nat} (ha : OB T a 11) (h_w : -2147483648 ≤ w ∧ w ≤ 2147483647) (hw : WT T σ) (hrn : σ.2.1 103 a = (rn : Int)) (hxb : σ.2.1 60 rn = (xb : Int)) : Tn (d + 3) m_X11_run 0 T σ [(0, .ref a), (1, .int (iI w))] [] (fun ro T2 σ2 => ∃ v : Int, ro = some (.int (iI v)) ∧ T = T2 ∧ σ = σ2 ∧ (-2147483648 ≤ v ∧ v ≤ 2147483647) ∧ (RNB T σ rn xb w v)) := by
  refine tn_aload_n dX11_run_0 rfl 0 rfl ?_
  have hk3 : (T rn).1 = 37 := ob_of (wf_103 hw ha) hrn
  have hk3o : OB T rn 7 := ⟨by omega, by rw [hk3]; rfl, by omega⟩
  refine tn_getR (ci := 11) (i := 8) (n := 103) (x := rn) dX11_run_1 rfl lay_11 (by decide) fl11_83 ha rfl rfl (hrn) ?_
  refine tn_getI (ci := 7) (i := 1) (n := 56) (t := σ.2.1 56 rn) dX11_run_4 rfl lay_7 (by decide) fl11_208 hk3o rfl rfl (rfl) ?_
  have g5 : ((-2147483648 : Int) ≤ σ.2.1 56 rn ∧ σ.2.1 56 rn ≤ 2147483647) := wf_56 hw hk3o
  refine tn_if_ne (tgt := 12) dX11_run_7 (by decide) ⟨by omega, by omega⟩ (fun h6 => ?_) (fun h6 => ?_)
  · refine tn_iload_n dX11_run_12 rfl 1 rfl ?_
    by_cases h7 : w < 0 ∨ 5 < w
    · refine tn_tableOut (tgt := 124) dX11_run_13 (x := w) ⟨by omega, by omega⟩ h7 (by decide) ?_
      refine tn_iconst dX11_run_124 ?_
      exact tn_iret rfl dX11_run_125 ⟨_, rfl, rfl, rfl, by omega, (by first | (refine Or.inl ⟨?_, ?_⟩ <;> omega) | (refine Or.inr ⟨?_, Or.inl ⟨?_, ?_, ?_⟩⟩ <;> omega) | (refine Or.inr ⟨?_, Or.inr (Or.inl ⟨?_, ?_, ?_⟩)⟩ <;> omega) | (refine Or.inr ⟨?_, Or.inr (Or.inr (Or.inl ⟨?_, ?_⟩))⟩ <;> omega) | (refine Or.inr ⟨?_, Or.inr (Or.inr (Or.inr (Or.inl ⟨?_, ?_⟩)))⟩ <;> omega) | (refine Or.inr ⟨?_, Or.inr (Or.inr (Or.inr (Or.inr (Or.inl ⟨?_, ?_⟩))))⟩ <;> omega) | (refine Or.inr ⟨?_, Or.inr (Or.inr (Or.inr (Or.inr (Or.inr (Or.inl ⟨?_, ?_⟩)))))⟩ <;> omega) | (refine Or.inr ⟨?_, Or.inr (Or.inr (Or.inr (Or.inr (Or.inr (Or.inr (Or.inl ⟨?_, ?_, ?_⟩))))))⟩ <;> omega) | (refine Or.inr ⟨?_, Or.inr (Or.inr (Or.inr (Or.inr (Or.inr (Or.inr (Or.inr (Or.inl ⟨?_, ?_, ?_⟩)))))))⟩ <;> omega) | (refine Or.inr ⟨?_, Or.inr (Or.inr (Or.inr (Or.inr (Or.inr (Or.inr (Or.inr (Or.inr (⟨?_, ?_⟩))))))))⟩ <;> omega))⟩
    · have h8 : w = 0 ∨ w = 1 ∨ w = 2 ∨ w = 3 ∨ w = 4 ∨ w = 5 := by omega
      rcases h8 with h8 | h8 | h8 | h8 | h8 | h8
      · refine tn_tableIn (tgt := 52) (off := 39) dX11_run_13 (x := w) ⟨by omega, by omega⟩ (by omega) (by omega) (by rw [h8]; rfl) (by decide) ?_
        refine tn_aload_n dX11_run_52 rfl 0 rfl ?_
        refine tn_getR (ci := 11) (i := 8) (n := 103) (x := rn) dX11_run_53 rfl lay_11 (by decide) fl11_83 ha rfl rfl (hrn) ?_
        refine tn_getI (ci := 7) (i := 1) (n := 56) (t := σ.2.1 56 rn) dX11_run_56 rfl lay_7 (by decide) fl11_208 hk3o rfl rfl (rfl) ?_
        refine tn_iconst dX11_run_59 ?_
        refine tn_icmp_ne (tgt := 67) dX11_run_60 (by decide) ⟨by omega, by omega⟩ ⟨by decide, by decide⟩ (fun h9 => ?_) (fun h9 => ?_)
        · refine tn_aload_n dX11_run_67 rfl 0 rfl ?_
          refine tn_getR (ci := 11) (i := 8) (n := 103) (x := rn) dX11_run_68 rfl lay_11 (by decide) fl11_83 ha rfl rfl (hrn) ?_
          obtain ⟨hk12, hl13⟩ : AR T xb 1 9 9 := ar_of (wf_60 hw hk3o) hxb
          have hk12i : IA T xb := by unfold IA; omega
          refine tn_callV (M := m_X11_run) (pc := 71) (ix := 241) (ci := 7) (M' := m_X7_place) (As := []) (rest := []) dX11_run_71 ok_X7_place im_X7_place se_X7_place ml11_241 np_X7_place rfl rfl hk3o rfl (Nat.le_of_ble_eq_true rfl) (Nat.le_of_ble_eq_true rfl) rfl (k_X7_place_j (d) (T := T) (σ := σ) (a := rn) (xb := xb) hk3o hw (hxb)) (fun r14 T16 σ15 gt17 hp => ?_)
          obtain ⟨v20, rfl, rfl, rfl, f18, f19⟩ := hp
          clear gt17
          show Tn _ _ 74 T σ [(0, .ref a), (1, .int (iI w))] [.int (iI v20)] _
          exact tn_iret rfl dX11_run_74 ⟨_, rfl, rfl, rfl, by omega, (by first | (refine Or.inl ⟨?_, ?_⟩ <;> omega) | (refine Or.inr ⟨?_, Or.inl ⟨?_, ?_, ?_⟩⟩ <;> omega) | (refine Or.inr ⟨?_, Or.inr (Or.inl ⟨?_, ?_, ?_⟩)⟩ <;> omega) | (refine Or.inr ⟨?_, Or.inr (Or.inr (Or.inl ⟨?_, ?_⟩))⟩ <;> omega) | (refine Or.inr ⟨?_, Or.inr (Or.inr (Or.inr (Or.inl ⟨?_, ?_⟩)))⟩ <;> omega) | (refine Or.inr ⟨?_, Or.inr (Or.inr (Or.inr (Or.inr (Or.inl ⟨?_, ?_⟩))))⟩ <;> omega) | (refine Or.inr ⟨?_, Or.inr (Or.inr (Or.inr (Or.inr (Or.inr (Or.inl ⟨?_, ?_⟩)))))⟩ <;> omega) | (refine Or.inr ⟨?_, Or.inr (Or.inr (Or.inr (Or.inr (Or.inr (Or.inr (Or.inl ⟨?_, ?_, ?_⟩))))))⟩ <;> omega) | (refine Or.inr ⟨?_, Or.inr (Or.inr (Or.inr (Or.inr (Or.inr (Or.inr (Or.inr (Or.inl ⟨?_, ?_, ?_⟩)))))))⟩ <;> omega) | (refine Or.inr ⟨?_, Or.inr (Or.inr (Or.inr (Or.inr (Or.inr (Or.inr (Or.inr (Or.inr (⟨?_, ?_⟩))))))))⟩ <;> omega))⟩
        · refine tn_iconst dX11_run_63 ?_
          refine tn_goto (tgt := 74) dX11_run_64 (by decide) ?_
          exact tn_iret rfl dX11_run_74 ⟨_, rfl, rfl, rfl, by omega, (by first | (refine Or.inl ⟨?_, ?_⟩ <;> omega) | (refine Or.inr ⟨?_, Or.inl ⟨?_, ?_, ?_⟩⟩ <;> omega) | (refine Or.inr ⟨?_, Or.inr (Or.inl ⟨?_, ?_, ?_⟩)⟩ <;> omega) | (refine Or.inr ⟨?_, Or.inr (Or.inr (Or.inl ⟨?_, ?_⟩))⟩ <;> omega) | (refine Or.inr ⟨?_, Or.inr (Or.inr (Or.inr (Or.inl ⟨?_, ?_⟩)))⟩ <;> omega) | (refine Or.inr ⟨?_, Or.inr (Or.inr (Or.inr (Or.inr (Or.inl ⟨?_, ?_⟩))))⟩ <;> omega) | (refine Or.inr ⟨?_, Or.inr (Or.inr (Or.inr (Or.inr (Or.inr (Or.inl ⟨?_, ?_⟩)))))⟩ <;> omega) | (refine Or.inr ⟨?_, Or.inr (Or.inr (Or.inr (Or.inr (Or.inr (Or.inr (Or.inl ⟨?_, ?_, ?_⟩))))))⟩ <;> omega) | (refine Or.inr ⟨?_, Or.inr (Or.inr (Or.inr (Or.inr (Or.inr (Or.inr (Or.inr (Or.inl ⟨?_, ?_, ?_⟩)))))))⟩ <;> omega) | (refine Or.inr ⟨?_, Or.inr (Or.inr (Or.inr (Or.inr (Or.inr (Or.inr (Or.inr (Or.inr (⟨?_, ?_⟩))))))))⟩ <;> omega))⟩
      · refine tn_tableIn (tgt := 75) (off := 62) dX11_run_13 (x := w) ⟨by omega, by omega⟩ (by omega) (by omega) (by rw [h8]; rfl) (by decide) ?_
        refine tn_aload_n dX11_run_75 rfl 0 rfl ?_
        refine tn_getR (ci := 11) (i := 8) (n := 103) (x := rn) dX11_run_76 rfl lay_11 (by decide) fl11_83 ha rfl rfl (hrn) ?_
        refine tn_getI (ci := 7) (i := 10) (n := 65) (t := σ.2.1 65 rn) dX11_run_79 rfl lay_7 (by decide) fl11_243 hk3o rfl rfl (rfl) ?_
        have g21 : ((-2147483648 : Int) ≤ σ.2.1 65 rn ∧ σ.2.1 65 rn ≤ 2147483647) := wf_65 hw hk3o
        exact tn_iret rfl dX11_run_82 ⟨_, rfl, rfl, rfl, by omega, (by first | (refine Or.inl ⟨?_, ?_⟩ <;> omega) | (refine Or.inr ⟨?_, Or.inl ⟨?_, ?_, ?_⟩⟩ <;> omega) | (refine Or.inr ⟨?_, Or.inr (Or.inl ⟨?_, ?_, ?_⟩)⟩ <;> omega) | (refine Or.inr ⟨?_, Or.inr (Or.inr (Or.inl ⟨?_, ?_⟩))⟩ <;> omega) | (refine Or.inr ⟨?_, Or.inr (Or.inr (Or.inr (Or.inl ⟨?_, ?_⟩)))⟩ <;> omega) | (refine Or.inr ⟨?_, Or.inr (Or.inr (Or.inr (Or.inr (Or.inl ⟨?_, ?_⟩))))⟩ <;> omega) | (refine Or.inr ⟨?_, Or.inr (Or.inr (Or.inr (Or.inr (Or.inr (Or.inl ⟨?_, ?_⟩)))))⟩ <;> omega) | (refine Or.inr ⟨?_, Or.inr (Or.inr (Or.inr (Or.inr (Or.inr (Or.inr (Or.inl ⟨?_, ?_, ?_⟩))))))⟩ <;> omega) | (refine Or.inr ⟨?_, Or.inr (Or.inr (Or.inr (Or.inr (Or.inr (Or.inr (Or.inr (Or.inl ⟨?_, ?_, ?_⟩)))))))⟩ <;> omega) | (refine Or.inr ⟨?_, Or.inr (Or.inr (Or.inr (Or.inr (Or.inr (Or.inr (Or.inr (Or.inr (⟨?_, ?_⟩))))))))⟩ <;> omega))⟩
      · refine tn_tableIn (tgt := 83) (off := 70) dX11_run_13 (x := w) ⟨by omega, by omega⟩ (by omega) (by omega) (by rw [h8]; rfl) (by decide) ?_
        refine tn_aload_n dX11_run_83 rfl 0 rfl ?_
        refine tn_getR (ci := 11) (i := 8) (n := 103) (x := rn) dX11_run_84 rfl lay_11 (by decide) fl11_83 ha rfl rfl (hrn) ?_
        refine tn_getI (ci := 7) (i := 12) (n := 67) (t := σ.2.1 67 rn) dX11_run_87 rfl lay_7 (by decide) fl11_246 hk3o rfl rfl (rfl) ?_
        have g22 : ((-2147483648 : Int) ≤ σ.2.1 67 rn ∧ σ.2.1 67 rn ≤ 2147483647) := wf_67 hw hk3o
        exact tn_iret rfl dX11_run_90 ⟨_, rfl, rfl, rfl, by omega, (by first | (refine Or.inl ⟨?_, ?_⟩ <;> omega) | (refine Or.inr ⟨?_, Or.inl ⟨?_, ?_, ?_⟩⟩ <;> omega) | (refine Or.inr ⟨?_, Or.inr (Or.inl ⟨?_, ?_, ?_⟩)⟩ <;> omega) | (refine Or.inr ⟨?_, Or.inr (Or.inr (Or.inl ⟨?_, ?_⟩))⟩ <;> omega) | (refine Or.inr ⟨?_, Or.inr (Or.inr (Or.inr (Or.inl ⟨?_, ?_⟩)))⟩ <;> omega) | (refine Or.inr ⟨?_, Or.inr (Or.inr (Or.inr (Or.inr (Or.inl ⟨?_, ?_⟩))))⟩ <;> omega) | (refine Or.inr ⟨?_, Or.inr (Or.inr (Or.inr (Or.inr (Or.inr (Or.inl ⟨?_, ?_⟩)))))⟩ <;> omega) | (refine Or.inr ⟨?_, Or.inr (Or.inr (Or.inr (Or.inr (Or.inr (Or.inr (Or.inl ⟨?_, ?_, ?_⟩))))))⟩ <;> omega) | (refine Or.inr ⟨?_, Or.inr (Or.inr (Or.inr (Or.inr (Or.inr (Or.inr (Or.inr (Or.inl ⟨?_, ?_, ?_⟩)))))))⟩ <;> omega) | (refine Or.inr ⟨?_, Or.inr (Or.inr (Or.inr (Or.inr (Or.inr (Or.inr (Or.inr (Or.inr (⟨?_, ?_⟩))))))))⟩ <;> omega))⟩
      · refine tn_tableIn (tgt := 91) (off := 78) dX11_run_13 (x := w) ⟨by omega, by omega⟩ (by omega) (by omega) (by rw [h8]; rfl) (by decide) ?_
        refine tn_aload_n dX11_run_91 rfl 0 rfl ?_
        refine tn_getR (ci := 11) (i := 8) (n := 103) (x := rn) dX11_run_92 rfl lay_11 (by decide) fl11_83 ha rfl rfl (hrn) ?_
        refine tn_getI (ci := 7) (i := 13) (n := 68) (t := σ.2.1 68 rn) dX11_run_95 rfl lay_7 (by decide) fl11_249 hk3o rfl rfl (rfl) ?_
        have g23 : ((-2147483648 : Int) ≤ σ.2.1 68 rn ∧ σ.2.1 68 rn ≤ 2147483647) := wf_68 hw hk3o
        exact tn_iret rfl dX11_run_98 ⟨_, rfl, rfl, rfl, by omega, (by first | (refine Or.inl ⟨?_, ?_⟩ <;> omega) | (refine Or.inr ⟨?_, Or.inl ⟨?_, ?_, ?_⟩⟩ <;> omega) | (refine Or.inr ⟨?_, Or.inr (Or.inl ⟨?_, ?_, ?_⟩)⟩ <;> omega) | (refine Or.inr ⟨?_, Or.inr (Or.inr (Or.inl ⟨?_, ?_⟩))⟩ <;> omega) | (refine Or.inr ⟨?_, Or.inr (Or.inr (Or.inr (Or.inl ⟨?_, ?_⟩)))⟩ <;> omega) | (refine Or.inr ⟨?_, Or.inr (Or.inr (Or.inr (Or.inr (Or.inl ⟨?_, ?_⟩))))⟩ <;> omega) | (refine Or.inr ⟨?_, Or.inr (Or.inr (Or.inr (Or.inr (Or.inr (Or.inl ⟨?_, ?_⟩)))))⟩ <;> omega) | (refine Or.inr ⟨?_, Or.inr (Or.inr (Or.inr (Or.inr (Or.inr (Or.inr (Or.inl ⟨?_, ?_, ?_⟩))))))⟩ <;> omega) | (refine Or.inr ⟨?_, Or.inr (Or.inr (Or.inr (Or.inr (Or.inr (Or.inr (Or.inr (Or.inl ⟨?_, ?_, ?_⟩)))))))⟩ <;> omega) | (refine Or.inr ⟨?_, Or.inr (Or.inr (Or.inr (Or.inr (Or.inr (Or.inr (Or.inr (Or.inr (⟨?_, ?_⟩))))))))⟩ <;> omega))⟩
      · refine tn_tableIn (tgt := 99) (off := 86) dX11_run_13 (x := w) ⟨by omega, by omega⟩ (by omega) (by omega) (by rw [h8]; rfl) (by decide) ?_
        refine tn_aload_n dX11_run_99 rfl 0 rfl ?_
        refine tn_getR (ci := 11) (i := 8) (n := 103) (x := rn) dX11_run_100 rfl lay_11 (by decide) fl11_83 ha rfl rfl (hrn) ?_
        refine tn_getI (ci := 7) (i := 3) (n := 58) (t := σ.2.1 58 rn) dX11_run_103 rfl lay_7 (by decide) fl11_252 hk3o rfl rfl (rfl) ?_
        have g24 : ((-2147483648 : Int) ≤ σ.2.1 58 rn ∧ σ.2.1 58 rn ≤ 2147483647) := wf_58 hw hk3o
        exact tn_iret rfl dX11_run_106 ⟨_, rfl, rfl, rfl, by omega, (by first | (refine Or.inl ⟨?_, ?_⟩ <;> omega) | (refine Or.inr ⟨?_, Or.inl ⟨?_, ?_, ?_⟩⟩ <;> omega) | (refine Or.inr ⟨?_, Or.inr (Or.inl ⟨?_, ?_, ?_⟩)⟩ <;> omega) | (refine Or.inr ⟨?_, Or.inr (Or.inr (Or.inl ⟨?_, ?_⟩))⟩ <;> omega) | (refine Or.inr ⟨?_, Or.inr (Or.inr (Or.inr (Or.inl ⟨?_, ?_⟩)))⟩ <;> omega) | (refine Or.inr ⟨?_, Or.inr (Or.inr (Or.inr (Or.inr (Or.inl ⟨?_, ?_⟩))))⟩ <;> omega) | (refine Or.inr ⟨?_, Or.inr (Or.inr (Or.inr (Or.inr (Or.inr (Or.inl ⟨?_, ?_⟩)))))⟩ <;> omega) | (refine Or.inr ⟨?_, Or.inr (Or.inr (Or.inr (Or.inr (Or.inr (Or.inr (Or.inl ⟨?_, ?_, ?_⟩))))))⟩ <;> omega) | (refine Or.inr ⟨?_, Or.inr (Or.inr (Or.inr (Or.inr (Or.inr (Or.inr (Or.inr (Or.inl ⟨?_, ?_, ?_⟩)))))))⟩ <;> omega) | (refine Or.inr ⟨?_, Or.inr (Or.inr (Or.inr (Or.inr (Or.inr (Or.inr (Or.inr (Or.inr (⟨?_, ?_⟩))))))))⟩ <;> omega))⟩
      · refine tn_tableIn (tgt := 107) (off := 94) dX11_run_13 (x := w) ⟨by omega, by omega⟩ (by omega) (by omega) (by rw [h8]; rfl) (by decide) ?_
        refine tn_aload_n dX11_run_107 rfl 0 rfl ?_
        refine tn_getR (ci := 11) (i := 8) (n := 103) (x := rn) dX11_run_108 rfl lay_11 (by decide) fl11_83 ha rfl rfl (hrn) ?_
        refine tn_getI (ci := 7) (i := 1) (n := 56) (t := σ.2.1 56 rn) dX11_run_111 rfl lay_7 (by decide) fl11_208 hk3o rfl rfl (rfl) ?_
        refine tn_iconst dX11_run_114 ?_
        refine tn_icmp_ne (tgt := 122) dX11_run_115 (by decide) ⟨by omega, by omega⟩ ⟨by decide, by decide⟩ (fun h25 => ?_) (fun h25 => ?_)
        · refine tn_iconst dX11_run_122 ?_
          exact tn_iret rfl dX11_run_123 ⟨_, rfl, rfl, rfl, by omega, (by first | (refine Or.inl ⟨?_, ?_⟩ <;> omega) | (refine Or.inr ⟨?_, Or.inl ⟨?_, ?_, ?_⟩⟩ <;> omega) | (refine Or.inr ⟨?_, Or.inr (Or.inl ⟨?_, ?_, ?_⟩)⟩ <;> omega) | (refine Or.inr ⟨?_, Or.inr (Or.inr (Or.inl ⟨?_, ?_⟩))⟩ <;> omega) | (refine Or.inr ⟨?_, Or.inr (Or.inr (Or.inr (Or.inl ⟨?_, ?_⟩)))⟩ <;> omega) | (refine Or.inr ⟨?_, Or.inr (Or.inr (Or.inr (Or.inr (Or.inl ⟨?_, ?_⟩))))⟩ <;> omega) | (refine Or.inr ⟨?_, Or.inr (Or.inr (Or.inr (Or.inr (Or.inr (Or.inl ⟨?_, ?_⟩)))))⟩ <;> omega) | (refine Or.inr ⟨?_, Or.inr (Or.inr (Or.inr (Or.inr (Or.inr (Or.inr (Or.inl ⟨?_, ?_, ?_⟩))))))⟩ <;> omega) | (refine Or.inr ⟨?_, Or.inr (Or.inr (Or.inr (Or.inr (Or.inr (Or.inr (Or.inr (Or.inl ⟨?_, ?_, ?_⟩)))))))⟩ <;> omega) | (refine Or.inr ⟨?_, Or.inr (Or.inr (Or.inr (Or.inr (Or.inr (Or.inr (Or.inr (Or.inr (⟨?_, ?_⟩))))))))⟩ <;> omega))⟩
        · refine tn_iconst dX11_run_118 ?_
          refine tn_goto (tgt := 123) dX11_run_119 (by decide) ?_
          exact tn_iret rfl dX11_run_123 ⟨_, rfl, rfl, rfl, by omega, (by first | (refine Or.inl ⟨?_, ?_⟩ <;> omega) | (refine Or.inr ⟨?_, Or.inl ⟨?_, ?_, ?_⟩⟩ <;> omega) | (refine Or.inr ⟨?_, Or.inr (Or.inl ⟨?_, ?_, ?_⟩)⟩ <;> omega) | (refine Or.inr ⟨?_, Or.inr (Or.inr (Or.inl ⟨?_, ?_⟩))⟩ <;> omega) | (refine Or.inr ⟨?_, Or.inr (Or.inr (Or.inr (Or.inl ⟨?_, ?_⟩)))⟩ <;> omega) | (refine Or.inr ⟨?_, Or.inr (Or.inr (Or.inr (Or.inr (Or.inl ⟨?_, ?_⟩))))⟩ <;> omega) | (refine Or.inr ⟨?_, Or.inr (Or.inr (Or.inr (Or.inr (Or.inr (Or.inl ⟨?_, ?_⟩)))))⟩ <;> omega) | (refine Or.inr ⟨?_, Or.inr (Or.inr (Or.inr (Or.inr (Or.inr (Or.inr (Or.inl ⟨?_, ?_, ?_⟩))))))⟩ <;> omega) | (refine Or.inr ⟨?_, Or.inr (Or.inr (Or.inr (Or.inr (Or.inr (Or.inr (Or.inr (Or.inl ⟨?_, ?_, ?_⟩)))))))⟩ <;> omega) | (refine Or.inr ⟨?_, Or.inr (Or.inr (Or.inr (Or.inr (Or.inr (Or.inr (Or.inr (Or.inr (⟨?_, ?_⟩))))))))⟩ <;> omega))⟩
  · refine tn_iconst dX11_run_10 ?_
    exact tn_iret rfl dX11_run_11 ⟨_, rfl, rfl, rfl, by omega, (by first | (refine Or.inl ⟨?_, ?_⟩ <;> omega) | (refine Or.inr ⟨?_, Or.inl ⟨?_, ?_, ?_⟩⟩ <;> omega) | (refine Or.inr ⟨?_, Or.inr (Or.inl ⟨?_, ?_, ?_⟩)⟩ <;> omega) | (refine Or.inr ⟨?_, Or.inr (Or.inr (Or.inl ⟨?_, ?_⟩))⟩ <;> omega) | (refine Or.inr ⟨?_, Or.inr (Or.inr (Or.inr (Or.inl ⟨?_, ?_⟩)))⟩ <;> omega) | (refine Or.inr ⟨?_, Or.inr (Or.inr (Or.inr (Or.inr (Or.inl ⟨?_, ?_⟩))))⟩ <;> omega) | (refine Or.inr ⟨?_, Or.inr (Or.inr (Or.inr (Or.inr (Or.inr (Or.inl ⟨?_, ?_⟩)))))⟩ <;> omega) | (refine Or.inr ⟨?_, Or.inr (Or.inr (Or.inr (Or.inr (Or.inr (Or.inr (Or.inl ⟨?_, ?_, ?_⟩))))))⟩ <;> omega) | (refine Or.inr ⟨?_, Or.inr (Or.inr (Or.inr (Or.inr (Or.inr (Or.inr (Or.inr (Or.inl ⟨?_, ?_, ?_⟩)))))))⟩ <;> omega) | (refine Or.inr ⟨?_, Or.inr (Or.inr (Or.inr (Or.inr (Or.inr (Or.inr (Or.inr (Or.inr (⟨?_, ?_⟩))))))))⟩ <;> omega))⟩
end
section
set_option maxHeartbeats 1000000 in
set_option maxRecDepth 20000 in
theorem k_X11_printed_j (d : Nat) {T : CT} {σ : MS} {a : Nat} {i : Int} {rn : Nat} {xf : Nat} (ha : OB T a 11) (h_i : -2147483648 ≤ i ∧ i ≤ 2147483647) (hw : WT T σ) (hrn : σ.2.1 103 a = (rn : Int)) (hxf : σ.2.1 64 rn = (xf : Int)) : Tn (d + 2) m_X11_printed 0 T σ [(0, .ref a), (1, .int (iI i))] [] (fun ro T2 σ2 => ∃ v : Int, ro = some (.int (iI v)) ∧ T = T2 ∧ σ = σ2 ∧ (-2147483648 ≤ v ∧ v ≤ 2147483647) ∧ (PRB T σ rn xf i v)) := by
  refine tn_aload_n dX11_printed_0 rfl 0 rfl ?_
  have hk3 : (T rn).1 = 37 := ob_of (wf_103 hw ha) hrn
  have hk3o : OB T rn 7 := ⟨by omega, by rw [hk3]; rfl, by omega⟩
  refine tn_getR (ci := 11) (i := 8) (n := 103) (x := rn) dX11_printed_1 rfl lay_11 (by decide) fl11_83 ha rfl rfl (hrn) ?_
  refine tn_getI (ci := 7) (i := 1) (n := 56) (t := σ.2.1 56 rn) dX11_printed_4 rfl lay_7 (by decide) fl11_208 hk3o rfl rfl (rfl) ?_
  have g5 : ((-2147483648 : Int) ≤ σ.2.1 56 rn ∧ σ.2.1 56 rn ≤ 2147483647) := wf_56 hw hk3o
  refine tn_if_eq (tgt := 25) dX11_printed_7 (by decide) ⟨by omega, by omega⟩ (fun h6 => ?_) (fun h6 => ?_)
  · refine tn_iconst dX11_printed_25 ?_
    exact tn_iret rfl dX11_printed_26 ⟨_, rfl, rfl, rfl, by omega, (by first | (refine Or.inl ⟨⟨?_, ?_, ?_⟩, ?_⟩ <;> omega) | (refine Or.inr ⟨?_, ?_⟩ <;> omega))⟩
  · refine tn_iload_n dX11_printed_10 rfl 1 rfl ?_
    refine tn_if_lt (tgt := 25) dX11_printed_11 (by decide) ⟨by omega, by omega⟩ (fun h7 => ?_) (fun h7 => ?_)
    · refine tn_iconst dX11_printed_25 ?_
      exact tn_iret rfl dX11_printed_26 ⟨_, rfl, rfl, rfl, by omega, (by first | (refine Or.inl ⟨⟨?_, ?_, ?_⟩, ?_⟩ <;> omega) | (refine Or.inr ⟨?_, ?_⟩ <;> omega))⟩
    · refine tn_iload_n dX11_printed_14 rfl 1 rfl ?_
      refine tn_aload_n dX11_printed_15 rfl 0 rfl ?_
      refine tn_getR (ci := 11) (i := 8) (n := 103) (x := rn) dX11_printed_16 rfl lay_11 (by decide) fl11_83 ha rfl rfl (hrn) ?_
      refine tn_getI (ci := 7) (i := 10) (n := 65) (t := σ.2.1 65 rn) dX11_printed_19 rfl lay_7 (by decide) fl11_243 hk3o rfl rfl (rfl) ?_
      have g8 : ((-2147483648 : Int) ≤ σ.2.1 65 rn ∧ σ.2.1 65 rn ≤ 2147483647) := wf_65 hw hk3o
      refine tn_icmp_lt (tgt := 27) dX11_printed_22 (by decide) ⟨by omega, by omega⟩ ⟨by omega, by omega⟩ (fun h9 => ?_) (fun h9 => ?_)
      · refine tn_aload_n dX11_printed_27 rfl 0 rfl ?_
        refine tn_getR (ci := 11) (i := 8) (n := 103) (x := rn) dX11_printed_28 rfl lay_11 (by decide) fl11_83 ha rfl rfl (hrn) ?_
        obtain ⟨hk12, hl13⟩ : AR T xf 1 200 200 := ar_of (wf_64 hw hk3o) hxf
        have hk12i : IA T xf := by unfold IA; omega
        refine tn_getR (ci := 7) (i := 9) (n := 64) (x := xf) dX11_printed_31 rfl lay_7 (by decide) fl11_255 hk3o rfl rfl (hxf) ?_
        refine tn_iload_n dX11_printed_34 rfl 1 rfl ?_
        refine tn_callS (M := m_X11_printed) (pc := 35) (ix := 162) (M' := m_X11_at) (As := [.ref xf, .int (iI i)]) (rest := []) dX11_printed_35 ok_X11_at stt_X11_at ml11_162 np_X11_at rfl (Nat.le_of_ble_eq_true rfl) (Nat.le_of_ble_eq_true rfl) rfl (k_X11_at_j (d) (T := T) (σ := σ) (x := xf) (i := i) hk12i (by omega) (by omega) hw ) (fun r14 T16 σ15 gt17 hp => ?_)
        obtain ⟨v21, rfl, rfl, rfl, f18, f19, f20⟩ := hp
        clear gt17
        clear f19
        show Tn _ _ 38 T σ [(0, .ref a), (1, .int (iI i))] [.int (iI v21)] _
        exact tn_iret rfl dX11_printed_38 ⟨_, rfl, rfl, rfl, by omega, (by first | (refine Or.inl ⟨⟨?_, ?_, ?_⟩, ?_⟩ <;> omega) | (refine Or.inr ⟨?_, ?_⟩ <;> omega))⟩
      · refine tn_iconst dX11_printed_25 ?_
        exact tn_iret rfl dX11_printed_26 ⟨_, rfl, rfl, rfl, by omega, (by first | (refine Or.inl ⟨⟨?_, ?_, ?_⟩, ?_⟩ <;> omega) | (refine Or.inr ⟨?_, ?_⟩ <;> omega))⟩
end
section
def inF (P : Int → Int) (f0 f : Int) : Prop := 0 ≤ f ∧ ∃ i : Nat, itU P i f0 = f
theorem inF.up {P : Int → Int} {d f : Int} (h : inF P (P d) f) (h0 : 0 ≤ d) : inF P d f := by
  obtain ⟨a, i, e⟩ := h
  refine ⟨a, i + 1, ?_⟩
  show (if d < 0 then d else itU P i (P d)) = f
  rw [if_neg (by omega)]
  exact e
theorem inF.dn {P : Int → Int} {d f : Int} (h : inF P d f) (h0 : 0 ≤ d) : f = d ∨ inF P (P d) f := by
  obtain ⟨a, i, e⟩ := h
  cases i with
  | zero => exact Or.inl e.symm
  | succ i =>
    have e : (if d < 0 then d else itU P i (P d)) = f := e
    rw [if_neg (by omega)] at e
    exact Or.inr ⟨a, i, e⟩
def DX (xa xb xc xd xe xf : Nat) : Prop := (xa ≠ xb ∧ xa ≠ xc ∧ xa ≠ xd ∧ xa ≠ xe ∧ xa ≠ xf) ∧ (xb ≠ xc ∧ xb ≠ xd ∧ xb ≠ xe ∧ xb ≠ xf) ∧ (xc ≠ xd ∧ xc ≠ xe ∧ xc ≠ xf) ∧ (xd ≠ xe ∧ xd ≠ xf) ∧ xe ≠ xf
def RXC (σ : MS) (a xa xb xc xd xe : Nat) (C : Int → Nat) (τ : MS) : Prop :=
  ((1 ≤ τ.2.1 73 0 ∧ τ.2.1 73 0 ≤ 9) ∧ σ.2.1 57 a = τ.2.1 73 0 - 1) ∧ σ.2.1 58 a = dpt τ 0 ∧ σ.2.1 69 a = (C (τ.2.1 78 (τ.2.1 73 0 - 1)) : Int) ∧
  ∀ c, 0 ≤ c → c < τ.2.1 73 0 → (σ.2.1 (1000 + xa) c = τ.2.1 78 c ∧ σ.2.1 (1000 + xb) c = τ.2.1 79 c ∧ σ.2.1 (1000 + xc) c = τ.2.1 80 c) ∧ (∀ g, 0 ≤ g → g < 192 → σ.2.1 (1000 + xe) (c * 192 + g) = τ.2.1 82 (192 * c + g)) ∧ ∀ f, f < 12 → inF (prm τ 0 (τ.2.1 78 c)) (τ.2.1 80 c) f → σ.2.1 (1000 + xd) (c * 12 + f) = τ.2.1 81 (12 * c + f)
section RXS
variable {σ σ2 τ : MS} {a xa xb xc xd xe xf : Nat} {C : Int → Nat}
theorem RXC.cg (h : RXC σ a xa xb xc xd xe C τ) (e : σ2.2.1 57 a = σ.2.1 57 a ∧ σ2.2.1 58 a = σ.2.1 58 a ∧ σ2.2.1 69 a = σ.2.1 69 a) (r : σ2.2.1 (1000 + xa) = σ.2.1 (1000 + xa) ∧ σ2.2.1 (1000 + xb) = σ.2.1 (1000 + xb) ∧ σ2.2.1 (1000 + xc) = σ.2.1 (1000 + xc) ∧ σ2.2.1 (1000 + xd) = σ.2.1 (1000 + xd) ∧ σ2.2.1 (1000 + xe) = σ.2.1 (1000 + xe)) : RXC σ2 a xa xb xc xd xe C τ := by
  unfold RXC
  rw [e.1, e.2.1, e.2.2, r.1, r.2.1, r.2.2.1, r.2.2.2.1, r.2.2.2.2]
  exact h
theorem RXC.fld {n : Nat} {v : Int} (h : RXC σ a xa xb xc xd xe C τ) (hn : n ≠ 57 ∧ n ≠ 58 ∧ n ≠ 69 ∧ n < 1000) : RXC (sA n a v σ) a xa xb xc xd xe C τ :=
  h.cg ⟨by rw [sA_k (by omega)], by rw [sA_k (by omega)], by rw [sA_k (by omega)]⟩ ⟨sA_k (by omega), sA_k (by omega), sA_k (by omega), sA_k (by omega), sA_k (by omega)⟩
theorem RXC.tc {τ2 : MS} (h : RXC σ a xa xb xc xd xe C τ) (e : τ2.2.1 73 = τ.2.1 73 ∧ τ2.2.1 78 = τ.2.1 78 ∧ τ2.2.1 79 = τ.2.1 79 ∧ τ2.2.1 80 = τ.2.1 80 ∧ τ2.2.1 81 = τ.2.1 81 ∧ τ2.2.1 82 = τ.2.1 82 ∧ τ2.2.1 16 = τ.2.1 16) : RXC σ a xa xb xc xd xe C τ2 := by
  have ed : dpt τ2 0 = dpt τ 0 := by unfold dpt dch pr; rw [e.1, e.2.1, e.2.2.2.1, e.2.2.2.2.2.2]
  have ep : prm τ2 0 = prm τ 0 := by funext r f; unfold prm; rw [e.2.2.2.2.2.2]
  unfold RXC
  rw [ed, ep, e.1, e.2.1, e.2.2.1, e.2.2.2.1, e.2.2.2.2.1, e.2.2.2.2.2.1]
  exact h
theorem RXC.place {t p : Int} (h : RXC σ a xa xb xc xd xe C τ) (d : DX xa xb xc xd xe xf) (ht : t = τ.2.1 73 0 - 1) : RXC (sA (1000 + xb) t p σ) a xa xb xc xd xe C (sA 79 t p τ) := by
  obtain ⟨h1, h2, h3, h4⟩ := h
  unfold DX at d
  refine ⟨⟨h1.1, by rw [sA_k (by omega)]; exact h1.2⟩, by rw [sA_k (by omega)]; exact h2, by rw [sA_k (by omega)]; exact h3, fun c x y => ?_⟩
  have q := h4 c x y
  rw [sA_k (show 1000 + xa ≠ 1000 + xb by omega), sA_k (show 1000 + xc ≠ 1000 + xb by omega), sA_k (show 1000 + xd ≠ 1000 + xb by omega), sA_k (show 1000 + xe ≠ 1000 + xb by omega)]
  refine ⟨⟨q.1.1, ?_, q.1.2.2⟩, q.2.1, q.2.2⟩
  by_cases z : c = t
  · rw [z, ra_eq, ra_eq]
  · rw [ra_ne z rfl, ra_ne z rfl]; exact q.1.2.1
theorem RXC.reg {t g v : Int} (h : RXC σ a xa xb xc xd xe C τ) (d : DX xa xb xc xd xe xf) (g0 : 0 ≤ g ∧ g < 192) : RXC (sA (1000 + xe) (t * 192 + g) v σ) a xa xb xc xd xe C (sA 82 (192 * t + g) v τ) := by
  obtain ⟨h1, h2, h3, h4⟩ := h
  unfold DX at d
  refine ⟨⟨h1.1, by rw [sA_k (by omega)]; exact h1.2⟩, by rw [sA_k (by omega)]; exact h2, by rw [sA_k (by omega)]; exact h3, fun c x y => ?_⟩
  have q := h4 c x y
  rw [sA_k (show 1000 + xa ≠ 1000 + xe by omega), sA_k (show 1000 + xb ≠ 1000 + xe by omega), sA_k (show 1000 + xc ≠ 1000 + xe by omega), sA_k (show 1000 + xd ≠ 1000 + xe by omega)]
  refine ⟨q.1, fun u u0 u1 => ?_, q.2.2⟩
  by_cases z : c * 192 + u = t * 192 + g
  · rw [z, ra_eq, show 192 * c + u = 192 * t + g by omega, ra_eq]
  · rw [ra_ne z rfl, ra_ne (show 192 * c + u ≠ 192 * t + g by omega) rfl]; exact q.2.1 u u0 u1
theorem RXC.line {t g v : Int} (h : RXC σ a xa xb xc xd xe C τ) (d : DX xa xb xc xd xe xf) : RXC (sA (1000 + xd) (t * 12 + g) v σ) a xa xb xc xd xe C (sA 81 (12 * t + g) v τ) := by
  obtain ⟨h1, h2, h3, h4⟩ := h
  unfold DX at d
  refine ⟨⟨h1.1, by rw [sA_k (by omega)]; exact h1.2⟩, by rw [sA_k (by omega)]; exact h2, by rw [sA_k (by omega)]; exact h3, fun c x y => ?_⟩
  have q := h4 c x y
  rw [sA_k (show 1000 + xa ≠ 1000 + xd by omega), sA_k (show 1000 + xb ≠ 1000 + xd by omega), sA_k (show 1000 + xc ≠ 1000 + xd by omega), sA_k (show 1000 + xe ≠ 1000 + xd by omega)]
  refine ⟨q.1, q.2.1, fun u u1 hu => ?_⟩
  by_cases z : c * 12 + u = t * 12 + g
  · rw [z, ra_eq, show 12 * c + u = 12 * t + g by omega, ra_eq]
  · rw [ra_ne z rfl, ra_ne (show 12 * c + u ≠ 12 * t + g by omega) rfl]; exact q.2.2 u u1 hu
theorem RXC.ent {t g : Int} (h : RXC σ a xa xb xc xd xe C τ) (d : DX xa xb xc xd xe xf) (ht : t = τ.2.1 73 0 - 1) (g0 : 0 ≤ g) (hp : prm τ 0 (τ.2.1 78 t) g = τ.2.1 80 t) (hd : dpt (sA 81 (12 * t + g) 0 (sA 80 t g τ)) 0 = dpt τ 0 + 1) : RXC (sA (1000 + xd) (t * 12 + g) 0 (sA (1000 + xc) t g (sA 58 a (σ.2.1 58 a + 1) σ))) a xa xb xc xd xe C (sA 81 (12 * t + g) 0 (sA 80 t g τ)) := by
  obtain ⟨h1, h2, h3, h4⟩ := h
  unfold DX at d
  refine ⟨⟨h1.1, ?_⟩, ?_, ?_, fun c x y => ?_⟩
  · rw [sA_k (by omega), sA_k (by omega), sA_k (by omega)]; exact h1.2
  · rw [sA_k (by omega), sA_k (by omega), ra_eq, hd, h2]
  · rw [sA_k (by omega), sA_k (by omega), sA_k (by omega)]; exact h3
  have q := h4 c x y
  rw [sA_k (show 1000 + xa ≠ 1000 + xd by omega), sA_k (show 1000 + xa ≠ 1000 + xc by omega), sA_k (show 1000 + xa ≠ 58 by omega), sA_k (show 1000 + xb ≠ 1000 + xd by omega), sA_k (show 1000 + xb ≠ 1000 + xc by omega), sA_k (show 1000 + xb ≠ 58 by omega), sA_k (show 1000 + xc ≠ 1000 + xd by omega), sA_k (show 1000 + xe ≠ 1000 + xd by omega), sA_k (show 1000 + xe ≠ 1000 + xc by omega), sA_k (show 1000 + xe ≠ 58 by omega)]
  have e80 : ∀ c, (sA 81 (12 * t + g) 0 (sA 80 t g τ)).2.1 80 c = if c = t then g else τ.2.1 80 c := fun c => by
    by_cases z : c = t
    · rw [if_pos z, z]; exact ra_o (by decide) ra_eq
    · rw [if_neg z]; exact ra_o (by decide) (ra_ne z rfl)
  refine ⟨⟨q.1.1, q.1.2.1, ?_⟩, q.2.1, fun u u1 hu => ?_⟩
  · rw [e80]
    by_cases z : c = t
    · rw [if_pos z, z]; exact ra_eq
    · rw [if_neg z, ra_ne z rfl, sA_k (show 1000 + xc ≠ 58 by omega)]; exact q.1.2.2
  · rw [e80] at hu
    by_cases z : c * 12 + u = t * 12 + g
    · rw [z, ra_eq, show 12 * c + u = 12 * t + g by omega, ra_eq]
    · rw [ra_ne z rfl, sA_k (show 1000 + xd ≠ 1000 + xc by omega), sA_k (show 1000 + xd ≠ 58 by omega), ra_ne (show 12 * c + u ≠ 12 * t + g by omega) rfl]
      refine q.2.2 u u1 ?_
      by_cases w : c = t
      · rw [if_pos w] at hu
        have hu : inF (prm τ 0 (τ.2.1 78 c)) g u := hu
        rcases hu.dn g0 with e | e
        · rw [w, e] at z; exact absurd rfl z
        · rw [w] at e ⊢
          rw [hp] at e
          exact e
      · rw [if_neg w] at hu; exact hu
theorem RXC.lea {t g : Int} (h : RXC σ a xa xb xc xd xe C τ) (d : DX xa xb xc xd xe xf) (ht : t = τ.2.1 73 0 - 1) (f0 : 0 ≤ τ.2.1 80 t) (hg : prm τ 0 (τ.2.1 78 t) (τ.2.1 80 t) = g) (hd : dpt (sA 80 t g τ) 0 = dpt τ 0 - 1) : RXC (sA (1000 + xc) t g (sA 58 a (σ.2.1 58 a - 1) σ)) a xa xb xc xd xe C (sA 80 t g τ) := by
  obtain ⟨h1, h2, h3, h4⟩ := h
  unfold DX at d
  refine ⟨⟨h1.1, ?_⟩, ?_, ?_, fun c x y => ?_⟩
  · rw [sA_k (by omega), sA_k (by omega)]; exact h1.2
  · rw [sA_k (by omega), ra_eq, hd, h2]
  · rw [sA_k (by omega), sA_k (by omega)]; exact h3
  have q := h4 c x y
  rw [sA_k (show 1000 + xa ≠ 1000 + xc by omega), sA_k (show 1000 + xa ≠ 58 by omega), sA_k (show 1000 + xb ≠ 1000 + xc by omega), sA_k (show 1000 + xb ≠ 58 by omega), sA_k (show 1000 + xd ≠ 1000 + xc by omega), sA_k (show 1000 + xd ≠ 58 by omega), sA_k (show 1000 + xe ≠ 1000 + xc by omega), sA_k (show 1000 + xe ≠ 58 by omega)]
  have e80 : ∀ c, (sA 80 t g τ).2.1 80 c = if c = t then g else τ.2.1 80 c := fun c => by
    by_cases z : c = t
    · rw [if_pos z, z]; exact ra_eq
    · rw [if_neg z]; exact ra_ne z rfl
  refine ⟨⟨q.1.1, q.1.2.1, ?_⟩, q.2.1, fun u u1 hu => ?_⟩
  · rw [e80]
    by_cases z : c = t
    · rw [if_pos z, z]; exact ra_eq
    · rw [if_neg z, ra_ne z rfl, sA_k (show 1000 + xc ≠ 58 by omega)]; exact q.1.2.2
  · rw [e80] at hu
    refine q.2.2 u u1 ?_
    by_cases w : c = t
    · rw [if_pos w] at hu
      have hu : inF (prm τ 0 (τ.2.1 78 c)) g u := hu
      rw [w] at hu ⊢
      rw [← hg] at hu
      exact hu.up f0
    · rw [if_neg w] at hu; exact hu
end RXS
end
section
def RCX (T : CT) (σ τ : MS) (a xa xb xc xd xe xf c : Nat) (q : Int) : Prop :=
  c ≠ a ∧ (cdS σ c = rS τ q ∧ σ.2.1 8 c = τ.2.1 11 q) ∧ (WOK (cdW σ c) (σ.2.1 6 c) ∧ LNK (cdW σ c) (σ.2.1 6 c) ∧ RN9 σ c (τ.2.1 12)) ∧
  (σ.2.1 5 c = (adN σ 5 c : Int) ∧ σ.2.1 12 c = (adN σ 12 c : Int) ∧ σ.2.1 15 c = (adN σ 15 c : Int)) ∧
  (13 * σ.2.1 6 c ≤ ((T (adN σ 5 c)).2 : Int) ∧ (T (adN σ 12 c)).2 = 12 ∧ (T (adN σ 15 c)).2 = 144) ∧
  ∀ f, f ∈ AF6 → adN σ f c ∉ [xa, xb, xc, xd, xe, xf]
def RWF (T : CT) (σ : MS) (a xa xb xc xd xe xf y : Nat) (C : Int → Nat) (τ : MS) : Prop :=
  DX xa xb xc xd xe xf ∧ ((T xa).2 = 9 ∧ (T xb).2 = 9 ∧ (T xc).2 = 9 ∧ (T xd).2 = 108 ∧ (T xe).2 = 1728 ∧ (T xf).2 = 200) ∧ ((∀ q, 0 ≤ q → q < 6 → σ.2.1 (1000 + y) q = (C q : Int)) ∧ y ∉ [xa, xb, xc, xd, xe, xf]) ∧ ∀ q, 0 ≤ q → q < τ.1 10 → RCX T σ τ a xa xb xc xd xe xf (C q) q
section RWS
variable {T : CT} {σ σ2 τ : MS} {a xa xb xc xd xe xf y c : Nat} {q p e : Int} {C : Int → Nat}
theorem RCX.chx (h : RCX T σ τ a xa xb xc xd xe xf c q) (k : CHX (RNL a) [xa, xb, xc, xd, xe, xf] [] σ σ2) : RCX T σ2 τ a xa xb xc xd xe xf c q := by
  obtain ⟨h1, h2, h3, h4, h5, h6⟩ := h
  have fe : ∀ f : Nat, f < 1000 → σ2.2.1 f (c : Int) = σ.2.1 f c := fun f hf => k.1 f c hf (fun z hz _ w => by
    have e : z.2 = a := by
      simp only [List.mem_cons, List.not_mem_nil, or_false] at hz
      rcases hz with z | z | z | z | z | z | z | z | z | z <;> rw [z]
    rw [e] at w
    exact h1 (by omega))
  have ad : ∀ f : Nat, f < 1000 → adN σ2 f c = adN σ f c := fun f hf => by unfold adN; rw [fe f hf]
  have cs : CSM σ σ2 c := ⟨fun f _ _ => fe f (by omega), fun f hf => k.r (h6 f hf)⟩
  refine ⟨h1, ⟨by rw [cs.s]; exact h2.1, by rw [fe 8 (by decide)]; exact h2.2⟩, ⟨by rw [cs.w, fe 6 (by decide)]; exact h3.1, by rw [cs.w, fe 6 (by decide)]; exact h3.2.1, fun f f0 f1 => ?_⟩, ⟨by rw [ad 5 (by decide), fe 5 (by decide)]; exact h4.1, by rw [ad 12 (by decide), fe 12 (by decide)]; exact h4.2.1, by rw [ad 15 (by decide), fe 15 (by decide)]; exact h4.2.2⟩, ⟨by rw [ad 5 (by decide), fe 6 (by decide)]; exact h5.1, by rw [ad 12 (by decide)]; exact h5.2.1, by rw [ad 15 (by decide)]; exact h5.2.2⟩, fun f hf => ?_⟩
  · rw [fe 10 (by decide)] at f1
    rw [cs.rw (f := 14) (by decide) (by decide) (by decide), cs.rw (f := 11) (by decide) (by decide) (by decide)]
    exact h3.2.2 f f0 f1
  · have f1 : f < 1000 := by
      have hf2 := hf
      simp only [List.mem_cons, List.not_mem_nil, or_false] at hf2
      omega
    rw [ad f f1]
    exact h6 f hf
theorem RWF.chx (h : RWF T σ a xa xb xc xd xe xf y C τ) (k : CHX (RNL a) [xa, xb, xc, xd, xe, xf] [] σ σ2) : RWF T σ2 a xa xb xc xd xe xf y C τ :=
  ⟨h.1, h.2.1, ⟨fun q a b => by rw [k.r h.2.2.1.2]; exact h.2.2.1.1 q a b, h.2.2.1.2⟩, fun q a b => (h.2.2.2 q a b).chx k⟩
theorem RWF.tau {ss ks js : List Nat} {τ2 : MS} (h : RWF T σ a xa xb xc xd xe xf y C τ) (f : Fr ss ks js τ τ2) (hs : 10 ∉ ss) (hk : ∀ k ∈ [3, 4, 5, 6, 7, 8, 9, 11, 12, 14, 15, 16, 17, 18], k ∉ ks) : RWF T σ a xa xb xc xd xe xf y C τ2 := by
  refine ⟨h.1, h.2.1, h.2.2.1, fun q a b => ?_⟩
  rw [f.1 10 hs] at b
  have z := h.2.2.2 q a b
  unfold RCX at z ⊢
  rw [rs_fr f (fun k x => hk k ((by decide : ∀ k ∈ [3, 4, 5, 6, 7, 8, 9, 12, 14, 15, 16, 17, 18], k ∈ [3, 4, 5, 6, 7, 8, 9, 11, 12, 14, 15, 16, 17, 18]) k x)), f.q hk (k := 11) (by decide), f.q hk (k := 12) (by decide)]
  exact z
theorem RCX.n (h : RCX T σ τ a xa xb xc xd xe xf c q) : σ.2.1 6 c = τ.2.1 9 q := congrArg RTS.n h.2.1.1
theorem RCX.v (h : RCX T σ τ a xa xb xc xd xe xf c q) (p0 : 0 ≤ p) (p1 : p < τ.2.1 9 q) : nrm (cdW σ c p) = rI τ (220 * q + p) := by
  have e : vW (cdW σ c) p = rV τ q p := congrFun (congrArg RTS.V h.2.1.1) p
  rw [rv_in p0 p1] at e
  exact e
theorem RCX.cel (h : RCX T σ τ a xa xb xc xd xe xf c q) (p0 : 0 ≤ p) (p1 : p < τ.2.1 9 q) (h3 : e ≠ 3) (h12 : e ≠ 12) : cdW σ c p e = rI τ (220 * q + p) e := by
  rw [← h.v p0 p1]; exact (nrm_ne h3 h12).symm
theorem RCX.c3 (h : RCX T σ τ a xa xb xc xd xe xf c q) (p0 : 0 ≤ p) (p1 : p < τ.2.1 9 q) (k : τ.2.1 3 (220 * q + p) ≠ 12) : cdW σ c p 3 = rI τ (220 * q + p) 3 := by
  have e0 : cdW σ c p 0 = τ.2.1 3 (220 * q + p) := h.cel p0 p1 (by decide) (by decide)
  rw [← h.v p0 p1]; exact (nrm_3 (by rw [e0]; exact k)).symm
theorem RCX.g (h : RCX T σ τ a xa xb xc xd xe xf c q) (p0 : 0 ≤ p) (p1 : p < τ.2.1 9 q) (e0 : 0 ≤ e ∧ e ≤ 12) : jG T σ c (adN σ 5 c) p e = cdW σ c p e := by
  have n := h.n
  have l := h.2.2.2.2.1.1
  unfold jG cdW cW
  rw [if_pos ⟨⟨p0, by omega⟩, by omega⟩, if_pos ⟨⟨p0, by omega⟩, e0⟩, show p * 13 + e = 13 * p + e by omega]
theorem RCX.k (h : RCX T σ τ a xa xb xc xd xe xf c q) (p0 : 0 ≤ p) (p1 : p < τ.2.1 9 q) : jK T σ c (adN σ 5 c) p = τ.2.1 3 (220 * q + p) := by
  have n := h.n
  have l := h.2.2.2.2.1.1
  have e0 : cdW σ c p 0 = τ.2.1 3 (220 * q + p) := h.cel p0 p1 (by decide) (by decide)
  rw [← e0]
  unfold jK cdW cW
  rw [if_pos ⟨⟨p0, by omega⟩, by omega⟩, if_pos ⟨⟨p0, by omega⟩, by decide⟩, show p * 13 = 13 * p + 0 by omega]
end RWS
theorem w32_id {z : Int} (h : -2147483648 ≤ z ∧ z ≤ 2147483647) : w32 z = z := iI_toInt h
theorem jA_in {T : CT} {x : Nat} {i : Int} {σ : MS} (h : 0 ≤ i ∧ i < ((T x).2 : Int)) : jA T x i σ = σ.2.1 (1000 + x) i := if_pos h
theorem jP_in {T : CT} {x : Nat} {i y : Int} {σ : MS} (h : 0 ≤ i ∧ i < ((T x).2 : Int)) : jP T x i y σ = sA (1000 + x) i y σ := if_pos h
theorem jP_out {T : CT} {x : Nat} {i y : Int} {σ : MS} (h : ¬ (0 ≤ i ∧ i < ((T x).2 : Int))) : jP T x i y σ = σ := if_neg h
theorem dp_fr {ss ks js : List Nat} {τ τ2 : MS} {m r f : Int} (g : Fr ss ks js τ τ2) (h : 16 ∉ ks) : dp τ2 m r f = dp τ m r f := by unfold dp; rw [prm_fr g h]
theorem dpt_top {ss ks js : List Nat} {τ τ2 : MS} {t : Int} (g : Fr ss ks js τ τ2) (h : 16 ∉ ks) (h1 : 1 ≤ τ.2.1 73 0) (ht : t = τ.2.1 73 0 - 1) (e73 : τ2.2.1 73 0 = τ.2.1 73 0) (e78 : ∀ c, 0 ≤ c → c ≤ t → τ2.2.1 78 c = τ.2.1 78 c) (e80 : ∀ c, 0 ≤ c → c < t → τ2.2.1 80 c = τ.2.1 80 c) : dpt τ2 0 + dp τ 0 (τ.2.1 78 t) (τ.2.1 80 t) = dpt τ 0 + dp τ 0 (τ.2.1 78 t) (τ2.2.1 80 t) := by
  rw [dpt_dsum, dpt_dsum, e73, dsum_s (n := τ.2.1 73 0) (by omega), dsum_s (n := τ.2.1 73 0) (by omega), dsum_fr g h, dp_fr g h, show 9 * 0 + (τ.2.1 73 0 - 1) = t by omega, e78 t (by omega) (by omega)]
  rw [dsum_ext (R := τ.2.1 78) (P := τ.2.1 80) (R' := τ2.2.1 78) (P' := τ2.2.1 80) (τ.2.1 73 0 - 1).toNat (fun j a b => ⟨e78 j (by omega) (by omega), e80 j (by omega) (by omega)⟩)]
  omega
theorem dpt_push {ss ks js : List Nat} {τ τ2 : MS} (g : Fr ss ks js τ τ2) (h : 16 ∉ ks) (h1 : 0 ≤ τ.2.1 73 0) (e73 : τ2.2.1 73 0 = τ.2.1 73 0 + 1) (e : ∀ c, 0 ≤ c → c < τ.2.1 73 0 → τ2.2.1 78 c = τ.2.1 78 c ∧ τ2.2.1 80 c = τ.2.1 80 c) : dpt τ2 0 = dpt τ 0 + dp τ 0 (τ2.2.1 78 (τ.2.1 73 0)) (τ2.2.1 80 (τ.2.1 73 0)) := by
  rw [dpt_dsum, dpt_dsum, e73, dsum_s (n := τ.2.1 73 0 + 1) (by omega), dsum_fr g h, dp_fr g h, show τ.2.1 73 0 + 1 - 1 = τ.2.1 73 0 by omega, show 9 * 0 + τ.2.1 73 0 = τ.2.1 73 0 by omega]
  rw [dsum_ext (R := τ.2.1 78) (P := τ.2.1 80) (R' := τ2.2.1 78) (P' := τ2.2.1 80) (τ.2.1 73 0).toNat (fun j a b => e j (by omega) (by omega))]
theorem dpt_pop {ss ks js : List Nat} {τ τ2 : MS} (g : Fr ss ks js τ τ2) (h : 16 ∉ ks) (h1 : 1 ≤ τ.2.1 73 0) (e73 : τ2.2.1 73 0 = τ.2.1 73 0 - 1) (e : ∀ c, 0 ≤ c → c < τ.2.1 73 0 - 1 → τ2.2.1 78 c = τ.2.1 78 c ∧ τ2.2.1 80 c = τ.2.1 80 c) : dpt τ 0 = dpt τ2 0 + dp τ 0 (τ.2.1 78 (τ.2.1 73 0 - 1)) (τ.2.1 80 (τ.2.1 73 0 - 1)) := by
  rw [dpt_dsum, dpt_dsum, e73, dsum_s (n := τ.2.1 73 0) (by omega), dsum_fr g h, show 9 * 0 + (τ.2.1 73 0 - 1) = τ.2.1 73 0 - 1 by omega]
  rw [dsum_ext (R := τ.2.1 78) (P := τ.2.1 80) (R' := τ2.2.1 78) (P' := τ2.2.1 80) (τ.2.1 73 0 - 1).toNat (fun j a b => e j (by omega) (by omega))]
theorem jL_ch {P Q : Int → Int} {F : Int} (hF : F ≤ 12) (hp : ∀ f, 0 ≤ f → f < F → -1 ≤ Q f ∧ Q f < f) (h0 : Q 0 = -1) (h1 : ∀ f, 1 ≤ f → f < F → 0 ≤ Q f) (e : ∀ f, 1 ≤ f → f < F → P f = Q f) : ∀ (t : Nat) (f n : Int), 0 ≤ f → f < F → f ≤ t → 1 ≤ n → n + f ≤ 12 → jL P t f n = n - 1 + ch Q 13 f := by
  have cs : ∀ f, 0 ≤ f → f < F → ch Q 13 f = 1 + ch Q 13 (Q f) := fun f a b => by
    have q := hp f a b
    rw [show ch Q 13 f = 1 + ch Q 12 (Q f) by
      show (if f = -1 then 0 else 1 + ch Q 12 (Q f)) = _
      rw [if_neg (by omega)], ch_fuel hp 12 13 (Q f) q.1 (by omega) (by omega) (by omega)]
  intro t
  induction t with
  | zero =>
    intro f n a b c d g
    rw [cs f a b, show f = 0 by omega, h0, ch_m1]
    show n = _
    omega
  | succ t ih =>
    intro f n a b c d g
    show (if 0 < f ∧ n ≤ 12 then jL P t (P f) (n + 1) else n) = _
    by_cases z : 0 < f
    · have q := hp f a b
      have q1 := h1 f (by omega) b
      rw [if_pos ⟨z, by omega⟩, e f (by omega) b, ih (Q f) (n + 1) q1 (by omega) (by omega) (by omega) (by omega), cs f a b]
      omega
    · rw [if_neg (fun w => z w.1), cs f a b, show f = 0 by omega, h0, ch_m1]
      omega
end
section
theorem b0 {r : Int} : bkm 0 + r = r := by show (0 : Int) + r = r; omega
def RPQ (σ : MS) (a xf : Nat) (τ : MS) : Prop := σ.2.1 65 a = τ.2.1 76 0 ∧ (∀ i, 0 ≤ i → i < 200 → i < τ.2.1 76 0 → σ.2.1 (1000 + xf) i = τ.2.1 77 i) ∧ σ.2.1 68 a = τ.2.1 75 0
theorem RPQ.cg {σ σ2 τ τ2 : MS} {a xf : Nat} (h : RPQ σ a xf τ) (e : σ2.2.1 65 a = σ.2.1 65 a ∧ σ2.2.1 68 a = σ.2.1 68 a ∧ σ2.2.1 (1000 + xf) = σ.2.1 (1000 + xf)) (f : τ2.2.1 76 = τ.2.1 76 ∧ τ2.2.1 77 = τ.2.1 77 ∧ τ2.2.1 75 = τ.2.1 75) : RPQ σ2 a xf τ2 := by
  unfold RPQ
  rw [e.1, e.2.1, e.2.2, f.1, f.2.1, f.2.2]
  exact h
def SIO (σ : MS) (a xa xb xc xd xe xf : Nat) (C : Int → Nat) (σ2 τ τ2 : MS) (u v : Int) : Prop :=
  (u = 3 ∧ v = 0 ∧ τ2 = τ ∧ σ2 = sA 56 a 3 σ) ∨
  (u = 2 ∧ v = 0 ∧ (σ2.2.1 56 a = 2 ∧ σ2.2.1 58 a = 0 ∧ σ2.2.1 67 a = σ.2.1 67 a + 1) ∧ RPQ σ2 a xf τ2) ∨
  ((u = 0 ∨ u = 1) ∧ v = u ∧ (σ2.2.1 56 a = 1 ∧ σ2.2.1 67 a = σ.2.1 67 a + 1) ∧ RXC σ2 a xa xb xc xd xe C τ2 ∧ RPQ σ2 a xf τ2)
section STEP7
variable {T : CT} {σ σ2 τ τ2 : MS} {a xa xb xc xd xe xf y : Nat} {C : Int → Nat} {t r p j v w g : Int}
theorem JOP.w7 (hx : RXC σ a xa xb xc xd xe C τ) (hw : RWF T σ a xa xb xc xd xe xf y C τ) (ht : t = τ.2.1 73 0 - 1) (hr : r = τ.2.1 78 t) (r0 : 0 ≤ r ∧ r < τ.1 10) (p0 : 0 ≤ p ∧ p < τ.2.1 9 r) (j0 : 0 ≤ j ∧ j < 4) (k : τ.2.1 3 (220 * r + p) ≠ 12) (h : JOP T σ a xe p (3 + 2 * j) v) : v = wA τ t (220 * r + p) j := by
  obtain ⟨cc, x, e1, e2, h⟩ := h
  have hc := hw.2.2.2 r r0.1 r0.2
  have e69 := hx.2.2.1
  rw [← ht, ← hr] at e69
  have ecc : cc = C r := by omega
  subst ecc
  have ex : x = adN σ 5 (C r) := (adN_of e2).symm
  subst ex
  have l := hw.2.1
  have wk := hc.2.2.1.1 p p0.1 (by rw [hc.n]; exact p0.2)
  have a12 : cdW σ (C r) p (3 + 2 * j) = τ.2.1 7 (4 * (220 * r + p) + j) ∧ cdW σ (C r) p (4 + 2 * j) = τ.2.1 8 (4 * (220 * r + p) + j) := by
    have q : j = 0 ∨ j = 1 ∨ j = 2 ∨ j = 3 := by omega
    rcases q with z | z | z | z
    · subst z; exact ⟨hc.c3 p0.1 p0.2 k, hc.cel (e := 4) p0.1 p0.2 (by decide) (by decide)⟩
    · subst z; exact ⟨hc.cel (e := 5) p0.1 p0.2 (by decide) (by decide), hc.cel (e := 6) p0.1 p0.2 (by decide) (by decide)⟩
    · subst z; exact ⟨hc.cel (e := 7) p0.1 p0.2 (by decide) (by decide), hc.cel (e := 8) p0.1 p0.2 (by decide) (by decide)⟩
    · subst z; exact ⟨hc.cel (e := 9) p0.1 p0.2 (by decide) (by decide), hc.cel (e := 10) p0.1 p0.2 (by decide) (by decide)⟩
  rw [hc.g p0.1 p0.2 (by omega), hc.g p0.1 p0.2 (by omega), show 3 + 2 * j + 1 = 4 + 2 * j by omega] at h
  have w2 := (wk.2.2.1 j j0.1 j0.2).2
  rw [a12.1, a12.2] at h w2
  unfold wA wth
  rcases h with ⟨n, e⟩ | ⟨n, e⟩
  · rw [if_neg n]; exact e
  · have g2 := w2 n
    have h57 := hx.1.2
    have h73 := hx.1.1
    rw [if_pos n, e, h57, ← ht, w32_id (by omega), jA_in (by omega)]
    exact ((hx.2.2.2 t (by omega) (by omega)).2.1 _ g2.1 g2.2)
theorem RXC.nxt {s τ1 : MS} (hx : RXC s a xa xb xc xd xe C τ1) (d : DX xa xb xc xd xe xf) (l : (T xb).2 = 9) (ht : t = τ1.2.1 73 0 - 1) (hp : 0 ≤ p ∧ p ≤ 1000) : RXC (jP T xb t (w32 (p + 1)) s) a xa xb xc xd xe C (sA 79 t (p + 1) τ1) := by
  have h73 := hx.1.1
  rw [w32_id (by omega), jP_in (by omega)]
  exact hx.place d ht
theorem sio_n {s τ1 : MS} {n : Int} (d : DX xa xb xc xd xe xf) (l : (T xb).2 = 9) (hx : RXC s a xa xb xc xd xe C τ1) (hq : RPQ s a xf τ1) (ht : t = τ1.2.1 73 0 - 1) (hn : 0 ≤ n ∧ n ≤ 2000) (e : s.2.1 56 a = 1 ∧ s.2.1 67 a = σ.2.1 67 a + 1) (hv : v = 0 ∨ v = 1) : SIO σ a xa xb xc xd xe xf C (jP T xb t n s) τ (sA 79 t n τ1) v v := by
  have h73 := hx.1.1
  unfold DX at d
  rw [jP_in (by omega)]
  refine Or.inr (Or.inr ⟨hv, rfl, ⟨by rw [sA_k (by omega)]; exact e.1, by rw [sA_k (by omega)]; exact e.2⟩, hx.place (xf := xf) d ht, hq.cg ⟨by rw [sA_k (by omega)], by rw [sA_k (by omega)], sA_k (by omega)⟩ ⟨sA_k (by decide), sA_k (by decide), sA_k (by decide)⟩⟩)
theorem sim_pure {K : Int} {s1 : MS} (hx : RXC σ a xa xb xc xd xe C τ) (hq : RPQ σ a xf τ) (hw : RWF T σ a xa xb xc xd xe xf y C τ) (ht : t = τ.2.1 73 0 - 1) (hr : r = τ.2.1 78 t) (hp : p = τ.2.1 79 t) (r0 : 0 ≤ r ∧ r < τ.1 10) (p0 : 0 ≤ p ∧ p < τ.2.1 9 r) (pl : p ≤ 200) (e56 : σ.2.1 56 a = 1) (hK : K = τ.2.1 3 (220 * r + p)) (h5 : 0 ≤ K ∧ K ≤ 5) (h : JRK T σ a xe p K s1) :
    ∃ z, s1 = sA (1000 + xe) (t * 192 + τ.2.1 4 (220 * r + p)) z σ ∧ (0 ≤ τ.2.1 4 (220 * r + p) ∧ τ.2.1 4 (220 * r + p) < 192) ∧ ((K = 0 ∧ z = wA τ t (220 * r + p) 0) ∨ (1 ≤ K ∧ z = wkd K (wA τ t (220 * r + p) 0) (wA τ t (220 * r + p) 1))) := by
  rcases h with ⟨n, -⟩ | ⟨-, cc, x, u, b, e1, e2, hu, hb, e⟩
  · exact absurd h5 n
  have hc := hw.2.2.2 r r0.1 r0.2
  have e69 := hx.2.2.1
  rw [← ht, ← hr] at e69
  have ecc : cc = C r := by omega
  subst ecc
  have ex : x = adN σ 5 (C r) := (adN_of e2).symm
  subst ex
  have l := hw.2.1
  have wk := hc.2.2.1.1 p p0.1 (by rw [hc.n]; exact p0.2)
  have c0 : cdW σ (C r) p 0 = τ.2.1 3 (220 * r + p) := hc.cel p0.1 p0.2 (by decide) (by decide)
  have c1 : cdW σ (C r) p 1 = τ.2.1 4 (220 * r + p) := hc.cel p0.1 p0.2 (by decide) (by decide)
  have d1 := wk.2.1 (Or.inl (by rw [c0]; omega))
  rw [c1] at d1
  have h57 := hx.1.2
  have h73 := hx.1.1
  rw [hc.g p0.1 p0.2 (by decide), c1, h57, ← ht, w32_id (by omega), jP_in (by omega)] at e
  have eu := JOP.w7 (j := 0) hx hw ht hr r0 p0 (by decide) (by omega) hu
  refine ⟨_, e, d1, ?_⟩
  unfold rkn
  by_cases z : K = 0
  · refine Or.inl ⟨z, ?_⟩
    rw [if_neg (by omega)]; exact eu
  · refine Or.inr ⟨by omega, ?_⟩
    have eb := JOP.w7 (j := 1) hx hw ht hr r0 p0 (by decide) (by omega) ((hb.resolve_left (fun q => z q.1)).2)
    rw [if_pos (by omega), eu, eb]
theorem tgt7 (hc : RCX T σ τ a xa xb xc xd xe xf (C r) r) (un : UNQ (rV τ r) (τ.2.1 9 r)) (p0 : 0 ≤ p ∧ p < τ.2.1 9 r) (k : τ.2.1 3 (220 * r + p) = 8 ∨ τ.2.1 3 (220 * r + p) = 9) (j0 : 0 ≤ j ∧ j < τ.2.1 9 r) (h13 : τ.2.1 3 (220 * r + j) = 13) (h4 : τ.2.1 4 (220 * r + j) = τ.2.1 4 (220 * r + p)) : jG T σ (C r) (adN σ 5 (C r)) p 12 = j := by
  have c0 : cdW σ (C r) p 0 = τ.2.1 3 (220 * r + p) := hc.cel p0.1 p0.2 (by decide) (by decide)
  have c1 : cdW σ (C r) p 1 = τ.2.1 4 (220 * r + p) := hc.cel p0.1 p0.2 (by decide) (by decide)
  have i0 : cdW σ (C r) j 0 = τ.2.1 3 (220 * r + j) := hc.cel j0.1 j0.2 (by decide) (by decide)
  have i1 : cdW σ (C r) j 1 = τ.2.1 4 (220 * r + j) := hc.cel j0.1 j0.2 (by decide) (by decide)
  rw [hc.g p0.1 p0.2 (by decide)]
  have q := hc.2.2.1.2.1 p p0.1 (by rw [hc.n]; exact p0.2) (by rw [c0]; exact k)
  rw [c1, hc.n] at q
  rcases q with ⟨-, q⟩ | ⟨v0, ⟨v1, v2⟩, -⟩
  · exact absurd ⟨i0.trans h13, i1.trans h4⟩ (q j j0.1 j0.2)
  · have w0 : cdW σ (C r) (cdW σ (C r) p 12) 0 = τ.2.1 3 (220 * r + cdW σ (C r) p 12) := hc.cel v0.1 v0.2 (by decide) (by decide)
    have w1 : cdW σ (C r) (cdW σ (C r) p 12) 1 = τ.2.1 4 (220 * r + cdW σ (C r) p 12) := hc.cel v0.1 v0.2 (by decide) (by decide)
    refine un _ _ v0.1 v0.2 j0.1 j0.2 ?_ ?_ ?_
    · rw [rv_in v0.1 v0.2]; show τ.2.1 3 _ = 13; rw [← w0]; exact v1
    · rw [rv_in j0.1 j0.2]; exact h13
    · rw [rv_in v0.1 v0.2, rv_in j0.1 j0.2]; show τ.2.1 4 _ = τ.2.1 4 _; rw [← w1, v2]; exact h4.symm
end STEP7
end
section
def PWC (xe : Nat) (H W : Int → Int) (B : Int) (s : MS) (n : Int) (s2 : MS) : Prop := (∀ j, s2.2.1 (1000 + xe) j = if B ≤ j ∧ j < B + 192 then pwR H W n.toNat (fun g => s.2.1 (1000 + xe) (B + g)) (j - B) else s.2.1 (1000 + xe) j) ∧ CHX [] [xe] [] s s2
theorem PWC.z {xe : Nat} {H W : Int → Int} {B : Int} {s : MS} : PWC xe H W B s 0 s := by
  refine ⟨fun j => ?_, CHX.rfl⟩
  by_cases y : B ≤ j ∧ j < B + 192
  · rw [if_pos y]
    show s.2.1 (1000 + xe) j = s.2.1 (1000 + xe) (B + (j - B))
    rw [show B + (j - B) = j by omega]
  · rw [if_neg y]
theorem PWC.put {xe : Nat} {H W : Int → Int} {B n i w : Int} {s s2 : MS} (h : PWC xe H W B s n s2) (n0 : 0 ≤ n) (hr : 0 ≤ H n ∧ H n < 192) (hi : i = B + H n) (hw : w = W n) : PWC xe H W B s (n + 1) (sA (1000 + xe) i w s2) := by
  refine ⟨fun j => ?_, h.2.arr (by simp)⟩
  have e : (n + 1).toNat = n.toNat + 1 := by omega
  have e2 : ((n.toNat : Nat) : Int) = n := by omega
  rw [e]
  have un : pwR H W (n.toNat + 1) (fun g => s.2.1 (1000 + xe) (B + g)) = uZ (pwR H W n.toNat (fun g => s.2.1 (1000 + xe) (B + g))) (H n) (W n) := by
    show uZ (pwR H W n.toNat (fun g => s.2.1 (1000 + xe) (B + g))) (H ((n.toNat : Nat) : Int)) (W ((n.toNat : Nat) : Int)) = _
    rw [e2]
  rw [un]
  by_cases z : j = i
  · rw [z, ra_eq, if_pos (by omega), show i - B = H n by omega, uZ_eq]
    exact hw
  · rw [ra_ne z rfl, h.1 j]
    by_cases y : B ≤ j ∧ j < B + 192
    · rw [if_pos y, if_pos y, uZ_ne (by omega)]
    · rw [if_neg y, if_neg y]
section CALL7
variable {T : CT} {σ σ2 τ τ2 : MS} {a xa xb xc xd xe xf y : Nat} {C : Int → Nat} {t r p q v w g c i h : Int}
theorem home7 (hc : RCX T σ τ a xa xb xc xd xe xf (C q) q) (gd : GDR τ q) (i0 : 0 ≤ i) (i1 : i < τ.2.1 11 q) : rwF σ 15 (C q) i = τ.2.1 18 (144 * q + i) ∧ 0 ≤ τ.2.1 18 (144 * q + i) ∧ τ.2.1 18 (144 * q + i) < 192 := by
  have f1 : 1 ≤ τ.2.1 14 q := gd.2.1.1.1
  have f0 := gd.2.2.2.1
  unfold FR0 at f0
  have pn := gd.2.2.2.2.2.2.2.2
  have e := hc.2.1.1
  have eF : σ.2.1 10 (C q) = τ.2.1 14 q := congrArg RTS.F e
  have eo := congrFun (congrArg RTS.fo e) 0
  have eo : (if 0 ≤ (0 : Int) ∧ (0 : Int) < σ.2.1 10 (C q) then rwF σ 11 (C q) 0 else 0) = (if 0 ≤ (0 : Int) ∧ (0 : Int) < τ.2.1 14 q then τ.2.1 15 (12 * q + 0) else 0) := eo
  rw [if_pos ⟨by decide, by omega⟩, if_pos ⟨by decide, by omega⟩] at eo
  have rn := (hc.2.2.1.2.2 0 (by decide) (by omega)).2
  rw [eo, f0] at rn
  have en := congrFun (congrFun (congrArg RTS.na e) 0) i
  have en : (if (0 ≤ (0 : Int) ∧ (0 : Int) < σ.2.1 10 (C q)) ∧ 0 ≤ i ∧ i < rwF σ 14 (C q) 0 then rwF σ 15 (C q) (12 * 0 + i) else 0) = (if (0 ≤ (0 : Int) ∧ (0 : Int) < τ.2.1 14 q) ∧ 0 ≤ i ∧ i < τ.2.1 12 (τ.2.1 15 (12 * q + 0)) then τ.2.1 18 (144 * q + 12 * 0 + i) else 0) := en
  rw [f0, if_pos ⟨⟨by decide, by omega⟩, i0, by omega⟩, if_pos ⟨⟨by decide, by omega⟩, i0, by omega⟩, show 12 * 0 + i = i by omega, show 144 * q + 12 * 0 + i = 144 * q + i by omega] at en
  have ok := (gd.2.1.2 0 (by decide) (by omega)).2 i i0 (by rw [f0]; omega)
  rw [show 144 * q + 12 * 0 + i = 144 * q + i by omega] at ok
  exact ⟨en, ok⟩
theorem JHP.of (hc : RCX T σ τ a xa xb xc xd xe xf (C q) q) (gd : GDR τ q) (e69 : σ.2.1 69 a = (C q : Int)) (e57 : σ.2.1 57 a = c) (c0 : 0 ≤ c ∧ c ≤ 8) (i0 : 0 ≤ i ∧ i < 4) (hj : JHP T σ a i h) : (τ.2.1 11 q ≤ i ∧ h = -1) ∨ (i < τ.2.1 11 q ∧ h = c * 192 + τ.2.1 18 (144 * q + i) ∧ 0 ≤ τ.2.1 18 (144 * q + i) ∧ τ.2.1 18 (144 * q + i) < 192) := by
  have e8 := hc.2.1.2
  rcases hj with ⟨e, n | ⟨cc, e1, e2⟩⟩ | ⟨cc, xh, e1, e2, e3, e4⟩
  · omega
  · have ecc : cc = C q := by omega
    subst ecc
    exact Or.inl ⟨by omega, e⟩
  · have ecc : cc = C q := by omega
    subst ecc
    have k := home7 hc gd i0.1 (by omega)
    have ex : xh = adN σ 15 (C q) := (adN_of e3).symm
    subst ex
    have l := hc.2.2.2.2.1.2.2
    rw [jA_in (by omega), show 0 * 12 + i = i by omega] at e4
    have k1 : σ.2.1 (1000 + adN σ 15 (C q)) i = τ.2.1 18 (144 * q + i) := k.1
    rw [k1, e57, w32_id (by omega)] at e4
    exact Or.inr ⟨by omega, e4, k.2⟩
theorem pw_step {H W : Int → Int} {B P u : Int} {s s1 : MS} (hp : PWC xe H W B s (if i < P then i else P) s1) (l : (T xe).2 = 1728) (hB : 0 ≤ B ∧ B + 192 ≤ 1728) (i0 : 0 ≤ i) (hh : (P ≤ i ∧ h = -1) ∨ (i < P ∧ h = B + H i ∧ 0 ≤ H i ∧ H i < 192)) (hu : u = W i) : PWC xe H W B s (if i + 1 < P then i + 1 else P) (jP T xe h u s1) := by
  rcases hh with ⟨a1, a2⟩ | ⟨a1, a2, a3, a4⟩
  · rw [jP_out (by omega), if_neg (by omega)]
    rw [if_neg (by omega)] at hp
    exact hp
  · rw [if_pos a1] at hp
    rw [jP_in (by omega)]
    have z := hp.put i0 ⟨a3, a4⟩ a2 hu
    by_cases e : i + 1 < P
    · rw [if_pos e]; exact z
    · rw [if_neg e, show P = i + 1 by omega]; exact z
end CALL7
end
section
abbrev OPL (a : Nat) : List (Nat × Nat) := [(57, a), (58, a), (69, a)]
def OPN (σ s : MS) (a xa xb xc xd xe : Nat) (C : Int → Nat) (c q : Int) : Prop :=
  (s.2.1 57 a = c ∧ s.2.1 58 a = σ.2.1 58 a + 1 ∧ s.2.1 69 a = (C q : Int)) ∧ (∀ j, s.2.1 (1000 + xa) j = if j = c then q else σ.2.1 (1000 + xa) j) ∧ (∀ j, s.2.1 (1000 + xb) j = if j = c then 0 else σ.2.1 (1000 + xb) j) ∧ (∀ j, s.2.1 (1000 + xc) j = if j = c then 0 else σ.2.1 (1000 + xc) j) ∧ (∀ j, s.2.1 (1000 + xd) j = if j = c * 12 then 0 else σ.2.1 (1000 + xd) j) ∧ (∀ j, s.2.1 (1000 + xe) j = if c * 192 ≤ j ∧ j < c * 192 + 192 then 0 else σ.2.1 (1000 + xe) j) ∧ CHX (OPL a) [xa, xb, xc, xd, xe] [] σ s
theorem sA_ite {k : Nat} {i v j : Int} {σ : MS} : (sA k i v σ).2.1 k j = if j = i then v else σ.2.1 k j := by
  by_cases z : j = i
  · rw [if_pos z, z]; exact ra_eq
  · rw [if_neg z]; exact ra_ne z rfl
section OPEN7
variable {T : CT} {σ σ2 s0 τ τ2 : MS} {a xa xb xc xd xe xf y : Nat} {C : Int → Nat} {t r p q c : Int}
theorem JOC.of (hw : RWF T σ a xa xb xc xd xe xf y C τ) (q0 : 0 ≤ q ∧ q < 6) (c0 : 0 ≤ c ∧ c ≤ 8) (d0 : 0 ≤ σ.2.1 58 a ∧ σ.2.1 58 a ≤ 1000) (h : JOC T σ a xa xb xc xd xe y c q s0) : OPN σ s0 a xa xb xc xd xe C c q := by
  obtain ⟨w, s, jw, es, hf⟩ := h
  obtain ⟨d, l, ⟨hy, yn⟩, -⟩ := hw
  unfold DX at d
  have ey : jC (sA 58 a (w32 (σ.2.1 58 a + 1)) (sA 57 a c σ)) y q = (C q : Int) := by
    unfold jC
    rw [if_pos q0, sA_k (by omega), sA_k (by omega)]
    exact hy q q0.1 q0.2
  have ew : w = (C q : Int) := by
    rcases jw with e | ⟨e, -⟩
    · rw [e, ey]
    · rw [ey] at e; omega
  subst ew
  rw [w32_id (by omega), jP_in (x := xa) (by omega), jP_in (x := xb) (by omega), jP_in (x := xc) (by omega), jP_in (x := xd) (by omega)] at es
  have hf := hf.resolve_left (fun z => by have := z.1; omega)
  obtain ⟨-, fl, ch⟩ := hf
  have fld : ∀ f : Nat, f < 1000 → s0.2.1 f (a : Int) = s.2.1 f a := fun f hf => ch.1 f a hf (fun z hz => by simp at hz)
  have ra : s0.2.1 (1000 + xa) = s.2.1 (1000 + xa) := ch.r (by simp; omega)
  have rb : s0.2.1 (1000 + xb) = s.2.1 (1000 + xb) := ch.r (by simp; omega)
  have rc : s0.2.1 (1000 + xc) = s.2.1 (1000 + xc) := ch.r (by simp; omega)
  have rd : s0.2.1 (1000 + xd) = s.2.1 (1000 + xd) := ch.r (by simp; omega)
  refine ⟨⟨?_, ?_, ?_⟩, fun j => ?_, fun j => ?_, fun j => ?_, fun j => ?_, fun j => ?_, ?_⟩
  · rw [fld 57 (by decide), es, sA_k (by omega), sA_k (by omega), sA_k (by omega), sA_k (by omega), sA_k (by omega), sA_k (by omega)]
    exact ra_eq
  · rw [fld 58 (by decide), es, sA_k (by omega), sA_k (by omega), sA_k (by omega), sA_k (by omega), sA_k (by omega)]
    exact ra_eq
  · rw [fld 69 (by decide), es, sA_k (by omega), sA_k (by omega), sA_k (by omega), sA_k (by omega)]
    exact ra_eq
  · rw [ra, es, sA_k (by omega), sA_k (by omega), sA_k (by omega), sA_ite, sA_k (by omega), sA_k (by omega), sA_k (by omega)]
  · rw [rb, es, sA_k (by omega), sA_k (by omega), sA_ite, sA_k (by omega), sA_k (by omega), sA_k (by omega), sA_k (by omega)]
  · rw [rc, es, sA_k (by omega), sA_ite, sA_k (by omega), sA_k (by omega), sA_k (by omega), sA_k (by omega), sA_k (by omega)]
  · rw [rd, es, sA_ite, sA_k (by omega), sA_k (by omega), sA_k (by omega), sA_k (by omega), sA_k (by omega), sA_k (by omega)]
  · rw [fl j, es, sA_k (by omega), sA_k (by omega), sA_k (by omega), sA_k (by omega), sA_k (by omega), sA_k (by omega), sA_k (by omega)]
  · have h1 : CHX (OPL a) [xa, xb, xc, xd, xe] [] σ s := by
      rw [es]
      exact ((((((CHX.rfl.fld (by simp) (by decide)).fld (by simp) (by decide)).fld (by simp) (by decide)).arr (by simp)).arr (by simp)).arr (by simp)).arr (by simp)
    exact h1.trans (CHX.sub ch (by simp) (by simp) (by simp))
theorem JPW.of {P : Int} {u0 u1 u2 u3 : Int} (hw : RWF T s0 a xa xb xc xd xe xf y C τ) (gd : GDR τ q) (q0 : 0 ≤ q ∧ q < τ.1 10) (c0 : 0 ≤ c ∧ c ≤ 8) (e57 : s0.2.1 57 a = c) (e69 : s0.2.1 69 a = (C q : Int)) (hP : P = τ.2.1 11 q) (P0 : 0 ≤ P ∧ P ≤ 4) (h : JPW T s0 a xe u0 u1 u2 u3 σ2) : PWC xe (fun n => τ.2.1 18 (144 * q + n)) (prW u0 u1 u2 u3) (c * 192) s0 P σ2 := by
  obtain ⟨h0, h1, h2, h3, j0, j1, j2, j3, e⟩ := h
  have l := hw.2.1
  have sub : ∀ s, CHX [] [xe] [] s0 s → CHX (RNL a) [xa, xb, xc, xd, xe, xf] [] s0 s := fun s k => CHX.sub k (by simp) (by simp) (by simp)
  have st : ∀ (i : Int) (s : MS) (hh : Int), CHX [] [xe] [] s0 s → 0 ≤ i → i < 4 → JHP T s a i hh → (P ≤ i ∧ hh = -1) ∨ (i < P ∧ hh = c * 192 + τ.2.1 18 (144 * q + i) ∧ 0 ≤ τ.2.1 18 (144 * q + i) ∧ τ.2.1 18 (144 * q + i) < 192) := fun i s hh k a0 a1 j => by
    rw [hP]
    refine JHP.of ((hw.chx (sub s k)).2.2.2 q q0.1 q0.2) gd ?_ ?_ c0 ⟨a0, a1⟩ j
    · rw [k.1 69 a (by decide) (fun z hz => by simp at hz)]; exact e69
    · rw [k.1 57 a (by decide) (fun z hz => by simp at hz)]; exact e57
  have z0 : PWC xe (fun n => τ.2.1 18 (144 * q + n)) (prW u0 u1 u2 u3) (c * 192) s0 (if (0 : Int) < P then 0 else P) s0 := by
    rw [show (if (0 : Int) < P then 0 else P) = 0 by split <;> omega]
    exact PWC.z
  have z1 := pw_step z0 (T := T) (by omega) (by omega) (by decide) (st 0 _ h0 z0.2 (by decide) (by decide) j0) (show u0 = prW u0 u1 u2 u3 0 from rfl)
  have z2 := pw_step z1 (T := T) (by omega) (by omega) (by decide) (st 1 _ h1 z1.2 (by decide) (by decide) j1) (show u1 = prW u0 u1 u2 u3 1 from rfl)
  have z3 := pw_step z2 (T := T) (by omega) (by omega) (by decide) (st 2 _ h2 z2.2 (by decide) (by decide) j2) (show u2 = prW u0 u1 u2 u3 2 from rfl)
  have z4 := pw_step z3 (T := T) (by omega) (by omega) (by decide) (st 3 _ h3 z3.2 (by decide) (by decide) j3) (show u3 = prW u0 u1 u2 u3 3 from rfl)
  rw [← e] at z4
  rw [show (if (0 : Int) + 1 + 1 + 1 + 1 < P then 0 + 1 + 1 + 1 + 1 else P) = P by split <;> omega] at z4
  exact z4
theorem RXC.push' {N : Int} (hN : N = τ.2.1 73 0) (N0 : 0 ≤ N ∧ N ≤ 8) (old : ∀ c, 0 ≤ c → c < N → (σ.2.1 (1000 + xa) c = τ.2.1 78 c ∧ σ.2.1 (1000 + xb) c = τ.2.1 79 c ∧ σ.2.1 (1000 + xc) c = τ.2.1 80 c) ∧ (∀ g, 0 ≤ g → g < 192 → σ.2.1 (1000 + xe) (c * 192 + g) = τ.2.1 82 (192 * c + g)) ∧ ∀ f, f < 12 → inF (prm τ 0 (τ.2.1 78 c)) (τ.2.1 80 c) f → σ.2.1 (1000 + xd) (c * 12 + f) = τ.2.1 81 (12 * c + f))
    (on : OPN σ s0 a xa xb xc xd xe C N q) (k2 : CHX [] [xe] [] s0 σ2) (d : DX xa xb xc xd xe xf) (ep : prm τ2 0 = prm τ 0) (e73 : τ2.2.1 73 0 = N + 1) (e8 : τ2.2.1 78 N = q ∧ τ2.2.1 79 N = 0 ∧ τ2.2.1 80 N = 0) (eo : ∀ c, 0 ≤ c → c < N → τ2.2.1 78 c = τ.2.1 78 c ∧ τ2.2.1 79 c = τ.2.1 79 c ∧ τ2.2.1 80 c = τ.2.1 80 c)
    (e81 : (∀ j, 0 ≤ j → j < 12 * N → τ2.2.1 81 j = τ.2.1 81 j) ∧ τ2.2.1 81 (12 * N) = 0) (e82 : ∀ j, 0 ≤ j → j < 192 * N → τ2.2.1 82 j = τ.2.1 82 j) (r82 : ∀ j, 0 ≤ j → j < N * 192 → σ2.2.1 (1000 + xe) j = σ.2.1 (1000 + xe) j) (new : ∀ g, 0 ≤ g → g < 192 → σ2.2.1 (1000 + xe) (N * 192 + g) = τ2.2.1 82 (192 * N + g)) (h16 : prm τ 0 q 0 = -1) (hd : σ.2.1 58 a + 1 = dpt τ2 0) : RXC σ2 a xa xb xc xd xe C τ2 := by
  obtain ⟨⟨o1, o2, o3⟩, oa, ob, oc, od, oe, oh⟩ := on
  unfold DX at d
  have fld : ∀ f : Nat, f < 1000 → σ2.2.1 f (a : Int) = s0.2.1 f a := fun f hf => k2.1 f a hf (fun z hz => by simp at hz)
  have ra : σ2.2.1 (1000 + xa) = s0.2.1 (1000 + xa) := k2.r (by simp; omega)
  have rb : σ2.2.1 (1000 + xb) = s0.2.1 (1000 + xb) := k2.r (by simp; omega)
  have rc : σ2.2.1 (1000 + xc) = s0.2.1 (1000 + xc) := k2.r (by simp; omega)
  have rd : σ2.2.1 (1000 + xd) = s0.2.1 (1000 + xd) := k2.r (by simp; omega)
  refine ⟨⟨by omega, by rw [fld 57 (by decide), o1]; omega⟩, by rw [fld 58 (by decide), o2]; exact hd, by rw [fld 69 (by decide), o3, show τ2.2.1 73 0 - 1 = N by omega, e8.1], fun c x0 x1 => ?_⟩
  rw [ra, rb, rc, rd, ep]
  by_cases z : c = N
  · subst z
    rw [oa, ob, oc, if_pos rfl, if_pos rfl, if_pos rfl, e8.1, e8.2.1, e8.2.2]
    refine ⟨⟨rfl, rfl, rfl⟩, new, fun f f1 hf => ?_⟩
    have f0 : f = 0 := by
      rcases hf.dn (by decide) with e | e
      · exact e
      · rw [h16] at e
        obtain ⟨b1, i, b2⟩ := e
        have : ∀ n : Nat, itU (prm τ 0 q) n (-1) = -1 := fun n => by
          cases n with
          | zero => rfl
          | succ n => show (if (-1 : Int) < 0 then -1 else _) = -1; rw [if_pos (by decide)]
        rw [this i] at b2
        omega
    rw [f0, show c * 12 + 0 = c * 12 by omega, od, if_pos rfl, show 12 * c + 0 = 12 * c by omega, e81.2]
  · have q1 := old c x0 (by omega)
    have q2 := eo c x0 (by omega)
    rw [oa, ob, oc, if_neg z, if_neg z, if_neg z, q2.1, q2.2.1, q2.2.2]
    refine ⟨q1.1, fun g g0 g1 => ?_, fun f f1 hf => ?_⟩
    · rw [r82 _ (by omega) (by omega), e82 _ (by omega) (by omega)]
      exact q1.2.1 g g0 g1
    · have f0 := hf.1
      rw [od, if_neg (by omega), e81.1 _ (by omega) (by omega)]
      exact q1.2.2 f f1 hf
theorem sim_call (hx : RXC σ a xa xb xc xd xe C τ) (hw : RWF T σ a xa xb xc xd xe xf y C τ) (gd : GDA τ) (hp4 : PAR τ) (hr : RUN τ 0) (ht : t = τ.2.1 73 0 - 1) (hrr : r = τ.2.1 78 t) (r0 : 0 ≤ r ∧ r < τ.1 10) (p0 : 0 ≤ p ∧ p < τ.2.1 9 r) (hq : q = τ.2.1 5 (220 * r + p)) (q0 : 0 ≤ q ∧ q < τ.1 10) (k10 : τ.2.1 3 (220 * r + p) = 10) (hd : dpt τ 0 ≤ 8) (h : JCF T σ a xa xb xc xd xe y p σ2) (hs : CLX7 τ 0 t (220 * r + p) τ2) : RXC σ2 a xa xb xc xd xe C τ2 ∧ CHX (OPL a) [xa, xb, xc, xd, xe] [] σ σ2 ∧ Fr [] [73, 75, 76, 78, 79, 80, 81, 82] [] τ τ2 ∧ (τ2.2.1 75 = τ.2.1 75 ∧ τ2.2.1 76 = τ.2.1 76) := by
  have ge := hr.ge
  have h73 := hx.1.1
  have h57 := hx.1.2
  have h58 := hx.2.1
  have t6 := gd.1
  obtain ⟨u0, u1, u2, u3, cc, x, s0, o0, o1, o2, o3, e1, e2, oc, pw⟩ := h
  have hc := hw.2.2.2 r r0.1 r0.2
  have e69 := hx.2.2.1
  rw [← ht, ← hrr] at e69
  have ecc : cc = C r := by omega
  subst ecc
  have ex : x = adN σ 5 (C r) := (adN_of e2).symm
  subst ex
  have c2 : cdW σ (C r) p 2 = τ.2.1 5 (220 * r + p) := hc.cel p0.1 p0.2 (by decide) (by decide)
  rw [hc.g p0.1 p0.2 (by decide), c2, ← hq, h57, show τ.2.1 73 0 - 1 + 1 = τ.2.1 73 0 by omega] at oc
  have on := JOC.of hw (by omega) (by omega) (by omega) oc
  have w0 := JOP.w7 (j := 0) hx hw ht hrr r0 p0 (by decide) (by omega) o0
  have w1 := JOP.w7 (j := 1) hx hw ht hrr r0 p0 (by decide) (by omega) o1
  have w2 := JOP.w7 (j := 2) hx hw ht hrr r0 p0 (by decide) (by omega) o2
  have w3 := JOP.w7 (j := 3) hx hw ht hrr r0 p0 (by decide) (by omega) o3
  have gq := gd.2 q q0.1 q0.2
  have pq := hp4 q q0.1 (by omega)
  have ks : CHX (RNL a) [xa, xb, xc, xd, xe, xf] [] σ s0 := CHX.sub on.2.2.2.2.2.2 (by simp) (by simp) (by simp)
  have pc := JPW.of (hw.chx ks) gq q0 (by omega) on.1.1 on.1.2.2 rfl pq pw
  obtain ⟨τ1, ec, f2, pg⟩ := hs
  obtain ⟨f1, c73, c8, c73o, c8o, z81, z82⟩ := ec
  rw [← hq] at pg c8
  rw [show 9 * 0 + τ.2.1 73 0 = τ.2.1 73 0 by omega] at c8 c8o z81 z82
  have fr : Fr [] [73, 75, 76, 78, 79, 80, 81, 82] [] τ τ2 := (Fr.sub f1 (by decide) (by decide) (by decide)).trans (Fr.sub f2 (by decide) (by decide) (by decide))
  have e18 : τ1.2.1 18 = τ.2.1 18 := f1.2.1 18 (by decide)
  have g73 : τ2.2.1 73 = τ1.2.1 73 := f2.2.1 73 (by decide)
  have g78 : τ2.2.1 78 = τ1.2.1 78 := f2.2.1 78 (by decide)
  have g79 : τ2.2.1 79 = τ1.2.1 79 := f2.2.1 79 (by decide)
  have g80 : τ2.2.1 80 = τ1.2.1 80 := f2.2.1 80 (by decide)
  have g81 : τ2.2.1 81 = τ1.2.1 81 := f2.2.1 81 (by decide)
  have wk := hc.2.2.1.1 p p0.1 (by rw [hc.n]; exact p0.2)
  have wa : ∀ n, 0 ≤ n → n < 4 → wA τ1 t (220 * r + p) n = wA τ t (220 * r + p) n := fun n n0 n1 => by
    unfold wA wth
    rw [f1.2.1 7 (by decide), f1.2.1 8 (by decide)]
    by_cases z : τ.2.1 7 (4 * (220 * r + p) + n) = 2
    · have a12 : cdW σ (C r) p (3 + 2 * n) = τ.2.1 7 (4 * (220 * r + p) + n) ∧ cdW σ (C r) p (4 + 2 * n) = τ.2.1 8 (4 * (220 * r + p) + n) := by
        have q : n = 0 ∨ n = 1 ∨ n = 2 ∨ n = 3 := by omega
        rcases q with z | z | z | z
        · subst z; exact ⟨hc.c3 p0.1 p0.2 (by omega), hc.cel (e := 4) p0.1 p0.2 (by decide) (by decide)⟩
        · subst z; exact ⟨hc.cel (e := 5) p0.1 p0.2 (by decide) (by decide), hc.cel (e := 6) p0.1 p0.2 (by decide) (by decide)⟩
        · subst z; exact ⟨hc.cel (e := 7) p0.1 p0.2 (by decide) (by decide), hc.cel (e := 8) p0.1 p0.2 (by decide) (by decide)⟩
        · subst z; exact ⟨hc.cel (e := 9) p0.1 p0.2 (by decide) (by decide), hc.cel (e := 10) p0.1 p0.2 (by decide) (by decide)⟩
      have g2 := (wk.2.2.1 n n0 n1).2 (by rw [a12.1]; exact z)
      rw [a12.2] at g2
      rw [if_pos z, if_pos z, z82 _, if_neg (by omega)]
    · rw [if_neg z, if_neg z]
  refine ⟨?_, on.2.2.2.2.2.2.trans (CHX.sub pc.2 (by simp) (by simp) (by simp)), fr, (f2.2.1 75 (by decide)).trans (f1.2.1 75 (by decide)), (f2.2.1 76 (by decide)).trans (f1.2.1 76 (by decide))⟩
  refine RXC.push' (N := τ.2.1 73 0) rfl (by omega) hx.2.2.2 on pc.2 hw.1 (by funext u; exact prm_fr fr (by decide) 0 u) (by rw [g73, c73]) (by rw [g78, g79, g80]; exact c8) (fun c a0 a1 => by rw [g78, g79, g80]; exact c8o c (by omega)) ⟨fun j a0 a1 => by rw [g81, z81 j, if_neg (by omega)], by rw [g81, z81 _, if_pos (by omega)]⟩ (fun j a0 a1 => ?_) (fun j a0 a1 => ?_) (fun g g0 g1 => ?_) ?_ ?_
  · rw [pg j, if_neg (by omega), z82 j, if_neg (by omega)]
  · rw [pc.1 j, if_neg (by omega), on.2.2.2.2.2.1 j, if_neg (by omega)]
  · rw [pc.1 _, if_pos (by omega), pg _, if_pos (by omega), show τ.2.1 73 0 * 192 + g - τ.2.1 73 0 * 192 = g by omega, show 192 * τ.2.1 73 0 + g - (192 * t + 192) = g by omega]
    refine pwR_c (fun i i0 i1 => ⟨?_, ?_⟩) ?_
    · show τ.2.1 18 (144 * q + i) = hmP τ1 0 q i
      unfold hmP
      rw [if_neg (by decide), e18]
    · rw [wa i i0 (by omega)]
      have qi : i = 0 ∨ i = 1 ∨ i = 2 ∨ i = 3 := by omega
      rcases qi with z | z | z | z <;> subst z
      · exact w0
      · exact w1
      · exact w2
      · exact w3
    · show s0.2.1 (1000 + xe) (τ.2.1 73 0 * 192 + g) = τ1.2.1 82 (192 * t + 192 + g)
      rw [on.2.2.2.2.2.1 _, if_pos (by omega), z82 _, if_pos (by omega)]
  · show (if (0 : Int) = 2 then -1 else τ.2.1 16 (12 * q + 0)) = -1
    rw [if_neg (by decide)]
    exact gq.2.2.2.2.2.2.1.1
  · rw [dpt_push fr (by decide) (by omega) (by rw [g73, c73]) (fun c a0 a1 => by rw [g78, g80]; exact ⟨(c8o c (by omega)).1, (c8o c (by omega)).2.2⟩), g78, g80, c8.1, c8.2.2, dp_0 ((gd.bka (by decide)).2 q q0.1 q0.2), h58]
end OPEN7
end
section
section RET7
variable {T : CT} {σ σ2 s0 τ τ2 : MS} {a xa xb xc xd xe xf y : Nat} {C : Int → Nat} {t r p q c n u v : Int}
theorem run_c (hr : RUN τ 0) (c0 : 0 ≤ c) (c1 : c < τ.2.1 73 0) : (0 ≤ τ.2.1 78 c ∧ τ.2.1 78 c < τ.1 10) ∧ (0 ≤ τ.2.1 79 c ∧ τ.2.1 79 c < τ.2.1 9 (τ.2.1 78 c)) ∧ 0 ≤ τ.2.1 80 c ∧ τ.2.1 80 c < τ.2.1 14 (τ.2.1 78 c) := by
  have h := hr.2.1 c (by omega) (by omega)
  have h2 := h.2.1
  rw [b0] at h2
  have h3 := h.rng
  have e : fm τ 0 (τ.2.1 78 c) = τ.2.1 14 (τ.2.1 78 c) := if_neg (by decide)
  rw [e] at h3
  exact ⟨h.1, h2, h3⟩
theorem par7 (hc : RCX T σ τ a xa xb xc xd xe xf (C r) r) {f : Int} (f0 : 0 ≤ f) (f1 : f < τ.2.1 14 r) : rwF σ 12 (C r) f = τ.2.1 16 (12 * r + f) := by
  have e := hc.2.1.1
  have eF : σ.2.1 10 (C r) = τ.2.1 14 r := congrArg RTS.F e
  have ei := congrFun (congrArg RTS.fi e) f
  have ei : (if 0 ≤ f ∧ f < σ.2.1 10 (C r) then rwF σ 12 (C r) f else 0) = (if 0 ≤ f ∧ f < τ.2.1 14 r then τ.2.1 16 (12 * r + f) else 0) := ei
  rw [if_pos ⟨f0, by omega⟩, if_pos ⟨f0, f1⟩] at ei
  exact ei
theorem jCV.of (hx : RXC σ a xa xb xc xd xe C τ) (hw : RWF T σ a xa xb xc xd xe xf y C τ) (gd : GDA τ) (hr : RUN τ 0) (c0 : 0 ≤ c) (c1 : c < τ.2.1 73 0) : jCV T σ xa xc y c = dp τ 0 (τ.2.1 78 c) (τ.2.1 80 c) := by
  have h73 := hx.1.1
  have l := hw.2.1
  have rc := run_c hr c0 c1
  have t6 := gd.1
  have k := (hx.2.2.2 c c0 c1).1
  have hc := hw.2.2.2 _ rc.1.1 rc.1.2
  have ea : jA T xa c σ = τ.2.1 78 c := by rw [jA_in (by omega)]; exact k.1
  have ec : jC σ y (τ.2.1 78 c) = (C (τ.2.1 78 c) : Int) := by unfold jC; rw [if_pos (by omega)]; exact hw.2.2.1.1 _ rc.1.1 (by omega)
  have ef : jA T xc c σ = τ.2.1 80 c := by rw [jA_in (by omega)]; exact k.2.2
  unfold jCV
  rw [ea, ec, if_neg (by omega), ef, show ((C (τ.2.1 78 c) : Int)).toNat = C (τ.2.1 78 c) from rfl]
  have gr := gd.2 _ rc.1.1 rc.1.2
  have fi := gr.2.2.2.2.2.2.1
  have F12 := gr.2.1.1
  have l12 := hc.2.2.2.2.1.2.1
  have pm : ∀ f, prm τ 0 (τ.2.1 78 c) f = τ.2.1 16 (12 * τ.2.1 78 c + f) := fun f => if_neg (by decide)
  rw [jL_ch (Q := prm τ 0 (τ.2.1 78 c)) (F := τ.2.1 14 (τ.2.1 78 c)) (by omega) (fun f f0 f1 => by
      rw [pm]
      by_cases z : f = 0
      · rw [z, fi.1]; omega
      · have := fi.2 f (by omega) f1; omega) (by rw [pm]; exact fi.1) (fun f f0 f1 => by rw [pm]; exact (fi.2 f f0 f1).1) (fun f f0 f1 => by
      show jA T (adN σ 12 (C (τ.2.1 78 c))) f σ = _
      rw [jA_in (by omega), pm]
      exact par7 hc (by omega) f1) 12 (τ.2.1 80 c) 1 rc.2.2.1 rc.2.2.2 (by omega) (by decide) (by omega)]
  show 1 - 1 + ch (prm τ 0 (τ.2.1 78 c)) 13 (τ.2.1 80 c) = ch (prm τ 0 (τ.2.1 78 c)) 13 (τ.2.1 80 c)
  omega
theorem RXC.pop (hx : RXC σ a xa xb xc xd xe C τ) (h2 : 2 ≤ τ.2.1 73 0) : RXC (sA 69 a (C (τ.2.1 78 (τ.2.1 73 0 - 2)) : Int) (sA 57 a (τ.2.1 73 0 - 2) (sA 58 a (σ.2.1 58 a - dp τ 0 (τ.2.1 78 (τ.2.1 73 0 - 1)) (τ.2.1 80 (τ.2.1 73 0 - 1))) σ))) a xa xb xc xd xe C (sA 73 0 (τ.2.1 73 0 - 1) τ) := by
  obtain ⟨h1, h58, h3, h4⟩ := hx
  have fr : Fr [] [73] [] τ (sA 73 0 (τ.2.1 73 0 - 1) τ) := Fr.rfl.A (by decide)
  have e73 : (sA 73 0 (τ.2.1 73 0 - 1) τ).2.1 73 0 = τ.2.1 73 0 - 1 := ra_eq
  have hd := dpt_pop fr (by decide) (by omega) e73 (fun c _ _ => ⟨rfl, rfl⟩)
  refine ⟨⟨by rw [e73]; omega, ?_⟩, ?_, ?_, fun c x0 x1 => ?_⟩
  · rw [sA_k (by decide), ra_eq, e73]; omega
  · rw [sA_k (by decide), sA_k (by decide), ra_eq]; omega
  · rw [ra_eq, e73, show τ.2.1 73 0 - 1 - 1 = τ.2.1 73 0 - 2 by omega]; rfl
  · rw [e73] at x1
    rw [sA_k (by omega), sA_k (by omega), sA_k (by omega), sA_k (show 1000 + xb ≠ 69 by omega), sA_k (show 1000 + xb ≠ 57 by omega), sA_k (show 1000 + xb ≠ 58 by omega), sA_k (show 1000 + xc ≠ 69 by omega), sA_k (show 1000 + xc ≠ 57 by omega), sA_k (show 1000 + xc ≠ 58 by omega), sA_k (show 1000 + xd ≠ 69 by omega), sA_k (show 1000 + xd ≠ 57 by omega), sA_k (show 1000 + xd ≠ 58 by omega), sA_k (show 1000 + xe ≠ 69 by omega), sA_k (show 1000 + xe ≠ 57 by omega), sA_k (show 1000 + xe ≠ 58 by omega)]
    exact h4 c x0 (by omega)
theorem sim_ret (hx : RXC σ a xa xb xc xd xe C τ) (hq : RPQ σ a xf τ) (hw : RWF T σ a xa xb xc xd xe xf y C τ) (gd : GDA τ) (hr : RUN τ 0) (ht : t = τ.2.1 73 0 - 1) (h : JGB T σ a xa xb xc xe y n σ2) (hs : RTX τ 0 t n u τ2) : (u = 2 ∧ (σ2.2.1 56 a = 2 ∧ σ2.2.1 58 a = 0 ∧ σ2.2.1 67 a = σ.2.1 67 a) ∧ RPQ σ2 a xf τ2) ∨ (u = 0 ∧ (σ2.2.1 56 a = σ.2.1 56 a ∧ σ2.2.1 67 a = σ.2.1 67 a) ∧ RXC σ2 a xa xb xc xd xe C τ2 ∧ RPQ σ2 a xf τ2) := by
  have h73 := hx.1.1
  have h57 := hx.1.2
  have h58 := hx.2.1
  have dd := hr.2.2.2
  have dg := hr.ge
  have d := hw.1
  have l := hw.2.1
  unfold DX at d
  have ev := jCV.of hx hw gd hr (c := t) (by omega) (by omega)
  have dp1 : 0 ≤ dp τ 0 (τ.2.1 78 t) (τ.2.1 80 t) ∧ dp τ 0 (τ.2.1 78 t) (τ.2.1 80 t) ≤ 13 := ch_rng 13 _
  unfold JGB at h
  rw [h57, ← ht, ev, w32_id (by omega)] at h
  rcases h with ⟨z, e⟩ | ⟨z, w, s, s1, es, jw, m, e⟩
  · refine Or.inl ?_
    rcases hs with ⟨e1, -, e2⟩ | ⟨-, e2, -⟩
    · rw [e, e2]
      refine ⟨e1, ⟨?_, ra_eq, ?_⟩, ?_, ?_, ?_⟩
      · rw [sA_k (by decide), sA_k (by decide)]; exact ra_eq
      · rw [sA_k (by decide), sA_k (by decide), sA_k (by decide), sA_k (by decide)]
      · rw [sA_k (by decide), sA_k (by decide), sA_k (by decide), sA_k (by decide)]; exact hq.1
      · rw [sA_k (by omega), sA_k (by omega), sA_k (by omega), sA_k (by omega), sA_k (by omega), sA_k (by omega)]; exact hq.2.1
      · rw [sA_k (by decide), ra_eq]; exact ra_eq.symm
    · omega
  · refine Or.inr ?_
    rcases hs with ⟨-, e2, -⟩ | ⟨e1, e2, e3⟩
    · clear m e es jw
      omega
    have rc := run_c hr (c := t - 1) (by omega) (by omega)
    have t6 := gd.1
    have k1 := (hx.2.2.2 (t - 1) (by omega) (by omega)).1
    have ea : jA T xa (t - 1) (sA 57 a (t - 1) (sA 58 a (σ.2.1 58 a - dp τ 0 (τ.2.1 78 t) (τ.2.1 80 t)) σ)) = τ.2.1 78 (t - 1) := by
      rw [jA_in (by omega), sA_k (by omega), sA_k (by omega)]; exact k1.1
    have ec : jC (sA 57 a (t - 1) (sA 58 a (σ.2.1 58 a - dp τ 0 (τ.2.1 78 t) (τ.2.1 80 t)) σ)) y (τ.2.1 78 (t - 1)) = (C (τ.2.1 78 (t - 1)) : Int) := by
      unfold jC
      rw [if_pos (by omega), sA_k (by omega), sA_k (by omega)]
      exact hw.2.2.1.1 _ rc.1.1 (by omega)
    rw [ea, ec] at jw
    have ew : w = (C (τ.2.1 78 (t - 1)) : Int) := by
      rcases jw with e | ⟨e, -⟩
      · exact e
      · omega
    subst ew
    have m := m.resolve_left (fun z => by have := z.1; omega)
    obtain ⟨cc, x, m1, m2, m3⟩ := m
    have ecc : cc = C (τ.2.1 78 (t - 1)) := by omega
    subst ecc
    have px := hx.pop (by omega)
    rw [show τ.2.1 73 0 - 2 = t - 1 by omega, ← ht, ← es] at px
    have chs : CHX (RNL a) [xa, xb, xc, xd, xe, xf] [] σ s := by
      rw [es]
      exact ((CHX.rfl.fld (by simp) (by decide)).fld (by simp) (by decide)).fld (by simp) (by decide)
    have hws := hw.chx chs
    have hc := hws.2.2.2 _ rc.1.1 rc.1.2
    have s57 : s.2.1 57 a = t - 1 := by rw [es, sA_k (by decide)]; exact ra_eq
    have sb : s.2.1 (1000 + xb) = σ.2.1 (1000 + xb) := by rw [es, sA_k (by omega), sA_k (by omega), sA_k (by omega)]
    have s5 : s.2.1 5 (C (τ.2.1 78 (t - 1)) : Int) = σ.2.1 5 (C (τ.2.1 78 (t - 1))) := by rw [es, sA_k (by decide), sA_k (by decide), sA_k (by decide)]
    have ex : x = adN s 5 (C (τ.2.1 78 (t - 1))) := (adN_of (s5.trans m2)).symm
    subst ex
    have kk := hr.2.2.1 (t - 1) (by omega) (by omega)
    unfold kdm at kk
    rw [b0] at kk
    have c0 : cdW s (C (τ.2.1 78 (t - 1))) (τ.2.1 79 (t - 1)) 0 = τ.2.1 3 (220 * τ.2.1 78 (t - 1) + τ.2.1 79 (t - 1)) := hc.cel rc.2.1.1 rc.2.1.2 (by decide) (by decide)
    have c1 : cdW s (C (τ.2.1 78 (t - 1))) (τ.2.1 79 (t - 1)) 1 = τ.2.1 4 (220 * τ.2.1 78 (t - 1) + τ.2.1 79 (t - 1)) := hc.cel rc.2.1.1 rc.2.1.2 (by decide) (by decide)
    have d1 := (hc.2.2.1.1 _ rc.2.1.1 (by rw [hc.n]; exact rc.2.1.2)).2.1 (Or.inr (by rw [c0]; exact kk))
    rw [c1] at d1
    rw [s57, jA_in (by omega), sb, k1.2.1, hc.g rc.2.1.1 rc.2.1.2 (by decide), c1, w32_id (by omega), jP_in (by omega)] at m3
    have gr := gd.2 _ rc.1.1 rc.1.2
    have n200 := gr.1
    have s1b : s1.2.1 (1000 + xb) = σ.2.1 (1000 + xb) := by rw [m3, sA_k (by omega), sb]
    have s157 : s1.2.1 57 a = t - 1 := by rw [m3, sA_k (by omega), s57]
    rw [s157, jA_in (by omega), s1b, k1.2.1, w32_id (by omega), jP_in (by omega)] at e
    rw [b0] at e3
    have px2 := px.reg (xf := xf) (t := t - 1) (v := n) d d1
    rw [← m3] at px2
    have px3 := px2.place (xf := xf) (t := t - 1) (p := τ.2.1 79 (t - 1) + 1) d (by
      show t - 1 = (sA 82 _ _ (sA 73 0 t τ)).2.1 73 0 - 1
      rw [sA_k (by decide), ra_eq])
    have e4 : τ2 = sA 79 (t - 1) (τ.2.1 79 (t - 1) + 1) (sA 82 (192 * (t - 1) + τ.2.1 4 (220 * τ.2.1 78 (t - 1) + τ.2.1 79 (t - 1))) n (sA 73 0 t τ)) := by rw [e3, ht]
    rw [e, e4]
    refine ⟨e1, ⟨?_, ?_⟩, px3, hq.cg ⟨?_, ?_, ?_⟩ ⟨?_, ?_, ?_⟩⟩
    · rw [sA_k (by omega), m3, sA_k (by omega), es, sA_k (by decide), sA_k (by decide), sA_k (by decide)]
    · rw [sA_k (by omega), m3, sA_k (by omega), es, sA_k (by decide), sA_k (by decide), sA_k (by decide)]
    · rw [sA_k (by omega), m3, sA_k (by omega), es, sA_k (by decide), sA_k (by decide), sA_k (by decide)]
    · rw [sA_k (by omega), m3, sA_k (by omega), es, sA_k (by decide), sA_k (by decide), sA_k (by decide)]
    · rw [sA_k (by omega), m3, sA_k (by omega), es, sA_k (by omega), sA_k (by omega), sA_k (by omega)]
    · rw [sA_k (by decide), sA_k (by decide), sA_k (by decide)]
    · rw [sA_k (by decide), sA_k (by decide), sA_k (by decide)]
    · rw [sA_k (by decide), sA_k (by decide), sA_k (by decide)]
end RET7
end
section
theorem JSB.a0 {T : CT} {s σ2 : MS} {a xa xb xc xd xe xf y : Nat} {t k K v : Int} (h : JSB T s a xa xb xc xd xe xf y t k K v σ2) (hc : K = 6) : v = 0 ∧ ∃ p s1, JOP T s a xe k 3 p ∧ JEM T s a xf p s1 ∧ σ2 = jP T xb t (w32 (k + 1)) s1 := by
  rcases h with h | h | h | h | h | h | h | h | h | h <;> first | exact h.2 | (exfalso; have z := h.1; omega)
theorem JSB.a1 {T : CT} {s σ2 : MS} {a xa xb xc xd xe xf y : Nat} {t k K v : Int} (h : JSB T s a xa xb xc xd xe xf y t k K v σ2) (hc : K = 8) : v = 0 ∧ ∃ cc x : Nat, JCD s a cc x ∧ σ2 = jP T xb t (jG T s cc x k 12) s := by
  rcases h with h | h | h | h | h | h | h | h | h | h <;> first | exact h.2 | (exfalso; have z := h.1; omega)
theorem JSB.a2 {T : CT} {s σ2 : MS} {a xa xb xc xd xe xf y : Nat} {t k K v : Int} (h : JSB T s a xa xb xc xd xe xf y t k K v σ2) (hc : K = 9) : v = 0 ∧ ∃ p, JOP T s a xe k 3 p ∧ ((p = 0 ∧ ∃ cc x : Nat, JCD s a cc x ∧ σ2 = jP T xb t (jG T s cc x k 12) s) ∨ (p ≠ 0 ∧ σ2 = jP T xb t (w32 (k + 1)) s)) := by
  rcases h with h | h | h | h | h | h | h | h | h | h <;> first | exact h.2 | (exfalso; have z := h.1; omega)
theorem JSB.a3 {T : CT} {s σ2 : MS} {a xa xb xc xd xe xf y : Nat} {t k K v : Int} (h : JSB T s a xa xb xc xd xe xf y t k K v σ2) (hc : K = 10) : v = 0 ∧ JCF T s a xa xb xc xd xe y k σ2 := by
  rcases h with h | h | h | h | h | h | h | h | h | h <;> first | exact h.2 | (exfalso; have z := h.1; omega)
theorem JSB.a4 {T : CT} {s σ2 : MS} {a xa xb xc xd xe xf y : Nat} {t k K v : Int} (h : JSB T s a xa xb xc xd xe xf y t k K v σ2) (hc : K = 7) : v = 0 ∧ ∃ p, JOP T s a xe k 3 p ∧ JGB T s a xa xb xc xe y p σ2 := by
  rcases h with h | h | h | h | h | h | h | h | h | h <;> first | exact h.2 | (exfalso; have z := h.1; omega)
theorem JSB.a5 {T : CT} {s σ2 : MS} {a xa xb xc xd xe xf y : Nat} {t k K v : Int} (h : JSB T s a xa xb xc xd xe xf y t k K v σ2) (hc : K = 11) : v = 1 ∧ ∃ (cc x : Nat) (s1 : MS), JCD s a cc x ∧ s1 = jP T xd (w32 (t * 12 + jG T s cc x k 2)) (jG T s cc x k 1) s ∧ σ2 = jP T xb t (w32 (k + 1)) s1 := by
  rcases h with h | h | h | h | h | h | h | h | h | h <;> first | exact h.2 | (exfalso; have z := h.1; omega)
theorem JSB.a6 {T : CT} {s σ2 : MS} {a xa xb xc xd xe xf y : Nat} {t k K v : Int} (h : JSB T s a xa xb xc xd xe xf y t k K v σ2) (hc : K = 14) : v = 0 ∧ ∃ (cc x : Nat) (s0 s1 s2 : MS), JCD s a cc x ∧ s0 = sA 58 a (w32 (s.2.1 58 a + 1)) s ∧ s1 = jP T xc t (jG T s0 cc x k 1) s0 ∧ s2 = jP T xd (w32 (t * 12 + jG T s1 cc x k 1)) 0 s1 ∧ σ2 = jP T xb t (w32 (k + 1)) s2 := by
  rcases h with h | h | h | h | h | h | h | h | h | h <;> first | exact h.2 | (exfalso; have z := h.1; omega)
theorem JSB.a7 {T : CT} {s σ2 : MS} {a xa xb xc xd xe xf y : Nat} {t k K v : Int} (h : JSB T s a xa xb xc xd xe xf y t k K v σ2) (hc : K = 15) : v = 0 ∧ ∃ (cc x xp : Nat) (s0 s1 : MS), JCD s a cc x ∧ s.2.1 12 cc = (xp : Int) ∧ s0 = sA 58 a (w32 (s.2.1 58 a - 1)) s ∧ s1 = jP T xc t (jA T xp (jG T s0 cc x k 1) s0) s0 ∧ σ2 = jP T xb t (w32 (k + 1)) s1 := by
  rcases h with h | h | h | h | h | h | h | h | h | h <;> first | exact h.2 | (exfalso; have z := h.1; omega)
theorem JSB.a8 {T : CT} {s σ2 : MS} {a xa xb xc xd xe xf y : Nat} {t k K v : Int} (h : JSB T s a xa xb xc xd xe xf y t k K v σ2) (hc : K = -1) : v = 0 ∧ JGB T s a xa xb xc xe y 0 σ2 := by
  rcases h with h | h | h | h | h | h | h | h | h | h <;> first | exact h.2 | (exfalso; have z := h.1; omega)
theorem JSB.a9 {T : CT} {s σ2 : MS} {a xa xb xc xd xe xf y : Nat} {t k K v : Int} (h : JSB T s a xa xb xc xd xe xf y t k K v σ2) (hc : (K < -1 ∨ (0 ≤ K ∧ K ≤ 5) ∨ K = 12 ∨ K = 13 ∨ 15 < K)) : v = 0 ∧ ∃ s1, JRK T s a xe k K s1 ∧ σ2 = jP T xb t (w32 (k + 1)) s1 := by
  rcases h with h | h | h | h | h | h | h | h | h | h <;> first | exact h.2 | (exfalso; have z := h.1; omega)
end
section
section SIM7
variable {T : CT} {σ σ2 τ τ2 : MS} {a xa xb xc xd xe xf y : Nat} {C : Int → Nat} {t r p u v : Int}
theorem sio_ret {s : MS} (hv : v = 0) (e : s.2.1 56 a = 1 ∧ s.2.1 67 a = σ.2.1 67 a + 1) (h : (u = 2 ∧ (σ2.2.1 56 a = 2 ∧ σ2.2.1 58 a = 0 ∧ σ2.2.1 67 a = s.2.1 67 a) ∧ RPQ σ2 a xf τ2) ∨ (u = 0 ∧ (σ2.2.1 56 a = s.2.1 56 a ∧ σ2.2.1 67 a = s.2.1 67 a) ∧ RXC σ2 a xa xb xc xd xe C τ2 ∧ RPQ σ2 a xf τ2)) : SIO σ a xa xb xc xd xe xf C σ2 τ τ2 u v := by
  rcases h with ⟨h1, h2, h3⟩ | ⟨h1, h2, h3, h4⟩
  · exact Or.inr (Or.inl ⟨h1, hv, ⟨h2.1, h2.2.1, h2.2.2.trans e.2⟩, h3⟩)
  · exact Or.inr (Or.inr ⟨Or.inl h1, hv.trans h1.symm, ⟨h2.1.trans e.1, h2.2.trans e.2⟩, h3, h4⟩)
theorem sim_out {s1 : MS} {n z : Int} (hx : RXC σ a xa xb xc xd xe C τ) (hq : RPQ σ a xf τ) (d : DX xa xb xc xd xe xf) (l : (T xf).2 = 200) (hn : n = τ.2.1 76 0) (n0 : 0 ≤ n ∧ n ≤ 1000000000) (h : JEM T σ a xf z s1) : RXC s1 a xa xb xc xd xe C (sA 76 0 (n + 1) (if n < 200 then sA 77 (200 * 0 + n) z τ else τ)) ∧ RPQ s1 a xf (sA 76 0 (n + 1) (if n < 200 then sA 77 (200 * 0 + n) z τ else τ)) ∧ (s1.2.1 56 a = σ.2.1 56 a ∧ s1.2.1 67 a = σ.2.1 67 a) ∧ (sA 76 0 (n + 1) (if n < 200 then sA 77 (200 * 0 + n) z τ else τ)).2.1 73 0 = τ.2.1 73 0 := by
  unfold DX at d
  unfold JEM at h
  have h65 := hq.1
  rw [h65, ← hn, w32_id (by omega)] at h
  have rf : ∀ f : Nat, f < 1000 → f ≠ 65 → f ≠ 66 → s1.2.1 f (a : Int) = σ.2.1 f a := fun f f0 f1 f2 => by
    rw [h, sA_k f1, sA_k f2]
    by_cases q : n < 200
    · rw [jP_in (by omega), sA_k (by omega)]
    · rw [jP_out (by omega)]
  have rr : ∀ x, x ≠ xf → s1.2.1 (1000 + x) = σ.2.1 (1000 + x) := fun x f1 => by
    rw [h, sA_k (by omega), sA_k (by omega)]
    by_cases q : n < 200
    · rw [jP_in (by omega), sA_k (by omega)]
    · rw [jP_out (by omega)]
  have tt : ∀ k : Nat, k ≠ 76 → k ≠ 77 → (sA 76 0 (n + 1) (if n < 200 then sA 77 (200 * 0 + n) z τ else τ)).2.1 k = τ.2.1 k := fun k k1 k2 => by
    rw [sA_k k1]
    by_cases q : n < 200
    · rw [if_pos q, sA_k k2]
    · rw [if_neg q]
  refine ⟨(hx.cg (σ2 := s1) ⟨rf 57 (by decide) (by decide) (by decide), rf 58 (by decide) (by decide) (by decide), rf 69 (by decide) (by decide) (by decide)⟩ ⟨rr _ (by omega), rr _ (by omega), rr _ (by omega), rr _ (by omega), rr _ (by omega)⟩).tc ⟨tt 73 (by decide) (by decide), tt 78 (by decide) (by decide), tt 79 (by decide) (by decide), tt 80 (by decide) (by decide), tt 81 (by decide) (by decide), tt 82 (by decide) (by decide), tt 16 (by decide) (by decide)⟩, ⟨?_, fun i i0 i1 i2 => ?_, ?_⟩, ⟨rf 56 (by decide) (by decide) (by decide), rf 67 (by decide) (by decide) (by decide)⟩, by rw [tt 73 (by decide) (by decide)]⟩
  · rw [h, ra_eq]; exact ra_eq.symm
  · have i2 : i < n + 1 := by
      have z : (sA 76 0 (n + 1) (if n < 200 then sA 77 (200 * 0 + n) z τ else τ)).2.1 76 0 = n + 1 := ra_eq
      omega
    rw [sA_k (show 77 ≠ 76 by decide)]
    rw [h, sA_k (by omega), sA_k (by omega)]
    by_cases q : n < 200
    · rw [jP_in (by omega), if_pos q, show 200 * 0 + n = n by omega, sA_ite, sA_ite]
      by_cases w : i = n
      · rw [if_pos w, if_pos w]
      · rw [if_neg w, if_neg w]; exact hq.2.1 i i0 i1 (by omega)
    · rw [jP_out (by omega), if_neg q]; exact hq.2.1 i i0 i1 (by omega)
  · rw [rf 68 (by decide) (by decide) (by decide), tt 75 (by decide) (by decide)]; exact hq.2.2
theorem sim (hx : RXC σ a xa xb xc xd xe C τ) (hq : RPQ σ a xf τ) (hw : RWF T σ a xa xb xc xd xe xf y C τ) (gd : GDA τ) (hp4 : PAR τ) (hr : RUN τ 0) (un : UNA τ) (e56 : σ.2.1 56 a = 1) (bg : 0 ≤ σ.2.1 67 a ∧ σ.2.1 67 a ≤ 1500000000) (bp : 0 ≤ τ.2.1 76 0 ∧ τ.2.1 76 0 ≤ 1000000000) (hj : JST T σ a xa xb xc xd xe xf y v σ2) (hs : STQ τ 0 u τ2) : SIO σ a xa xb xc xd xe xf C σ2 τ τ2 u v := by
  have h73 := hx.1.1
  have h57 := hx.1.2
  have h58 := hx.2.1
  have dd := hr.2.2.2
  have l := hw.2.1
  have d0 := hw.1
  have t6 := gd.1
  obtain ⟨k, K, ek, hK, hj⟩ := hj
  obtain ⟨t, ht⟩ : ∃ t, t = τ.2.1 73 0 - 1 := ⟨_, rfl⟩
  have rc := run_c hr (c := t) (by omega) (by omega)
  have plc := hr.2.1 t (by omega) (by omega)
  have k1 := (hx.2.2.2 t (by omega) (by omega)).1
  have ek : k = τ.2.1 79 t := by rw [ek, h57, ← ht, jA_in (by omega)]; exact k1.2.1
  obtain ⟨r, er⟩ : ∃ r, r = τ.2.1 78 t := ⟨_, rfl⟩
  rw [← er] at rc plc
  rw [← ek] at rc plc
  have hc := hw.2.2.2 r rc.1.1 rc.1.2
  have gr := gd.2 r rc.1.1 rc.1.2
  have n200 := gr.1
  have e69 := hx.2.2.1
  rw [← ht, ← er] at e69
  have hKe : K = τ.2.1 3 (220 * r + k) := by
    rcases hK with ⟨z, -⟩ | ⟨cc, x, ⟨e1, e2⟩, e3⟩
    · omega
    · have ecc : cc = C r := by omega
      subst ecc
      have ex : x = adN σ 5 (C r) := (adN_of e2).symm
      subst ex
      rw [e3]; exact hc.k rc.2.1.1 rc.2.1.2
  unfold STQ at hs
  rw [b0, show 9 * 0 + τ.2.1 73 0 - 1 = t by omega, ← er, ← ek] at hs
  rw [h57, ← ht] at hj
  rcases hj with ⟨hk, hd, ev, e⟩ | ⟨hn, hb⟩
  · have hs := hs.resolve_right (fun z => by
      rcases z with z | z | z | z | z | z | z | z | z | z
      all_goals (have z1 := z.1)
      · omega
      · omega
      · omega
      · omega
      · omega
      · omega
      · omega
      · have := z.2.2.1; omega
      · omega
      · have := z.2.2.1; omega)
    exact Or.inl ⟨hs.1, ev, hs.2.2.2, e⟩
  have hs := hs.resolve_left (fun z => hn ⟨by have := z.2.1; omega, by have := z.2.2.1; omega⟩)
  rw [w32_id (by omega)] at hb
  obtain ⟨s, es⟩ : ∃ s, s = sA 67 a (σ.2.1 67 a + 1) σ := ⟨_, rfl⟩
  rw [← es] at hb
  have hxs : RXC s a xa xb xc xd xe C τ := by rw [es]; exact hx.fld (by decide)
  have chs : CHX (RNL a) [xa, xb, xc, xd, xe, xf] [] σ s := by rw [es]; exact CHX.rfl.fld (by simp) (by decide)
  have hws := hw.chx chs
  have hcs := hws.2.2.2 r rc.1.1 rc.1.2
  have hqs : RPQ s a xf τ := hq.cg (by rw [es]; exact ⟨by rw [sA_k (by decide)], by rw [sA_k (by decide)], sA_k (by omega)⟩) ⟨rfl, rfl, rfl⟩
  have s2 : s.2.1 56 a = 1 ∧ s.2.1 67 a = σ.2.1 67 a + 1 := by
    rw [es]
    exact ⟨(congrFun (sA_k (by decide)) _).trans e56, ra_eq⟩
  have s69 : s.2.1 69 a = (C r : Int) := by rw [es, sA_k (by decide)]; exact e69
  have code : ∀ cc x : Nat, JCD s a cc x → cc = C r ∧ x = adN s 5 (C r) := fun cc x h => by
    have ecc : cc = C r := by have := h.1; omega
    subst ecc
    exact ⟨rfl, (adN_of h.2).symm⟩
  have pn : ∀ {s1 τ1 : MS}, RXC s1 a xa xb xc xd xe C τ1 → RPQ s1 a xf τ1 → τ1.2.1 73 0 = τ.2.1 73 0 → s1.2.1 56 a = s.2.1 56 a ∧ s1.2.1 67 a = s.2.1 67 a → ∀ {v : Int}, (v = 0 ∨ v = 1) → SIO σ a xa xb xc xd xe xf C (jP T xb t (w32 (k + 1)) s1) τ (sA 79 t (k + 1) τ1) v v := fun h1 h2 h3 h4 v hv => by
    rw [w32_id (by omega)]
    exact sio_n d0 l.2.1 h1 h2 (by omega) (by omega) ⟨h4.1.trans s2.1, h4.2.trans s2.2⟩ hv
  have c0 : cdW s (C r) k 0 = τ.2.1 3 (220 * r + k) := hcs.cel rc.2.1.1 rc.2.1.2 (by decide) (by decide)
  have c1 : cdW s (C r) k 1 = τ.2.1 4 (220 * r + k) := hcs.cel rc.2.1.1 rc.2.1.2 (by decide) (by decide)
  have c2 : cdW s (C r) k 2 = τ.2.1 5 (220 * r + k) := hcs.cel rc.2.1.1 rc.2.1.2 (by decide) (by decide)
  have g1 : jG T s (C r) (adN s 5 (C r)) k 1 = τ.2.1 4 (220 * r + k) := (hcs.g rc.2.1.1 rc.2.1.2 (by decide)).trans c1
  have g2 : jG T s (C r) (adN s 5 (C r)) k 2 = τ.2.1 5 (220 * r + k) := (hcs.g rc.2.1.1 rc.2.1.2 (by decide)).trans c2
  have wk := hcs.2.2.1.1 k rc.2.1.1 (by rw [hcs.n]; exact rc.2.1.2)
  have okf : ∀ f, f = τ.2.1 4 (220 * r + k) ∨ f = τ.2.1 5 (220 * r + k) → True := fun _ _ => trivial
  have oki := gr.2.2.1 k rc.2.1.1 rc.2.1.2
  rcases hs with hs | hs | hs | hs | hs | hs | hs | hs | hs | hs
  -- RETURN
  · obtain ⟨ev, z, jo, jg⟩ := hb.a4 (by omega)
    have ez := JOP.w7 (j := 0) hxs hws ht er rc.1 rc.2.1 (by decide) (by omega) jo
    rw [← ez] at hs
    exact sio_ret ev s2 (sim_ret hxs hqs hws gd hr ht jg hs.2)
  -- COPY
  · obtain ⟨ev, s1, jr, e⟩ := hb.a9 (by omega)
    obtain ⟨z, e1, d1, hz⟩ := sim_pure hxs hqs hws ht er ek rc.1 rc.2.1 (by omega) s2.1 hKe (by omega) jr
    have hz := hz.resolve_right (fun q => by have := q.1; omega)
    rw [e, ev, hs.2.1, hs.2.2, ← hz.2]
    have e5 : τ.2.1 79 t + 1 = k + 1 := by omega
    rw [e5]
    refine pn ?_ ?_ (by rw [sA_k (by decide)]) ?_ (Or.inl rfl)
    · rw [e1]; exact hxs.reg d0 d1
    · rw [e1]
      unfold DX at d0
      exact hqs.cg ⟨by rw [sA_k (by omega)], by rw [sA_k (by omega)], sA_k (fun z => d0.2.2.2.2 (Nat.add_left_cancel z.symm))⟩ ⟨sA_k (by decide), sA_k (by decide), sA_k (by decide)⟩
    · rw [e1]; exact ⟨by rw [sA_k (by omega)], by rw [sA_k (by omega)]⟩
  -- the five
  · obtain ⟨ev, s1, jr, e⟩ := hb.a9 (by omega)
    obtain ⟨z, e1, d1, hz⟩ := sim_pure hxs hqs hws ht er ek rc.1 rc.2.1 (by omega) s2.1 hKe (by omega) jr
    have hz := hz.resolve_left (fun q => by have := q.1; omega)
    have hz2 := hz.2
    rw [hKe] at hz2
    rw [e, ev, hs.2.1, hs.2.2, ← hz2]
    have e5 : τ.2.1 79 t + 1 = k + 1 := by omega
    rw [e5]
    refine pn ?_ ?_ (by rw [sA_k (by decide)]) ?_ (Or.inl rfl)
    · rw [e1]; exact hxs.reg d0 d1
    · rw [e1]
      unfold DX at d0
      exact hqs.cg ⟨by rw [sA_k (by omega)], by rw [sA_k (by omega)], sA_k (fun z => d0.2.2.2.2 (Nat.add_left_cancel z.symm))⟩ ⟨sA_k (by decide), sA_k (by decide), sA_k (by decide)⟩
    · rw [e1]; exact ⟨by rw [sA_k (by omega)], by rw [sA_k (by omega)]⟩
  -- OUT
  · obtain ⟨ev, z, s1, jo, je, e⟩ := hb.a0 (by omega)
    have ez := JOP.w7 (j := 0) hxs hws ht er rc.1 rc.2.1 (by decide) (by omega) jo
    have so := sim_out hxs hqs d0 l.2.2.2.2.2 rfl bp je
    rw [e, ev, hs.2.1, hs.2.2, ← ez]
    have e5 : τ.2.1 79 t + 1 = k + 1 := by omega
    rw [e5]
    exact pn so.1 so.2.1 so.2.2.2 so.2.2.1 (Or.inl rfl)
  -- jumps
  · obtain ⟨hk, hu, j, jt, e2⟩ := hs
    obtain ⟨j0, j13, j4⟩ := jt
    rw [b0, ← er] at j0 j13 j4
    have tg := tgt7 hcs (un r rc.1.1 rc.1.2) rc.2.1 (by omega) j0 j13 j4
    have fin : σ2 = jP T xb t j s → v = 0 → SIO σ a xa xb xc xd xe xf C σ2 τ τ2 u v := fun e ev => by
      rw [e, e2, ev, hu]
      exact sio_n d0 l.2.1 hxs hqs (by omega) (by omega) s2 (Or.inl rfl)
    rcases hk with hk | ⟨hk, ha⟩
    · obtain ⟨ev, cc, x, jd, e⟩ := hb.a1 (by omega)
      obtain ⟨q1, q2⟩ := code cc x jd
      subst q1 q2
      rw [tg] at e
      exact fin e ev
    · obtain ⟨ev, z, jo, hz⟩ := hb.a2 (by omega)
      have ez := JOP.w7 (j := 0) hxs hws ht er rc.1 rc.2.1 (by decide) (by omega) jo
      rw [ha] at ez
      have hz := hz.resolve_right (fun q => q.1 ez)
      obtain ⟨-, cc, x, jd, e⟩ := hz
      obtain ⟨q1, q2⟩ := code cc x jd
      subst q1 q2
      rw [tg] at e
      exact fin e ev
  -- what does nothing
  · have e5 : τ.2.1 79 t + 1 = k + 1 := by omega
    have fin : σ2 = jP T xb t (w32 (k + 1)) s → v = 0 → SIO σ a xa xb xc xd xe xf C σ2 τ τ2 u v := fun e ev => by
      rw [e, ev, hs.2.1, hs.2.2, e5]
      exact pn hxs hqs rfl ⟨rfl, rfl⟩ (Or.inl rfl)
    rcases hs.1 with ⟨hk, ha⟩ | hk
    · obtain ⟨ev, z, jo, hz⟩ := hb.a2 (by omega)
      have ez := JOP.w7 (j := 0) hxs hws ht er rc.1 rc.2.1 (by decide) (by omega) jo
      have hz := hz.resolve_left (fun q => ha (by rw [← ez]; exact q.1))
      exact fin hz.2 ev
    · obtain ⟨ev, s1, jr, e⟩ := hb.a9 (by omega)
      rcases jr with ⟨-, e1⟩ | ⟨n, -⟩
      · rw [e1] at e; exact fin e ev
      · omega
  -- LINE
  · obtain ⟨ev, cc, x, s1, jd, e1, e⟩ := hb.a5 (by omega)
    obtain ⟨q1, q2⟩ := code cc x jd
    subst q1 q2
    have o6 := oki.2.2.2.2.2.1 (Or.inl (by omega))
    have F12 := gr.2.1.1
    rw [g1, g2, w32_id (by omega), jP_in (by omega)] at e1
    rw [e, ev, hs.2.1, hs.2.2]
    have e5 : τ.2.1 79 t + 1 = k + 1 := by omega
    rw [e5]
    refine pn ?_ ?_ (by rw [sA_k (by decide)]) ?_ (Or.inr rfl)
    · rw [e1]; exact hxs.line d0
    · rw [e1]
      unfold DX at d0
      exact hqs.cg ⟨by rw [sA_k (by omega)], by rw [sA_k (by omega)], sA_k (fun z => d0.2.2.2.1.2 (Nat.add_left_cancel z.symm))⟩ ⟨sA_k (by decide), sA_k (by decide), sA_k (by decide)⟩
    · rw [e1]; exact ⟨by rw [sA_k (by omega)], by rw [sA_k (by omega)]⟩
  -- ENTER
  · obtain ⟨ev, cc, x, s0, s1, s3, jd, e0, e1, e3, e⟩ := hb.a6 (by omega)
    obtain ⟨q1, q2⟩ := code cc x jd
    subst q1 q2
    have kd : kdm τ 0 r k = 14 := by unfold kdm; rw [b0]; exact hs.1
    have en := plc.enter kd
    have ds : dsm τ 0 r k = τ.2.1 4 (220 * r + k) := by unfold dsm; rw [b0]
    rw [ds] at en
    have er2 := en.1.rng
    have e14 : fm τ 0 r = τ.2.1 14 r := if_neg (by decide)
    rw [e14] at er2
    have F12 := gr.2.1.1
    have s58 : s.2.1 58 a = dpt τ 0 := hxs.2.1
    have ch0 : CHX (RNL a) [xa, xb, xc, xd, xe, xf] [] s s0 := by rw [e0]; exact CHX.rfl.fld (by simp) (by decide)
    have hc0 := (hws.chx ch0).2.2.2 r rc.1.1 rc.1.2
    have a0 : adN s0 5 (C r) = adN s 5 (C r) := by unfold adN; rw [e0, sA_k (by decide)]
    have g10 : jG T s0 (C r) (adN s 5 (C r)) k 1 = τ.2.1 4 (220 * r + k) := by
      rw [← a0]
      exact (hc0.g rc.2.1.1 rc.2.1.2 (by decide)).trans (hc0.cel rc.2.1.1 rc.2.1.2 (by decide) (by decide))
    rw [g10, jP_in (by omega)] at e1
    have ch1 : CHX (RNL a) [xa, xb, xc, xd, xe, xf] [] s s1 := by rw [e1]; exact ch0.arr (by simp)
    have hc1 := (hws.chx ch1).2.2.2 r rc.1.1 rc.1.2
    have a1 : adN s1 5 (C r) = adN s 5 (C r) := by unfold adN; rw [e1, sA_k (by omega), e0, sA_k (by decide)]
    have g11 : jG T s1 (C r) (adN s 5 (C r)) k 1 = τ.2.1 4 (220 * r + k) := by
      rw [← a1]
      exact (hc1.g rc.2.1.1 rc.2.1.2 (by decide)).trans (hc1.cel rc.2.1.1 rc.2.1.2 (by decide) (by decide))
    rw [g11, w32_id (by omega), jP_in (by omega)] at e3
    have dd9 := hr.2.2.2
    have dg9 := hr.ge
    have h58s := hxs.2.1
    rw [w32_id (by omega)] at e0
    have dps := dp_s ((gd.bka (by decide)).2 r rc.1.1 rc.1.2) en.1.rng
    rw [en.2.1] at dps
    have top := dpt_top (t := t) (τ2 := sA 81 (12 * t + τ.2.1 4 (220 * r + k)) 0 (sA 80 t (τ.2.1 4 (220 * r + k)) τ)) (((Fr.rfl (ss := []) (ks := [80, 81]) (js := [])).A (k := 80) (by decide)).A (by decide)) (by decide) (by omega) ht rfl (fun _ _ _ => rfl) (fun c x0 x1 => by rw [sA_k (by decide)]; exact ra_ne (by omega) rfl)
    rw [← er, show (sA 81 (12 * t + τ.2.1 4 (220 * r + k)) 0 (sA 80 t (τ.2.1 4 (220 * r + k)) τ)).2.1 80 t = τ.2.1 4 (220 * r + k) by rw [sA_k (by decide)]; exact ra_eq] at top
    have px := hxs.ent (xf := xf) (t := t) (g := τ.2.1 4 (220 * r + k)) d0 ht er2.1 (by rw [← er]; exact en.2.1) (by omega)
    rw [e, ev, hs.2.1, hs.2.2.2]
    have e5 : τ.2.1 79 t + 1 = k + 1 := by omega
    rw [e5]
    have e33 : s3 = sA (1000 + xd) (t * 12 + τ.2.1 4 (220 * r + k)) 0 (sA (1000 + xc) t (τ.2.1 4 (220 * r + k)) (sA 58 a (s.2.1 58 a + 1) s)) := by rw [e3, e1, e0]
    refine pn (by rw [e33]; exact px) ?_ (by rw [sA_k (by decide), sA_k (by decide)]) ?_ (Or.inl rfl)
    · rw [e33]
      unfold DX at d0
      exact hqs.cg ⟨by rw [sA_k (by omega), sA_k (by omega), sA_k (by decide)], by rw [sA_k (by omega), sA_k (by omega), sA_k (by decide)], by rw [sA_k (by omega), sA_k (by omega), sA_k (by omega)]⟩ ⟨by rw [sA_k (by decide), sA_k (by decide)], by rw [sA_k (by decide), sA_k (by decide)], by rw [sA_k (by decide), sA_k (by decide)]⟩
    · rw [e33]; exact ⟨by rw [sA_k (by omega), sA_k (by omega), sA_k (by decide)], by rw [sA_k (by omega), sA_k (by omega), sA_k (by decide)]⟩
  -- LEAVE
  · obtain ⟨ev, cc, x, xp, s0, s1, jd, ep, e0, e1, e⟩ := hb.a7 (by omega)
    obtain ⟨q1, q2⟩ := code cc x jd
    subst q1 q2
    have kd : kdm τ 0 r k = 15 := by unfold kdm; rw [b0]; exact hs.1
    have le := plc.leave kd
    have ds : dsm τ 0 r k = τ.2.1 4 (220 * r + k) := by unfold dsm; rw [b0]
    rw [ds] at le
    have lr := plc.rng
    have e14 : fm τ 0 r = τ.2.1 14 r := if_neg (by decide)
    rw [e14] at lr
    have F12 := gr.2.1.1
    have s58 : s.2.1 58 a = dpt τ 0 := hxs.2.1
    have dg := hr.ge
    have ch0 : CHX (RNL a) [xa, xb, xc, xd, xe, xf] [] s s0 := by rw [e0]; exact CHX.rfl.fld (by simp) (by decide)
    have hc0 := (hws.chx ch0).2.2.2 r rc.1.1 rc.1.2
    have a0 : adN s0 5 (C r) = adN s 5 (C r) := by unfold adN; rw [e0, sA_k (by decide)]
    have g10 : jG T s0 (C r) (adN s 5 (C r)) k 1 = τ.2.1 4 (220 * r + k) := by
      rw [← a0]
      exact (hc0.g rc.2.1.1 rc.2.1.2 (by decide)).trans (hc0.cel rc.2.1.1 rc.2.1.2 (by decide) (by decide))
    have a12 : xp = adN s0 12 (C r) := by
      have z : adN s0 12 (C r) = adN s 12 (C r) := by unfold adN; rw [e0, sA_k (by decide)]
      rw [z, adN_of ep]
    have l12 := hc0.2.2.2.2.1.2.1
    have pr7 := par7 hc0 (f := τ.2.1 4 (220 * r + k)) (by omega) (by omega)
    have pr8 : s0.2.1 (1000 + xp) (τ.2.1 4 (220 * r + k)) = τ.2.1 16 (12 * r + τ.2.1 4 (220 * r + k)) := by rw [a12]; exact pr7
    rw [g10, jA_in (by rw [a12]; omega), pr8, jP_in (by omega)] at e1
    rw [w32_id (by omega)] at e0
    have pm : prm τ 0 r (τ.2.1 80 t) = τ.2.1 16 (12 * r + τ.2.1 4 (220 * r + k)) := by
      rw [← le.2.1]; exact if_neg (by decide)
    have dps := dp_s ((gd.bka (by decide)).2 r rc.1.1 rc.1.2) plc.rng
    rw [pm] at dps
    have top := dpt_top (t := t) (τ2 := sA 80 t (τ.2.1 16 (12 * r + τ.2.1 4 (220 * r + k))) τ) ((Fr.rfl (ss := []) (ks := [80]) (js := [])).A (k := 80) (by decide)) (by decide) (by omega) ht rfl (fun _ _ _ => rfl) (fun c x0 x1 => ra_ne (by omega) rfl)
    rw [← er, show (sA 80 t (τ.2.1 16 (12 * r + τ.2.1 4 (220 * r + k))) τ).2.1 80 t = τ.2.1 16 (12 * r + τ.2.1 4 (220 * r + k)) from ra_eq] at top
    have px := hxs.lea (xf := xf) (t := t) (g := τ.2.1 16 (12 * r + τ.2.1 4 (220 * r + k))) d0 ht lr.1 (by rw [← er]; exact pm) (by omega)
    rw [e, ev, hs.2.1, hs.2.2, ← er]
    have e5 : τ.2.1 79 t + 1 = k + 1 := by omega
    rw [e5]
    have e33 : s1 = sA (1000 + xc) t (τ.2.1 16 (12 * r + τ.2.1 4 (220 * r + k))) (sA 58 a (s.2.1 58 a - 1) s) := by rw [e1, e0]
    refine pn (by rw [e33]; exact px) ?_ (by rw [sA_k (by decide)]) ?_ (Or.inl rfl)
    · rw [e33]
      unfold DX at d0
      exact hqs.cg ⟨by rw [sA_k (by omega), sA_k (by decide)], by rw [sA_k (by omega), sA_k (by decide)], by rw [sA_k (fun z => d0.2.2.1.2.2 (Nat.add_left_cancel z.symm)), sA_k (by omega)]⟩ ⟨sA_k (by decide), sA_k (by decide), sA_k (by decide)⟩
    · rw [e33]; exact ⟨by rw [sA_k (by omega), sA_k (by decide)], by rw [sA_k (by omega), sA_k (by decide)]⟩
  -- CALL
  · obtain ⟨ev, jc⟩ := hb.a3 (by omega)
    have kd : kdm τ 0 r k = 10 := by unfold kdm; rw [b0]; exact hs.1
    have cq := plc.call ((gd.bka (by decide)).2 r rc.1.1 rc.1.2) kd
    rw [b0] at cq
    have sc := sim_call hxs hws gd hp4 hr ht er rc.1 rc.2.1 rfl cq hs.1 (by have := hs.2.2.1; omega) jc hs.2.2.2
    have fl : ∀ f : Nat, f < 1000 → f ≠ 57 → f ≠ 58 → f ≠ 69 → σ2.2.1 f (a : Int) = s.2.1 f a := fun f f0 f1 f2 f3 => sc.2.1.1 f a f0 (fun z hz e => by
      simp only [List.mem_cons, List.not_mem_nil, or_false] at hz
      rcases hz with z | z | z <;> rw [z] at e <;> omega)
    unfold DX at d0
    refine Or.inr (Or.inr ⟨Or.inl hs.2.1, ev.trans hs.2.1.symm, ⟨(fl 56 (by decide) (by decide) (by decide) (by decide)).trans s2.1, (fl 67 (by decide) (by decide) (by decide) (by decide)).trans s2.2⟩, sc.1, hqs.cg ⟨fl 65 (by decide) (by decide) (by decide) (by decide), fl 68 (by decide) (by decide) (by decide) (by decide), sc.2.1.r (by simp only [List.mem_cons, List.not_mem_nil, or_false, not_or]; exact ⟨Ne.symm d0.1.2.2.2.2, Ne.symm d0.2.1.2.2.2, Ne.symm d0.2.2.1.2.2, Ne.symm d0.2.2.2.1.2, Ne.symm d0.2.2.2.2⟩)⟩ ⟨sc.2.2.2.2, ?_, sc.2.2.2.1⟩⟩)
    exact sc.2.2.1.2.1 77 (by decide)
end SIM7
end
section
def ZZ (V : Int → It) (n p : Int) : Prop := ∃ k, p ≤ k ∧ k < n ∧ (V k 0 = 10 ∨ V k 0 = 14) ∧ ∀ i, p ≤ i → i < k → V i 0 ≤ 5
def LNB (V : Int → It) (n : Int) : Prop := ∀ k, 0 ≤ k → k < n → (V k 0 = 10 ∨ V k 0 = 14) → ∃ j, lnA V k j
theorem zz_nx {V : Int → It} {n p : Int} (l : LNB V n) (p0 : 0 ≤ p) (h : ¬ (V p 0 ≤ 5)) (h11 : V p 0 ≠ 11) : ¬ ZZ V n (p + 1) := fun ⟨k, k0, k1, k2, k3⟩ => by
  obtain ⟨j, j0, j1, j2, j3⟩ := l k (by omega) k1 k2
  by_cases z : j < p
  · exact h (j3 p z (by omega))
  · by_cases w : j = p
    · rw [w] at j2; exact h11 j2
    · have := k3 j (by omega) j1; omega
theorem zz_pure {V : Int → It} {n p : Int} (h : V p 0 ≤ 5) (z : ZZ V n (p + 1)) : ZZ V n p := by
  obtain ⟨k, k0, k1, k2, k3⟩ := z
  refine ⟨k, by omega, k1, k2, fun i a b => ?_⟩
  by_cases e : i = p
  · rw [e]; exact h
  · exact k3 i (by omega) b
theorem zz_lab {V : Int → It} {n p : Int} (h : V p 0 = 13) : ¬ ZZ V n p := fun ⟨k, k0, k1, k2, k3⟩ => by
  by_cases e : k = p
  · rw [e] at k2; omega
  · have := k3 p (by omega) (by omega); omega
theorem lnb_of {τ : MS} {r : Int} (g : GDR τ r) (z : EZ (rV τ r) (τ.2.1 9 r)) : LNB (rV τ r) (τ.2.1 9 r) := fun k k0 k1 h => by
  rcases h with h | h
  · rw [rv_in k0 k1] at h
    obtain ⟨fr, lf, c⟩ := g.2.2.2.2.2.1
    obtain ⟨-, j, j0, j1, j2, -, j3⟩ := c.2.2.2.2 k k0 k1 h
    refine ⟨j, j0, j1, ?_, fun i a b => ?_⟩
    · rw [rv_in j0 (by omega)]; exact j2
    · rw [rv_in (by omega) (by omega)]; exact j3 i a b
  · exact z k k0 k1 h
def NZ7 (τ : MS) : Prop := ¬ ZZ (rV τ (τ.2.1 78 (τ.2.1 73 0 - 1))) (τ.2.1 9 (τ.2.1 78 (τ.2.1 73 0 - 1))) (τ.2.1 79 (τ.2.1 73 0 - 1))
section GO7
variable {τ τ2 : MS} {t r p u w q e : Int}
theorem rv_sA {k : Nat} {i z r : Int} (h : 73 ≤ k) : rV (sA k i z τ) r = rV τ r ∧ (sA k i z τ).2.1 9 r = τ.2.1 9 r := by
  have e : ∀ m : Nat, m < 73 → (sA k i z τ).2.1 m = τ.2.1 m := fun m hm => sA_k (by omega)
  refine ⟨?_, by rw [e 9 (by decide)]⟩
  unfold rV rI
  rw [e 9 (by decide), e 3 (by decide), e 4 (by decide), e 5 (by decide), e 6 (by decide), e 7 (by decide), e 8 (by decide)]
def DPS (τ τ2 : MS) (u : Int) : Prop := (u = 1 ∧ dpt τ2 0 = dpt τ 0) ∨ (u = 0 ∧ ((¬ NZ7 τ ∧ dpt τ 0 ≤ dpt τ2 0) ∨ (dpt τ2 0 = dpt τ 0 ∧ (NZ7 τ → NZ7 τ2)) ∨ (dpt τ2 0 < dpt τ 0 ∧ NZ7 τ2)))
theorem dps_of (gd : GDA τ) (ez : EZA τ) (hr : RUN τ 0) (ht : t = τ.2.1 73 0 - 1) (hrr : r = τ.2.1 78 t) (hp : p = τ.2.1 79 t) (hs : STX τ 0 t (220 * r + p) u τ2) (hu : u = 0 ∨ u = 1) : DPS τ τ2 u := by
  have h73 := hr.1
  have rc := run_c hr (c := t) (by omega) (by omega)
  have plc := hr.2.1 t (by omega) (by omega)
  rw [← hrr, ← hp] at rc plc
  have gr := gd.2 r rc.1.1 rc.1.2
  have lb := lnb_of gr (ez r rc.1.1 rc.1.2)
  have kd : rV τ r p 0 = τ.2.1 3 (220 * r + p) := by rw [rv_in rc.2.1.1 rc.2.1.2]; rfl
  have nz : NZ7 τ ↔ ¬ ZZ (rV τ r) (τ.2.1 9 r) p := by unfold NZ7; rw [← ht, ← hrr, ← hp]
  have bk := (gd.bka (m := 0) (by decide)).2 r rc.1.1 rc.1.2
  have gen : ∀ τ1 : MS, Fr [] [76, 77, 81, 82] [] τ τ1 → ∀ n, dpt (sA 79 t n τ1) 0 = dpt τ 0 ∧ (NZ7 (sA 79 t n τ1) ↔ ¬ ZZ (rV τ r) (τ.2.1 9 r) n) := fun τ1 f n => by
    have e : ∀ k : Nat, k ∈ [3, 4, 5, 6, 7, 8, 9, 16, 73, 78, 80] → (sA 79 t n τ1).2.1 k = τ.2.1 k := fun k hk => by
      rw [sA_k (by intro z; subst z; revert hk; decide)]
      exact f.2.1 k (by intro z; revert hk z; simp only [List.mem_cons, List.not_mem_nil, or_false]; omega)
    refine ⟨?_, ?_⟩
    · unfold dpt dch pr
      rw [e 73 (by decide), e 78 (by decide), e 80 (by decide), e 16 (by decide)]
    · have er : rV (sA 79 t n τ1) r = rV τ r := by
        unfold rV rI
        rw [e 9 (by decide), e 3 (by decide), e 4 (by decide), e 5 (by decide), e 6 (by decide), e 7 (by decide), e 8 (by decide)]
      unfold NZ7
      rw [e 73 (by decide), e 78 (by decide), ← ht, ← hrr, er, e 9 (by decide), show (sA 79 t n τ1).2.1 79 t = n from ra_eq]
  have F0 : ∀ {k : Nat} {i z : Int}, k ∈ [76, 77, 81, 82] → Fr [] [76, 77, 81, 82] [] τ (sA k i z τ) := fun hk => Fr.rfl.A hk
  rcases hs with hs | hs | hs | hs | hs | hs | hs | hs | hs | hs | hs
  · omega
  -- RETURN
  · rcases hs.2 with ⟨e1, -⟩ | ⟨e1, e2, e3⟩
    · omega
    refine Or.inr ⟨e1, Or.inr (Or.inr ?_)⟩
    rw [b0] at e3
    have rc2 := run_c hr (c := t - 1) (by omega) (by omega)
    have kk := hr.2.2.1 (t - 1) (by omega) (by omega)
    unfold kdm at kk
    rw [b0] at kk
    have fr : Fr [] [73, 79, 82] [] τ τ2 := by rw [e3]; exact ((Fr.rfl.A (by decide)).A (by decide)).A (by decide)
    have x73 : τ2.2.1 73 0 = τ.2.1 73 0 - 1 := by rw [e3, sA_k (by decide), sA_k (by decide)]; exact ra_eq
    have x78 : τ2.2.1 78 = τ.2.1 78 := fr.2.1 78 (by decide)
    have x80 : τ2.2.1 80 = τ.2.1 80 := fr.2.1 80 (by decide)
    have pop := dpt_pop fr (by decide) (by omega) x73 (fun c _ _ => ⟨by rw [x78], by rw [x80]⟩)
    have d1 := dp_1 (σ := τ) (m := 0) (r := τ.2.1 78 (τ.2.1 73 0 - 1)) (f := τ.2.1 80 (τ.2.1 73 0 - 1)) (by rw [← ht]; exact rc.2.2.1)
    refine ⟨by omega, ?_⟩
    unfold NZ7
    rw [x73, show τ.2.1 73 0 - 1 - 1 = t - 1 by omega, x78]
    have er : rV τ2 (τ.2.1 78 (t - 1)) = rV τ (τ.2.1 78 (t - 1)) := by
      unfold rV rI
      rw [fr.2.1 9 (by decide), fr.2.1 3 (by decide), fr.2.1 4 (by decide), fr.2.1 5 (by decide), fr.2.1 6 (by decide), fr.2.1 7 (by decide), fr.2.1 8 (by decide)]
    rw [er, fr.2.1 9 (by decide), show τ2.2.1 79 (t - 1) = τ.2.1 79 (t - 1) + 1 by rw [e3]; exact ra_eq]
    have kd2 : rV τ (τ.2.1 78 (t - 1)) (τ.2.1 79 (t - 1)) 0 = τ.2.1 3 (220 * τ.2.1 78 (t - 1) + τ.2.1 79 (t - 1)) := by rw [rv_in rc2.2.1.1 rc2.2.1.2]; rfl
    exact zz_nx (lnb_of (gd.2 _ rc2.1.1 rc2.1.2) (ez _ rc2.1.1 rc2.1.2)) rc2.2.1.1 (by rw [kd2]; omega) (by rw [kd2]; omega)
  -- pure
  · have g := gen _ (F0 (k := 82) (i := 192 * t + τ.2.1 4 (220 * r + p)) (z := wA τ t (220 * r + p) 0) (by decide)) (τ.2.1 79 t + 1)
    rw [hs.2.2]
    refine Or.inr ⟨hs.2.1, Or.inr (Or.inl ⟨g.1, fun z => g.2.mpr (fun y => (nz.mp z) ?_)⟩)⟩
    rw [← hp] at y
    exact zz_pure (by rw [kd]; omega) y
  · have g := gen _ (F0 (k := 82) (i := 192 * t + τ.2.1 4 (220 * r + p)) (z := wkd (τ.2.1 3 (220 * r + p)) (wA τ t (220 * r + p) 0) (wA τ t (220 * r + p) 1)) (by decide)) (τ.2.1 79 t + 1)
    rw [hs.2.2]
    refine Or.inr ⟨hs.2.1, Or.inr (Or.inl ⟨g.1, fun z => g.2.mpr (fun y => (nz.mp z) ?_)⟩)⟩
    rw [← hp] at y
    exact zz_pure (by rw [kd]; omega) y
  -- OUT
  · have g := gen (sA 76 0 (τ.2.1 76 0 + 1) (if τ.2.1 76 0 < 200 then sA 77 (200 * 0 + τ.2.1 76 0) (wA τ t (220 * r + p) 0) τ else τ)) (by split; exact (Fr.rfl.A (by decide)).A (by decide); exact Fr.rfl.A (by decide)) (τ.2.1 79 t + 1)
    rw [hs.2.2]
    refine Or.inr ⟨hs.2.1, Or.inr (Or.inl ⟨g.1, fun _ => g.2.mpr ?_⟩)⟩
    rw [← hp]
    exact zz_nx lb rc.2.1.1 (by rw [kd]; omega) (by rw [kd]; omega)
  -- jumps
  · obtain ⟨hk, h0, j, jt, e2⟩ := hs
    obtain ⟨j0, j13, -⟩ := jt
    rw [b0, ← hrr] at j0 j13
    have g := gen τ Fr.rfl j
    rw [e2]
    refine Or.inr ⟨h0, Or.inr (Or.inl ⟨g.1, fun _ => g.2.mpr (zz_lab ?_)⟩)⟩
    rw [rv_in j0.1 j0.2]; exact j13
  · have g := gen τ Fr.rfl (τ.2.1 79 t + 1)
    rw [hs.2.2]
    refine Or.inr ⟨hs.2.1, Or.inr (Or.inl ⟨g.1, fun _ => g.2.mpr ?_⟩)⟩
    rw [← hp]
    have hk := hs.1
    exact zz_nx lb rc.2.1.1 (by rw [kd]; omega) (by rw [kd]; omega)
  -- LINE
  · have g := gen _ (F0 (k := 81) (i := 12 * t + τ.2.1 5 (220 * r + p)) (z := τ.2.1 4 (220 * r + p)) (by decide)) (τ.2.1 79 t + 1)
    rw [hs.2.2]
    exact Or.inl ⟨hs.2.1, g.1⟩
  -- ENTER
  · refine Or.inr ⟨hs.2.1, Or.inl ⟨fun z => (nz.mp z) ⟨p, Int.le_refl _, rc.2.1.2, Or.inr (kd.trans hs.1), fun i a b => by omega⟩, ?_⟩⟩
    have kdd : kdm τ 0 r p = 14 := by unfold kdm; rw [b0]; exact hs.1
    have en := plc.enter kdd
    have ds : dsm τ 0 r p = τ.2.1 4 (220 * r + p) := by unfold dsm; rw [b0]
    rw [ds] at en
    have dps := dp_s bk en.1.rng
    rw [en.2.1] at dps
    have top := dpt_top (t := t) (τ2 := τ2) (ss := []) (ks := [79, 80, 81]) (js := []) (by rw [hs.2.2.2]; exact ((Fr.rfl.A (by decide)).A (by decide)).A (by decide)) (by decide) (by omega) ht (by rw [hs.2.2.2]; rfl) (fun _ _ _ => by rw [hs.2.2.2]; rfl) (fun c x0 x1 => by rw [hs.2.2.2, sA_k (by decide), sA_k (by decide)]; exact ra_ne (by omega) rfl)
    rw [← hrr, show τ2.2.1 80 t = τ.2.1 4 (220 * r + p) by rw [hs.2.2.2, sA_k (by decide), sA_k (by decide)]; exact ra_eq] at top
    have ge := hr.ge
    omega
  -- LEAVE
  · have kdd : kdm τ 0 r p = 15 := by unfold kdm; rw [b0]; exact hs.1
    have le := plc.leave kdd
    have ds : dsm τ 0 r p = τ.2.1 4 (220 * r + p) := by unfold dsm; rw [b0]
    rw [ds] at le
    have pm : prm τ 0 r (τ.2.1 80 t) = τ.2.1 16 (12 * r + τ.2.1 4 (220 * r + p)) := by rw [← le.2.1]; exact if_neg (by decide)
    have dps := dp_s bk plc.rng
    rw [pm] at dps
    have e3 := hs.2.2
    rw [← hrr] at e3
    have top := dpt_top (t := t) (τ2 := τ2) (ss := []) (ks := [79, 80]) (js := []) (by rw [e3]; exact (Fr.rfl.A (by decide)).A (by decide)) (by decide) (by omega) ht (by rw [e3]; rfl) (fun _ _ _ => by rw [e3]; rfl) (fun c x0 x1 => by rw [e3, sA_k (by decide)]; exact ra_ne (by omega) rfl)
    rw [← hrr, show τ2.2.1 80 t = τ.2.1 16 (12 * r + τ.2.1 4 (220 * r + p)) by rw [e3, sA_k (by decide)]; exact ra_eq] at top
    refine Or.inr ⟨hs.2.1, Or.inr (Or.inr ⟨by omega, ?_⟩)⟩
    have er : rV τ2 r = rV τ r ∧ τ2.2.1 9 r = τ.2.1 9 r := by
      rw [e3]
      exact ⟨(rv_sA (by decide)).1.trans (rv_sA (by decide)).1, (rv_sA (by decide)).2.trans (rv_sA (by decide)).2⟩
    unfold NZ7
    rw [show τ2.2.1 73 0 = τ.2.1 73 0 by rw [e3]; rfl, ← ht, show τ2.2.1 78 t = r by rw [e3]; exact hrr.symm, er.1, er.2, show τ2.2.1 79 t = p + 1 by rw [e3, hp]; exact ra_eq]
    exact zz_nx lb rc.2.1.1 (by rw [kd]; omega) (by rw [kd]; omega)
  -- CALL
  · refine Or.inr ⟨hs.2.1, Or.inl ⟨fun z => (nz.mp z) ⟨p, Int.le_refl _, rc.2.1.2, Or.inl (kd.trans hs.1), fun i a b => by omega⟩, ?_⟩⟩
    obtain ⟨τ1, ec, f2, -⟩ := hs.2.2.2
    obtain ⟨f1, c73, c8, -, c8o, -⟩ := ec
    rw [show 9 * 0 + τ.2.1 73 0 = τ.2.1 73 0 by omega] at c8 c8o
    have fr : Fr [] [73, 78, 79, 80, 81, 82] [] τ τ2 := f1.trans (Fr.sub f2 (by decide) (by decide) (by decide))
    have cq := plc.call bk (show kdm τ 0 r p = 10 by unfold kdm; rw [b0]; exact hs.1)
    have g78 : τ2.2.1 78 = τ1.2.1 78 := f2.2.1 78 (by decide)
    have g80 : τ2.2.1 80 = τ1.2.1 80 := f2.2.1 80 (by decide)
    have ps := dpt_push fr (by decide) (by omega) (by rw [f2.2.1 73 (by decide), c73]) (fun c a0 a1 => by rw [g78, g80]; exact ⟨(c8o c (by omega)).1, (c8o c (by omega)).2.2⟩)
    have d1 := dp_1 (σ := τ) (m := 0) (r := τ2.2.1 78 (τ.2.1 73 0)) (f := τ2.2.1 80 (τ.2.1 73 0)) (by rw [g80, c8.2.2]; decide)
    have ge := hr.ge
    omega
end GO7
end
section
def RGG (σ : MS) (a xa xb xc xd xe xf : Nat) (C : Int → Nat) (τ : MS) : Prop := σ.2.1 56 a = 1 ∧ RXC σ a xa xb xc xd xe C τ ∧ RPQ σ a xf τ ∧ σ.2.1 67 a = τ.1 70
def EI7 (w q e : Int) (τ : MS) : Prop := (e = 0 ∨ e = 1) ∧ (e = 0 → q ≤ dpt τ 0) ∧ (e = 1 → w = 2 → dpt τ 0 < q ∧ NZ7 τ)
def GDX (τ : MS) : Prop := GDA τ ∧ PAR τ ∧ UNA τ ∧ EZA τ
abbrev GWK : List Nat := [73, 75, 76, 77, 78, 79, 80, 81, 82]
theorem GDX.fr {τ τ2 : MS} (h : GDX τ) (f : Fr [68, 69, 70] GWK [] τ τ2) : GDX τ2 := by
  have e : ∀ q, rV τ2 q = rV τ q := fun q => by
    unfold rV rI
    rw [f.2.1 9 (by decide), f.2.1 3 (by decide), f.2.1 4 (by decide), f.2.1 5 (by decide), f.2.1 6 (by decide), f.2.1 7 (by decide), f.2.1 8 (by decide)]
  refine ⟨h.1.fr f (by decide) (by decide), h.2.1.fr f (by decide), fun q a b => ?_, fun q a b => ?_⟩
  · rw [f.1 10 (by decide)] at b; rw [e, f.2.1 9 (by decide)]; exact h.2.2.1 q a b
  · rw [f.1 10 (by decide)] at b; rw [e, f.2.1 9 (by decide)]; exact h.2.2.2 q a b
section LOCK7
variable {T : CT} {a xa xb xc xd xe xf y : Nat} {C : Int → Nat} {w q e u v : Int}
theorem stq_s {τ τ2 : MS} (hs : STQ τ 0 u τ2) : τ2.1 = τ.1 := by
  have h := hs
  unfold STQ STX at h
  rcases h with h | h | h | h | h | h | h | h | h | h | h
  · rw [h.2.2.2]
  · rcases h.2 with ⟨-, -, e⟩ | ⟨-, -, e⟩ <;> rw [e] <;> rfl
  · rw [h.2.2]; rfl
  · rw [h.2.2]; rfl
  · rw [h.2.2]; split <;> rfl
  · obtain ⟨-, -, j, -, e⟩ := h
    rw [e]; rfl
  · rw [h.2.2]; rfl
  · rw [h.2.2]; rfl
  · rw [h.2.2.2]; rfl
  · rw [h.2.2]; rfl
  · obtain ⟨-, -, -, τ1, ec, f2, -⟩ := h
    funext k
    exact (f2.1 k (by simp)).trans (ec.1.1 k (by simp))
theorem stq_x {τ τ2 : MS} (hs : STQ τ 0 u τ2) : STX τ 0 (τ.2.1 73 0 - 1) (220 * τ.2.1 78 (τ.2.1 73 0 - 1) + τ.2.1 79 (τ.2.1 73 0 - 1)) u τ2 := by
  unfold STQ at hs
  rw [b0, show 9 * 0 + τ.2.1 73 0 - 1 = τ.2.1 73 0 - 1 by omega] at hs
  exact hs
theorem step7 {σ σ2 τ τ2 : MS} (rel : RGG σ a xa xb xc xd xe xf C τ) (hw : RWF T σ a xa xb xc xd xe xf y C τ) (gx : GDX τ) (hr : RUN τ 0) (bp : 0 ≤ τ.2.1 76 0 ∧ τ.2.1 76 0 ≤ 1000000000) (bg : 0 ≤ τ.1 70 ∧ τ.1 70 ≤ 1500000000) (hj : JST T σ a xa xb xc xd xe xf y v σ2) (hs : STQ τ 0 u τ2) : SIO σ a xa xb xc xd xe xf C σ2 τ τ2 u v :=
  sim rel.2.1 rel.2.2.1 hw gx.1 gx.2.1 hr gx.2.2.1 rel.1 (by have := rel.2.2.2; omega) bp hj hs
theorem RGG.nx {σ σ2 τ τ2 : MS} (rel : RGG σ a xa xb xc xd xe xf C τ) (h : SIO σ a xa xb xc xd xe xf C σ2 τ τ2 u v) (hu : u = 0 ∨ u = 1) : v = u ∧ RGG σ2 a xa xb xc xd xe xf C (sS 70 (τ.1 70 + 1) τ2) := by
  rcases h with h | h | ⟨-, h2, h3, h4, h5⟩
  · have := h.1; omega
  · have := h.1; omega
  · exact ⟨h2, h3.1, h4.tc ⟨rfl, rfl, rfl, rfl, rfl, rfl, rfl⟩, h5.cg ⟨rfl, rfl, rfl⟩ ⟨rfl, rfl, rfl⟩, by rw [h3.2, rel.2.2.2]; exact rs_eq.symm⟩
theorem EI7.nx {τ τ2 : MS} {e2 : Int} (h : EI7 w q e τ) (gx : GDX τ) (hr : RUN τ 0) (hs : STQ τ 0 u τ2) (hu : u = 0 ∨ u = 1) (he : (e2 = 0 ∨ e2 = 1) ∧ (e2 = 1 ↔ e = 1 ∨ dpt (sS 70 (τ.1 70 + 1) τ2) 0 < q)) (hn : ¬ gST w q u (dpt (sS 70 (τ.1 70 + 1) τ2) 0) e2) : EI7 w q e2 (sS 70 (τ.1 70 + 1) τ2) := by
  have dp := dps_of gx.1 gx.2.2.2 hr rfl rfl rfl (stq_x hs) hu
  have ed : dpt (sS 70 (τ.1 70 + 1) τ2) 0 = dpt τ2 0 := rfl
  rw [ed] at he hn
  obtain ⟨h1, h2, h3⟩ := h
  refine ⟨he.1, fun z => ?_, fun z hw => ?_⟩
  · rw [ed]
    have : ¬ (e = 1 ∨ dpt τ2 0 < q) := fun y => by have := he.2.mpr y; omega
    omega
  · rw [ed]
    show dpt τ2 0 < q ∧ NZ7 τ2
    unfold gST at hn
    have y := he.2.mp z
    rcases dp with ⟨u1, -⟩ | ⟨u0, dp⟩
    · exact absurd ⟨u1, Or.inr (Or.inr ⟨hw, z⟩)⟩ hn
    · by_cases x : e = 1
      · have k := h3 x hw
        rcases dp with ⟨d1, -⟩ | ⟨d1, d2⟩ | ⟨d1, d2⟩
        · exact absurd k.2 d1
        · exact ⟨by omega, d2 k.2⟩
        · exact ⟨by omega, d2⟩
      · have x0 := h2 (by omega)
        have y2 : dpt τ2 0 < q := y.resolve_left x
        rcases dp with ⟨d1, d2⟩ | ⟨d1, d2⟩ | ⟨d1, d2⟩
        · omega
        · omega
        · exact ⟨y2, d2⟩
theorem stop7 {τ τ2 : MS} {e2 d : Int} (h : EI7 w q e τ) (gx : GDX τ) (hr : RUN τ 0) (hs : STQ τ 0 1 τ2) (hw : 0 ≤ w ∧ w ≤ 2) (hd : d = dpt τ2 0) (he : (e2 = 0 ∨ e2 = 1) ∧ (e2 = 1 ↔ e = 1 ∨ dpt τ2 0 < q)) : gST w q 1 (dpt τ2 0) e2 ↔ cST w q d := by
  have dp := dps_of gx.1 gx.2.2.2 hr rfl rfl rfl (stq_x hs) (Or.inr rfl)
  have de : dpt τ2 0 = dpt τ 0 := by
    rcases dp with ⟨-, z⟩ | ⟨z, -⟩
    · exact z
    · omega
  unfold gST cST
  rw [hd]
  obtain ⟨h1, h2, h3⟩ := h
  constructor
  · rintro ⟨-, z | z | ⟨z1, z2⟩⟩
    · exact Or.inl z
    · exact Or.inr (Or.inl z)
    · refine Or.inr (Or.inr ⟨by omega, by omega, ?_⟩)
      rcases he.2.mp z2 with y | y
      · have := h3 y z1; omega
      · exact y
  · rintro (z | z | ⟨z1, z2, z3⟩)
    · exact ⟨rfl, Or.inl z⟩
    · exact ⟨rfl, Or.inr (Or.inl z)⟩
    · exact ⟨rfl, Or.inr (Or.inr ⟨by omega, he.2.mpr (Or.inr z3)⟩)⟩
theorem lock7 {σ σm τ τm : MS} {m : Nat} (rel : RGG σ a xa xb xc xd xe xf C τ) (hw : RWF T σ a xa xb xc xd xe xf y C τ) (gx : GDX τ) (hq : q = dpt τ 0) (hc : JCN T a xa xb xc xd xe xf y w q m σ σm) (hr : RCH w q m τ e τm) : RGG σm a xa xb xc xd xe xf C τm ∧ EI7 w q e τm := by
  induction m generalizing σm τm e with
  | zero =>
    rw [show σm = σ from hc, hr.1]
    refine ⟨rel, Or.inl hr.2, fun _ => by omega, fun z => ?_⟩
    have := hr.2
    omega
  | succ m ih =>
    obtain ⟨σ1, v, c1, c2, c3, c4, c5⟩ := hc
    obtain ⟨e1, τ1, u, τ2, r1, r2, r3, r4, r5, r6, r7⟩ := hr
    obtain ⟨i1, i2⟩ := ih c1 r1
    have w1 := (hw.chx c2).tau r2.2.1 (by decide) (by decide)
    have gx1 := gx.fr r2.2.1
    have s := step7 i1 w1 gx1 r2.1 r2.2.2.1 r2.2.2.2 c4 r3
    have n := i1.nx s r4
    rw [r5] at r6 r7 ⊢
    exact ⟨n.2, i2.nx gx1 r2.1 r3 r4 r6 r7⟩
theorem JCN.cut {σ σm : MS} {m n : Nat} (h : JCN T a xa xb xc xd xe xf y w q m σ σm) (hn : n < m) : ∃ σn σ1 v, JCN T a xa xb xc xd xe xf y w q n σ σn ∧ CHX (RNL a) [xa, xb, xc, xd, xe, xf] [] σ σn ∧ σn.2.1 56 a = 1 ∧ JST T σn a xa xb xc xd xe xf y v σ1 ∧ ¬ (σ1.2.1 56 a = 1 ∧ v = 1 ∧ cST w q (σ1.2.1 58 a)) ∧ (m = n + 1 → σm = σ1) ∧ (n + 1 < m → σ1.2.1 56 a = 1) := by
  induction m generalizing σm with
  | zero => omega
  | succ m ih =>
    obtain ⟨σ1, v, c1, c2, c3, c4, c5⟩ := h
    by_cases z : n = m
    · subst z
      exact ⟨σ1, σm, v, c1, c2, c3, c4, c5, fun _ => rfl, fun y => by omega⟩
    · obtain ⟨σn, σ2, v2, d1, d2, d3, d4, d5, d6, d7⟩ := ih c1 (by omega)
      refine ⟨σn, σ2, v2, d1, d2, d3, d4, d5, fun y => by omega, fun _ => ?_⟩
      by_cases x : m = n + 1
      · rw [← d6 x]; exact c3
      · exact d7 (by omega)
theorem RCH.cut {τ τm : MS} {m n : Nat} (h : RCH w q m τ e τm) (hn : n < m) : ∃ e1 e2 τn u τ2, RCH w q n τ e1 τn ∧ GWY τ τn ∧ STQ τn 0 u τ2 ∧ (u = 0 ∨ u = 1) ∧ ((e2 = 0 ∨ e2 = 1) ∧ (e2 = 1 ↔ e1 = 1 ∨ dpt τ2 0 < q)) ∧ ¬ gST w q u (dpt τ2 0) e2 := by
  induction m generalizing τm e with
  | zero => omega
  | succ m ih =>
    obtain ⟨e1, τ1, u, τ2, r1, r2, r3, r4, r5, r6, r7⟩ := h
    by_cases z : n = m
    · subst z
      rw [r5] at r6 r7
      exact ⟨e1, e, τ1, u, τ2, r1, r2, r3, r4, r6, r7⟩
    · exact ih r1 (by omega)
def L7R (σ : MS) (a xa xb xc xd xe xf : Nat) (C : Int → Nat) (τ : MS) : Prop :=
  (σ.2.1 56 a = 0 ∧ τ.1 67 = 0) ∨ (τ.1 67 ≠ 0 ∧ RPQ σ a xf τ ∧ σ.2.1 67 a = τ.1 70 ∧ ((σ.2.1 56 a = 1 ∧ τ.1 68 = 0 ∧ τ.1 69 = 0 ∧ RXC σ a xa xb xc xd xe C τ) ∨ (σ.2.1 56 a = 3 ∧ τ.1 68 = 0 ∧ τ.1 69 ≠ 0 ∧ RXC σ a xa xb xc xd xe C τ) ∨ (σ.2.1 56 a = 2 ∧ τ.1 68 ≠ 0 ∧ τ.1 69 = 0 ∧ σ.2.1 58 a = 0)))
theorem go7 {σ σ2 τ τ2 : MS} {n v2 : Int} (rel : RGG σ a xa xb xc xd xe xf C τ) (hw : RWF T σ a xa xb xc xd xe xf y C τ) (gx : GDX τ) (st : τ.1 67 ≠ 0 ∧ τ.1 68 = 0 ∧ τ.1 69 = 0) (w0 : 0 ≤ w ∧ w ≤ 2) (n0 : 1 ≤ n) (hj : JAD T σ a xa xb xc xd xe xf y w n v σ2) (hs : GOE w (dpt τ 0) n τ v2 τ2) : v = v2 ∧ L7R σ2 a xa xb xc xd xe xf C τ2 := by
  have h58 := rel.2.1.2.1
  obtain ⟨t1, σt, c1, cx, cf⟩ := hj
  rw [h58] at c1 cf
  obtain ⟨t2, e, τt, r1, rg, rf⟩ := hs
  have tf : ∀ {x : MS}, Fr [68, 69, 70] GWK [] τ x → x.1 67 = τ.1 67 := fun f => f.1 67 (by decide)
  have goi : ∀ {s x : MS}, RGG s a xa xb xc xd xe xf C x → x.1 67 ≠ 0 → x.1 68 = 0 → x.1 69 = 0 → L7R s a xa xb xc xd xe xf C x := fun g h1 h2 h3 => Or.inr ⟨h1, g.2.2.1, g.2.2.2, Or.inl ⟨g.1, h2, h3, g.2.1⟩⟩
  -- 68 and 69 stay along the way
  have way : ∀ (m : Nat) (e : Int) (x : MS), RCH w (dpt τ 0) m τ e x → x.1 68 = 0 ∧ x.1 69 = 0 ∧ x.1 67 ≠ 0 := fun m => by
    induction m with
    | zero => intro e x h; rw [h.1]; exact ⟨st.2.1, st.2.2, st.1⟩
    | succ m ih =>
      intro e x h
      obtain ⟨e1, x1, u, x2, q1, -, q3, -, q5, -⟩ := h
      have i := ih e1 x1 q1
      have k := stq_s q3
      rw [q5]
      refine ⟨?_, ?_, ?_⟩
      · rw [rs_o (by decide) rfl, k]; exact i.1
      · rw [rs_o (by decide) rfl, k]; exact i.2.1
      · rw [rs_o (by decide) rfl, k]; exact i.2.2
  by_cases lt : t1 < t2
  · -- the reference goes on
    exfalso
    obtain ⟨e1, e2, τn, u, τ3, q1, q2, q3, q4, q5, q6⟩ := r1.cut lt
    obtain ⟨i1, i2⟩ := lock7 rel hw gx rfl c1 q1
    have tn : (t2 : Int) ≤ n := by rcases rf with ⟨z, -⟩ | ⟨z, -⟩ <;> omega
    rcases cf with ⟨-, f2, -, u2, f4, f5, f6, f7⟩ | ⟨f1, -⟩
    · have w1 := (hw.chx cx).tau q2.2.1 (by decide) (by decide)
      have gx1 := gx.fr q2.2.1
      have s := step7 i1 w1 gx1 q2.1 q2.2.2.1 q2.2.2.2 f4 q3
      have n2 := i1.nx s q4
      have u1 : u = 1 := by omega
      rw [u1] at q3 q6
      have d2 := n2.2.2.1.2.1
      exact q6 ((stop7 i2 gx1 q2.1 q3 w0 (show σ2.2.1 58 a = dpt τ3 0 from d2) q5).mpr f7)
    · exact f1 ⟨by omega, i1.1⟩
  · by_cases gt : t2 < t1
    · -- the class goes on
      obtain ⟨σn, σ1, vv, d1, d2, d3, d4, d5, d6, d7⟩ := c1.cut gt
      obtain ⟨i1, i2⟩ := lock7 rel hw gx rfl d1 r1
      have w1 := (hw.chx d2).tau rg.2.1 (by decide) (by decide)
      have gx1 := gx.fr rg.2.1
      have wy := way t2 e τt r1
      have t1n : (t1 : Int) ≤ n := by
        rcases cf with ⟨f1, -⟩ | ⟨-, f2, -⟩
        · omega
        · rcases f2 with z | z <;> omega
      rcases rf with ⟨z, -⟩ | ⟨z, k, τ3, q3, qf⟩
      · omega
      · have s := step7 i1 w1 gx1 rg.1 rg.2.2.1 rg.2.2.2 d4 q3
        rcases qf with ⟨k1, k2, k3⟩ | ⟨k1, k2, k3⟩ | ⟨k1, k2, e2, k3, k4⟩
        · -- fails
          rcases s with ⟨-, -, s3, s4⟩ | s | s
          · have o56 : σ1.2.1 56 a = 3 := by rw [s4]; exact ra_eq
            have et : t1 = t2 + 1 := by
              by_cases y : t2 + 1 < t1
              · have := d7 y; omega
              · omega
            have eσ := d6 et
            rw [← eσ] at o56
            rcases cf with ⟨-, f2, -⟩ | ⟨-, -, f3, f4⟩
            · omega
            · refine ⟨by omega, ?_⟩
              rw [f3, eσ, s4, k3, s3]
              refine Or.inr ⟨?_, i1.2.2.1.cg ⟨by rw [sA_k (by decide)], by rw [sA_k (by decide)], sA_k (by omega)⟩ ⟨rfl, rfl, rfl⟩, ?_, Or.inr (Or.inl ⟨ra_eq, ?_, ?_, (i1.2.1.fld (by decide)).tc ⟨rfl, rfl, rfl, rfl, rfl, rfl, rfl⟩⟩)⟩
              · rw [rs_o (by decide) rfl]; exact wy.2.2
              · rw [sA_k (by decide), rs_o (by decide) rfl]; exact i1.2.2.2
              · rw [rs_o (by decide) rfl]; exact wy.1
              · rw [rs_eq]; decide
          · have := s.1; omega
          · have := s.1; omega
        · -- over
          rcases s with s | ⟨-, -, s3, s4⟩ | s
          · have := s.1; omega
          · have et : t1 = t2 + 1 := by
              by_cases y : t2 + 1 < t1
              · have := d7 y; omega
              · omega
            have eσ := d6 et
            rw [← eσ] at s3 s4
            rcases cf with ⟨-, f2, -⟩ | ⟨-, -, f3, f4⟩
            · omega
            · have kq := stq_s q3
              refine ⟨by omega, ?_⟩
              rw [f3, k3]
              refine Or.inr ⟨?_, s4.cg ⟨rfl, rfl, rfl⟩ ⟨rfl, rfl, rfl⟩, ?_, Or.inr (Or.inr ⟨s3.1, ?_, ?_, s3.2.1⟩)⟩
              · rw [rs_o (by decide) (rs_o (by decide) rfl), kq]; exact wy.2.2
              · rw [s3.2.2, rs_o (by decide) rfl, rs_eq]
                have := i1.2.2.2
                rw [this]
              · rw [rs_eq]; decide
              · rw [rs_o (by decide) (rs_o (by decide) rfl), kq]; exact wy.2.1
          · have := s.1; omega
        · -- a LINE at which it stops: so does the class
          exfalso
          have kk : k = 1 := k4.1
          subst kk
          have n2 := i1.nx s (Or.inr rfl)
          rw [k2] at k3 k4
          have sp := (stop7 i2 gx1 rg.1 q3 w0 (show σ1.2.1 58 a = dpt τ3 0 from n2.2.2.1.2.1) k3).mp k4
          exact d5 ⟨n2.2.1, n2.1, sp⟩
    · -- in step to the end
      have et : t1 = t2 := by omega
      subst et
      obtain ⟨i1, i2⟩ := lock7 rel hw gx rfl c1 r1
      have wy := way t1 e τt r1
      rcases cf with ⟨f1, -, f3, u2, f4, f5, f6, f7⟩ | ⟨f1, f2, f3, f4⟩
      · rcases rf with ⟨z, -⟩ | ⟨-, k, τ3, q3, qf⟩
        · omega
        · have w1 := (hw.chx cx).tau rg.2.1 (by decide) (by decide)
          have gx1 := gx.fr rg.2.1
          have s := step7 i1 w1 gx1 rg.1 rg.2.2.1 rg.2.2.2 f4 q3
          have k1 : k = 1 := by
            rcases s with ⟨-, s2, -, s4⟩ | ⟨-, s2, -⟩ | ⟨-, s2, -⟩
            · omega
            · omega
            · omega
          subst k1
          have n2 := i1.nx s (Or.inr rfl)
          rcases qf with ⟨k1, -⟩ | ⟨k1, -⟩ | ⟨k1, k2, -⟩
          · omega
          · omega
          · rw [k2]
            have kq := stq_s q3
            refine ⟨by omega, goi n2.2 ?_ ?_ ?_⟩
            · rw [rs_o (by decide) rfl, kq]; exact wy.2.2
            · rw [rs_o (by decide) rfl, kq]; exact wy.1
            · rw [rs_o (by decide) rfl, kq]; exact wy.2.1
      · have h56 := i1.1
        rcases rf with ⟨z, k1, k2⟩ | ⟨z, -⟩
        · rw [f3, k2]
          exact ⟨by omega, goi i1 wy.2.2 wy.1 wy.2.1⟩
        · exact absurd ⟨z, h56⟩ f1
end LOCK7
end
section
section START7
variable {T : CT} {σ σ2 τ τ2 : MS} {a xa xb xc xd xe xf y : Nat} {C : Int → Nat} {x v v2 w i u0 u1 u2 u3 : Int}
theorem start7 (hw : RWF T σ a xa xb xc xd xe xf y C τ) (gx : GDX τ) (hb : JBG T σ a xa xb xc xd xe y x u0 u1 u2 u3 σ2) (fr : Fr [0, 67, 68, 69, 70] [73, 74, 75, 76, 78, 79, 80, 81, 82] [] τ τ2) (hs : STS τ x u0 u1 u2 u3 1 τ2) : L7R σ2 a xa xb xc xd xe xf C τ2 := by
  rcases hs with ⟨h, -⟩ | ⟨-, x0, ⟨t67, t68, t69, t70⟩, ⟨t73, ⟨t78, t79, t80⟩, t76⟩, ⟨m82, m81, m75, -⟩⟩
  · omega
  obtain ⟨s0, oc, pw⟩ := hb
  have t6 := gx.1.1
  obtain ⟨s, es⟩ : ∃ s, s = sA 68 a 0 (sA 67 a 0 (sA 66 a 0 (sA 65 a 0 (sA 58 a 0 (sA 56 a 1 σ))))) := ⟨_, rfl⟩
  rw [← es] at oc
  have chs : CHX (RNL a) [xa, xb, xc, xd, xe, xf] [] σ s := by
    rw [es]
    exact (((((CHX.rfl.fld (by simp) (by decide)).fld (by simp) (by decide)).fld (by simp) (by decide)).fld (by simp) (by decide)).fld (by simp) (by decide)).fld (by simp) (by decide)
  have s58 : s.2.1 58 a = 0 := by rw [es, sA_k (by decide), sA_k (by decide), sA_k (by decide), sA_k (by decide)]; exact ra_eq
  have s56 : s.2.1 56 a = 1 := by rw [es, sA_k (by decide), sA_k (by decide), sA_k (by decide), sA_k (by decide), sA_k (by decide)]; exact ra_eq
  have s65 : s.2.1 65 a = 0 := by rw [es, sA_k (by decide), sA_k (by decide), sA_k (by decide)]; exact ra_eq
  have s67 : s.2.1 67 a = 0 := by rw [es, sA_k (by decide)]; exact ra_eq
  have s68 : s.2.1 68 a = 0 := by rw [es]; exact ra_eq
  have hws := hw.chx chs
  have on := JOC.of hws (by omega) (by decide) (by omega) oc
  have ks : CHX (RNL a) [xa, xb, xc, xd, xe, xf] [] s s0 := CHX.sub on.2.2.2.2.2.2 (by simp) (by simp) (by simp)
  have gq := gx.1.2 x x0.1 x0.2
  have pq := gx.2.1 x x0.1 (by omega)
  have pc := JPW.of (hws.chx ks) gq x0 (by decide) on.1.1 on.1.2.2 rfl pq pw
  have fl : ∀ f : Nat, f < 1000 → f ≠ 57 → f ≠ 58 → f ≠ 69 → σ2.2.1 f (a : Int) = s.2.1 f a := fun f f0 f1 f2 f3 => by
    rw [pc.2.1 f a f0 (fun z hz => by simp at hz)]
    exact on.2.2.2.2.2.2.1 f a f0 (fun z hz e => by
      simp only [List.mem_cons, List.not_mem_nil, or_false] at hz
      rcases hz with z | z | z <;> rw [z] at e <;> omega)
  have d16 : prm τ 0 x 0 = -1 := by
    show (if (0 : Int) = 2 then -1 else τ.2.1 16 (12 * x + 0)) = -1
    rw [if_neg (by decide)]
    exact gq.2.2.2.2.2.2.1.1
  have hd : dpt τ2 0 = 1 := by
    rw [dpt_dsum, t73]
    show 0 + dp τ2 0 (τ2.2.1 78 (9 * 0 + ((0 : Nat) : Int))) (τ2.2.1 80 (9 * 0 + ((0 : Nat) : Int))) = 1
    rw [show (9 : Int) * 0 + ((0 : Nat) : Int) = 0 by decide, t78, t80, dp_fr fr (by decide), dp_0 ((gx.1.bka (by decide)).2 x x0.1 x0.2)]
    rfl
  have fr0 : Fr [0, 67, 68, 69, 70] [73, 74, 75, 76, 78, 79, 80, 81, 82] [] (sA 73 0 0 τ) τ2 := ⟨fun k h => fr.1 k h, fun k h => by rw [fr.2.1 k h, sA_k (by intro z; subst z; exact h (by decide))], fun k h => fr.2.2 k h⟩
  have rx : RXC σ2 a xa xb xc xd xe C τ2 := by
    unfold DX at *
    refine RXC.push' (τ := sA 73 0 0 τ) (N := 0) ra_eq.symm (by decide) (fun c c0 c1 => by omega) on pc.2 hw.1 (by
        funext u f
        unfold prm
        rw [fr.2.1 16 (by decide), sA_k (by decide)]) (by rw [t73]; rfl) ⟨t78, t79, t80⟩ (fun c c0 c1 => by omega) ⟨fun j j0 j1 => by omega, by have z := m81 0 (by decide) (by decide); exact z⟩ (fun j j0 j1 => by omega) (fun j j0 j1 => by omega) (fun g g0 g1 => ?_) (by
        show (if (0 : Int) = 2 then -1 else (sA 73 0 0 τ).2.1 16 (12 * x + 0)) = -1
        rw [sA_k (by decide)]
        exact d16) (by rw [s58, hd]; rfl)
    rw [pc.1 _, if_pos (by omega), show (192 : Int) * 0 + g = 192 * (9 * 0) + g by omega, m82 g g0 g1, show (0 : Int) * 192 + g - 0 * 192 = g by omega]
    refine pwR_c (fun i i0 i1 => ⟨?_, rfl⟩) ?_
    · show τ.2.1 18 (144 * x + i) = hmP τ 0 x i
      unfold hmP
      rw [if_neg (by decide)]
    · show s0.2.1 (1000 + xe) (0 * 192 + g) = 0
      rw [on.2.2.2.2.2.1 _, if_pos (by omega)]
  refine Or.inr ⟨by omega, ⟨by rw [fl 65 (by decide) (by decide) (by decide) (by decide), s65, t76], fun i i0 i1 i2 => by omega, by rw [fl 68 (by decide) (by decide) (by decide) (by decide), s68, m75]⟩, by rw [fl 67 (by decide) (by decide) (by decide) (by decide), s67, t70], Or.inl ⟨by rw [fl 56 (by decide) (by decide) (by decide) (by decide)]; exact s56, t68, t69, rx⟩⟩
theorem run7 (h : L7R σ a xa xb xc xd xe xf C τ) (lb : (T xb).2 = 9) (hc : RNB T σ a xb w v) (hm : RNA τ w v2) : v = v2 := by
  rcases h with ⟨h1, h2⟩ | ⟨h1, hq, hg, h⟩
  · rcases hc with c | c
    · rcases hm with m | m
      · omega
      · have := m.1; omega
    · have := c.1; omega
  · have q1 := hq.1
    have q3 := hq.2.2
    have hm := (hm.resolve_left (fun m => h1 m.1)).2
    have hs : σ.2.1 56 a ≠ 0 := by rcases h with h | h | h <;> (have := h.1; omega)
    have hc := (hc.resolve_left (fun c => hs c.1)).2
    have pl : σ.2.1 56 a ≠ 2 → σ.2.1 58 a = dpt τ 0 ∧ jA T xb (σ.2.1 57 a) σ = τ.2.1 79 (τ.2.1 73 0 - 1) ∧ τ.1 68 = 0 := fun z => by
      have k : τ.1 68 = 0 ∧ RXC σ a xa xb xc xd xe C τ := by
        rcases h with h | h | h
        · exact ⟨h.2.1, h.2.2.2⟩
        · exact ⟨h.2.1, h.2.2.2⟩
        · exact absurd h.1 z
      have h73 := k.2.1.1
      have h57 := k.2.1.2
      refine ⟨k.2.2.1, ?_, k.1⟩
      rw [h57, jA_in (by omega)]
      exact (k.2.2.2.2 _ (by omega) (by omega)).1.2.1
    have ov : σ.2.1 56 a = 2 → τ.1 68 ≠ 0 ∧ σ.2.1 58 a = 0 := fun z => by
      rcases h with h | h | h
      · have := h.1; omega
      · have := h.1; omega
      · exact ⟨h.2.1, h.2.2.2⟩
    have fa : σ.2.1 56 a = 3 ↔ τ.1 69 ≠ 0 := by
      rcases h with h | h | h
      · have := h.1; have := h.2.2.1; omega
      · have := h.1; have := h.2.2.1; omega
      · have := h.1; have := h.2.2.1; omega
    by_cases e2 : σ.2.1 56 a = 2
    · have k := ov e2
      rcases hc with c | c | c | c | c | c | c | c | c <;> rcases hm with m | m | m | m | m | m | m | m | m | m <;> omega
    · have k := pl e2
      rcases hc with c | c | c | c | c | c | c | c | c <;> rcases hm with m | m | m | m | m | m | m | m | m | m <;> omega
theorem prin7 (h : L7R σ a xa xb xc xd xe xf C τ) (lf : (T xf).2 = 200) (hc : PRB T σ a xf i v) (hm : PRA τ i v2) : v = v2 := by
  rcases h with ⟨h1, h2⟩ | ⟨h1, hq, hg, h⟩
  · rcases hc with c | c
    · have := c.1.1; omega
    · rcases hm with m | m
      · have := m.1.1; omega
      · omega
  · have hs : σ.2.1 56 a ≠ 0 := by rcases h with h | h | h <;> (have := h.1; omega)
    have q1 := hq.1
    rcases hm with ⟨m1, m2⟩ | ⟨m1, m2⟩
    · rcases hc with ⟨c1, c2⟩ | ⟨c1, c2⟩
      · rw [c2, m2, jA_in (by omega)]
        exact hq.2.1 i m1.2.1 m1.2.2.1 m1.2.2.2
      · exact absurd ⟨hs, m1.2.1, by omega⟩ c1
    · rcases hc with ⟨c1, c2⟩ | ⟨c1, c2⟩
      · have n2 : ¬ i < 200 := fun z => m1 ⟨h1, c1.2.1, z, by omega⟩
        rw [c2, m2]
        unfold jA
        rw [if_neg (by omega)]
      · omega
end START7
end
section
theorem jA_cg {T : CT} {x : Nat} {i : Int} {σ σ2 : MS} (h : σ2.2.1 (1000 + x) = σ.2.1 (1000 + x)) : jA T x i σ2 = jA T x i σ := by unfold jA; rw [h]
def jU (P : Int → Int) : Nat → Int → Int
  | 0, f => f
  | n + 1, f => jU P n (P f)
theorem jU_s {P : Int → Int} {n i f V : Int} (h : jU P (n - i).toNat f = V) (hi : i < n) : jU P (n - (i + 1)).toNat (P f) = V := by
  rw [show (n - i).toNat = (n - (i + 1)).toNat + 1 by omega] at h
  exact h
theorem jU_e {P : Int → Int} {n i f V : Int} (h : jU P (n - i).toNat f = V) (hi : n ≤ i) : f = V := by
  rw [show (n - i).toNat = 0 by omega] at h
  exact h
def jFD (n : Int → Int) : Nat → Int → Int → Int × Int
  | 0, _, l => (-1, l)
  | t + 1, c, l => if c < 0 then (-1, l) else if l < n c then (c, l) else jFD n t (c - 1) (l - n c)
def JCB (T : CT) (σ : MS) (a xa y : Nat) (p v : Int) : Prop := (jC σ y (jA T xa (σ.2.1 70 a) σ) < 0 ∧ v = σ.2.1 71 a) ∨ ∃ c : Nat, jC σ y (jA T xa (σ.2.1 70 a) σ) = (c : Int) ∧ v = jU (fun f => jA T (adN σ 12 c) f σ) p.toNat (σ.2.1 71 a)
def JFN (T : CT) (σ : MS) (a xa xc y : Nat) (k v : Int) (σ2 : MS) : Prop :=
  (v = 0 ∧ ((k < 0 ∨ σ.2.1 58 a ≤ k ∨ (σ.2.1 56 a ≠ 1 ∧ σ.2.1 56 a ≠ 3)) ∨ (jFD (jCV T σ xa xc y) (σ.2.1 57 a + 1).toNat (σ.2.1 57 a) k).1 < 0 ∨ jC σ y (jA T xa (jFD (jCV T σ xa xc y) (σ.2.1 57 a + 1).toNat (σ.2.1 57 a) k).1 σ) < 0)) ∨
  (v = 1 ∧ (0 ≤ k ∧ k < σ.2.1 58 a) ∧ (σ.2.1 56 a = 1 ∨ σ.2.1 56 a = 3) ∧ ∃ (c l : Int) (cc : Nat), jFD (jCV T σ xa xc y) (σ.2.1 57 a + 1).toNat (σ.2.1 57 a) k = (c, l) ∧ 0 ≤ c ∧ σ2.2.1 70 a = c ∧ jC σ y (jA T xa c σ) = (cc : Int) ∧ σ2.2.1 71 a = jU (fun f => jA T (adN σ 12 cc) f σ) l.toNat (jA T xc c σ))
theorem jL_rng {P : Int → Int} : ∀ (t : Nat) (f n : Int), 1 ≤ n → n ≤ 13 → 1 ≤ jL P t f n ∧ jL P t f n ≤ 13 := by
  intro t
  induction t with
  | zero => intro f n a b; exact ⟨a, b⟩
  | succ t ih =>
    intro f n a b
    show 1 ≤ (if 0 < f ∧ n ≤ 12 then jL P t (P f) (n + 1) else n) ∧ (if 0 < f ∧ n ≤ 12 then jL P t (P f) (n + 1) else n) ≤ 13
    by_cases z : 0 < f ∧ n ≤ 12
    · rw [if_pos z]; exact ih _ _ (by omega) (by omega)
    · rw [if_neg z]; exact ⟨a, b⟩
theorem jCV_rng {T : CT} {σ : MS} {xa xc y : Nat} {c : Int} : 1 ≤ jCV T σ xa xc y c ∧ jCV T σ xa xc y c ≤ 13 := by
  unfold jCV
  split
  · exact ⟨by decide, by decide⟩
  · exact jL_rng _ _ _ (by decide) (by decide)
theorem jFD_s {n : Int → Int} {c l m : Int} {V : Int × Int} (h : jFD n (c + 1).toNat c l = V) (c0 : 0 ≤ c) (hm : m = n c) (hl : m ≤ l) : jFD n (c - 1 + 1).toNat (c - 1) (l - m) = V := by
  rw [show (c + 1).toNat = (c - 1 + 1).toNat + 1 by omega] at h
  rw [← h, hm]
  show _ = if c < 0 then (-1, l) else if l < n c then (c, l) else jFD n (c - 1 + 1).toNat (c - 1) (l - n c)
  rw [if_neg (by omega), if_neg (by omega)]
theorem jFD_e {n : Int → Int} {c l m : Int} {V : Int × Int} (h : jFD n (c + 1).toNat c l = V) (c0 : 0 ≤ c) (hm : m = n c) (hl : l < m) : V = (c, l) := by
  rw [show (c + 1).toNat = (c - 1 + 1).toNat + 1 by omega] at h
  rw [← h]
  show (if c < 0 then (-1, l) else if l < n c then (c, l) else jFD n (c - 1 + 1).toNat (c - 1) (l - n c)) = _
  rw [if_neg (by omega), if_pos (by omega)]
theorem jFD_n {n : Int → Int} {c l : Int} {V : Int × Int} (h : jFD n (c + 1).toNat c l = V) (c0 : c < 0) : V.1 < 0 := by
  by_cases z : (c + 1).toNat = 0
  · rw [z] at h
    rw [← h]
    show (-1 : Int) < 0
    decide
  · omega
def JFR (T : CT) (σ : MS) (a xa y n : Nat) (z v : Int) : Prop := (jC σ y (jA T xa (σ.2.1 70 a) σ) < 0 ∧ v = z) ∨ ∃ c x : Nat, jC σ y (jA T xa (σ.2.1 70 a) σ) = (c : Int) ∧ σ.2.1 n c = (x : Int) ∧ v = jA T x (σ.2.1 71 a) σ
def JSK (T : CT) (σ : MS) (a xa xc xd y : Nat) (k w v : Int) (σ2 : MS) : Prop :=
  ((w < 0 ∨ 2 < w) ∧ v = -1) ∨ ((0 ≤ w ∧ w ≤ 2) ∧ ∃ u, JFN T σ a xa xc y k u σ2 ∧ ((u = 0 ∧ v = -1) ∨ (u = 1 ∧ ((w = 0 ∧ JFR T σ2 a xa y 11 (-1) v) ∨ (w = 1 ∧ v = jA T xd (w32 (w32 (σ2.2.1 70 a * 12) + σ2.2.1 71 a)) σ2) ∨ (w = 2 ∧ JFR T σ2 a xa y 14 0 v)))))
theorem JW.neg {w z : Int} (h : JW w z) (hw : w < 0) : z < 0 := by
  rcases h with h | h
  · omega
  · exact h.1
theorem JW.pos {w z : Int} (h : JW w z) (hw : 0 ≤ w) : z = w := by
  rcases h with h | h
  · exact h.symm
  · omega
theorem jU_w {P : Int → Int} {n i f g V : Int} (h : jU P (n - i).toNat f = V) (hi : i < n) (e : g = P f) : jU P (n - (i + 1)).toNat g = V := by rw [e]; exact jU_s h hi
theorem jA_back {T : CT} {σ0 σ : MS} {a c x : Nat} {i : Int} (hC : CHX [(71, a)] [] [] σ0 σ) (hx : σ0.2.1 12 c = (x : Int)) : jA T x i σ = jA T (adN σ0 12 c) i σ0 := by
  rw [adN_of hx]
  exact jA_cg (hC.r (by simp))
theorem JFN.mk {T : CT} {σ σ2 : MS} {a xa xc y : Nat} {k v c l vf z : Int} (k0 : 0 ≤ k ∧ k < σ.2.1 58 a) (s0 : σ.2.1 56 a = 1 ∨ σ.2.1 56 a = 3) (hv : jFD (jCV T σ xa xc y) (σ.2.1 57 a + 1).toNat (σ.2.1 57 a) k = (c, l)) (c0 : 0 ≤ c) (hf : vf = jA T xc c (sA 70 a c σ)) (hb : JCB T (sA 71 a vf (sA 70 a c σ)) a xa y l (σ2.2.1 71 a)) (ch : CHX [(71, a)] [] [] (sA 71 a vf (sA 70 a c σ)) σ2) (w : JW z (jC σ2 y (jA T xa (σ2.2.1 70 a) σ2))) (hz : (z < 0 ∧ v = 0) ∨ (0 ≤ z ∧ v = 1)) : JFN T σ a xa xc y k v σ2 := by
  have r1 : ∀ x : Nat, (sA 71 a vf (sA 70 a c σ)).2.1 (1000 + x) = σ.2.1 (1000 + x) := fun x => (sA_k (by omega)).trans (sA_k (by omega))
  have r2 : ∀ x : Nat, σ2.2.1 (1000 + x) = σ.2.1 (1000 + x) := fun x => (ch.r (by simp)).trans (r1 x)
  have e70 : (sA 71 a vf (sA 70 a c σ)).2.1 70 a = c := by rw [sA_k (by decide)]; exact ra_eq
  have f70 : σ2.2.1 70 a = c := (ch.1 70 a (by decide) (fun p hp e => by rw [List.mem_singleton.mp hp] at e; exact absurd (show (71 : Nat) = 70 from e) (by decide))).trans e70
  have jc1 : ∀ r, jC (sA 71 a vf (sA 70 a c σ)) y r = jC σ y r := fun r => by unfold jC; rw [r1]
  have jc2 : ∀ r, jC σ2 y r = jC σ y r := fun r => by unfold jC; rw [r2]
  rw [f70, jc2, jA_cg (r2 xa)] at w
  unfold JCB at hb
  rw [e70, jc1, jA_cg (r1 xa)] at hb
  rw [show jA T xc c (sA 70 a c σ) = jA T xc c σ from jA_cg (sA_k (by omega))] at hf
  rcases hz with ⟨z0, e⟩ | ⟨z0, e⟩
  · exact Or.inl ⟨e, Or.inr (Or.inr (by rw [hv]; exact w.neg z0))⟩
  · have q := w.pos z0
    rcases hb with ⟨b1, b2⟩ | ⟨cc, b1, b2⟩
    · omega
    · refine Or.inr ⟨e, k0, s0, c, l, cc, hv, c0, f70, b1, ?_⟩
      rw [b2, show (sA 71 a vf (sA 70 a c σ)).2.1 71 a = vf from ra_eq]
      have ea : adN (sA 71 a vf (sA 70 a c σ)) 12 cc = adN σ 12 cc := by unfold adN; rw [sA_k (by decide), sA_k (by decide)]
      rw [ea, ← hf]
      exact congrArg (fun P => jU P l.toNat vf) (funext (fun f => jA_cg (r1 _)))
end
section
set_option maxHeartbeats 1000000 in
set_option maxRecDepth 20000 in
theorem k_X7_foundCode_j (d : Nat) {T : CT} {σ : MS} {a : Nat} {xa : Nat} {y : Nat} (ha : OB T a 7) (hw : WT T σ) (hxa : σ.2.1 59 a = (xa : Int)) (hy : σ.2.1 55 a = (y : Int)) : Tn (d + 2) m_X7_foundCode 0 T σ [(0, .ref a)] [] (fun ro T2 σ2 => ∃ v : Int, ro = some (vl true v) ∧ T = T2 ∧ σ = σ2 ∧ (v < 0 ∨ ∃ x : Nat, v = (x : Int) ∧ OB T2 x 1 ∧ RC T2 a x) ∧ (CAT (FRV T σ a) v) ∧ (JW v (jC σ y (jA T xa (σ.2.1 70 a) σ)))) := by
  refine tn_aload_n dX7_foundCode_0 rfl 0 rfl ?_
  refine tn_aload_n dX7_foundCode_1 rfl 0 rfl ?_
  obtain ⟨hk3, hl4⟩ : AR T xa 15 9 9 := ar_of (wf_59 hw ha) hxa
  have hk3i : IA T xa := by unfold IA; omega
  refine tn_getR (ci := 7) (i := 4) (n := 59) (x := xa) dX7_foundCode_2 rfl lay_7 (by decide) fl7_9 ha rfl rfl (hxa) ?_
  refine tn_aload_n dX7_foundCode_5 rfl 0 rfl ?_
  refine tn_getI (ci := 7) (i := 15) (n := 70) (t := σ.2.1 70 a) dX7_foundCode_6 rfl lay_7 (by decide) fl7_143 ha rfl rfl (rfl) ?_
  have g5 : ((-2147483648 : Int) ≤ σ.2.1 70 a ∧ σ.2.1 70 a ≤ 2147483647) := wf_70 hw ha
  refine tn_callSN (M := m_X7_foundCode) (pc := 9) (ix := 91) (M' := m_X11_at) (As := [.ref xa, .int (iI (σ.2.1 70 a))]) (rest := [.ref a]) dX7_foundCode_9 ok_X11_at stt_X11_at nl7_91 np_X11_at rfl (Nat.le_of_ble_eq_true rfl) (Nat.le_of_ble_eq_true rfl) rfl (k_X11_at_j (d) (T := T) (σ := σ) (x := xa) (i := σ.2.1 70 a) hk3i (by omega) (by omega) hw ) (fun r6 T8 σ7 gt9 hp => ?_)
  obtain ⟨v13, rfl, rfl, rfl, f10, f11, f12⟩ := hp
  clear gt9
  clear f11
  show Tn _ _ 12 T σ [(0, .ref a)] [.int (iI v13), .ref a] _
  obtain ⟨hl17, hk16a, hk16b⟩ := ex_at (wf_55 hw ha) hy
  have hk16i : (T y).1 = 4 ∨ (T y).1 = 5 := by omega
  have hk16c : RROW T a y := ⟨hk16a, hk16b⟩
  clear hk16a hk16b
  refine tn_callV (M := m_X7_foundCode) (pc := 12) (ix := 68) (ci := 7) (M' := m_X7_codeAt) (As := [.int (iI v13)]) (rest := []) dX7_foundCode_12 ok_X7_codeAt im_X7_codeAt se_X7_codeAt ml7_68 np_X7_codeAt rfl rfl ha rfl (Nat.le_of_ble_eq_true rfl) (Nat.le_of_ble_eq_true rfl) rfl (k_X7_codeAt_j (d) (T := T) (σ := σ) (a := a) (r := v13) (y := y) ha (by omega) hw (hy)) (fun r18 T20 σ19 gt21 hp => ?_)
  obtain ⟨v24, rfl, rfl, rfl, rv25, f22, f23⟩ := hp
  clear gt21
  rcases rv25 with rv25 | ⟨xq26, rfl, hk27⟩
  · show Tn _ _ 15 T σ [(0, .ref a)] (vl true v24 :: []) _
    rw [vl_null rv25]
    exact tn_aret rfl (Or.inl ⟨_, rfl⟩) (Or.inl rfl) dX7_foundCode_15 ⟨-1, congrArg some (vl_null (by decide)).symm, rfl, rfl, Or.inl (by decide), (frv_of hxa rfl f12) ▸ (CAT.neg f22 rv25), Or.inr ⟨by rw [← f12, ← f23]; exact rv25, rfl⟩⟩
  · show Tn _ _ 15 T σ [(0, .ref a)] (vl true (xq26 : Int) :: []) _
    rw [vl_ref rfl]
    have hk27o : OB T xq26 1 := hk27.1
    exact tn_aret rfl (Or.inl ⟨_, rfl⟩) (Or.inr ⟨_, rfl⟩) dX7_foundCode_15 ⟨(xq26 : Int), congrArg some (vl_ref rfl).symm, rfl, rfl, Or.inr ⟨_, rfl, hk27o, hk27.2⟩, (frv_of hxa rfl f12) ▸ f22, Or.inl (by rw [← f12]; exact f23)⟩
end
section
set_option maxHeartbeats 1000000 in
set_option maxRecDepth 20000 in
theorem l_X7_climb_j_7 (d : Nat) {T : CT} {σ0 : MS} {a : Nat} {c1 : Int} {V0 : Int} {xa : Nat} {y : Nat} {post : Option Value → CT → MS → Prop} (h_a : OB T a 7) (r_c1 : -2147483648 ≤ c1 ∧ c1 ≤ 2147483647) (hw0 : WT T σ0) (hxa : σ0.2.1 59 a = (xa : Int)) (hy : σ0.2.1 55 a = (y : Int)) (hx_37 : ∀ (i3 : Int) (σ : MS) , (WT T σ) → (FrC T [71] σ0 σ) → (0 ≤ i3 ∧ i3 ≤ 2147483647) → (CHX [(71, a)] [] [] σ0 σ) → (σ.2.1 71 a = V0) → Tn (d + 3) m_X7_climb 37 T σ [(0, .ref a), (1, .int (iI c1)), (2, .null), (3, .int (iI i3))] [] post) : ∀ (nq9 : Nat) (i3 : Int) (σ : MS) , (WT T σ) → (FrC T [71] σ0 σ) → (0 ≤ i3 ∧ i3 ≤ 2147483647) → (CHX [(71, a)] [] [] σ0 σ) → (σ.2.1 71 a = V0) → (2147483700 - i3).toNat = nq9 → Tn (d + 3) m_X7_climb 7 T σ [(0, .ref a), (1, .int (iI c1)), (2, .null), (3, .int (iI i3))] [] post := by
  intro nq9
  induction nq9 using Nat.strongRecOn with
  | _ nq9 ih =>
    intro i3 σ hw hF r_i3 hC hL hm
    refine tn_iload_n dX7_climb_7 rfl 3 rfl ?_
    refine tn_iload_n dX7_climb_8 rfl 1 rfl ?_
    refine tn_icmp_ge (tgt := 37) dX7_climb_9 (by decide) ⟨by omega, by omega⟩ ⟨by omega, by omega⟩ (fun h1 => ?_) (fun h1 => ?_)
    · exact tn_sub [0, 1, 2, 3] rfl (hx_37 (i3) σ hw (FrC.rfl.trans (FrC.sub hF (by decide))) (by omega) hC hL)
    · refine tn_aload_nN dX7_climb_12 rfl 2 rfl ?_
      refine tn_ifnullN (tgt := 37) dX7_climb_13 (by decide) ?_
      exact tn_sub [0, 1, 2, 3] rfl (hx_37 (i3) σ hw (FrC.rfl.trans (FrC.sub hF (by decide))) (by omega) hC hL)
set_option maxHeartbeats 1000000 in
set_option maxRecDepth 20000 in
theorem l_X7_climb_j_7_1 (d : Nat) {T : CT} {σ0 : MS} {a : Nat} {c1 : Int} {rx2 : Nat} {V0 : Int} {xa : Nat} {y : Nat} {post : Option Value → CT → MS → Prop} (h_a : OB T a 7) (r_c1 : -2147483648 ≤ c1 ∧ c1 ≤ 2147483647) (h_rx2 : OB T rx2 1) (hw0 : WT T σ0) (hxa : σ0.2.1 59 a = (xa : Int)) (hy : σ0.2.1 55 a = (y : Int)) (hx_37 : ∀ (i3 : Int) (σ : MS) , (WT T σ) → (FrC T [71] σ0 σ) → (0 ≤ i3 ∧ i3 ≤ 2147483647) → (CHX [(71, a)] [] [] σ0 σ) → (σ.2.1 71 a = V0) → Tn (d + 3) m_X7_climb 37 T σ [(0, .ref a), (1, .int (iI c1)), (2, .ref rx2), (3, .int (iI i3))] [] post) : ∀ (nq9 : Nat) (i3 : Int) (σ : MS) , (WT T σ) → (FrC T [71] σ0 σ) → (0 ≤ i3 ∧ i3 ≤ 2147483647) → (CHX [(71, a)] [] [] σ0 σ) → (jU (fun f => jA T (adN σ0 12 rx2) f σ0) (c1 - i3).toNat (σ.2.1 71 a) = V0) → (2147483700 - i3).toNat = nq9 → Tn (d + 3) m_X7_climb 7 T σ [(0, .ref a), (1, .int (iI c1)), (2, .ref rx2), (3, .int (iI i3))] [] post := by
  intro nq9
  induction nq9 using Nat.strongRecOn with
  | _ nq9 ih =>
    intro i3 σ hw hF r_i3 hC hL hm
    refine tn_iload_n dX7_climb_7 rfl 3 rfl ?_
    refine tn_iload_n dX7_climb_8 rfl 1 rfl ?_
    refine tn_icmp_ge (tgt := 37) dX7_climb_9 (by decide) ⟨by omega, by omega⟩ ⟨by omega, by omega⟩ (fun h1 => ?_) (fun h1 => ?_)
    · exact tn_sub [0, 1, 2, 3] rfl (hx_37 (i3) σ hw (FrC.rfl.trans (FrC.sub hF (by decide))) (by omega) hC (jU_e hL (by omega)))
    · refine tn_aload_n dX7_climb_12 rfl 2 rfl ?_
      refine tn_ifnull dX7_climb_13 ?_
      refine tn_aload_n dX7_climb_16 rfl 0 rfl ?_
      refine tn_aload_n dX7_climb_17 rfl 2 rfl ?_
      obtain ⟨xq2, hx3, hk4, hl5⟩ : ∃ x : Nat, σ0.2.1 12 rx2 = (x : Int) ∧ AR T x 1 12 12 := wf_12 hw0 h_rx2
      have hk4i : IA T xq2 := by unfold IA; omega
      refine tn_getR (ci := 1) (i := 7) (n := 12) (x := xq2) dX7_climb_18 rfl lay_1 (by decide) fl7_126 h_rx2 rfl rfl (rc_F hF (Or.inl (by decide)) (by decide) (hx3)) ?_
      refine tn_aload_n dX7_climb_21 rfl 0 rfl ?_
      refine tn_getI (ci := 7) (i := 16) (n := 71) (t := σ.2.1 71 a) dX7_climb_22 rfl lay_7 (by decide) fl7_146 h_a rfl rfl (rfl) ?_
      have g6 : ((-2147483648 : Int) ≤ σ.2.1 71 a ∧ σ.2.1 71 a ≤ 2147483647) := wf_71 hw h_a
      refine tn_callSN (M := m_X7_climb) (pc := 25) (ix := 91) (M' := m_X11_at) (As := [.ref xq2, .int (iI (σ.2.1 71 a))]) (rest := [.ref a]) dX7_climb_25 ok_X11_at stt_X11_at nl7_91 np_X11_at rfl (Nat.le_of_ble_eq_true rfl) (Nat.le_of_ble_eq_true rfl) rfl (k_X11_at_j (d + 1) (T := T) (σ := σ) (x := xq2) (i := σ.2.1 71 a) hk4i (by omega) (by omega) hw ) (fun r7 T9 σ8 gt10 hp => ?_)
      obtain ⟨v14, rfl, rfl, rfl, f11, f12, f13⟩ := hp
      clear gt10
      clear f12
      show Tn _ _ 28 T σ [(0, .ref a), (1, .int (iI c1)), (2, .ref rx2), (3, .int (iI i3))] [.int (iI v14), .ref a] _
      refine tn_putV (ci := 7) (i := 16) (n := 71) (r := false) (v := v14) tyX7 tyX7_ok nmX7 dX7_climb_28 rfl lay_7 (by decide) fl7_146 rfl (tyX7_ok 16 (by decide)) rfl rfl rfl h_a rfl rfl ?_
      refine tn_iinc (q0 := 3) (L' := [(3, .int (iI (i3 + 1))), (0, .ref a), (1, .int (iI c1)), (2, .ref rx2)]) dX7_climb_31 rfl (by decide) rfl ?_
      refine tn_goto (tgt := 7) dX7_climb_34 (by decide) ?_
      exact tn_sub [1, 2, 3, 0] rfl (ih _ (by omega) (i3 + 1) (sA 71 a (v14) σ) (hw.put (by decide) (by decide) (fo_71 (by omega))) ((FrC.rfl.trans (FrC.sub hF (by decide))).put (by decide) (by decide)) (by omega) (hC.fld (by simp) (by decide)) (jU_w hL (by omega) (Eq.trans ra_eq (f13.trans (jA_back hC hx3)))) rfl)
set_option maxHeartbeats 1000000 in
set_option maxRecDepth 20000 in
theorem k_X7_climb_j (d : Nat) {T : CT} {σ : MS} {a : Nat} {p1 : Int} {xa : Nat} {y : Nat} (ha : OB T a 7) (h_p1 : -2147483648 ≤ p1 ∧ p1 ≤ 2147483647) (hw : WT T σ) (hxa : σ.2.1 59 a = (xa : Int)) (hy : σ.2.1 55 a = (y : Int)) : Tn (d + 3) m_X7_climb 0 T σ [(0, .ref a), (1, .int (iI p1))] [] (fun ro T2 σ2 => ro = none ∧ T = T2 ∧ WT T2 σ2 ∧ FrC T [71] σ σ2 ∧ (CHX [(71, a)] [] [] σ σ2) ∧ (JCB T σ a xa y p1 (σ2.2.1 71 a))) := by
  refine tn_aload_n dX7_climb_0 rfl 0 rfl ?_
  obtain ⟨hk3, hl4⟩ : AR T xa 15 9 9 := ar_of (wf_59 hw ha) hxa
  have hk3i : IA T xa := by unfold IA; omega
  obtain ⟨hl8, hk7a, hk7b⟩ := ex_at (wf_55 hw ha) hy
  have hk7i : (T y).1 = 4 ∨ (T y).1 = 5 := by omega
  have hk7c : RROW T a y := ⟨hk7a, hk7b⟩
  clear hk7a hk7b
  refine tn_callV (M := m_X7_climb) (pc := 1) (ix := 152) (ci := 7) (M' := m_X7_foundCode) (As := []) (rest := []) dX7_climb_1 ok_X7_foundCode im_X7_foundCode se_X7_foundCode ml7_152 np_X7_foundCode rfl rfl ha rfl (Nat.le_of_ble_eq_true rfl) (Nat.le_of_ble_eq_true rfl) rfl (k_X7_foundCode_j (d) (T := T) (σ := σ) (a := a) (xa := xa) (y := y) ha hw (hxa) (hy)) (fun r9 T11 σ10 gt12 hp => ?_)
  obtain ⟨v15, rfl, rfl, rfl, rv16, f13, f14⟩ := hp
  clear gt12
  clear f13
  rcases rv16 with rv16 | ⟨xq17, rfl, hk18⟩
  · show Tn _ _ 4 T σ [(0, .ref a), (1, .int (iI p1))] (vl true v15 :: []) _
    rw [vl_null rv16]
    refine tn_astore_nN (L' := [(2, .null), (0, .ref a), (1, .int (iI p1))]) dX7_climb_4 rfl (by decide) rfl ?_
    refine tn_iconst dX7_climb_5 ?_
    refine tn_istore_n (L' := [(3, .int (iI 0)), (2, .null), (0, .ref a), (1, .int (iI p1))]) dX7_climb_6 rfl (by decide) rfl ?_
    refine tn_sub [2, 3, 1, 0] rfl (l_X7_climb_j_7 (d) (T := T) (σ0 := σ) (a := a) (c1 := p1) (xa := xa) (y := y) (V0 := (σ.2.1 71 a)) ha (by omega) hw (hxa) (hy) (fun i319 σ20 w23 F24 r25 f26 f27 => ?_) _ (0) σ hw FrC.rfl (by omega) CHX.rfl rfl rfl)
    show Tn _ _ 37 T σ20 [(0, .ref a), (1, .int (iI p1)), (2, .null), (3, .int (iI i319))] [] _
    exact tn_vret rfl dX7_climb_37 ⟨rfl, rfl, w23, (FrC.rfl.trans (FrC.sub F24 (by decide))), (CHX.rfl.trans (CHX.sub f26 (by simp) (by simp) (by simp))), Or.inl ⟨f14.neg (by assumption), f27⟩⟩
  · show Tn _ _ 4 T σ [(0, .ref a), (1, .int (iI p1))] (vl true (xq17 : Int) :: []) _
    rw [vl_ref rfl]
    have hk18o : OB T xq17 1 := hk18.1
    refine tn_astore_n (L' := [(2, .ref xq17), (0, .ref a), (1, .int (iI p1))]) dX7_climb_4 rfl (by decide) rfl ?_
    refine tn_iconst dX7_climb_5 ?_
    refine tn_istore_n (L' := [(3, .int (iI 0)), (2, .ref xq17), (0, .ref a), (1, .int (iI p1))]) dX7_climb_6 rfl (by decide) rfl ?_
    refine tn_sub [2, 3, 1, 0] rfl (l_X7_climb_j_7_1 (d) (T := T) (σ0 := σ) (a := a) (c1 := p1) (rx2 := xq17) (xa := xa) (y := y) (V0 := (jU (fun f => jA T (adN σ 12 xq17) f σ) (p1).toNat (σ.2.1 71 a))) ha (by omega) hk18o hw (hxa) (hy) (fun i328 σ29 w32 F33 r34 f35 f36 => ?_) _ (0) σ hw FrC.rfl (by omega) CHX.rfl (by rw [Int.sub_zero]) rfl)
    show Tn _ _ 37 T σ29 [(0, .ref a), (1, .int (iI p1)), (2, .ref xq17), (3, .int (iI i328))] [] _
    exact tn_vret rfl dX7_climb_37 ⟨rfl, rfl, w32, (FrC.rfl.trans (FrC.sub F33 (by decide))), (CHX.rfl.trans (CHX.sub f35 (by simp) (by simp) (by simp))), Or.inr ⟨xq17, f14.pos (Int.natCast_nonneg _), f36⟩⟩
end
