section
set_option maxHeartbeats 1000000 in
set_option maxRecDepth 20000 in
theorem k_X5_ring_m (d : Nat) {T : CT} {σ : MS} {a : Nat} {dp : Int} {kp : Int} {lv : Nat} {Sx : Int → Int} {nx jx : Nat} {cx : CS} {Nx : Int} {Tg : CT} {gs : MS} {mx : MK} {nm : Int → Int64 → Int} {bx : Int} (ha : OB T a 5) (h_dp : -2147483648 ≤ dp ∧ dp ≤ 2147483647) (hw : WT T σ) (hex : ∀ (d : Nat) {T : CT} {σ : MS} {a : Nat} {dp : Int} {kp : Int} {Sx : Int → Int} {nx jx : Nat} {cx : CS} {Nx : Int} {Tg : CT} {gs : MS} {mx : MK} {nm : Int → Int64 → Int} {bx : Int} (ha : OB T a 5) (h_dp : -2147483648 ≤ dp ∧ dp ≤ 2147483647) (hw : WT T σ) (hdp : 1 ≤ dp ∧ dp ≤ 7) (hlv : 7 ≤ dp + (lv : Int)) (hfx : RDX σ a Sx nx jx cx Nx) (hmg : MG Tg gs T σ a mx) (hmb : MBD mx) (hgf : gs.1 5 = 0) (hb : bx = dp - 1) (hm : cx.m ≤ (jx : Int)) (hkp : kp ≤ 140) (hrp : RP σ a kp), Tn (d + 3 * lv + 60) m_X5_block 0 T σ [(0, .ref a), (1, .int (iI dp))] [] (fun ro T2 σ2 => ∃ v : Int, ro = some (.int (iI v)) ∧ WT T2 σ2 ∧ FrC T [5, 6, 7, 9, 42, 43, 44, 45, 46, 47, 50, 51, 84, 85, 86, 87, 518, 519, 520, 521] σ σ2 ∧ (v = 0 ∨ v = 1) ∧ (YQM σ2 a Sx nx bx [28] jx cx (Nx) 2 v nm Tg gs T2 mx (mx) (fun m9 => m9)) ∧ (RP σ2 a (kp + 2 - 10 * v)))) (hdp : 1 ≤ dp ∧ dp ≤ 6) (hlv : 6 ≤ dp + (lv : Int)) (hfx : RDX σ a Sx nx jx cx Nx) (hmg : MG Tg gs T σ a mx) (hmb : MBD mx) (hgf : gs.1 5 = 0) (hb : bx = dp) (hkd : ckd (tkS Sx jx) = 262) (hkp : kp ≤ 140) (hrp : RP σ a kp) : Tn (d + 3 * lv + 61) m_X5_ring 0 T σ [(0, .ref a), (1, .int (iI dp))] [] (fun ro T2 σ2 => ∃ v : Int, ro = some (.int (iI v)) ∧ WT T2 σ2 ∧ FrC T [5, 6, 7, 9, 42, 43, 44, 45, 46, 47, 50, 51, 84, 85, 86, 87, 518, 519, 520, 521] σ σ2 ∧ (v = 0 ∨ v = 1) ∧ (YQM σ2 a Sx nx bx [22] jx cx (Nx) 1 v nm Tg gs T2 mx (mx) (fun m9 => m9)) ∧ (RP σ2 a (kp + 2 - 9 * v))) := by
  have hSb := hfx.1.sb
  have e45 := hfx.e45
  have hpo9 := hfx.po
  unfold PO at hpo9
  refine tn_aload_n dX5_ring_0 rfl 0 rfl ?_
  have lb1 := (MG.bd2 hmg hmb hrp hw ha (by omega)).1
  refine tn_callV (M := m_X5_ring) (pc := 1) (ix := 238) (ci := 5) (M' := m_X5_newLabel) (As := []) (rest := []) dX5_ring_1 ok_X5_newLabel im_X5_newLabel se_X5_newLabel ml5_238 np_X5_newLabel rfl rfl ha rfl (Nat.le_of_ble_eq_true rfl) (Nat.le_of_ble_eq_true rfl) rfl (k_X5_newLabel_n (d + 3 * lv + 59) (T := T) (σ := σ) (a := a) (Tg := Tg) (gs := gs) (mx := mx) ha hw hfx hmg lb1) (fun r2 T4 σ3 gt5 hp => ?_)
  obtain ⟨v9, rfl, rfl, w10, F11, f6, f7, f8⟩ := hp
  clear gt5
  have fx12 : RDX σ3 a Sx nx jx (cx) (Nx) := RDX.fc hfx hw ha F11 (by decide) (by decide)
  have rp13 : RP σ3 a (kp) := RP.frc hrp F11 (by decide) (by decide) (by decide) (by decide) (by decide)
  show Tn _ _ 4 T σ3 [(0, .ref a), (1, .int (iI dp))] [.int (iI v9)] _
  refine tn_istore_n (L' := [(2, .int (iI v9)), (0, .ref a), (1, .int (iI dp))]) dX5_ring_4 rfl (by decide) rfl ?_
  refine tn_aload_n dX5_ring_5 rfl 1 rfl ?_
  obtain ⟨xq14, hx15, hk16⟩ : ∃ x : Nat, σ.2.1 35 a = (x : Int) ∧ (T x).1 = 31 := wf_35 hw ha
  have hk16o : OB T xq14 1 := ⟨by omega, by rw [hk16]; rfl, by omega⟩
  refine tn_getR (ci := 5) (i := 2) (n := 35) (x := xq14) dX5_ring_6 rfl lay_5 (by decide) fl5_47 ha rfl rfl (rc_F F11 (Or.inl (by decide)) (by decide) (hx15)) ?_
  refine tn_bipush dX5_ring_9 (by decide) ?_
  refine tn_iload_n dX5_ring_11 rfl 0 rfl ?_
  refine tn_iconst dX5_ring_12 ?_
  refine tn_callV (M := m_X5_ring) (pc := 13) (ix := 139) (ci := 1) (M' := m_X1_append) (As := [.int (iI 13), .int (iI v9), .int (iI 0)]) (rest := []) dX5_ring_13 ok_X1_append im_X1_append se_X1_append ml5_139 np_X1_append rfl rfl hk16o rfl (Nat.le_of_ble_eq_true rfl) (Nat.le_of_ble_eq_true rfl) rfl (k_append_c (d + 3 * lv + 57) (T := T) (σ := σ3) (a := xq14) (k := 13) (p := v9) (q := 0) hk16o hk16 (by decide) (by omega) (by decide) w10 (RP.cnt rp13 w10 ha (rc_F F11 (Or.inl (by decide)) (by decide) (hx15)) (by omega)) (by omega)) (fun r18 T20 σ19 gt21 hp => ?_)
  obtain ⟨rfl, w26, F27, f22, f23, f24⟩ := hp
  have nn28 : 0 ≤ (((mx).nl)).n := by have z7 : WT T σ3 := w10; have z6 : σ3.2.1 35 a = (xq14 : Int) := rc_F F11 (Or.inl (by decide)) (by decide) (hx15); have z9 := wf_6 z7 (code_ob z7 ha z6); have z8 := MG.e6 f8 (MG.cd f8 z6); omega
  have a3529 : σ3.2.1 35 a = (xq14 : Int) := rc_F F11 (Or.inl (by decide)) (by decide) (hx15)
  have fx30 : RDX σ19 a Sx nx jx (cx) (Nx + 1) := RDX.ap fx12 w10 ha (rc_F F11 (Or.inl (by decide)) (by decide) (hx15)) F27 f22
  replace ha : OB T20 a 5 := gt21.ob ha
  have rp31 : RP σ19 a (kp + 1) := RP.app rp13 (rc_F F11 (Or.inl (by decide)) (by decide) (hx15)) F27 (by decide) (by decide) (by decide) (by decide) f22
  have mg32 : MG Tg gs T20 σ19 a ((((mx).nl)).put (rwI (13) (v9) (0))) := MG.app f8 (MG.cd f8 a3529) gt21 f22 f23 f24 (by omega)
  have mg32l : MG Tg gs T20 σ19 a ((((mx).nl)).lb ((mx).lab)) := by have q9 := MG.lb (m := ((mx).nl)) mg32; rw [show v9 = (mx).lab from f7] at q9; exact q9
  show Tn _ _ 16 T20 σ19 [(2, .int (iI v9)), (0, .ref a), (1, .int (iI dp))] [] _
  refine tn_aload_n dX5_ring_16 rfl 1 rfl ?_
  obtain ⟨xq33, hx34, hk35⟩ : ∃ x : Nat, σ19.2.1 35 a = (x : Int) ∧ (T20 x).1 = 31 := wf_35 w26 ha
  have hk35o : OB T20 xq33 1 := ⟨by omega, by rw [hk35]; rfl, by omega⟩
  refine tn_getR (ci := 5) (i := 2) (n := 35) (x := xq33) dX5_ring_17 rfl lay_5 (by decide) fl5_47 ha rfl rfl (hx34) ?_
  refine tn_bipush dX5_ring_20 (by decide) ?_
  refine tn_aload_n dX5_ring_22 rfl 1 rfl ?_
  refine tn_getI (ci := 5) (i := 12) (n := 45) (t := σ19.2.1 45 a) dX5_ring_23 rfl lay_5 (by decide) fl5_64 ha rfl rfl (rfl) ?_
  have g37 : ((-2147483648 : Int) ≤ σ19.2.1 45 a ∧ σ19.2.1 45 a ≤ 2147483647) := wf_45 w26 ha
  refine tn_iconst dX5_ring_26 ?_
  refine tn_callV (M := m_X5_ring) (pc := 27) (ix := 139) (ci := 1) (M' := m_X1_append) (As := [.int (iI 11), .int (iI (σ19.2.1 45 a)), .int (iI 0)]) (rest := []) dX5_ring_27 ok_X1_append im_X1_append se_X1_append ml5_139 np_X1_append rfl rfl hk35o rfl (Nat.le_of_ble_eq_true rfl) (Nat.le_of_ble_eq_true rfl) rfl (k_append_c (d + 3 * lv + 57) (T := T20) (σ := σ19) (a := xq33) (k := 11) (p := σ19.2.1 45 a) (q := 0) hk35o hk35 (by decide) (by omega) (by decide) w26 (RP.cnt rp31 w26 ha (hx34) (by omega)) (by omega)) (fun r38 T40 σ39 gt41 hp => ?_)
  obtain ⟨rfl, w46, F47, f42, f43, f44⟩ := hp
  have nn48 : 0 ≤ (((((mx).nl)).lb ((mx).lab))).n := by have z7 : WT T20 σ19 := w26; have z6 : σ19.2.1 35 a = (xq33 : Int) := hx34; have z9 := wf_6 z7 (code_ob z7 ha z6); have z8 := MG.e6 mg32l (MG.cd mg32l z6); omega
  have z49 : σ19.2.1 45 a = (((((mx).nl)).lb ((mx).lab))).ln := by have z0 := MG.e45 mg32l; have z1 : σ19.2.1 45 a = (((((mx).nl)).lb ((mx).lab))).ln := z0; have z2 : σ19.2.1 45 a = σ.2.1 45 a := rc_F F27 (Or.inl (by decide)) (by decide) (rc_F F11 (Or.inl (by decide)) (by decide) (rfl)); have z3 : σ19.2.1 45 a = σ19.2.1 45 a := rfl; omega
  have a3550 : σ19.2.1 35 a = (xq33 : Int) := hx34
  have fx51 : RDX σ39 a Sx nx jx (cx) (Nx + 1 + 1) := RDX.ap fx30 w26 ha (hx34) F47 f42
  replace ha : OB T40 a 5 := gt41.ob ha
  have rp52 : RP σ39 a (kp + 1 + 1) := RP.app rp31 (hx34) F47 (by decide) (by decide) (by decide) (by decide) f42
  have rp53 : RP σ39 a (kp + 2) := RP.up rp52 (by omega)
  have mg54 : MG Tg gs T40 σ39 a ((((((mx).nl)).lb ((mx).lab))).put (rwI (11) (σ19.2.1 45 a) (0))) := MG.app mg32l (MG.cd mg32l a3550) gt41 f42 f43 f44 (by omega)
  have mg54l : MG Tg gs T40 σ39 a ((((((mx).nl)).lb ((mx).lab))).li) := MG.li (m := ((((mx).nl)).lb ((mx).lab))) mg54 z49
  show Tn _ _ 30 T40 σ39 [(2, .int (iI v9)), (0, .ref a), (1, .int (iI dp))] [] _
  refine tn_aload_n dX5_ring_30 rfl 1 rfl ?_
  obtain ⟨xq55, hx56, hk57⟩ : ∃ x : Nat, σ39.2.1 33 a = (x : Int) ∧ (T40 x).1 = 39 := wf_33 w46 ha
  have hk57o : OB T40 xq55 9 := ⟨by omega, by rw [hk57]; rfl, by omega⟩
  refine tn_getR (ci := 5) (i := 0) (n := 33) (x := xq55) dX5_ring_31 rfl lay_5 (by decide) fl5_12 ha rfl rfl (hx56) ?_
  refine tn_callV (M := m_X5_ring) (pc := 34) (ix := 93) (ci := 9) (M' := m_X9_next) (As := []) (rest := []) dX5_ring_34 ok_X9_next im_X9_next se_X9_next ml5_93 np_X9_next rfl rfl hk57o rfl (Nat.le_of_ble_eq_true rfl) (Nat.le_of_ble_eq_true rfl) rfl (k_X9_next_m (d + 3 * lv + 59) (T := T40) (σ := σ39) (a := xq55) hk57o w46 (RP.tk rp53 w46 ha (hx56)) ((fx51).1.tk (hx56)) (by rw [(fx51).1.kd (hx56)]; omega)) (fun r59 T61 σ60 gt62 hp => ?_)
  obtain ⟨rfl, rfl, w69, F70, f63, f64, f65, f66, f67⟩ := hp
  clear gt62
  have pc72 : GR Sx [22] jx (0) (bx) u0 [52, 2, 51, 28, 52] (jx + 1) (0) (bx) u0 0 [] := x22 hSb 
  have pm73 : CN nm mx.rt (cx) (GW Sx nm rnQ tb1 [22] jx (0) (bx) u0 mx [52, 2, 51, 28, 52] (jx + 1) (0) (bx) u0 0 (mx.push (5, 0, 0, []))) := fun hn9 => GW.of (gm22 hSb ) rfl
  have rd740 : GR Sx [22] jx 0 (bx) u0 [22] jx (0) (bx) u0 (0) ([]) := GR.nl
  have rd74 : GR Sx [22] jx 0 (bx) u0 [52, 2, 51, 28, 52] (jx + 1) (0) (bx) u0 (0 + 0) ([]) := GR.g0 (l := [22]) (ms := [52, 2, 51, 28, 52]) [] rd740 pc72
  have rm750 : CN nm mx.rt (cx) (GW Sx nm rnQ tb1 [22] jx 0 (bx) u0 mx [22] jx (0) (bx) u0 (0) mx) := fun _ => GW.nl
  have rm75 : CN nm mx.rt (cx) (GW Sx nm rnQ tb1 [22] jx 0 (bx) u0 mx [52, 2, 51, 28, 52] (jx + 1) (0) (bx) u0 (0 + 0) (mx.push (5, 0, 0, []))) := CN.gg (l := [22]) (ms := [52, 2, 51, 28, 52]) [] rm750 (fun q9 => q9) pm73
  have fx71 : RDX σ60 a Sx nx (jx + 1) (cx) (Nx + 1 + 1) := RDX.nx fx51 w46 ha (hx56) F70 f66
  have rp76 : RP σ60 a (kp + 2) := RP.next rp53 (hx56) F70 (by decide) (by decide) (by decide) f63 f64
  show Tn _ _ 37 T40 σ60 [(2, .int (iI v9)), (0, .ref a), (1, .int (iI dp))] [] _
  refine tn_aload_n dX5_ring_37 rfl 1 rfl ?_
  refine tn_iconst dX5_ring_38 ?_
  have pc77 : GR Sx [52] (jx + 1) (0) (bx) u0 [] (jx + 1) (0) (bx) u0 2 [] := x52 hSb 
  have pm78 : CN nm mx.rt (cx) (GW Sx nm rnQ tb1 [52] (jx + 1) (0) (bx) u0 (mx.push (5, 0, 0, [])) [] (jx + 1) (0) (bx) u0 2 ((mx.push (5, 0, 0, [])).two)) := fun hn9 => GW.of (gm52 hSb ) rfl
  have rd79 : GR Sx [22] jx 0 (bx) u0 [2, 51, 28, 52] (jx + 1) (0) (bx) u0 (0 + 0 + 2) ([]) := GR.g0 (l := [52]) (ms := []) [2, 51, 28, 52] rd74 pc77
  have rm80 : CN nm mx.rt (cx) (GW Sx nm rnQ tb1 [22] jx 0 (bx) u0 mx [2, 51, 28, 52] (jx + 1) (0) (bx) u0 (0 + 0 + 2) ((mx.push (5, 0, 0, [])).two)) := CN.gg (l := [52]) (ms := []) [2, 51, 28, 52] rm75 (fun q9 => q9) pm78
  have mg81 : MG Tg gs T40 σ60 a ((((((mx).nl)).lb ((mx).lab))).li) := (MG.tk mg54l (hx56) f67)
  have sy82 : (((((((mx).nl)).lb ((mx).lab))).li)).w = (((mx.push (5, 0, 0, [])).two)).w := rfl
  refine tn_callV (M := m_X5_ring) (pc := 39) (ix := 213) (ci := 5) (M' := m_X5_expression) (As := [.int (iI 1)]) (rest := []) dX5_ring_39 ok_X5_expression im_X5_expression se_X5_expression ml5_213 np_X5_expression rfl rfl ha rfl (Nat.le_of_ble_eq_true rfl) (Nat.le_of_ble_eq_true rfl) rfl (k_X5_expression_m (d + 3 * lv + 10) (T := T40) (σ := σ60) (a := a) (dp := 1) (kp := kp + 2) (eo := 0) (nm := nm) (Tg := Tg) (gs := gs) (mx := ((mx.push (5, 0, 0, [])).two)) ha (by decide) w69 (by omega) fx71 (MG.cg mg81 sy82) (MBD.same (MBD.put (MBD.np hmb)) sy82) (by omega) (by omega) rp76) (fun r83 T85 σ84 gt86 hp => ?_)
  obtain ⟨v90, rfl, w91, F92, f87, f88, f89⟩ := hp
  replace ha : OB T85 a 5 := gt86.ob ha
  have rp94 : RP σ84 a (kp - 4 * v90 + 2) := RP.up f89 (by omega)
  show Tn _ _ 42 T85 σ84 [(2, .int (iI v9)), (0, .ref a), (1, .int (iI dp))] [.int (iI v90)] _
  refine tn_if_ne (tgt := 47) dX5_ring_42 (by decide) ⟨by omega, by omega⟩ (fun h95 => ?_) (fun h95 => ?_)
  · refine tn_aload_n dX5_ring_47 rfl 1 rfl ?_
    obtain ⟨i96, es97, m98, mw99, lo100, rr101, fx102, ni103, mgq104, mb105, cn106⟩ := f88.1 (by omega)
    have rr101g := rr101 (bx) u0
    have pm107 : CN nm mx.rt (es97.foldl uC (cx)) (GW Sx nm rnQ tb1 [2] (jx + 1) (0) (bx) u0 ((mx.push (5, 0, 0, [])).two) [] i96 (0) (bx) u0 m98 (mw99.on ((mx.push (5, 0, 0, [])).two))) := fun hn9 => cn106 hn9 (bx) u0
    have rd108a : GR Sx [22] jx 0 (bx) u0 [51, 28, 52] i96 (0) (bx) u0 (0 + 0 + 2 + m98) ([] ++ es97) := GR.gg (l := [2]) (ms := []) [51, 28, 52] rd79 rr101g
    have rd108 : GR Sx [22] jx 0 (bx) u0 [51, 28, 52] i96 (0) (bx) u0 (0 + 0 + 2 + m98) (es97) := rd108a
    have rm109 : CN nm mx.rt (es97.foldl uC (cx)) (GW Sx nm rnQ tb1 [22] jx 0 (bx) u0 mx [51, 28, 52] i96 (0) (bx) u0 (0 + 0 + 2 + m98) (mw99.on ((mx.push (5, 0, 0, [])).two))) := CN.gg (l := [2]) (ms := []) [51, 28, 52] rm80 (fun q9 => (fun q9 => q9) (NMA.fo ni103 q9)) pm107
    refine tn_callV (M := m_X5_ring) (pc := 48) (ix := 235) (ci := 5) (M' := m_X5_zeroToNew) (As := []) (rest := []) dX5_ring_48 ok_X5_zeroToNew im_X5_zeroToNew se_X5_zeroToNew ml5_235 np_X5_zeroToNew rfl rfl ha rfl (Nat.le_of_ble_eq_true rfl) (Nat.le_of_ble_eq_true rfl) rfl (k_X5_zeroToNew_n (d + 3 * lv + 56) (T := T85) (σ := σ84) (a := a) (kp := kp - 4 * v90 + 2) (Tg := Tg) (gs := gs) (mx := mw99) ha w91 fx102 mgq104 mb105 (by omega) rp94) (fun r110 T112 σ111 gt113 hp => ?_)
    obtain ⟨v119, rfl, w120, F121, f114, f115, f116, f117, f118⟩ := hp
    replace ha : OB T112 a 5 := gt113.ob ha
    have rp123 : RP σ111 a (kp - 4 * v90 + 3) := RP.up f118 (by omega)
    show Tn _ _ 51 T112 σ111 [(2, .int (iI v9)), (0, .ref a), (1, .int (iI dp))] [.int (iI v119)] _
    refine tn_istore_n (L' := [(3, .int (iI v119)), (2, .int (iI v9)), (0, .ref a), (1, .int (iI dp))]) dX5_ring_51 rfl (by decide) rfl ?_
    refine tn_aload_n dX5_ring_52 rfl 2 rfl ?_
    refine tn_iload_n dX5_ring_53 rfl 3 rfl ?_
    refine tn_iconst dX5_ring_54 ?_
    refine tn_iadd dX5_ring_55 ?_
    have pc124 : GR Sx [51] i96 (0) (bx) u0 [] i96 (0) (bx) u0 1 [] := x51 hSb 
    have pm125 : CN nm mx.rt (es97.foldl uC (cx)) (GW Sx nm rnQ tb1 [51] i96 (0) (bx) u0 (mw99.on ((mx.push (5, 0, 0, [])).two)) [] i96 (0) (bx) u0 1 ((mw99.on ((mx.push (5, 0, 0, [])).two)).one tb1)) := fun hn9 => GW.of (gm51 hSb ) rfl
    have rd126 : GR Sx [22] jx 0 (bx) u0 [28, 52] i96 (0) (bx) u0 (0 + 0 + 2 + m98 + 1) (es97) := GR.g0 (l := [51]) (ms := []) [28, 52] rd108 pc124
    have rm127 : CN nm mx.rt (es97.foldl uC (cx)) (GW Sx nm rnQ tb1 [22] jx 0 (bx) u0 mx [28, 52] i96 (0) (bx) u0 (0 + 0 + 2 + m98 + 1) ((mw99.on ((mx.push (5, 0, 0, [])).two)).one tb1)) := CN.gg (l := [51]) (ms := []) [28, 52] rm109 (fun q9 => q9) pm125
    have sy128 : (((mw99).zn)).w = (((mw99.on ((mx.push (5, 0, 0, [])).two)).one tb1)).w := rfl
    have q45129 : (es97.foldl uC (cx)).m = σ.2.1 45 a := (f115.e45).symm.trans (rc_F F121 (Or.inl (by decide)) (by decide) (rc_F F92 (Or.inl (by decide)) (by decide) (rc_F F70 (Or.inl (by decide)) (by decide) (rc_F F47 (Or.inl (by decide)) (by decide) (rc_F F27 (Or.inl (by decide)) (by decide) (rc_F F11 (Or.inl (by decide)) (by decide) (rfl)))))))
    refine tn_callV (M := m_X5_ring) (pc := 56) (ix := 79) (ci := 5) (M' := m_X5_block) (As := [.int (iI (dp + 1))]) (rest := []) dX5_ring_56 ok_X5_block im_X5_block se_X5_block ml5_79 np_X5_block rfl rfl ha rfl (Nat.le_of_ble_eq_true rfl) (Nat.le_of_ble_eq_true rfl) rfl (hex (d) (T := T112) (σ := σ111) (a := a) (dp := dp + 1) (kp := kp - 4 * v90 + 3) (bx := bx) (nm := nm) (Tg := Tg) (gs := gs) (mx := ((mw99.on ((mx.push (5, 0, 0, [])).two)).one tb1)) ha (by omega) w120 (by omega) (by omega) f115 (MG.cg f117 sy128) (MBD.same (MBD.zn mb105) sy128) hgf (by omega) (by rw [q45129]; omega) (by omega) rp123) (fun r130 T132 σ131 gt133 hp => ?_)
    obtain ⟨v137, rfl, w138, F139, f134, f135, f136⟩ := hp
    replace ha : OB T132 a 5 := gt133.ob ha
    have rp141 : RP σ131 a (kp - 4 * v90 - 10 * v137 + 5) := RP.up f136 (by omega)
    show Tn _ _ 59 T132 σ131 [(3, .int (iI v119)), (2, .int (iI v9)), (0, .ref a), (1, .int (iI dp))] [.int (iI v137)] _
    refine tn_if_ne (tgt := 64) dX5_ring_59 (by decide) ⟨by omega, by omega⟩ (fun h142 => ?_) (fun h142 => ?_)
    · refine tn_aload_n dX5_ring_64 rfl 2 rfl ?_
      obtain ⟨xq143, hx144, hk145⟩ : ∃ x : Nat, σ131.2.1 35 a = (x : Int) ∧ (T132 x).1 = 31 := wf_35 w138 ha
      have hk145o : OB T132 xq143 1 := ⟨by omega, by rw [hk145]; rfl, by omega⟩
      refine tn_getR (ci := 5) (i := 2) (n := 35) (x := xq143) dX5_ring_65 rfl lay_5 (by decide) fl5_47 ha rfl rfl (hx144) ?_
      refine tn_bipush dX5_ring_68 (by decide) ?_
      refine tn_iload_n dX5_ring_70 rfl 1 rfl ?_
      refine tn_iconst dX5_ring_71 ?_
      obtain ⟨i147, es148, m149, mw150, lo151, rr152, fx153, fx153m, ni154, mgq155, mb156, cn157⟩ := f135.1 (by omega)
      have fx153s : σ131.2.1 45 a ≤ (i147 : Int) := by rw [fx153.e45]; exact fx153m
      have pm158 : CN nm mx.rt (es148.foldl uC (es97.foldl uC (cx))) (GW Sx nm rnQ tb1 [28] i96 (0) (bx) u0 ((mw99.on ((mx.push (5, 0, 0, [])).two)).one tb1) [] i147 (0) (bx) u0 m149 (mw150.on ((mw99.on ((mx.push (5, 0, 0, [])).two)).one tb1))) := cn157
      have rd159 : GR Sx [22] jx 0 (bx) u0 [52] i147 (0) (bx) u0 (0 + 0 + 2 + m98 + 1 + m149) (es97 ++ es148) := GR.gg (l := [28]) (ms := []) [52] rd126 rr152
      have rm160 : CN nm mx.rt (es148.foldl uC (es97.foldl uC (cx))) (GW Sx nm rnQ tb1 [22] jx 0 (bx) u0 mx [52] i147 (0) (bx) u0 (0 + 0 + 2 + m98 + 1 + m149) (mw150.on ((mw99.on ((mx.push (5, 0, 0, [])).two)).one tb1))) := CN.gg (l := [28]) (ms := []) [52] rm127 (fun q9 => (fun q9 => q9) (NMA.fo ni154 q9)) pm158
      refine tn_callV (M := m_X5_ring) (pc := 72) (ix := 139) (ci := 1) (M' := m_X1_append) (As := [.int (iI 8), .int (iI v9), .int (iI 0)]) (rest := []) dX5_ring_72 ok_X1_append im_X1_append se_X1_append ml5_139 np_X1_append rfl rfl hk145o rfl (Nat.le_of_ble_eq_true rfl) (Nat.le_of_ble_eq_true rfl) rfl (k_append_c (d + 3 * lv + 57) (T := T132) (σ := σ131) (a := xq143) (k := 8) (p := v9) (q := 0) hk145o hk145 (by decide) (by omega) (by decide) w138 (RP.cnt rp141 w138 ha (hx144) (by omega)) (by omega)) (fun r161 T163 σ162 gt164 hp => ?_)
      obtain ⟨rfl, w169, F170, f165, f166, f167⟩ := hp
      have nn171 : 0 ≤ (mw150).n := by have z7 : WT T132 σ131 := w138; have z6 : σ131.2.1 35 a = (xq143 : Int) := hx144; have z9 := wf_6 z7 (code_ob z7 ha z6); have z8 := MG.e6 mgq155 (MG.cd mgq155 z6); omega
      have a35172 : σ131.2.1 35 a = (xq143 : Int) := hx144
      have fx173 : RDX σ162 a Sx nx i147 (es148.foldl uC (es97.foldl uC (cx))) (Nx + 1 + 1 + m98 + 1 + m149 + 1) := RDX.ap fx153 w138 ha (hx144) F170 f165
      replace ha : OB T163 a 5 := gt164.ob ha
      have rp174 : RP σ162 a (kp - 4 * v90 - 10 * v137 + 5 + 1) := RP.app rp141 (hx144) F170 (by decide) (by decide) (by decide) (by decide) f165
      have rp175 : RP σ162 a (kp - 4 * v90 - 10 * v137 + 6) := RP.up rp174 (by omega)
      have mg176 : MG Tg gs T163 σ162 a ((mw150).put (rwI (8) (v9) (0))) := MG.app mgq155 (MG.cd mgq155 a35172) gt164 f165 f166 f167 (by omega)
      have mg176l : MG Tg gs T163 σ162 a ((mw150).jp ((mx).lab)) := by have q9 := MG.jp (m := mw150) mg176; rw [show v9 = (mx).lab from f7] at q9; exact q9
      show Tn _ _ 75 T163 σ162 [(3, .int (iI v119)), (2, .int (iI v9)), (0, .ref a), (1, .int (iI dp))] [] _
      refine tn_aload_n dX5_ring_75 rfl 2 rfl ?_
      obtain ⟨xq177, hx178, hk179⟩ : ∃ x : Nat, σ162.2.1 35 a = (x : Int) ∧ (T163 x).1 = 31 := wf_35 w169 ha
      have hk179o : OB T163 xq177 1 := ⟨by omega, by rw [hk179]; rfl, by omega⟩
      refine tn_getR (ci := 5) (i := 2) (n := 35) (x := xq177) dX5_ring_76 rfl lay_5 (by decide) fl5_47 ha rfl rfl (hx178) ?_
      refine tn_bipush dX5_ring_79 (by decide) ?_
      refine tn_iload_n dX5_ring_81 rfl 0 rfl ?_
      refine tn_iconst dX5_ring_82 ?_
      refine tn_callV (M := m_X5_ring) (pc := 83) (ix := 139) (ci := 1) (M' := m_X1_append) (As := [.int (iI 13), .int (iI v119), .int (iI 0)]) (rest := []) dX5_ring_83 ok_X1_append im_X1_append se_X1_append ml5_139 np_X1_append rfl rfl hk179o rfl (Nat.le_of_ble_eq_true rfl) (Nat.le_of_ble_eq_true rfl) rfl (k_append_c (d + 3 * lv + 57) (T := T163) (σ := σ162) (a := xq177) (k := 13) (p := v119) (q := 0) hk179o hk179 (by decide) (by omega) (by decide) w169 (RP.cnt rp175 w169 ha (hx178) (by omega)) (by omega)) (fun r181 T183 σ182 gt184 hp => ?_)
      obtain ⟨rfl, w189, F190, f185, f186, f187⟩ := hp
      have nn191 : 0 ≤ (((mw150).jp ((mx).lab))).n := by have z7 : WT T163 σ162 := w169; have z6 : σ162.2.1 35 a = (xq177 : Int) := hx178; have z9 := wf_6 z7 (code_ob z7 ha z6); have z8 := MG.e6 mg176l (MG.cd mg176l z6); omega
      have a35192 : σ162.2.1 35 a = (xq177 : Int) := hx178
      have fx193 : RDX σ182 a Sx nx i147 (es148.foldl uC (es97.foldl uC (cx))) (Nx + 1 + 1 + m98 + 1 + m149 + 1 + 1) := RDX.ap fx173 w169 ha (hx178) F190 f185
      replace ha : OB T183 a 5 := gt184.ob ha
      have rp194 : RP σ182 a (kp - 4 * v90 - 10 * v137 + 6 + 1) := RP.app rp175 (hx178) F190 (by decide) (by decide) (by decide) (by decide) f185
      have rp195 : RP σ182 a (kp - 4 * v90 - 10 * v137 + 7) := RP.up rp194 (by omega)
      have mg196 : MG Tg gs T183 σ182 a ((((mw150).jp ((mx).lab))).put (rwI (13) (v119) (0))) := MG.app mg176l (MG.cd mg176l a35192) gt184 f185 f186 f187 (by omega)
      have mg196l : MG Tg gs T183 σ182 a ((((mw150).jp ((mx).lab))).lb ((mw99).lab)) := by have q9 := MG.lb (m := ((mw150).jp ((mx).lab))) mg196; rw [show v119 = (mw99).lab from f116] at q9; exact q9
      show Tn _ _ 86 T183 σ182 [(3, .int (iI v119)), (2, .int (iI v9)), (0, .ref a), (1, .int (iI dp))] [] _
      refine tn_iconst dX5_ring_86 ?_
      have pc201 : GR Sx [52] i147 (0) (bx) u0 [] i147 (0) (bx) u0 2 [] := x52 hSb 
      have pm202 : CN nm mx.rt (es148.foldl uC (es97.foldl uC (cx))) (GW Sx nm rnQ tb1 [52] i147 (0) (bx) u0 (mw150.on ((mw99.on ((mx.push (5, 0, 0, [])).two)).one tb1)) [] i147 (0) (bx) u0 2 ((mw150.on ((mw99.on ((mx.push (5, 0, 0, [])).two)).one tb1)).two)) := fun hn9 => GW.of (gm52 hSb ) rfl
      have rd203 : GR Sx [22] jx 0 (bx) u0 [] i147 (0) (bx) u0 (0 + 0 + 2 + m98 + 1 + m149 + 2) (es97 ++ es148) := GR.g0 (l := [52]) (ms := []) [] rd159 pc201
      have rm204 : CN nm mx.rt (es148.foldl uC (es97.foldl uC (cx))) (GW Sx nm rnQ tb1 [22] jx 0 (bx) u0 mx [] i147 (0) (bx) u0 (0 + 0 + 2 + m98 + 1 + m149 + 2) ((mw150.on ((mw99.on ((mx.push (5, 0, 0, [])).two)).one tb1)).two)) := CN.gg (l := [52]) (ms := []) [] rm160 (fun q9 => q9) pm202
      have hz205e : ((mw150.on ((mw99.on ((mx.push (5, 0, 0, [])).two)).one tb1)).two) = (((((mw150).jp ((mx).lab))).lb ((mw99).lab))).on mx := rfl
      have hz205c : (es148.foldl uC (es97.foldl uC (cx))) = (es97 ++ es148).foldl uC cx := (by simp only [List.foldl_append, List.foldl_cons, List.foldl_nil])
      have hz205 : CN nm mx.rt ((es97 ++ es148).foldl uC cx) (GW Sx nm rnQ tb1 [22] jx 0 (bx) u0 mx [] i147 (0) (bx) u0 (0 + 0 + 2 + m98 + 1 + m149 + 2) ((((((mw150).jp ((mx).lab))).lb ((mw99).lab))).on mx)) := by
        have q9 := CN.up (c2 := es148.foldl uC (es97.foldl uC (cx))) rm204 (fun q9 => q9)
        rw [hz205e, hz205c] at q9
        exact q9
      have fe206 := RDX.nq (M := Nx + (0 + 0 + 2 + m98 + 1 + m149 + 2)) (RDX.cq (c2 := (es97 ++ es148).foldl uC cx) fx193 hz205c) (by omega)
      have fe206m : ((es97 ++ es148).foldl uC cx).m = σ131.2.1 45 a := (fe206.e45).symm.trans (rc_F F190 (Or.inl (by decide)) (by decide) (rc_F F170 (Or.inl (by decide)) (by decide) (rfl)))
      have ra199 : YSM σ182 a Sx nx bx [22] jx cx (Nx) bx [] ((jx : Int) + 1) nm Tg gs T183 mx (mx) (fun m9 => m9) := ⟨i147, es97 ++ es148, 0 + 0 + 2 + m98 + 1 + m149 + 2, ((((mw150).jp ((mx).lab))).lb ((mw99).lab)), (by omega), rd203, fe206, by rw [fe206m]; omega, (NI2.app ni103 ni154), mg196l, (MBD.put (MBD.put mb156)), hz205⟩
      exact tn_zret (v := 1) rfl (by decide) dX5_ring_87 ⟨_, rfl, w189, (((((((((FrC.rfl.trans (FrC.sub F11 (by decide))).trans (FrC.sub F27 (by decide))).trans (FrC.sub (FrC.old F47 gt21) (by decide))).trans (FrC.sub (FrC.old F70 (GT.trans gt21 gt41)) (by decide))).trans (FrC.sub (FrC.old F92 (GT.trans gt21 gt41)) (by decide))).trans (FrC.sub (FrC.old F121 (GT.trans (GT.trans gt21 gt41) gt86)) (by decide))).trans (FrC.sub (FrC.old F139 (GT.trans (GT.trans (GT.trans gt21 gt41) gt86) gt113)) (by decide))).trans (FrC.sub (FrC.old F170 (GT.trans (GT.trans (GT.trans (GT.trans gt21 gt41) gt86) gt113) gt133)) (by decide))).trans (FrC.sub (FrC.old F190 (GT.trans (GT.trans (GT.trans (GT.trans (GT.trans gt21 gt41) gt86) gt113) gt133) gt164)) (by decide))), by omega, ⟨fun _ => ra199, fun q => absurd q (by decide)⟩, (RP.up rp195 (by omega))⟩
    · refine tn_iconst dX5_ring_62 ?_
      obtain ⟨⟨pl209, g210, fx211⟩, nf212⟩ := f135.2 (by omega)
      have rf213 : GRF Sx [22] jx 0 (bx) u0 (pl209) := GR.fl (l := [28]) [52] rd126 g210
      have rb208 : YF σ131 a Sx bx [22] jx ∧ FG Tg gs T132 σ131 a := ⟨⟨_, rf213, fx211⟩, nf212⟩
      exact tn_zret (v := 0) rfl (by decide) dX5_ring_63 ⟨_, rfl, w138, (((((((FrC.rfl.trans (FrC.sub F11 (by decide))).trans (FrC.sub F27 (by decide))).trans (FrC.sub (FrC.old F47 gt21) (by decide))).trans (FrC.sub (FrC.old F70 (GT.trans gt21 gt41)) (by decide))).trans (FrC.sub (FrC.old F92 (GT.trans gt21 gt41)) (by decide))).trans (FrC.sub (FrC.old F121 (GT.trans (GT.trans gt21 gt41) gt86)) (by decide))).trans (FrC.sub (FrC.old F139 (GT.trans (GT.trans (GT.trans gt21 gt41) gt86) gt113)) (by decide))), by omega, ⟨fun q => absurd q (by decide), fun _ => rb208⟩, (RP.up rp141 (by omega))⟩
  · refine tn_iconst dX5_ring_45 ?_
    obtain ⟨⟨pl216, g217, fx218⟩, nf219⟩ := f88.2 (by omega)
    have g217g := g217 (bx) u0
    have rf220 : GRF Sx [22] jx 0 (bx) u0 (pl216) := GR.fl (l := [2]) [51, 28, 52] rd79 g217g
    have rb215 : YF σ84 a Sx bx [22] jx ∧ FG Tg gs T85 σ84 a := ⟨⟨_, rf220, fx218⟩, nf219⟩
    exact tn_zret (v := 0) rfl (by decide) dX5_ring_46 ⟨_, rfl, w91, (((((FrC.rfl.trans (FrC.sub F11 (by decide))).trans (FrC.sub F27 (by decide))).trans (FrC.sub (FrC.old F47 gt21) (by decide))).trans (FrC.sub (FrC.old F70 (GT.trans gt21 gt41)) (by decide))).trans (FrC.sub (FrC.old F92 (GT.trans gt21 gt41)) (by decide))), by omega, ⟨fun q => absurd q (by decide), fun _ => rb215⟩, (RP.up rp94 (by omega))⟩
end
section
set_option maxHeartbeats 1000000 in
set_option maxRecDepth 20000 in
theorem k_X5_statement_m (d : Nat) {T : CT} {σ : MS} {a : Nat} {dp : Int} {kp : Int} {lv : Nat} {Sx : Int → Int} {nx jx : Nat} {cx : CS} {Nx : Int} {Tg : CT} {gs : MS} {mx : MK} {nm : Int → Int64 → Int} {bx : Int} (ha : OB T a 5) (h_dp : -2147483648 ≤ dp ∧ dp ≤ 2147483647) (hw : WT T σ) (hex : ∀ (d : Nat) {T : CT} {σ : MS} {a : Nat} {dp : Int} {kp : Int} {Sx : Int → Int} {nx jx : Nat} {cx : CS} {Nx : Int} {Tg : CT} {gs : MS} {mx : MK} {nm : Int → Int64 → Int} {bx : Int} (ha : OB T a 5) (h_dp : -2147483648 ≤ dp ∧ dp ≤ 2147483647) (hw : WT T σ) (hdp : 1 ≤ dp ∧ dp ≤ 7) (hlv : 7 ≤ dp + (lv : Int)) (hfx : RDX σ a Sx nx jx cx Nx) (hmg : MG Tg gs T σ a mx) (hmb : MBD mx) (hgf : gs.1 5 = 0) (hb : bx = dp - 1) (hm : cx.m ≤ (jx : Int)) (hkp : kp ≤ 140) (hrp : RP σ a kp), Tn (d + 3 * lv + 60) m_X5_block 0 T σ [(0, .ref a), (1, .int (iI dp))] [] (fun ro T2 σ2 => ∃ v : Int, ro = some (.int (iI v)) ∧ WT T2 σ2 ∧ FrC T [5, 6, 7, 9, 42, 43, 44, 45, 46, 47, 50, 51, 84, 85, 86, 87, 518, 519, 520, 521] σ σ2 ∧ (v = 0 ∨ v = 1) ∧ (YQM σ2 a Sx nx bx [28] jx cx (Nx) 2 v nm Tg gs T2 mx (mx) (fun m9 => m9)) ∧ (RP σ2 a (kp + 2 - 10 * v)))) (hdp : 1 ≤ dp ∧ dp ≤ 6) (hlv : 6 ≤ dp + (lv : Int)) (hfx : RDX σ a Sx nx jx cx Nx) (hmg : MG Tg gs T σ a mx) (hmb : MBD mx) (hgf : gs.1 5 = 0) (hb : bx = dp) (hm : cx.m ≤ (jx : Int)) (hkp : kp ≤ 140) (hrp : RP σ a kp) : Tn (d + 3 * lv + 62) m_X5_statement 0 T σ [(0, .ref a), (1, .int (iI dp))] [] (fun ro T2 σ2 => ∃ v : Int, ro = some (.int (iI v)) ∧ WT T2 σ2 ∧ FrC T [5, 6, 7, 9, 42, 43, 44, 45, 46, 47, 50, 51, 84, 85, 86, 87, 518, 519, 520, 521] σ σ2 ∧ (v = 0 ∨ v = 1) ∧ (YQM σ2 a Sx nx bx [20] jx cx (Nx) 1 v nm Tg gs T2 mx (mx) (fun m9 => m9)) ∧ (RP σ2 a (kp + 2 - 8 * v))) := by
  have hSb := hfx.1.sb
  have e45 := hfx.e45
  have hpo9 := hfx.po
  unfold PO at hpo9
  have hjn := RDX.jn hfx hw ha
  refine tn_aload_n dX5_statement_0 rfl 0 rfl ?_
  refine tn_dup dX5_statement_1 rfl ?_
  refine tn_getI (ci := 5) (i := 12) (n := 45) (t := σ.2.1 45 a) dX5_statement_2 rfl lay_5 (by decide) fl5_64 ha rfl rfl (rfl) ?_
  have g1 : ((-2147483648 : Int) ≤ σ.2.1 45 a ∧ σ.2.1 45 a ≤ 2147483647) := wf_45 hw ha
  refine tn_iconst dX5_statement_5 ?_
  refine tn_iadd dX5_statement_6 ?_
  refine tn_putV (ci := 5) (i := 12) (n := 45) (r := false) (v := (σ.2.1 45 a) + 1) tyX5 tyX5_ok nmX5 dX5_statement_7 rfl lay_5 (by decide) fl5_64 rfl (tyX5_ok 12 (by decide)) rfl rfl rfl ha rfl rfl ?_
  have fx2 : RDX (sA 45 a ((σ.2.1 45 a) + 1) σ) a Sx nx jx (msC (cx.m + 1) cx) Nx := by have q9 := RDX.sm hfx hm; rw [← e45] at q9 ⊢; exact q9
  refine tn_aload_n dX5_statement_10 rfl 0 rfl ?_
  refine tn_getI (ci := 5) (i := 12) (n := 45) (t := (σ.2.1 45 a) + 1) dX5_statement_11 rfl lay_5 (by decide) fl5_64 ha rfl rfl (ra_eq) ?_
  refine tn_bipush dX5_statement_14 (by decide) ?_
  refine tn_icmp_le (tgt := 31) dX5_statement_16 (by decide) ⟨by omega, by omega⟩ ⟨by decide, by decide⟩ (fun h3 => ?_) (fun h3 => ?_)
  · refine tn_aload_n dX5_statement_31 rfl 0 rfl ?_
    obtain ⟨xq4, hx5, hk6⟩ : ∃ x : Nat, σ.2.1 35 a = (x : Int) ∧ (T x).1 = 31 := wf_35 hw ha
    have hk6o : OB T xq4 1 := ⟨by omega, by rw [hk6]; rfl, by omega⟩
    refine tn_getR (ci := 5) (i := 2) (n := 35) (x := xq4) dX5_statement_32 rfl lay_5 (by decide) fl5_47 ha rfl rfl (rc_o (by decide) (hx5)) ?_
    refine tn_getI (ci := 1) (i := 4) (n := 9) (t := σ.2.1 9 xq4) dX5_statement_35 rfl lay_1 (by decide) fl5_186 hk6o rfl rfl (rc_o (by decide) (rfl)) ?_
    have g8 : ((-2147483648 : Int) ≤ σ.2.1 9 xq4 ∧ σ.2.1 9 xq4 ≤ 2147483647) := wf_9 hw hk6o
    have mg9 : MG Tg gs T (sA 45 a ((σ.2.1 45 a) + 1) σ) a ((mx).sN ((σ.2.1 45 a) + 1)) := (MG.f45 hmg)
    have g8fs : σ.2.1 9 xq4 = mx.fs := by have z0 := MG.e9 mg9 (MG.cd mg9 (show (sA 45 a ((σ.2.1 45 a) + 1) σ).2.1 35 a = (xq4 : Int) from rc_o (by decide) (hx5))); have z1 : (sA 45 a ((σ.2.1 45 a) + 1) σ).2.1 9 xq4 = mx.fs := z0; have z2 : (sA 45 a ((σ.2.1 45 a) + 1) σ).2.1 9 xq4 = σ.2.1 9 xq4 := rc_o (by decide) (rfl); omega
    refine tn_if_ne (tgt := 52) dX5_statement_38 (by decide) ⟨by omega, by omega⟩ (fun h10 => ?_) (fun h10 => ?_)
    · have fx11 : RDX (sA 45 a ((σ.2.1 45 a) + 1) σ) a Sx nx jx (uC cx (5, (tkS Sx jx).1, 0, 0)) Nx := RDX.cq fx2 (by rw [uC5n (by omega)])
      have mgs12 : MG Tg gs T (sA 45 a ((σ.2.1 45 a) + 1) σ) a mx.stm := MG.st0 (m := mx) mg9 (by have z0 := MG.e45 hmg; have z1 : σ.2.1 45 a = mx.ln := z0; have y0 : (sA 45 a ((σ.2.1 45 a) + 1) σ).2.1 45 a = (σ.2.1 45 a) + 1 := ra_eq; have y1 : (sA 45 a ((σ.2.1 45 a) + 1) σ).2.1 45 a = (σ.2.1 45 a) + 1 := ra_eq; omega) (by omega)
      refine tn_aload_n dX5_statement_52 rfl 0 rfl ?_
      obtain ⟨xq13, hx14, hk15⟩ : ∃ x : Nat, σ.2.1 33 a = (x : Int) ∧ (T x).1 = 39 := wf_33 hw ha
      have hk15o : OB T xq13 9 := ⟨by omega, by rw [hk15]; rfl, by omega⟩
      refine tn_getR (ci := 5) (i := 0) (n := 33) (x := xq13) dX5_statement_53 rfl lay_5 (by decide) fl5_12 ha rfl rfl (rc_o (by decide) (hx14)) ?_
      refine tn_getI (ci := 9) (i := 4) (n := 85) (t := σ.2.1 85 xq13) dX5_statement_56 rfl lay_9 (by decide) fl5_71 hk15o rfl rfl (rc_o (by decide) (rfl)) ?_
      have g17 : ((-2147483648 : Int) ≤ σ.2.1 85 xq13 ∧ σ.2.1 85 xq13 ≤ 2147483647) := wf_85 hw hk15o
      have g17kd : σ.2.1 85 xq13 = ckd (tkS Sx jx) := (rc_o (by decide) (rfl)).symm.trans ((fx11).1.kd (rc_o (by decide) (hx14)))
      by_cases h18 : σ.2.1 85 xq13 < 256 ∨ 262 < σ.2.1 85 xq13
      · refine tn_tableOut (tgt := 131) dX5_statement_59 (x := σ.2.1 85 xq13) ⟨by omega, by omega⟩ h18 (by decide) ?_
        refine tn_aload_n dX5_statement_131 rfl 0 rfl ?_
        refine tn_callV (M := m_X5_statement) (pc := 132) (ix := 90) (ci := 5) (M' := m_X5_refuse) (As := []) (rest := []) dX5_statement_132 ok_X5_refuse im_X5_refuse se_X5_refuse ml5_90 np_X5_refuse rfl rfl ha rfl (Nat.le_of_ble_eq_true rfl) (Nat.le_of_ble_eq_true rfl) rfl (k_X5_refuse_m (d + 3 * lv + 60) (T := T) (σ := (sA 45 a ((σ.2.1 45 a) + 1) σ)) (a := a) ha (hw.put (by decide) (by decide) (fo_45 (by omega))) (fx11).1.1) (fun r19 T21 σ20 gt22 hp => ?_)
        obtain ⟨v28, rfl, rfl, w29, F30, f23, f24, f25, f26, f27⟩ := hp
        clear gt22
        have pc31 : GRF Sx [20] jx (0) (bx) u0 (tkS Sx jx).1 := x20f hSb (by omega)
        have rf320 : GR Sx [20] jx 0 (bx) u0 [20] jx (0) (bx) u0 (0) ([]) := GR.nl
        have rf32 : GRF Sx [20] jx 0 (bx) u0 ((tkS Sx jx).1) := GR.fl (l := [20]) [] rf320 pc31
        have rp33 : RP σ20 a (kp) := RP.frc (hrp.put (by decide)) F30 (by decide) (by decide) (by decide) (by decide) (by decide)
        show Tn _ _ 135 T σ20 [(0, .ref a), (1, .int (iI dp))] [.int (iI v28)] _
        have mg36 : MG Tg gs T σ20 a mx.stm := (MG.nt mgs12 f27)
        have rb35 : YF σ20 a Sx bx [20] jx ∧ FG Tg gs T σ20 a := ⟨⟨_, rf32, f25⟩, (mg36).1⟩
        exact tn_zret (v := v28) rfl (by omega) dX5_statement_135 ⟨_, rfl, w29, ((FrC.rfl.put (by decide) (by decide)).trans (FrC.sub F30 (by decide))), by omega, ⟨fun q => absurd q (by omega), fun _ => rb35⟩, (RP.up rp33 (by omega))⟩
      · have h37 : σ.2.1 85 xq13 = 256 ∨ σ.2.1 85 xq13 = 257 ∨ σ.2.1 85 xq13 = 258 ∨ σ.2.1 85 xq13 = 259 ∨ σ.2.1 85 xq13 = 260 ∨ σ.2.1 85 xq13 = 261 ∨ σ.2.1 85 xq13 = 262 := by omega
        rcases h37 with h37 | h37 | h37 | h37 | h37 | h37 | h37
        · refine tn_tableIn (tgt := 100) (off := 41) dX5_statement_59 (x := σ.2.1 85 xq13) ⟨by omega, by omega⟩ (by omega) (by omega) (by rw [h37]; rfl) (by decide) ?_
          refine tn_aload_n dX5_statement_100 rfl 0 rfl ?_
          have pc38 : GR Sx [20] jx (0) (bx) u0 [51, 23] jx (0) (bx) u0 0 [(5, (tkS Sx jx).1, 0, 0)] := x20n hSb (by omega)
          have pm39 : CN nm mx.rt (uC cx (5, (tkS Sx jx).1, 0, 0)) (GW Sx nm rnQ tb1 [20] jx (0) (bx) u0 mx [51, 23] jx (0) (bx) u0 0 (mx.stm.push (1, 0, 0, []))) := fun hn9 => GW.of (gm20n hSb (by omega)) rfl
          have rd400 : GR Sx [20] jx 0 (bx) u0 [20] jx (0) (bx) u0 (0) ([]) := GR.nl
          have rd40a : GR Sx [20] jx 0 (bx) u0 [51, 23] jx (0) (bx) u0 (0 + 0) ([] ++ [(5, (tkS Sx jx).1, 0, 0)]) := GR.gg (l := [20]) (ms := [51, 23]) [] rd400 pc38
          have rd40 : GR Sx [20] jx 0 (bx) u0 [51, 23] jx (0) (bx) u0 (0 + 0) ([(5, (tkS Sx jx).1, 0, 0)]) := rd40a
          have rm410 : CN nm mx.rt (cx) (GW Sx nm rnQ tb1 [20] jx 0 (bx) u0 mx [20] jx (0) (bx) u0 (0) mx) := fun _ => GW.nl
          have rm41 : CN nm mx.rt (uC cx (5, (tkS Sx jx).1, 0, 0)) (GW Sx nm rnQ tb1 [20] jx 0 (bx) u0 mx [51, 23] jx (0) (bx) u0 (0 + 0) (mx.stm.push (1, 0, 0, []))) := CN.gg (l := [20]) (ms := [51, 23]) [] rm410 (fun q9 => (fun q9 => q9) (NMA.up (show (5 : Int) ≠ 2 by decide) q9)) pm39
          refine tn_callV (M := m_X5_statement) (pc := 101) (ix := 189) (ci := 5) (M' := m_X5_assignment) (As := []) (rest := []) dX5_statement_101 ok_X5_assignment im_X5_assignment se_X5_assignment ml5_189 np_X5_assignment rfl rfl ha rfl (Nat.le_of_ble_eq_true rfl) (Nat.le_of_ble_eq_true rfl) rfl (k_X5_assignment_m (d + 3 * lv + 9) (T := T) (σ := (sA 45 a ((σ.2.1 45 a) + 1) σ)) (a := a) (kp := kp) (bx := bx) (nm := nm) (Tg := Tg) (gs := gs) (mx := mx.stm) ha (hw.put (by decide) (by decide) (fo_45 (by omega))) fx11 mgs12 (MBD.st hmb) hgf (by omega) (by omega) (hrp.put (by decide))) (fun r42 T44 σ43 gt45 hp => ?_)
          obtain ⟨v49, rfl, w50, F51, f46, f47, f48⟩ := hp
          replace ha : OB T44 a 5 := gt45.ob ha
          have rp53 : RP σ43 a (kp - 10 * v49 + 1) := RP.up f48 (by omega)
          show Tn _ _ 104 T44 σ43 [(0, .ref a), (1, .int (iI dp))] [.int (iI v49)] _
          have ra54 : v49 = 1 → YSM σ43 a Sx nx bx [20] jx cx (Nx) bx [] ((jx : Int) + 1) nm Tg gs T44 mx (mx) (fun m9 => m9) := fun hv => by
            obtain ⟨i56, es57, m58, mw59, lo60, rr61, fx62, fx62m, ni63, mgq64, mb65, cn66⟩ := f47.1 hv
            have fx62s : σ43.2.1 45 a ≤ (i56 : Int) := by rw [fx62.e45]; exact fx62m
            have pm67 : CN nm mx.rt (es57.foldl uC (uC cx (5, (tkS Sx jx).1, 0, 0))) (GW Sx nm rnQ tb1 [51, 23] jx (0) (bx) u0 (mx.stm.push (1, 0, 0, [])) [] i56 (0) (bx) u0 m58 (mw59.on mx.stm)) := cn66
            have rd68 : GR Sx [20] jx 0 (bx) u0 [] i56 (0) (bx) u0 (0 + 0 + m58) ([(5, (tkS Sx jx).1, 0, 0)] ++ es57) := GR.gg (l := [51, 23]) (ms := []) [] rd40 rr61
            have rm69 : CN nm mx.rt (es57.foldl uC (uC cx (5, (tkS Sx jx).1, 0, 0))) (GW Sx nm rnQ tb1 [20] jx 0 (bx) u0 mx [] i56 (0) (bx) u0 (0 + 0 + m58) (mw59.on mx.stm)) := CN.gg (l := [51, 23]) (ms := []) [] rm41 (fun q9 => (fun q9 => q9) (NMA.fo ni63 q9)) pm67
            have hz70e : (mw59.on mx.stm) = (mw59).on mx := rfl
            have hz70c : (es57.foldl uC (uC cx (5, (tkS Sx jx).1, 0, 0))) = ([(5, (tkS Sx jx).1, 0, 0)] ++ es57).foldl uC cx := (by simp only [List.foldl_append, List.foldl_cons, List.foldl_nil])
            have hz70 : CN nm mx.rt (([(5, (tkS Sx jx).1, 0, 0)] ++ es57).foldl uC cx) (GW Sx nm rnQ tb1 [20] jx 0 (bx) u0 mx [] i56 (0) (bx) u0 (0 + 0 + m58) ((mw59).on mx)) := by
              have q9 := CN.up (c2 := es57.foldl uC (uC cx (5, (tkS Sx jx).1, 0, 0))) rm69 (fun q9 => q9)
              rw [hz70e, hz70c] at q9
              exact q9
            have fe71 := RDX.nq (M := Nx + (0 + 0 + m58)) (RDX.cq (c2 := ([(5, (tkS Sx jx).1, 0, 0)] ++ es57).foldl uC cx) fx62 hz70c) (by omega)
            have fe71m : (([(5, (tkS Sx jx).1, 0, 0)] ++ es57).foldl uC cx).m = (σ.2.1 45 a) + 1 := (fe71.e45).symm.trans (rc_F F51 (Or.inl (by decide)) (by decide) (ra_eq))
            exact ⟨i56, [(5, (tkS Sx jx).1, 0, 0)] ++ es57, 0 + 0 + m58, mw59, (by omega), rd68, fe71, by rw [fe71m]; omega, (NI2.app (NI2.one (show (5 : Int) ≠ 2 by decide)) ni63), mgq64, mb65, hz70⟩
          have rb55 : v49 = 0 → YF σ43 a Sx bx [20] jx ∧ FG Tg gs T44 σ43 a := fun hv => by
            obtain ⟨⟨pl72, g73, fx74⟩, nf75⟩ := f47.2 hv
            have rf76 : GRF Sx [20] jx 0 (bx) u0 (pl72) := GR.fl (l := [51, 23]) [] rd40 g73
            exact ⟨⟨_, rf76, fx74⟩, nf75⟩
          exact tn_zret (v := v49) rfl (by omega) dX5_statement_104 ⟨_, rfl, w50, ((FrC.rfl.put (by decide) (by decide)).trans (FrC.sub F51 (by decide))), by omega, ⟨ra54, rb55⟩, (RP.up rp53 (by omega))⟩
        · refine tn_tableIn (tgt := 131) (off := 72) dX5_statement_59 (x := σ.2.1 85 xq13) ⟨by omega, by omega⟩ (by omega) (by omega) (by rw [h37]; rfl) (by decide) ?_
          refine tn_aload_n dX5_statement_131 rfl 0 rfl ?_
          refine tn_callV (M := m_X5_statement) (pc := 132) (ix := 90) (ci := 5) (M' := m_X5_refuse) (As := []) (rest := []) dX5_statement_132 ok_X5_refuse im_X5_refuse se_X5_refuse ml5_90 np_X5_refuse rfl rfl ha rfl (Nat.le_of_ble_eq_true rfl) (Nat.le_of_ble_eq_true rfl) rfl (k_X5_refuse_m (d + 3 * lv + 60) (T := T) (σ := (sA 45 a ((σ.2.1 45 a) + 1) σ)) (a := a) ha (hw.put (by decide) (by decide) (fo_45 (by omega))) (fx11).1.1) (fun r77 T79 σ78 gt80 hp => ?_)
          obtain ⟨v86, rfl, rfl, w87, F88, f81, f82, f83, f84, f85⟩ := hp
          clear gt80
          have pc89 : GRF Sx [20] jx (0) (bx) u0 (tkS Sx jx).1 := x20f hSb (by omega)
          have rf900 : GR Sx [20] jx 0 (bx) u0 [20] jx (0) (bx) u0 (0) ([]) := GR.nl
          have rf90 : GRF Sx [20] jx 0 (bx) u0 ((tkS Sx jx).1) := GR.fl (l := [20]) [] rf900 pc89
          have rp91 : RP σ78 a (kp) := RP.frc (hrp.put (by decide)) F88 (by decide) (by decide) (by decide) (by decide) (by decide)
          show Tn _ _ 135 T σ78 [(0, .ref a), (1, .int (iI dp))] [.int (iI v86)] _
          have mg94 : MG Tg gs T σ78 a mx.stm := (MG.nt mgs12 f85)
          have rb93 : YF σ78 a Sx bx [20] jx ∧ FG Tg gs T σ78 a := ⟨⟨_, rf90, f83⟩, (mg94).1⟩
          exact tn_zret (v := v86) rfl (by omega) dX5_statement_135 ⟨_, rfl, w87, ((FrC.rfl.put (by decide) (by decide)).trans (FrC.sub F88 (by decide))), by omega, ⟨fun q => absurd q (by omega), fun _ => rb93⟩, (RP.up rp91 (by omega))⟩
        · refine tn_tableIn (tgt := 105) (off := 46) dX5_statement_59 (x := σ.2.1 85 xq13) ⟨by omega, by omega⟩ (by omega) (by omega) (by rw [h37]; rfl) (by decide) ?_
          refine tn_aload_n dX5_statement_105 rfl 0 rfl ?_
          refine tn_bipush dX5_statement_106 (by decide) ?_
          have pc95 : GR Sx [20] jx (0) (bx) u0 [51, 39] jx (0) (bx) u0 0 [(5, (tkS Sx jx).1, 0, 0)] := x20o hSb (by omega)
          have pm96 : CN nm mx.rt (uC cx (5, (tkS Sx jx).1, 0, 0)) (GW Sx nm rnQ tb1 [20] jx (0) (bx) u0 mx [51, 39] jx (0) (bx) u0 0 (mx.stm.push (1, 0, 0, []))) := fun hn9 => GW.of (gm20o hSb (by omega)) rfl
          have rd970 : GR Sx [20] jx 0 (bx) u0 [20] jx (0) (bx) u0 (0) ([]) := GR.nl
          have rd97a : GR Sx [20] jx 0 (bx) u0 [51, 39] jx (0) (bx) u0 (0 + 0) ([] ++ [(5, (tkS Sx jx).1, 0, 0)]) := GR.gg (l := [20]) (ms := [51, 39]) [] rd970 pc95
          have rd97 : GR Sx [20] jx 0 (bx) u0 [51, 39] jx (0) (bx) u0 (0 + 0) ([(5, (tkS Sx jx).1, 0, 0)]) := rd97a
          have rm980 : CN nm mx.rt (cx) (GW Sx nm rnQ tb1 [20] jx 0 (bx) u0 mx [20] jx (0) (bx) u0 (0) mx) := fun _ => GW.nl
          have rm98 : CN nm mx.rt (uC cx (5, (tkS Sx jx).1, 0, 0)) (GW Sx nm rnQ tb1 [20] jx 0 (bx) u0 mx [51, 39] jx (0) (bx) u0 (0 + 0) (mx.stm.push (1, 0, 0, []))) := CN.gg (l := [20]) (ms := [51, 39]) [] rm980 (fun q9 => (fun q9 => q9) (NMA.up (show (5 : Int) ≠ 2 by decide) q9)) pm96
          refine tn_callV (M := m_X5_statement) (pc := 108) (ix := 192) (ci := 5) (M' := m_X5_single) (As := [.int (iI 6)]) (rest := []) dX5_statement_108 ok_X5_single im_X5_single se_X5_single ml5_192 np_X5_single rfl rfl ha rfl (Nat.le_of_ble_eq_true rfl) (Nat.le_of_ble_eq_true rfl) rfl (k_X5_single_mo (d + 3 * lv + 10) (T := T) (σ := (sA 45 a ((σ.2.1 45 a) + 1) σ)) (a := a) (k := 6) (kp := kp) (bx := bx) (nm := nm) (Tg := Tg) (gs := gs) (mx := mx.stm) ha (by decide) (hw.put (by decide) (by decide) (fo_45 (by omega))) rfl fx11 mgs12 (MBD.st hmb) (by omega) (by omega) (hrp.put (by decide))) (fun r99 T101 σ100 gt102 hp => ?_)
          obtain ⟨v106, rfl, w107, F108, f103, f104, f105⟩ := hp
          replace ha : OB T101 a 5 := gt102.ob ha
          have rp110 : RP σ100 a (kp - 7 * v106 + 1) := RP.up f105 (by omega)
          show Tn _ _ 111 T101 σ100 [(0, .ref a), (1, .int (iI dp))] [.int (iI v106)] _
          have ra111 : v106 = 1 → YSM σ100 a Sx nx bx [20] jx cx (Nx) bx [] ((jx : Int) + 1) nm Tg gs T101 mx (mx) (fun m9 => m9) := fun hv => by
            obtain ⟨i113, es114, m115, mw116, lo117, rr118, fx119, fx119m, ni120, mgq121, mb122, cn123⟩ := f104.1 hv
            have fx119s : σ100.2.1 45 a ≤ (i113 : Int) := by rw [fx119.e45]; exact fx119m
            have pm124 : CN nm mx.rt (es114.foldl uC (uC cx (5, (tkS Sx jx).1, 0, 0))) (GW Sx nm rnQ tb1 [51, 39] jx (0) (bx) u0 (mx.stm.push (1, 0, 0, [])) [] i113 (0) (bx) u0 m115 (mw116.on mx.stm)) := cn123
            have rd125 : GR Sx [20] jx 0 (bx) u0 [] i113 (0) (bx) u0 (0 + 0 + m115) ([(5, (tkS Sx jx).1, 0, 0)] ++ es114) := GR.gg (l := [51, 39]) (ms := []) [] rd97 rr118
            have rm126 : CN nm mx.rt (es114.foldl uC (uC cx (5, (tkS Sx jx).1, 0, 0))) (GW Sx nm rnQ tb1 [20] jx 0 (bx) u0 mx [] i113 (0) (bx) u0 (0 + 0 + m115) (mw116.on mx.stm)) := CN.gg (l := [51, 39]) (ms := []) [] rm98 (fun q9 => (fun q9 => q9) (NMA.fo ni120 q9)) pm124
            have hz127e : (mw116.on mx.stm) = (mw116).on mx := rfl
            have hz127c : (es114.foldl uC (uC cx (5, (tkS Sx jx).1, 0, 0))) = ([(5, (tkS Sx jx).1, 0, 0)] ++ es114).foldl uC cx := (by simp only [List.foldl_append, List.foldl_cons, List.foldl_nil])
            have hz127 : CN nm mx.rt (([(5, (tkS Sx jx).1, 0, 0)] ++ es114).foldl uC cx) (GW Sx nm rnQ tb1 [20] jx 0 (bx) u0 mx [] i113 (0) (bx) u0 (0 + 0 + m115) ((mw116).on mx)) := by
              have q9 := CN.up (c2 := es114.foldl uC (uC cx (5, (tkS Sx jx).1, 0, 0))) rm126 (fun q9 => q9)
              rw [hz127e, hz127c] at q9
              exact q9
            have fe128 := RDX.nq (M := Nx + (0 + 0 + m115)) (RDX.cq (c2 := ([(5, (tkS Sx jx).1, 0, 0)] ++ es114).foldl uC cx) fx119 hz127c) (by omega)
            have fe128m : (([(5, (tkS Sx jx).1, 0, 0)] ++ es114).foldl uC cx).m = (σ.2.1 45 a) + 1 := (fe128.e45).symm.trans (rc_F F108 (Or.inl (by decide)) (by decide) (ra_eq))
            exact ⟨i113, [(5, (tkS Sx jx).1, 0, 0)] ++ es114, 0 + 0 + m115, mw116, (by omega), rd125, fe128, by rw [fe128m]; omega, (NI2.app (NI2.one (show (5 : Int) ≠ 2 by decide)) ni120), mgq121, mb122, hz127⟩
          have rb112 : v106 = 0 → YF σ100 a Sx bx [20] jx ∧ FG Tg gs T101 σ100 a := fun hv => by
            obtain ⟨⟨pl129, g130, fx131⟩, nf132⟩ := f104.2 hv
            have rf133 : GRF Sx [20] jx 0 (bx) u0 (pl129) := GR.fl (l := [51, 39]) [] rd97 g130
            exact ⟨⟨_, rf133, fx131⟩, nf132⟩
          exact tn_zret (v := v106) rfl (by omega) dX5_statement_111 ⟨_, rfl, w107, ((FrC.rfl.put (by decide) (by decide)).trans (FrC.sub F108 (by decide))), by omega, ⟨ra111, rb112⟩, (RP.up rp110 (by omega))⟩
        · refine tn_tableIn (tgt := 112) (off := 53) dX5_statement_59 (x := σ.2.1 85 xq13) ⟨by omega, by omega⟩ (by omega) (by omega) (by rw [h37]; rfl) (by decide) ?_
          refine tn_aload_n dX5_statement_112 rfl 0 rfl ?_
          refine tn_bipush dX5_statement_113 (by decide) ?_
          have pc134 : GR Sx [20] jx (0) (bx) u0 [51, 39] jx (0) (bx) u0 0 [(5, (tkS Sx jx).1, 0, 0)] := x20r hSb (by omega)
          have pm135 : CN nm mx.rt (uC cx (5, (tkS Sx jx).1, 0, 0)) (GW Sx nm rnQ tb1 [20] jx (0) (bx) u0 mx [51, 39] jx (0) (bx) u0 0 (mx.stm.push (1, 0, 0, []))) := fun hn9 => GW.of (gm20r hSb (by omega)) rfl
          have rd1360 : GR Sx [20] jx 0 (bx) u0 [20] jx (0) (bx) u0 (0) ([]) := GR.nl
          have rd136a : GR Sx [20] jx 0 (bx) u0 [51, 39] jx (0) (bx) u0 (0 + 0) ([] ++ [(5, (tkS Sx jx).1, 0, 0)]) := GR.gg (l := [20]) (ms := [51, 39]) [] rd1360 pc134
          have rd136 : GR Sx [20] jx 0 (bx) u0 [51, 39] jx (0) (bx) u0 (0 + 0) ([(5, (tkS Sx jx).1, 0, 0)]) := rd136a
          have rm1370 : CN nm mx.rt (cx) (GW Sx nm rnQ tb1 [20] jx 0 (bx) u0 mx [20] jx (0) (bx) u0 (0) mx) := fun _ => GW.nl
          have rm137 : CN nm mx.rt (uC cx (5, (tkS Sx jx).1, 0, 0)) (GW Sx nm rnQ tb1 [20] jx 0 (bx) u0 mx [51, 39] jx (0) (bx) u0 (0 + 0) (mx.stm.push (1, 0, 0, []))) := CN.gg (l := [20]) (ms := [51, 39]) [] rm1370 (fun q9 => (fun q9 => q9) (NMA.up (show (5 : Int) ≠ 2 by decide) q9)) pm135
          refine tn_callV (M := m_X5_statement) (pc := 115) (ix := 192) (ci := 5) (M' := m_X5_single) (As := [.int (iI 7)]) (rest := []) dX5_statement_115 ok_X5_single im_X5_single se_X5_single ml5_192 np_X5_single rfl rfl ha rfl (Nat.le_of_ble_eq_true rfl) (Nat.le_of_ble_eq_true rfl) rfl (k_X5_single_mr (d + 3 * lv + 10) (T := T) (σ := (sA 45 a ((σ.2.1 45 a) + 1) σ)) (a := a) (k := 7) (kp := kp) (bx := bx) (nm := nm) (Tg := Tg) (gs := gs) (mx := mx.stm) ha (by decide) (hw.put (by decide) (by decide) (fo_45 (by omega))) rfl fx11 mgs12 (MBD.st hmb) (by omega) (by omega) (hrp.put (by decide))) (fun r138 T140 σ139 gt141 hp => ?_)
          obtain ⟨v145, rfl, w146, F147, f142, f143, f144⟩ := hp
          replace ha : OB T140 a 5 := gt141.ob ha
          have rp149 : RP σ139 a (kp - 7 * v145 + 1) := RP.up f144 (by omega)
          show Tn _ _ 118 T140 σ139 [(0, .ref a), (1, .int (iI dp))] [.int (iI v145)] _
          have ra150 : v145 = 1 → YSM σ139 a Sx nx bx [20] jx cx (Nx) bx [] ((jx : Int) + 1) nm Tg gs T140 mx (mx) (fun m9 => m9) := fun hv => by
            obtain ⟨i152, es153, m154, mw155, lo156, rr157, fx158, fx158m, ni159, mgq160, mb161, cn162⟩ := f143.1 hv
            have fx158s : σ139.2.1 45 a ≤ (i152 : Int) := by rw [fx158.e45]; exact fx158m
            have pm163 : CN nm mx.rt (es153.foldl uC (uC cx (5, (tkS Sx jx).1, 0, 0))) (GW Sx nm rnQ tb1 [51, 39] jx (0) (bx) u0 (mx.stm.push (1, 0, 0, [])) [] i152 (0) (bx) u0 m154 (mw155.on mx.stm)) := cn162
            have rd164 : GR Sx [20] jx 0 (bx) u0 [] i152 (0) (bx) u0 (0 + 0 + m154) ([(5, (tkS Sx jx).1, 0, 0)] ++ es153) := GR.gg (l := [51, 39]) (ms := []) [] rd136 rr157
            have rm165 : CN nm mx.rt (es153.foldl uC (uC cx (5, (tkS Sx jx).1, 0, 0))) (GW Sx nm rnQ tb1 [20] jx 0 (bx) u0 mx [] i152 (0) (bx) u0 (0 + 0 + m154) (mw155.on mx.stm)) := CN.gg (l := [51, 39]) (ms := []) [] rm137 (fun q9 => (fun q9 => q9) (NMA.fo ni159 q9)) pm163
            have hz166e : (mw155.on mx.stm) = (mw155).on mx := rfl
            have hz166c : (es153.foldl uC (uC cx (5, (tkS Sx jx).1, 0, 0))) = ([(5, (tkS Sx jx).1, 0, 0)] ++ es153).foldl uC cx := (by simp only [List.foldl_append, List.foldl_cons, List.foldl_nil])
            have hz166 : CN nm mx.rt (([(5, (tkS Sx jx).1, 0, 0)] ++ es153).foldl uC cx) (GW Sx nm rnQ tb1 [20] jx 0 (bx) u0 mx [] i152 (0) (bx) u0 (0 + 0 + m154) ((mw155).on mx)) := by
              have q9 := CN.up (c2 := es153.foldl uC (uC cx (5, (tkS Sx jx).1, 0, 0))) rm165 (fun q9 => q9)
              rw [hz166e, hz166c] at q9
              exact q9
            have fe167 := RDX.nq (M := Nx + (0 + 0 + m154)) (RDX.cq (c2 := ([(5, (tkS Sx jx).1, 0, 0)] ++ es153).foldl uC cx) fx158 hz166c) (by omega)
            have fe167m : (([(5, (tkS Sx jx).1, 0, 0)] ++ es153).foldl uC cx).m = (σ.2.1 45 a) + 1 := (fe167.e45).symm.trans (rc_F F147 (Or.inl (by decide)) (by decide) (ra_eq))
            exact ⟨i152, [(5, (tkS Sx jx).1, 0, 0)] ++ es153, 0 + 0 + m154, mw155, (by omega), rd164, fe167, by rw [fe167m]; omega, (NI2.app (NI2.one (show (5 : Int) ≠ 2 by decide)) ni159), mgq160, mb161, hz166⟩
          have rb151 : v145 = 0 → YF σ139 a Sx bx [20] jx ∧ FG Tg gs T140 σ139 a := fun hv => by
            obtain ⟨⟨pl168, g169, fx170⟩, nf171⟩ := f143.2 hv
            have rf172 : GRF Sx [20] jx 0 (bx) u0 (pl168) := GR.fl (l := [51, 39]) [] rd136 g169
            exact ⟨⟨_, rf172, fx170⟩, nf171⟩
          exact tn_zret (v := v145) rfl (by omega) dX5_statement_118 ⟨_, rfl, w146, ((FrC.rfl.put (by decide) (by decide)).trans (FrC.sub F147 (by decide))), by omega, ⟨ra150, rb151⟩, (RP.up rp149 (by omega))⟩
        · refine tn_tableIn (tgt := 119) (off := 60) dX5_statement_59 (x := σ.2.1 85 xq13) ⟨by omega, by omega⟩ (by omega) (by omega) (by rw [h37]; rfl) (by decide) ?_
          refine tn_aload_n dX5_statement_119 rfl 0 rfl ?_
          refine tn_iload_n dX5_statement_120 rfl 1 rfl ?_
          have pc173 : GR Sx [20] jx (0) (bx) u0 [51, 21] jx (0) (bx) u0 0 [(5, (tkS Sx jx).1, 0, 0)] := x20i hSb (by omega)
          have pm174 : CN nm mx.rt (uC cx (5, (tkS Sx jx).1, 0, 0)) (GW Sx nm rnQ tb1 [20] jx (0) (bx) u0 mx [51, 21] jx (0) (bx) u0 0 (mx.stm.push (1, 0, 0, []))) := fun hn9 => GW.of (gm20i hSb (by omega)) rfl
          have rd1750 : GR Sx [20] jx 0 (bx) u0 [20] jx (0) (bx) u0 (0) ([]) := GR.nl
          have rd175a : GR Sx [20] jx 0 (bx) u0 [51, 21] jx (0) (bx) u0 (0 + 0) ([] ++ [(5, (tkS Sx jx).1, 0, 0)]) := GR.gg (l := [20]) (ms := [51, 21]) [] rd1750 pc173
          have rd175 : GR Sx [20] jx 0 (bx) u0 [51, 21] jx (0) (bx) u0 (0 + 0) ([(5, (tkS Sx jx).1, 0, 0)]) := rd175a
          have rm1760 : CN nm mx.rt (cx) (GW Sx nm rnQ tb1 [20] jx 0 (bx) u0 mx [20] jx (0) (bx) u0 (0) mx) := fun _ => GW.nl
          have rm176 : CN nm mx.rt (uC cx (5, (tkS Sx jx).1, 0, 0)) (GW Sx nm rnQ tb1 [20] jx 0 (bx) u0 mx [51, 21] jx (0) (bx) u0 (0 + 0) (mx.stm.push (1, 0, 0, []))) := CN.gg (l := [20]) (ms := [51, 21]) [] rm1760 (fun q9 => (fun q9 => q9) (NMA.up (show (5 : Int) ≠ 2 by decide) q9)) pm174
          refine tn_callV (M := m_X5_statement) (pc := 121) (ix := 195) (ci := 5) (M' := m_X5_choice) (As := [.int (iI dp)]) (rest := []) dX5_statement_121 ok_X5_choice im_X5_choice se_X5_choice ml5_195 np_X5_choice rfl rfl ha rfl (Nat.le_of_ble_eq_true rfl) (Nat.le_of_ble_eq_true rfl) rfl (k_X5_choice_m (d) (T := T) (σ := (sA 45 a ((σ.2.1 45 a) + 1) σ)) (a := a) (dp := dp) (kp := kp) (lv := lv) (bx := bx) (nm := nm) (Tg := Tg) (gs := gs) (mx := mx.stm) ha (by omega) (hw.put (by decide) (by decide) (fo_45 (by omega))) hex (by omega) (by omega) fx11 mgs12 (MBD.st hmb) hgf (by omega) (by omega) (by omega) (hrp.put (by decide))) (fun r177 T179 σ178 gt180 hp => ?_)
          obtain ⟨v184, rfl, w185, F186, f181, f182, f183⟩ := hp
          replace ha : OB T179 a 5 := gt180.ob ha
          have rp188 : RP σ178 a (kp - 10 * v184 + 1) := RP.up f183 (by omega)
          show Tn _ _ 124 T179 σ178 [(0, .ref a), (1, .int (iI dp))] [.int (iI v184)] _
          have ra189 : v184 = 1 → YSM σ178 a Sx nx bx [20] jx cx (Nx) bx [] ((jx : Int) + 1) nm Tg gs T179 mx (mx) (fun m9 => m9) := fun hv => by
            obtain ⟨i191, es192, m193, mw194, lo195, rr196, fx197, fx197m, ni198, mgq199, mb200, cn201⟩ := f182.1 hv
            have fx197s : σ178.2.1 45 a ≤ (i191 : Int) := by rw [fx197.e45]; exact fx197m
            have pm202 : CN nm mx.rt (es192.foldl uC (uC cx (5, (tkS Sx jx).1, 0, 0))) (GW Sx nm rnQ tb1 [51, 21] jx (0) (bx) u0 (mx.stm.push (1, 0, 0, [])) [] i191 (0) (bx) u0 m193 (mw194.on mx.stm)) := cn201
            have rd203 : GR Sx [20] jx 0 (bx) u0 [] i191 (0) (bx) u0 (0 + 0 + m193) ([(5, (tkS Sx jx).1, 0, 0)] ++ es192) := GR.gg (l := [51, 21]) (ms := []) [] rd175 rr196
            have rm204 : CN nm mx.rt (es192.foldl uC (uC cx (5, (tkS Sx jx).1, 0, 0))) (GW Sx nm rnQ tb1 [20] jx 0 (bx) u0 mx [] i191 (0) (bx) u0 (0 + 0 + m193) (mw194.on mx.stm)) := CN.gg (l := [51, 21]) (ms := []) [] rm176 (fun q9 => (fun q9 => q9) (NMA.fo ni198 q9)) pm202
            have hz205e : (mw194.on mx.stm) = (mw194).on mx := rfl
            have hz205c : (es192.foldl uC (uC cx (5, (tkS Sx jx).1, 0, 0))) = ([(5, (tkS Sx jx).1, 0, 0)] ++ es192).foldl uC cx := (by simp only [List.foldl_append, List.foldl_cons, List.foldl_nil])
            have hz205 : CN nm mx.rt (([(5, (tkS Sx jx).1, 0, 0)] ++ es192).foldl uC cx) (GW Sx nm rnQ tb1 [20] jx 0 (bx) u0 mx [] i191 (0) (bx) u0 (0 + 0 + m193) ((mw194).on mx)) := by
              have q9 := CN.up (c2 := es192.foldl uC (uC cx (5, (tkS Sx jx).1, 0, 0))) rm204 (fun q9 => q9)
              rw [hz205e, hz205c] at q9
              exact q9
            have fe206 := RDX.nq (M := Nx + (0 + 0 + m193)) (RDX.cq (c2 := ([(5, (tkS Sx jx).1, 0, 0)] ++ es192).foldl uC cx) fx197 hz205c) (by omega)
            have fe206m : (([(5, (tkS Sx jx).1, 0, 0)] ++ es192).foldl uC cx).m = σ178.2.1 45 a := (fe206.e45).symm.trans (rfl)
            exact ⟨i191, [(5, (tkS Sx jx).1, 0, 0)] ++ es192, 0 + 0 + m193, mw194, (by omega), rd203, fe206, by rw [fe206m]; omega, (NI2.app (NI2.one (show (5 : Int) ≠ 2 by decide)) ni198), mgq199, mb200, hz205⟩
          have rb190 : v184 = 0 → YF σ178 a Sx bx [20] jx ∧ FG Tg gs T179 σ178 a := fun hv => by
            obtain ⟨⟨pl207, g208, fx209⟩, nf210⟩ := f182.2 hv
            have rf211 : GRF Sx [20] jx 0 (bx) u0 (pl207) := GR.fl (l := [51, 21]) [] rd175 g208
            exact ⟨⟨_, rf211, fx209⟩, nf210⟩
          exact tn_zret (v := v184) rfl (by omega) dX5_statement_124 ⟨_, rfl, w185, ((FrC.rfl.put (by decide) (by decide)).trans (FrC.sub F186 (by decide))), by omega, ⟨ra189, rb190⟩, (RP.up rp188 (by omega))⟩
        · refine tn_tableIn (tgt := 131) (off := 72) dX5_statement_59 (x := σ.2.1 85 xq13) ⟨by omega, by omega⟩ (by omega) (by omega) (by rw [h37]; rfl) (by decide) ?_
          refine tn_aload_n dX5_statement_131 rfl 0 rfl ?_
          refine tn_callV (M := m_X5_statement) (pc := 132) (ix := 90) (ci := 5) (M' := m_X5_refuse) (As := []) (rest := []) dX5_statement_132 ok_X5_refuse im_X5_refuse se_X5_refuse ml5_90 np_X5_refuse rfl rfl ha rfl (Nat.le_of_ble_eq_true rfl) (Nat.le_of_ble_eq_true rfl) rfl (k_X5_refuse_m (d + 3 * lv + 60) (T := T) (σ := (sA 45 a ((σ.2.1 45 a) + 1) σ)) (a := a) ha (hw.put (by decide) (by decide) (fo_45 (by omega))) (fx11).1.1) (fun r212 T214 σ213 gt215 hp => ?_)
          obtain ⟨v221, rfl, rfl, w222, F223, f216, f217, f218, f219, f220⟩ := hp
          clear gt215
          have pc224 : GRF Sx [20] jx (0) (bx) u0 (tkS Sx jx).1 := x20f hSb (by omega)
          have rf2250 : GR Sx [20] jx 0 (bx) u0 [20] jx (0) (bx) u0 (0) ([]) := GR.nl
          have rf225 : GRF Sx [20] jx 0 (bx) u0 ((tkS Sx jx).1) := GR.fl (l := [20]) [] rf2250 pc224
          have rp226 : RP σ213 a (kp) := RP.frc (hrp.put (by decide)) F223 (by decide) (by decide) (by decide) (by decide) (by decide)
          show Tn _ _ 135 T σ213 [(0, .ref a), (1, .int (iI dp))] [.int (iI v221)] _
          have mg229 : MG Tg gs T σ213 a mx.stm := (MG.nt mgs12 f220)
          have rb228 : YF σ213 a Sx bx [20] jx ∧ FG Tg gs T σ213 a := ⟨⟨_, rf225, f218⟩, (mg229).1⟩
          exact tn_zret (v := v221) rfl (by omega) dX5_statement_135 ⟨_, rfl, w222, ((FrC.rfl.put (by decide) (by decide)).trans (FrC.sub F223 (by decide))), by omega, ⟨fun q => absurd q (by omega), fun _ => rb228⟩, (RP.up rp226 (by omega))⟩
        · refine tn_tableIn (tgt := 125) (off := 66) dX5_statement_59 (x := σ.2.1 85 xq13) ⟨by omega, by omega⟩ (by omega) (by omega) (by rw [h37]; rfl) (by decide) ?_
          refine tn_aload_n dX5_statement_125 rfl 0 rfl ?_
          refine tn_iload_n dX5_statement_126 rfl 1 rfl ?_
          have pc230 : GR Sx [20] jx (0) (bx) u0 [22] jx (0) (bx) u0 0 [(5, (tkS Sx jx).1, 0, 0)] := x20w hSb (by omega)
          have pm231 : CN nm mx.rt (uC cx (5, (tkS Sx jx).1, 0, 0)) (GW Sx nm rnQ tb1 [20] jx (0) (bx) u0 mx [22] jx (0) (bx) u0 0 (mx.stm)) := fun hn9 => GW.of (gm20w hSb (by omega)) rfl
          have rd2320 : GR Sx [20] jx 0 (bx) u0 [20] jx (0) (bx) u0 (0) ([]) := GR.nl
          have rd232a : GR Sx [20] jx 0 (bx) u0 [22] jx (0) (bx) u0 (0 + 0) ([] ++ [(5, (tkS Sx jx).1, 0, 0)]) := GR.gg (l := [20]) (ms := [22]) [] rd2320 pc230
          have rd232 : GR Sx [20] jx 0 (bx) u0 [22] jx (0) (bx) u0 (0 + 0) ([(5, (tkS Sx jx).1, 0, 0)]) := rd232a
          have rm2330 : CN nm mx.rt (cx) (GW Sx nm rnQ tb1 [20] jx 0 (bx) u0 mx [20] jx (0) (bx) u0 (0) mx) := fun _ => GW.nl
          have rm233 : CN nm mx.rt (uC cx (5, (tkS Sx jx).1, 0, 0)) (GW Sx nm rnQ tb1 [20] jx 0 (bx) u0 mx [22] jx (0) (bx) u0 (0 + 0) (mx.stm)) := CN.gg (l := [20]) (ms := [22]) [] rm2330 (fun q9 => (fun q9 => q9) (NMA.up (show (5 : Int) ≠ 2 by decide) q9)) pm231
          have sy234 : (mx.stm).w = ((mx.stm)).w := rfl
          refine tn_callV (M := m_X5_statement) (pc := 127) (ix := 198) (ci := 5) (M' := m_X5_ring) (As := [.int (iI dp)]) (rest := []) dX5_statement_127 ok_X5_ring im_X5_ring se_X5_ring ml5_198 np_X5_ring rfl rfl ha rfl (Nat.le_of_ble_eq_true rfl) (Nat.le_of_ble_eq_true rfl) rfl (k_X5_ring_m (d) (T := T) (σ := (sA 45 a ((σ.2.1 45 a) + 1) σ)) (a := a) (dp := dp) (kp := kp) (lv := lv) (bx := bx) (nm := nm) (Tg := Tg) (gs := gs) (mx := (mx.stm)) ha (by omega) (hw.put (by decide) (by decide) (fo_45 (by omega))) hex (by omega) (by omega) fx11 (MG.cg mgs12 sy234) (MBD.same (MBD.st hmb) sy234) hgf (by omega) (by omega) (by omega) (hrp.put (by decide))) (fun r235 T237 σ236 gt238 hp => ?_)
          obtain ⟨v242, rfl, w243, F244, f239, f240, f241⟩ := hp
          replace ha : OB T237 a 5 := gt238.ob ha
          have rp246 : RP σ236 a (kp - 9 * v242 + 2) := RP.up f241 (by omega)
          show Tn _ _ 130 T237 σ236 [(0, .ref a), (1, .int (iI dp))] [.int (iI v242)] _
          have ra247 : v242 = 1 → YSM σ236 a Sx nx bx [20] jx cx (Nx) bx [] ((jx : Int) + 1) nm Tg gs T237 mx (mx) (fun m9 => m9) := fun hv => by
            obtain ⟨i249, es250, m251, mw252, lo253, rr254, fx255, fx255m, ni256, mgq257, mb258, cn259⟩ := f240.1 hv
            have fx255s : σ236.2.1 45 a ≤ (i249 : Int) := by rw [fx255.e45]; exact fx255m
            have pm260 : CN nm mx.rt (es250.foldl uC (uC cx (5, (tkS Sx jx).1, 0, 0))) (GW Sx nm rnQ tb1 [22] jx (0) (bx) u0 (mx.stm) [] i249 (0) (bx) u0 m251 (mw252.on (mx.stm))) := cn259
            have rd261 : GR Sx [20] jx 0 (bx) u0 [] i249 (0) (bx) u0 (0 + 0 + m251) ([(5, (tkS Sx jx).1, 0, 0)] ++ es250) := GR.gg (l := [22]) (ms := []) [] rd232 rr254
            have rm262 : CN nm mx.rt (es250.foldl uC (uC cx (5, (tkS Sx jx).1, 0, 0))) (GW Sx nm rnQ tb1 [20] jx 0 (bx) u0 mx [] i249 (0) (bx) u0 (0 + 0 + m251) (mw252.on (mx.stm))) := CN.gg (l := [22]) (ms := []) [] rm233 (fun q9 => (fun q9 => q9) (NMA.fo ni256 q9)) pm260
            have hz263e : (mw252.on (mx.stm)) = (mw252).on mx := rfl
            have hz263c : (es250.foldl uC (uC cx (5, (tkS Sx jx).1, 0, 0))) = ([(5, (tkS Sx jx).1, 0, 0)] ++ es250).foldl uC cx := (by simp only [List.foldl_append, List.foldl_cons, List.foldl_nil])
            have hz263 : CN nm mx.rt (([(5, (tkS Sx jx).1, 0, 0)] ++ es250).foldl uC cx) (GW Sx nm rnQ tb1 [20] jx 0 (bx) u0 mx [] i249 (0) (bx) u0 (0 + 0 + m251) ((mw252).on mx)) := by
              have q9 := CN.up (c2 := es250.foldl uC (uC cx (5, (tkS Sx jx).1, 0, 0))) rm262 (fun q9 => q9)
              rw [hz263e, hz263c] at q9
              exact q9
            have fe264 := RDX.nq (M := Nx + (0 + 0 + m251)) (RDX.cq (c2 := ([(5, (tkS Sx jx).1, 0, 0)] ++ es250).foldl uC cx) fx255 hz263c) (by omega)
            have fe264m : (([(5, (tkS Sx jx).1, 0, 0)] ++ es250).foldl uC cx).m = σ236.2.1 45 a := (fe264.e45).symm.trans (rfl)
            exact ⟨i249, [(5, (tkS Sx jx).1, 0, 0)] ++ es250, 0 + 0 + m251, mw252, (by omega), rd261, fe264, by rw [fe264m]; omega, (NI2.app (NI2.one (show (5 : Int) ≠ 2 by decide)) ni256), mgq257, mb258, hz263⟩
          have rb248 : v242 = 0 → YF σ236 a Sx bx [20] jx ∧ FG Tg gs T237 σ236 a := fun hv => by
            obtain ⟨⟨pl265, g266, fx267⟩, nf268⟩ := f240.2 hv
            have rf269 : GRF Sx [20] jx 0 (bx) u0 (pl265) := GR.fl (l := [22]) [] rd232 g266
            exact ⟨⟨_, rf269, fx267⟩, nf268⟩
          exact tn_zret (v := v242) rfl (by omega) dX5_statement_130 ⟨_, rfl, w243, ((FrC.rfl.put (by decide) (by decide)).trans (FrC.sub F244 (by decide))), by omega, ⟨ra247, rb248⟩, (RP.up rp246 (by omega))⟩
    · refine tn_aload_n dX5_statement_41 rfl 0 rfl ?_
      refine tn_getR (ci := 5) (i := 2) (n := 35) (x := xq4) dX5_statement_42 rfl lay_5 (by decide) fl5_47 ha rfl rfl (rc_o (by decide) (hx5)) ?_
      refine tn_aload_n dX5_statement_45 rfl 0 rfl ?_
      refine tn_getI (ci := 5) (i := 12) (n := 45) (t := (σ.2.1 45 a) + 1) dX5_statement_46 rfl lay_5 (by decide) fl5_64 ha rfl rfl (ra_eq) ?_
      refine tn_putV (ci := 1) (i := 4) (n := 9) (r := false) (v := (σ.2.1 45 a) + 1) tyX1 tyX1_ok nmX1 dX5_statement_49 rfl lay_1 (by decide) fl5_186 rfl (tyX1_ok 4 (by decide)) rfl rfl rfl hk6o rfl rfl ?_
      have mg271 : MG Tg gs T (sA 9 xq4 ((σ.2.1 45 a) + 1) (sA 45 a ((σ.2.1 45 a) + 1) σ)) a ((((mx).sN ((σ.2.1 45 a) + 1))).sF ((σ.2.1 45 a) + 1)) := (MG.f9 mg9 (MG.cd mg9 (show (sA 45 a ((σ.2.1 45 a) + 1) σ).2.1 35 a = (xq4 : Int) from rc_o (by decide) (hx5))))
      have fx270 : RDX (sA 9 xq4 ((σ.2.1 45 a) + 1) (sA 45 a ((σ.2.1 45 a) + 1) σ)) a Sx nx jx (uC cx (5, (tkS Sx jx).1, 0, 0)) Nx := RDX.cq (fx2.pt (by decide) (by decide)) (by rw [uC5n (by omega)])
      have mgs272 : MG Tg gs T (sA 9 xq4 ((σ.2.1 45 a) + 1) (sA 45 a ((σ.2.1 45 a) + 1) σ)) a mx.stm := MG.st1 (m := mx) mg271 (by have z0 := MG.e45 hmg; have z1 : σ.2.1 45 a = mx.ln := z0; have y0 : (sA 9 xq4 ((σ.2.1 45 a) + 1) (sA 45 a ((σ.2.1 45 a) + 1) σ)).2.1 45 a = (σ.2.1 45 a) + 1 := rc_o (by decide) (ra_eq); have y1 : (sA 9 xq4 ((σ.2.1 45 a) + 1) (sA 45 a ((σ.2.1 45 a) + 1) σ)).2.1 45 a = (σ.2.1 45 a) + 1 := rc_o (by decide) (ra_eq); omega) (by have z0 := MG.e45 hmg; have z1 : σ.2.1 45 a = mx.ln := z0; have y0 : (sA 9 xq4 ((σ.2.1 45 a) + 1) (sA 45 a ((σ.2.1 45 a) + 1) σ)).2.1 45 a = (σ.2.1 45 a) + 1 := rc_o (by decide) (ra_eq); have y1 : (sA 9 xq4 ((σ.2.1 45 a) + 1) (sA 45 a ((σ.2.1 45 a) + 1) σ)).2.1 45 a = (σ.2.1 45 a) + 1 := rc_o (by decide) (ra_eq); omega) (by omega)
      refine tn_aload_n dX5_statement_52 rfl 0 rfl ?_
      obtain ⟨xq273, hx274, hk275⟩ : ∃ x : Nat, σ.2.1 33 a = (x : Int) ∧ (T x).1 = 39 := wf_33 hw ha
      have hk275o : OB T xq273 9 := ⟨by omega, by rw [hk275]; rfl, by omega⟩
      refine tn_getR (ci := 5) (i := 0) (n := 33) (x := xq273) dX5_statement_53 rfl lay_5 (by decide) fl5_12 ha rfl rfl (rc_o (by decide) (rc_o (by decide) (hx274))) ?_
      refine tn_getI (ci := 9) (i := 4) (n := 85) (t := σ.2.1 85 xq273) dX5_statement_56 rfl lay_9 (by decide) fl5_71 hk275o rfl rfl (rc_o (by decide) (rc_o (by decide) (rfl))) ?_
      have g277 : ((-2147483648 : Int) ≤ σ.2.1 85 xq273 ∧ σ.2.1 85 xq273 ≤ 2147483647) := wf_85 hw hk275o
      have g277kd : σ.2.1 85 xq273 = ckd (tkS Sx jx) := (rc_o (by decide) (rc_o (by decide) (rfl))).symm.trans ((fx270).1.kd (rc_o (by decide) (rc_o (by decide) (hx274))))
      by_cases h278 : σ.2.1 85 xq273 < 256 ∨ 262 < σ.2.1 85 xq273
      · refine tn_tableOut (tgt := 131) dX5_statement_59 (x := σ.2.1 85 xq273) ⟨by omega, by omega⟩ h278 (by decide) ?_
        refine tn_aload_n dX5_statement_131 rfl 0 rfl ?_
        refine tn_callV (M := m_X5_statement) (pc := 132) (ix := 90) (ci := 5) (M' := m_X5_refuse) (As := []) (rest := []) dX5_statement_132 ok_X5_refuse im_X5_refuse se_X5_refuse ml5_90 np_X5_refuse rfl rfl ha rfl (Nat.le_of_ble_eq_true rfl) (Nat.le_of_ble_eq_true rfl) rfl (k_X5_refuse_m (d + 3 * lv + 60) (T := T) (σ := (sA 9 xq4 ((σ.2.1 45 a) + 1) (sA 45 a ((σ.2.1 45 a) + 1) σ))) (a := a) ha ((hw.put (by decide) (by decide) (fo_45 (by omega))).put (by decide) (by decide) (fo_9 (by omega))) (fx270).1.1) (fun r279 T281 σ280 gt282 hp => ?_)
        obtain ⟨v288, rfl, rfl, w289, F290, f283, f284, f285, f286, f287⟩ := hp
        clear gt282
        have pc291 : GRF Sx [20] jx (0) (bx) u0 (tkS Sx jx).1 := x20f hSb (by omega)
        have rf2920 : GR Sx [20] jx 0 (bx) u0 [20] jx (0) (bx) u0 (0) ([]) := GR.nl
        have rf292 : GRF Sx [20] jx 0 (bx) u0 ((tkS Sx jx).1) := GR.fl (l := [20]) [] rf2920 pc291
        have rp293 : RP σ280 a (kp) := RP.frc ((hrp.put (by decide)).put (by decide)) F290 (by decide) (by decide) (by decide) (by decide) (by decide)
        show Tn _ _ 135 T σ280 [(0, .ref a), (1, .int (iI dp))] [.int (iI v288)] _
        have mg296 : MG Tg gs T σ280 a mx.stm := (MG.nt mgs272 f287)
        have rb295 : YF σ280 a Sx bx [20] jx ∧ FG Tg gs T σ280 a := ⟨⟨_, rf292, f285⟩, (mg296).1⟩
        exact tn_zret (v := v288) rfl (by omega) dX5_statement_135 ⟨_, rfl, w289, (((FrC.rfl.put (by decide) (by decide)).put (by decide) (by decide)).trans (FrC.sub F290 (by decide))), by omega, ⟨fun q => absurd q (by omega), fun _ => rb295⟩, (RP.up rp293 (by omega))⟩
      · have h297 : σ.2.1 85 xq273 = 256 ∨ σ.2.1 85 xq273 = 257 ∨ σ.2.1 85 xq273 = 258 ∨ σ.2.1 85 xq273 = 259 ∨ σ.2.1 85 xq273 = 260 ∨ σ.2.1 85 xq273 = 261 ∨ σ.2.1 85 xq273 = 262 := by omega
        rcases h297 with h297 | h297 | h297 | h297 | h297 | h297 | h297
        · refine tn_tableIn (tgt := 100) (off := 41) dX5_statement_59 (x := σ.2.1 85 xq273) ⟨by omega, by omega⟩ (by omega) (by omega) (by rw [h297]; rfl) (by decide) ?_
          refine tn_aload_n dX5_statement_100 rfl 0 rfl ?_
          have pc298 : GR Sx [20] jx (0) (bx) u0 [51, 23] jx (0) (bx) u0 0 [(5, (tkS Sx jx).1, 0, 0)] := x20n hSb (by omega)
          have pm299 : CN nm mx.rt (uC cx (5, (tkS Sx jx).1, 0, 0)) (GW Sx nm rnQ tb1 [20] jx (0) (bx) u0 mx [51, 23] jx (0) (bx) u0 0 (mx.stm.push (1, 0, 0, []))) := fun hn9 => GW.of (gm20n hSb (by omega)) rfl
          have rd3000 : GR Sx [20] jx 0 (bx) u0 [20] jx (0) (bx) u0 (0) ([]) := GR.nl
          have rd300a : GR Sx [20] jx 0 (bx) u0 [51, 23] jx (0) (bx) u0 (0 + 0) ([] ++ [(5, (tkS Sx jx).1, 0, 0)]) := GR.gg (l := [20]) (ms := [51, 23]) [] rd3000 pc298
          have rd300 : GR Sx [20] jx 0 (bx) u0 [51, 23] jx (0) (bx) u0 (0 + 0) ([(5, (tkS Sx jx).1, 0, 0)]) := rd300a
          have rm3010 : CN nm mx.rt (cx) (GW Sx nm rnQ tb1 [20] jx 0 (bx) u0 mx [20] jx (0) (bx) u0 (0) mx) := fun _ => GW.nl
          have rm301 : CN nm mx.rt (uC cx (5, (tkS Sx jx).1, 0, 0)) (GW Sx nm rnQ tb1 [20] jx 0 (bx) u0 mx [51, 23] jx (0) (bx) u0 (0 + 0) (mx.stm.push (1, 0, 0, []))) := CN.gg (l := [20]) (ms := [51, 23]) [] rm3010 (fun q9 => (fun q9 => q9) (NMA.up (show (5 : Int) ≠ 2 by decide) q9)) pm299
          refine tn_callV (M := m_X5_statement) (pc := 101) (ix := 189) (ci := 5) (M' := m_X5_assignment) (As := []) (rest := []) dX5_statement_101 ok_X5_assignment im_X5_assignment se_X5_assignment ml5_189 np_X5_assignment rfl rfl ha rfl (Nat.le_of_ble_eq_true rfl) (Nat.le_of_ble_eq_true rfl) rfl (k_X5_assignment_m (d + 3 * lv + 9) (T := T) (σ := (sA 9 xq4 ((σ.2.1 45 a) + 1) (sA 45 a ((σ.2.1 45 a) + 1) σ))) (a := a) (kp := kp) (bx := bx) (nm := nm) (Tg := Tg) (gs := gs) (mx := mx.stm) ha ((hw.put (by decide) (by decide) (fo_45 (by omega))).put (by decide) (by decide) (fo_9 (by omega))) fx270 mgs272 (MBD.st hmb) hgf (by omega) (by omega) ((hrp.put (by decide)).put (by decide))) (fun r302 T304 σ303 gt305 hp => ?_)
          obtain ⟨v309, rfl, w310, F311, f306, f307, f308⟩ := hp
          replace ha : OB T304 a 5 := gt305.ob ha
          have rp313 : RP σ303 a (kp - 10 * v309 + 1) := RP.up f308 (by omega)
          show Tn _ _ 104 T304 σ303 [(0, .ref a), (1, .int (iI dp))] [.int (iI v309)] _
          have ra314 : v309 = 1 → YSM σ303 a Sx nx bx [20] jx cx (Nx) bx [] ((jx : Int) + 1) nm Tg gs T304 mx (mx) (fun m9 => m9) := fun hv => by
            obtain ⟨i316, es317, m318, mw319, lo320, rr321, fx322, fx322m, ni323, mgq324, mb325, cn326⟩ := f307.1 hv
            have fx322s : σ303.2.1 45 a ≤ (i316 : Int) := by rw [fx322.e45]; exact fx322m
            have pm327 : CN nm mx.rt (es317.foldl uC (uC cx (5, (tkS Sx jx).1, 0, 0))) (GW Sx nm rnQ tb1 [51, 23] jx (0) (bx) u0 (mx.stm.push (1, 0, 0, [])) [] i316 (0) (bx) u0 m318 (mw319.on mx.stm)) := cn326
            have rd328 : GR Sx [20] jx 0 (bx) u0 [] i316 (0) (bx) u0 (0 + 0 + m318) ([(5, (tkS Sx jx).1, 0, 0)] ++ es317) := GR.gg (l := [51, 23]) (ms := []) [] rd300 rr321
            have rm329 : CN nm mx.rt (es317.foldl uC (uC cx (5, (tkS Sx jx).1, 0, 0))) (GW Sx nm rnQ tb1 [20] jx 0 (bx) u0 mx [] i316 (0) (bx) u0 (0 + 0 + m318) (mw319.on mx.stm)) := CN.gg (l := [51, 23]) (ms := []) [] rm301 (fun q9 => (fun q9 => q9) (NMA.fo ni323 q9)) pm327
            have hz330e : (mw319.on mx.stm) = (mw319).on mx := rfl
            have hz330c : (es317.foldl uC (uC cx (5, (tkS Sx jx).1, 0, 0))) = ([(5, (tkS Sx jx).1, 0, 0)] ++ es317).foldl uC cx := (by simp only [List.foldl_append, List.foldl_cons, List.foldl_nil])
            have hz330 : CN nm mx.rt (([(5, (tkS Sx jx).1, 0, 0)] ++ es317).foldl uC cx) (GW Sx nm rnQ tb1 [20] jx 0 (bx) u0 mx [] i316 (0) (bx) u0 (0 + 0 + m318) ((mw319).on mx)) := by
              have q9 := CN.up (c2 := es317.foldl uC (uC cx (5, (tkS Sx jx).1, 0, 0))) rm329 (fun q9 => q9)
              rw [hz330e, hz330c] at q9
              exact q9
            have fe331 := RDX.nq (M := Nx + (0 + 0 + m318)) (RDX.cq (c2 := ([(5, (tkS Sx jx).1, 0, 0)] ++ es317).foldl uC cx) fx322 hz330c) (by omega)
            have fe331m : (([(5, (tkS Sx jx).1, 0, 0)] ++ es317).foldl uC cx).m = (σ.2.1 45 a) + 1 := (fe331.e45).symm.trans (rc_F F311 (Or.inl (by decide)) (by decide) (rc_o (by decide) (ra_eq)))
            exact ⟨i316, [(5, (tkS Sx jx).1, 0, 0)] ++ es317, 0 + 0 + m318, mw319, (by omega), rd328, fe331, by rw [fe331m]; omega, (NI2.app (NI2.one (show (5 : Int) ≠ 2 by decide)) ni323), mgq324, mb325, hz330⟩
          have rb315 : v309 = 0 → YF σ303 a Sx bx [20] jx ∧ FG Tg gs T304 σ303 a := fun hv => by
            obtain ⟨⟨pl332, g333, fx334⟩, nf335⟩ := f307.2 hv
            have rf336 : GRF Sx [20] jx 0 (bx) u0 (pl332) := GR.fl (l := [51, 23]) [] rd300 g333
            exact ⟨⟨_, rf336, fx334⟩, nf335⟩
          exact tn_zret (v := v309) rfl (by omega) dX5_statement_104 ⟨_, rfl, w310, (((FrC.rfl.put (by decide) (by decide)).put (by decide) (by decide)).trans (FrC.sub F311 (by decide))), by omega, ⟨ra314, rb315⟩, (RP.up rp313 (by omega))⟩
        · refine tn_tableIn (tgt := 131) (off := 72) dX5_statement_59 (x := σ.2.1 85 xq273) ⟨by omega, by omega⟩ (by omega) (by omega) (by rw [h297]; rfl) (by decide) ?_
          refine tn_aload_n dX5_statement_131 rfl 0 rfl ?_
          refine tn_callV (M := m_X5_statement) (pc := 132) (ix := 90) (ci := 5) (M' := m_X5_refuse) (As := []) (rest := []) dX5_statement_132 ok_X5_refuse im_X5_refuse se_X5_refuse ml5_90 np_X5_refuse rfl rfl ha rfl (Nat.le_of_ble_eq_true rfl) (Nat.le_of_ble_eq_true rfl) rfl (k_X5_refuse_m (d + 3 * lv + 60) (T := T) (σ := (sA 9 xq4 ((σ.2.1 45 a) + 1) (sA 45 a ((σ.2.1 45 a) + 1) σ))) (a := a) ha ((hw.put (by decide) (by decide) (fo_45 (by omega))).put (by decide) (by decide) (fo_9 (by omega))) (fx270).1.1) (fun r337 T339 σ338 gt340 hp => ?_)
          obtain ⟨v346, rfl, rfl, w347, F348, f341, f342, f343, f344, f345⟩ := hp
          clear gt340
          have pc349 : GRF Sx [20] jx (0) (bx) u0 (tkS Sx jx).1 := x20f hSb (by omega)
          have rf3500 : GR Sx [20] jx 0 (bx) u0 [20] jx (0) (bx) u0 (0) ([]) := GR.nl
          have rf350 : GRF Sx [20] jx 0 (bx) u0 ((tkS Sx jx).1) := GR.fl (l := [20]) [] rf3500 pc349
          have rp351 : RP σ338 a (kp) := RP.frc ((hrp.put (by decide)).put (by decide)) F348 (by decide) (by decide) (by decide) (by decide) (by decide)
          show Tn _ _ 135 T σ338 [(0, .ref a), (1, .int (iI dp))] [.int (iI v346)] _
          have mg354 : MG Tg gs T σ338 a mx.stm := (MG.nt mgs272 f345)
          have rb353 : YF σ338 a Sx bx [20] jx ∧ FG Tg gs T σ338 a := ⟨⟨_, rf350, f343⟩, (mg354).1⟩
          exact tn_zret (v := v346) rfl (by omega) dX5_statement_135 ⟨_, rfl, w347, (((FrC.rfl.put (by decide) (by decide)).put (by decide) (by decide)).trans (FrC.sub F348 (by decide))), by omega, ⟨fun q => absurd q (by omega), fun _ => rb353⟩, (RP.up rp351 (by omega))⟩
        · refine tn_tableIn (tgt := 105) (off := 46) dX5_statement_59 (x := σ.2.1 85 xq273) ⟨by omega, by omega⟩ (by omega) (by omega) (by rw [h297]; rfl) (by decide) ?_
          refine tn_aload_n dX5_statement_105 rfl 0 rfl ?_
          refine tn_bipush dX5_statement_106 (by decide) ?_
          have pc355 : GR Sx [20] jx (0) (bx) u0 [51, 39] jx (0) (bx) u0 0 [(5, (tkS Sx jx).1, 0, 0)] := x20o hSb (by omega)
          have pm356 : CN nm mx.rt (uC cx (5, (tkS Sx jx).1, 0, 0)) (GW Sx nm rnQ tb1 [20] jx (0) (bx) u0 mx [51, 39] jx (0) (bx) u0 0 (mx.stm.push (1, 0, 0, []))) := fun hn9 => GW.of (gm20o hSb (by omega)) rfl
          have rd3570 : GR Sx [20] jx 0 (bx) u0 [20] jx (0) (bx) u0 (0) ([]) := GR.nl
          have rd357a : GR Sx [20] jx 0 (bx) u0 [51, 39] jx (0) (bx) u0 (0 + 0) ([] ++ [(5, (tkS Sx jx).1, 0, 0)]) := GR.gg (l := [20]) (ms := [51, 39]) [] rd3570 pc355
          have rd357 : GR Sx [20] jx 0 (bx) u0 [51, 39] jx (0) (bx) u0 (0 + 0) ([(5, (tkS Sx jx).1, 0, 0)]) := rd357a
          have rm3580 : CN nm mx.rt (cx) (GW Sx nm rnQ tb1 [20] jx 0 (bx) u0 mx [20] jx (0) (bx) u0 (0) mx) := fun _ => GW.nl
          have rm358 : CN nm mx.rt (uC cx (5, (tkS Sx jx).1, 0, 0)) (GW Sx nm rnQ tb1 [20] jx 0 (bx) u0 mx [51, 39] jx (0) (bx) u0 (0 + 0) (mx.stm.push (1, 0, 0, []))) := CN.gg (l := [20]) (ms := [51, 39]) [] rm3580 (fun q9 => (fun q9 => q9) (NMA.up (show (5 : Int) ≠ 2 by decide) q9)) pm356
          refine tn_callV (M := m_X5_statement) (pc := 108) (ix := 192) (ci := 5) (M' := m_X5_single) (As := [.int (iI 6)]) (rest := []) dX5_statement_108 ok_X5_single im_X5_single se_X5_single ml5_192 np_X5_single rfl rfl ha rfl (Nat.le_of_ble_eq_true rfl) (Nat.le_of_ble_eq_true rfl) rfl (k_X5_single_mo (d + 3 * lv + 10) (T := T) (σ := (sA 9 xq4 ((σ.2.1 45 a) + 1) (sA 45 a ((σ.2.1 45 a) + 1) σ))) (a := a) (k := 6) (kp := kp) (bx := bx) (nm := nm) (Tg := Tg) (gs := gs) (mx := mx.stm) ha (by decide) ((hw.put (by decide) (by decide) (fo_45 (by omega))).put (by decide) (by decide) (fo_9 (by omega))) rfl fx270 mgs272 (MBD.st hmb) (by omega) (by omega) ((hrp.put (by decide)).put (by decide))) (fun r359 T361 σ360 gt362 hp => ?_)
          obtain ⟨v366, rfl, w367, F368, f363, f364, f365⟩ := hp
          replace ha : OB T361 a 5 := gt362.ob ha
          have rp370 : RP σ360 a (kp - 7 * v366 + 1) := RP.up f365 (by omega)
          show Tn _ _ 111 T361 σ360 [(0, .ref a), (1, .int (iI dp))] [.int (iI v366)] _
          have ra371 : v366 = 1 → YSM σ360 a Sx nx bx [20] jx cx (Nx) bx [] ((jx : Int) + 1) nm Tg gs T361 mx (mx) (fun m9 => m9) := fun hv => by
            obtain ⟨i373, es374, m375, mw376, lo377, rr378, fx379, fx379m, ni380, mgq381, mb382, cn383⟩ := f364.1 hv
            have fx379s : σ360.2.1 45 a ≤ (i373 : Int) := by rw [fx379.e45]; exact fx379m
            have pm384 : CN nm mx.rt (es374.foldl uC (uC cx (5, (tkS Sx jx).1, 0, 0))) (GW Sx nm rnQ tb1 [51, 39] jx (0) (bx) u0 (mx.stm.push (1, 0, 0, [])) [] i373 (0) (bx) u0 m375 (mw376.on mx.stm)) := cn383
            have rd385 : GR Sx [20] jx 0 (bx) u0 [] i373 (0) (bx) u0 (0 + 0 + m375) ([(5, (tkS Sx jx).1, 0, 0)] ++ es374) := GR.gg (l := [51, 39]) (ms := []) [] rd357 rr378
            have rm386 : CN nm mx.rt (es374.foldl uC (uC cx (5, (tkS Sx jx).1, 0, 0))) (GW Sx nm rnQ tb1 [20] jx 0 (bx) u0 mx [] i373 (0) (bx) u0 (0 + 0 + m375) (mw376.on mx.stm)) := CN.gg (l := [51, 39]) (ms := []) [] rm358 (fun q9 => (fun q9 => q9) (NMA.fo ni380 q9)) pm384
            have hz387e : (mw376.on mx.stm) = (mw376).on mx := rfl
            have hz387c : (es374.foldl uC (uC cx (5, (tkS Sx jx).1, 0, 0))) = ([(5, (tkS Sx jx).1, 0, 0)] ++ es374).foldl uC cx := (by simp only [List.foldl_append, List.foldl_cons, List.foldl_nil])
            have hz387 : CN nm mx.rt (([(5, (tkS Sx jx).1, 0, 0)] ++ es374).foldl uC cx) (GW Sx nm rnQ tb1 [20] jx 0 (bx) u0 mx [] i373 (0) (bx) u0 (0 + 0 + m375) ((mw376).on mx)) := by
              have q9 := CN.up (c2 := es374.foldl uC (uC cx (5, (tkS Sx jx).1, 0, 0))) rm386 (fun q9 => q9)
              rw [hz387e, hz387c] at q9
              exact q9
            have fe388 := RDX.nq (M := Nx + (0 + 0 + m375)) (RDX.cq (c2 := ([(5, (tkS Sx jx).1, 0, 0)] ++ es374).foldl uC cx) fx379 hz387c) (by omega)
            have fe388m : (([(5, (tkS Sx jx).1, 0, 0)] ++ es374).foldl uC cx).m = (σ.2.1 45 a) + 1 := (fe388.e45).symm.trans (rc_F F368 (Or.inl (by decide)) (by decide) (rc_o (by decide) (ra_eq)))
            exact ⟨i373, [(5, (tkS Sx jx).1, 0, 0)] ++ es374, 0 + 0 + m375, mw376, (by omega), rd385, fe388, by rw [fe388m]; omega, (NI2.app (NI2.one (show (5 : Int) ≠ 2 by decide)) ni380), mgq381, mb382, hz387⟩
          have rb372 : v366 = 0 → YF σ360 a Sx bx [20] jx ∧ FG Tg gs T361 σ360 a := fun hv => by
            obtain ⟨⟨pl389, g390, fx391⟩, nf392⟩ := f364.2 hv
            have rf393 : GRF Sx [20] jx 0 (bx) u0 (pl389) := GR.fl (l := [51, 39]) [] rd357 g390
            exact ⟨⟨_, rf393, fx391⟩, nf392⟩
          exact tn_zret (v := v366) rfl (by omega) dX5_statement_111 ⟨_, rfl, w367, (((FrC.rfl.put (by decide) (by decide)).put (by decide) (by decide)).trans (FrC.sub F368 (by decide))), by omega, ⟨ra371, rb372⟩, (RP.up rp370 (by omega))⟩
        · refine tn_tableIn (tgt := 112) (off := 53) dX5_statement_59 (x := σ.2.1 85 xq273) ⟨by omega, by omega⟩ (by omega) (by omega) (by rw [h297]; rfl) (by decide) ?_
          refine tn_aload_n dX5_statement_112 rfl 0 rfl ?_
          refine tn_bipush dX5_statement_113 (by decide) ?_
          have pc394 : GR Sx [20] jx (0) (bx) u0 [51, 39] jx (0) (bx) u0 0 [(5, (tkS Sx jx).1, 0, 0)] := x20r hSb (by omega)
          have pm395 : CN nm mx.rt (uC cx (5, (tkS Sx jx).1, 0, 0)) (GW Sx nm rnQ tb1 [20] jx (0) (bx) u0 mx [51, 39] jx (0) (bx) u0 0 (mx.stm.push (1, 0, 0, []))) := fun hn9 => GW.of (gm20r hSb (by omega)) rfl
          have rd3960 : GR Sx [20] jx 0 (bx) u0 [20] jx (0) (bx) u0 (0) ([]) := GR.nl
          have rd396a : GR Sx [20] jx 0 (bx) u0 [51, 39] jx (0) (bx) u0 (0 + 0) ([] ++ [(5, (tkS Sx jx).1, 0, 0)]) := GR.gg (l := [20]) (ms := [51, 39]) [] rd3960 pc394
          have rd396 : GR Sx [20] jx 0 (bx) u0 [51, 39] jx (0) (bx) u0 (0 + 0) ([(5, (tkS Sx jx).1, 0, 0)]) := rd396a
          have rm3970 : CN nm mx.rt (cx) (GW Sx nm rnQ tb1 [20] jx 0 (bx) u0 mx [20] jx (0) (bx) u0 (0) mx) := fun _ => GW.nl
          have rm397 : CN nm mx.rt (uC cx (5, (tkS Sx jx).1, 0, 0)) (GW Sx nm rnQ tb1 [20] jx 0 (bx) u0 mx [51, 39] jx (0) (bx) u0 (0 + 0) (mx.stm.push (1, 0, 0, []))) := CN.gg (l := [20]) (ms := [51, 39]) [] rm3970 (fun q9 => (fun q9 => q9) (NMA.up (show (5 : Int) ≠ 2 by decide) q9)) pm395
          refine tn_callV (M := m_X5_statement) (pc := 115) (ix := 192) (ci := 5) (M' := m_X5_single) (As := [.int (iI 7)]) (rest := []) dX5_statement_115 ok_X5_single im_X5_single se_X5_single ml5_192 np_X5_single rfl rfl ha rfl (Nat.le_of_ble_eq_true rfl) (Nat.le_of_ble_eq_true rfl) rfl (k_X5_single_mr (d + 3 * lv + 10) (T := T) (σ := (sA 9 xq4 ((σ.2.1 45 a) + 1) (sA 45 a ((σ.2.1 45 a) + 1) σ))) (a := a) (k := 7) (kp := kp) (bx := bx) (nm := nm) (Tg := Tg) (gs := gs) (mx := mx.stm) ha (by decide) ((hw.put (by decide) (by decide) (fo_45 (by omega))).put (by decide) (by decide) (fo_9 (by omega))) rfl fx270 mgs272 (MBD.st hmb) (by omega) (by omega) ((hrp.put (by decide)).put (by decide))) (fun r398 T400 σ399 gt401 hp => ?_)
          obtain ⟨v405, rfl, w406, F407, f402, f403, f404⟩ := hp
          replace ha : OB T400 a 5 := gt401.ob ha
          have rp409 : RP σ399 a (kp - 7 * v405 + 1) := RP.up f404 (by omega)
          show Tn _ _ 118 T400 σ399 [(0, .ref a), (1, .int (iI dp))] [.int (iI v405)] _
          have ra410 : v405 = 1 → YSM σ399 a Sx nx bx [20] jx cx (Nx) bx [] ((jx : Int) + 1) nm Tg gs T400 mx (mx) (fun m9 => m9) := fun hv => by
            obtain ⟨i412, es413, m414, mw415, lo416, rr417, fx418, fx418m, ni419, mgq420, mb421, cn422⟩ := f403.1 hv
            have fx418s : σ399.2.1 45 a ≤ (i412 : Int) := by rw [fx418.e45]; exact fx418m
            have pm423 : CN nm mx.rt (es413.foldl uC (uC cx (5, (tkS Sx jx).1, 0, 0))) (GW Sx nm rnQ tb1 [51, 39] jx (0) (bx) u0 (mx.stm.push (1, 0, 0, [])) [] i412 (0) (bx) u0 m414 (mw415.on mx.stm)) := cn422
            have rd424 : GR Sx [20] jx 0 (bx) u0 [] i412 (0) (bx) u0 (0 + 0 + m414) ([(5, (tkS Sx jx).1, 0, 0)] ++ es413) := GR.gg (l := [51, 39]) (ms := []) [] rd396 rr417
            have rm425 : CN nm mx.rt (es413.foldl uC (uC cx (5, (tkS Sx jx).1, 0, 0))) (GW Sx nm rnQ tb1 [20] jx 0 (bx) u0 mx [] i412 (0) (bx) u0 (0 + 0 + m414) (mw415.on mx.stm)) := CN.gg (l := [51, 39]) (ms := []) [] rm397 (fun q9 => (fun q9 => q9) (NMA.fo ni419 q9)) pm423
            have hz426e : (mw415.on mx.stm) = (mw415).on mx := rfl
            have hz426c : (es413.foldl uC (uC cx (5, (tkS Sx jx).1, 0, 0))) = ([(5, (tkS Sx jx).1, 0, 0)] ++ es413).foldl uC cx := (by simp only [List.foldl_append, List.foldl_cons, List.foldl_nil])
            have hz426 : CN nm mx.rt (([(5, (tkS Sx jx).1, 0, 0)] ++ es413).foldl uC cx) (GW Sx nm rnQ tb1 [20] jx 0 (bx) u0 mx [] i412 (0) (bx) u0 (0 + 0 + m414) ((mw415).on mx)) := by
              have q9 := CN.up (c2 := es413.foldl uC (uC cx (5, (tkS Sx jx).1, 0, 0))) rm425 (fun q9 => q9)
              rw [hz426e, hz426c] at q9
              exact q9
            have fe427 := RDX.nq (M := Nx + (0 + 0 + m414)) (RDX.cq (c2 := ([(5, (tkS Sx jx).1, 0, 0)] ++ es413).foldl uC cx) fx418 hz426c) (by omega)
            have fe427m : (([(5, (tkS Sx jx).1, 0, 0)] ++ es413).foldl uC cx).m = (σ.2.1 45 a) + 1 := (fe427.e45).symm.trans (rc_F F407 (Or.inl (by decide)) (by decide) (rc_o (by decide) (ra_eq)))
            exact ⟨i412, [(5, (tkS Sx jx).1, 0, 0)] ++ es413, 0 + 0 + m414, mw415, (by omega), rd424, fe427, by rw [fe427m]; omega, (NI2.app (NI2.one (show (5 : Int) ≠ 2 by decide)) ni419), mgq420, mb421, hz426⟩
          have rb411 : v405 = 0 → YF σ399 a Sx bx [20] jx ∧ FG Tg gs T400 σ399 a := fun hv => by
            obtain ⟨⟨pl428, g429, fx430⟩, nf431⟩ := f403.2 hv
            have rf432 : GRF Sx [20] jx 0 (bx) u0 (pl428) := GR.fl (l := [51, 39]) [] rd396 g429
            exact ⟨⟨_, rf432, fx430⟩, nf431⟩
          exact tn_zret (v := v405) rfl (by omega) dX5_statement_118 ⟨_, rfl, w406, (((FrC.rfl.put (by decide) (by decide)).put (by decide) (by decide)).trans (FrC.sub F407 (by decide))), by omega, ⟨ra410, rb411⟩, (RP.up rp409 (by omega))⟩
        · refine tn_tableIn (tgt := 119) (off := 60) dX5_statement_59 (x := σ.2.1 85 xq273) ⟨by omega, by omega⟩ (by omega) (by omega) (by rw [h297]; rfl) (by decide) ?_
          refine tn_aload_n dX5_statement_119 rfl 0 rfl ?_
          refine tn_iload_n dX5_statement_120 rfl 1 rfl ?_
          have pc433 : GR Sx [20] jx (0) (bx) u0 [51, 21] jx (0) (bx) u0 0 [(5, (tkS Sx jx).1, 0, 0)] := x20i hSb (by omega)
          have pm434 : CN nm mx.rt (uC cx (5, (tkS Sx jx).1, 0, 0)) (GW Sx nm rnQ tb1 [20] jx (0) (bx) u0 mx [51, 21] jx (0) (bx) u0 0 (mx.stm.push (1, 0, 0, []))) := fun hn9 => GW.of (gm20i hSb (by omega)) rfl
          have rd4350 : GR Sx [20] jx 0 (bx) u0 [20] jx (0) (bx) u0 (0) ([]) := GR.nl
          have rd435a : GR Sx [20] jx 0 (bx) u0 [51, 21] jx (0) (bx) u0 (0 + 0) ([] ++ [(5, (tkS Sx jx).1, 0, 0)]) := GR.gg (l := [20]) (ms := [51, 21]) [] rd4350 pc433
          have rd435 : GR Sx [20] jx 0 (bx) u0 [51, 21] jx (0) (bx) u0 (0 + 0) ([(5, (tkS Sx jx).1, 0, 0)]) := rd435a
          have rm4360 : CN nm mx.rt (cx) (GW Sx nm rnQ tb1 [20] jx 0 (bx) u0 mx [20] jx (0) (bx) u0 (0) mx) := fun _ => GW.nl
          have rm436 : CN nm mx.rt (uC cx (5, (tkS Sx jx).1, 0, 0)) (GW Sx nm rnQ tb1 [20] jx 0 (bx) u0 mx [51, 21] jx (0) (bx) u0 (0 + 0) (mx.stm.push (1, 0, 0, []))) := CN.gg (l := [20]) (ms := [51, 21]) [] rm4360 (fun q9 => (fun q9 => q9) (NMA.up (show (5 : Int) ≠ 2 by decide) q9)) pm434
          refine tn_callV (M := m_X5_statement) (pc := 121) (ix := 195) (ci := 5) (M' := m_X5_choice) (As := [.int (iI dp)]) (rest := []) dX5_statement_121 ok_X5_choice im_X5_choice se_X5_choice ml5_195 np_X5_choice rfl rfl ha rfl (Nat.le_of_ble_eq_true rfl) (Nat.le_of_ble_eq_true rfl) rfl (k_X5_choice_m (d) (T := T) (σ := (sA 9 xq4 ((σ.2.1 45 a) + 1) (sA 45 a ((σ.2.1 45 a) + 1) σ))) (a := a) (dp := dp) (kp := kp) (lv := lv) (bx := bx) (nm := nm) (Tg := Tg) (gs := gs) (mx := mx.stm) ha (by omega) ((hw.put (by decide) (by decide) (fo_45 (by omega))).put (by decide) (by decide) (fo_9 (by omega))) hex (by omega) (by omega) fx270 mgs272 (MBD.st hmb) hgf (by omega) (by omega) (by omega) ((hrp.put (by decide)).put (by decide))) (fun r437 T439 σ438 gt440 hp => ?_)
          obtain ⟨v444, rfl, w445, F446, f441, f442, f443⟩ := hp
          replace ha : OB T439 a 5 := gt440.ob ha
          have rp448 : RP σ438 a (kp - 10 * v444 + 1) := RP.up f443 (by omega)
          show Tn _ _ 124 T439 σ438 [(0, .ref a), (1, .int (iI dp))] [.int (iI v444)] _
          have ra449 : v444 = 1 → YSM σ438 a Sx nx bx [20] jx cx (Nx) bx [] ((jx : Int) + 1) nm Tg gs T439 mx (mx) (fun m9 => m9) := fun hv => by
            obtain ⟨i451, es452, m453, mw454, lo455, rr456, fx457, fx457m, ni458, mgq459, mb460, cn461⟩ := f442.1 hv
            have fx457s : σ438.2.1 45 a ≤ (i451 : Int) := by rw [fx457.e45]; exact fx457m
            have pm462 : CN nm mx.rt (es452.foldl uC (uC cx (5, (tkS Sx jx).1, 0, 0))) (GW Sx nm rnQ tb1 [51, 21] jx (0) (bx) u0 (mx.stm.push (1, 0, 0, [])) [] i451 (0) (bx) u0 m453 (mw454.on mx.stm)) := cn461
            have rd463 : GR Sx [20] jx 0 (bx) u0 [] i451 (0) (bx) u0 (0 + 0 + m453) ([(5, (tkS Sx jx).1, 0, 0)] ++ es452) := GR.gg (l := [51, 21]) (ms := []) [] rd435 rr456
            have rm464 : CN nm mx.rt (es452.foldl uC (uC cx (5, (tkS Sx jx).1, 0, 0))) (GW Sx nm rnQ tb1 [20] jx 0 (bx) u0 mx [] i451 (0) (bx) u0 (0 + 0 + m453) (mw454.on mx.stm)) := CN.gg (l := [51, 21]) (ms := []) [] rm436 (fun q9 => (fun q9 => q9) (NMA.fo ni458 q9)) pm462
            have hz465e : (mw454.on mx.stm) = (mw454).on mx := rfl
            have hz465c : (es452.foldl uC (uC cx (5, (tkS Sx jx).1, 0, 0))) = ([(5, (tkS Sx jx).1, 0, 0)] ++ es452).foldl uC cx := (by simp only [List.foldl_append, List.foldl_cons, List.foldl_nil])
            have hz465 : CN nm mx.rt (([(5, (tkS Sx jx).1, 0, 0)] ++ es452).foldl uC cx) (GW Sx nm rnQ tb1 [20] jx 0 (bx) u0 mx [] i451 (0) (bx) u0 (0 + 0 + m453) ((mw454).on mx)) := by
              have q9 := CN.up (c2 := es452.foldl uC (uC cx (5, (tkS Sx jx).1, 0, 0))) rm464 (fun q9 => q9)
              rw [hz465e, hz465c] at q9
              exact q9
            have fe466 := RDX.nq (M := Nx + (0 + 0 + m453)) (RDX.cq (c2 := ([(5, (tkS Sx jx).1, 0, 0)] ++ es452).foldl uC cx) fx457 hz465c) (by omega)
            have fe466m : (([(5, (tkS Sx jx).1, 0, 0)] ++ es452).foldl uC cx).m = σ438.2.1 45 a := (fe466.e45).symm.trans (rfl)
            exact ⟨i451, [(5, (tkS Sx jx).1, 0, 0)] ++ es452, 0 + 0 + m453, mw454, (by omega), rd463, fe466, by rw [fe466m]; omega, (NI2.app (NI2.one (show (5 : Int) ≠ 2 by decide)) ni458), mgq459, mb460, hz465⟩
          have rb450 : v444 = 0 → YF σ438 a Sx bx [20] jx ∧ FG Tg gs T439 σ438 a := fun hv => by
            obtain ⟨⟨pl467, g468, fx469⟩, nf470⟩ := f442.2 hv
            have rf471 : GRF Sx [20] jx 0 (bx) u0 (pl467) := GR.fl (l := [51, 21]) [] rd435 g468
            exact ⟨⟨_, rf471, fx469⟩, nf470⟩
          exact tn_zret (v := v444) rfl (by omega) dX5_statement_124 ⟨_, rfl, w445, (((FrC.rfl.put (by decide) (by decide)).put (by decide) (by decide)).trans (FrC.sub F446 (by decide))), by omega, ⟨ra449, rb450⟩, (RP.up rp448 (by omega))⟩
        · refine tn_tableIn (tgt := 131) (off := 72) dX5_statement_59 (x := σ.2.1 85 xq273) ⟨by omega, by omega⟩ (by omega) (by omega) (by rw [h297]; rfl) (by decide) ?_
          refine tn_aload_n dX5_statement_131 rfl 0 rfl ?_
          refine tn_callV (M := m_X5_statement) (pc := 132) (ix := 90) (ci := 5) (M' := m_X5_refuse) (As := []) (rest := []) dX5_statement_132 ok_X5_refuse im_X5_refuse se_X5_refuse ml5_90 np_X5_refuse rfl rfl ha rfl (Nat.le_of_ble_eq_true rfl) (Nat.le_of_ble_eq_true rfl) rfl (k_X5_refuse_m (d + 3 * lv + 60) (T := T) (σ := (sA 9 xq4 ((σ.2.1 45 a) + 1) (sA 45 a ((σ.2.1 45 a) + 1) σ))) (a := a) ha ((hw.put (by decide) (by decide) (fo_45 (by omega))).put (by decide) (by decide) (fo_9 (by omega))) (fx270).1.1) (fun r472 T474 σ473 gt475 hp => ?_)
          obtain ⟨v481, rfl, rfl, w482, F483, f476, f477, f478, f479, f480⟩ := hp
          clear gt475
          have pc484 : GRF Sx [20] jx (0) (bx) u0 (tkS Sx jx).1 := x20f hSb (by omega)
          have rf4850 : GR Sx [20] jx 0 (bx) u0 [20] jx (0) (bx) u0 (0) ([]) := GR.nl
          have rf485 : GRF Sx [20] jx 0 (bx) u0 ((tkS Sx jx).1) := GR.fl (l := [20]) [] rf4850 pc484
          have rp486 : RP σ473 a (kp) := RP.frc ((hrp.put (by decide)).put (by decide)) F483 (by decide) (by decide) (by decide) (by decide) (by decide)
          show Tn _ _ 135 T σ473 [(0, .ref a), (1, .int (iI dp))] [.int (iI v481)] _
          have mg489 : MG Tg gs T σ473 a mx.stm := (MG.nt mgs272 f480)
          have rb488 : YF σ473 a Sx bx [20] jx ∧ FG Tg gs T σ473 a := ⟨⟨_, rf485, f478⟩, (mg489).1⟩
          exact tn_zret (v := v481) rfl (by omega) dX5_statement_135 ⟨_, rfl, w482, (((FrC.rfl.put (by decide) (by decide)).put (by decide) (by decide)).trans (FrC.sub F483 (by decide))), by omega, ⟨fun q => absurd q (by omega), fun _ => rb488⟩, (RP.up rp486 (by omega))⟩
        · refine tn_tableIn (tgt := 125) (off := 66) dX5_statement_59 (x := σ.2.1 85 xq273) ⟨by omega, by omega⟩ (by omega) (by omega) (by rw [h297]; rfl) (by decide) ?_
          refine tn_aload_n dX5_statement_125 rfl 0 rfl ?_
          refine tn_iload_n dX5_statement_126 rfl 1 rfl ?_
          have pc490 : GR Sx [20] jx (0) (bx) u0 [22] jx (0) (bx) u0 0 [(5, (tkS Sx jx).1, 0, 0)] := x20w hSb (by omega)
          have pm491 : CN nm mx.rt (uC cx (5, (tkS Sx jx).1, 0, 0)) (GW Sx nm rnQ tb1 [20] jx (0) (bx) u0 mx [22] jx (0) (bx) u0 0 (mx.stm)) := fun hn9 => GW.of (gm20w hSb (by omega)) rfl
          have rd4920 : GR Sx [20] jx 0 (bx) u0 [20] jx (0) (bx) u0 (0) ([]) := GR.nl
          have rd492a : GR Sx [20] jx 0 (bx) u0 [22] jx (0) (bx) u0 (0 + 0) ([] ++ [(5, (tkS Sx jx).1, 0, 0)]) := GR.gg (l := [20]) (ms := [22]) [] rd4920 pc490
          have rd492 : GR Sx [20] jx 0 (bx) u0 [22] jx (0) (bx) u0 (0 + 0) ([(5, (tkS Sx jx).1, 0, 0)]) := rd492a
          have rm4930 : CN nm mx.rt (cx) (GW Sx nm rnQ tb1 [20] jx 0 (bx) u0 mx [20] jx (0) (bx) u0 (0) mx) := fun _ => GW.nl
          have rm493 : CN nm mx.rt (uC cx (5, (tkS Sx jx).1, 0, 0)) (GW Sx nm rnQ tb1 [20] jx 0 (bx) u0 mx [22] jx (0) (bx) u0 (0 + 0) (mx.stm)) := CN.gg (l := [20]) (ms := [22]) [] rm4930 (fun q9 => (fun q9 => q9) (NMA.up (show (5 : Int) ≠ 2 by decide) q9)) pm491
          have sy494 : (mx.stm).w = ((mx.stm)).w := rfl
          refine tn_callV (M := m_X5_statement) (pc := 127) (ix := 198) (ci := 5) (M' := m_X5_ring) (As := [.int (iI dp)]) (rest := []) dX5_statement_127 ok_X5_ring im_X5_ring se_X5_ring ml5_198 np_X5_ring rfl rfl ha rfl (Nat.le_of_ble_eq_true rfl) (Nat.le_of_ble_eq_true rfl) rfl (k_X5_ring_m (d) (T := T) (σ := (sA 9 xq4 ((σ.2.1 45 a) + 1) (sA 45 a ((σ.2.1 45 a) + 1) σ))) (a := a) (dp := dp) (kp := kp) (lv := lv) (bx := bx) (nm := nm) (Tg := Tg) (gs := gs) (mx := (mx.stm)) ha (by omega) ((hw.put (by decide) (by decide) (fo_45 (by omega))).put (by decide) (by decide) (fo_9 (by omega))) hex (by omega) (by omega) fx270 (MG.cg mgs272 sy494) (MBD.same (MBD.st hmb) sy494) hgf (by omega) (by omega) (by omega) ((hrp.put (by decide)).put (by decide))) (fun r495 T497 σ496 gt498 hp => ?_)
          obtain ⟨v502, rfl, w503, F504, f499, f500, f501⟩ := hp
          replace ha : OB T497 a 5 := gt498.ob ha
          have rp506 : RP σ496 a (kp - 9 * v502 + 2) := RP.up f501 (by omega)
          show Tn _ _ 130 T497 σ496 [(0, .ref a), (1, .int (iI dp))] [.int (iI v502)] _
          have ra507 : v502 = 1 → YSM σ496 a Sx nx bx [20] jx cx (Nx) bx [] ((jx : Int) + 1) nm Tg gs T497 mx (mx) (fun m9 => m9) := fun hv => by
            obtain ⟨i509, es510, m511, mw512, lo513, rr514, fx515, fx515m, ni516, mgq517, mb518, cn519⟩ := f500.1 hv
            have fx515s : σ496.2.1 45 a ≤ (i509 : Int) := by rw [fx515.e45]; exact fx515m
            have pm520 : CN nm mx.rt (es510.foldl uC (uC cx (5, (tkS Sx jx).1, 0, 0))) (GW Sx nm rnQ tb1 [22] jx (0) (bx) u0 (mx.stm) [] i509 (0) (bx) u0 m511 (mw512.on (mx.stm))) := cn519
            have rd521 : GR Sx [20] jx 0 (bx) u0 [] i509 (0) (bx) u0 (0 + 0 + m511) ([(5, (tkS Sx jx).1, 0, 0)] ++ es510) := GR.gg (l := [22]) (ms := []) [] rd492 rr514
            have rm522 : CN nm mx.rt (es510.foldl uC (uC cx (5, (tkS Sx jx).1, 0, 0))) (GW Sx nm rnQ tb1 [20] jx 0 (bx) u0 mx [] i509 (0) (bx) u0 (0 + 0 + m511) (mw512.on (mx.stm))) := CN.gg (l := [22]) (ms := []) [] rm493 (fun q9 => (fun q9 => q9) (NMA.fo ni516 q9)) pm520
            have hz523e : (mw512.on (mx.stm)) = (mw512).on mx := rfl
            have hz523c : (es510.foldl uC (uC cx (5, (tkS Sx jx).1, 0, 0))) = ([(5, (tkS Sx jx).1, 0, 0)] ++ es510).foldl uC cx := (by simp only [List.foldl_append, List.foldl_cons, List.foldl_nil])
            have hz523 : CN nm mx.rt (([(5, (tkS Sx jx).1, 0, 0)] ++ es510).foldl uC cx) (GW Sx nm rnQ tb1 [20] jx 0 (bx) u0 mx [] i509 (0) (bx) u0 (0 + 0 + m511) ((mw512).on mx)) := by
              have q9 := CN.up (c2 := es510.foldl uC (uC cx (5, (tkS Sx jx).1, 0, 0))) rm522 (fun q9 => q9)
              rw [hz523e, hz523c] at q9
              exact q9
            have fe524 := RDX.nq (M := Nx + (0 + 0 + m511)) (RDX.cq (c2 := ([(5, (tkS Sx jx).1, 0, 0)] ++ es510).foldl uC cx) fx515 hz523c) (by omega)
            have fe524m : (([(5, (tkS Sx jx).1, 0, 0)] ++ es510).foldl uC cx).m = σ496.2.1 45 a := (fe524.e45).symm.trans (rfl)
            exact ⟨i509, [(5, (tkS Sx jx).1, 0, 0)] ++ es510, 0 + 0 + m511, mw512, (by omega), rd521, fe524, by rw [fe524m]; omega, (NI2.app (NI2.one (show (5 : Int) ≠ 2 by decide)) ni516), mgq517, mb518, hz523⟩
          have rb508 : v502 = 0 → YF σ496 a Sx bx [20] jx ∧ FG Tg gs T497 σ496 a := fun hv => by
            obtain ⟨⟨pl525, g526, fx527⟩, nf528⟩ := f500.2 hv
            have rf529 : GRF Sx [20] jx 0 (bx) u0 (pl525) := GR.fl (l := [22]) [] rd492 g526
            exact ⟨⟨_, rf529, fx527⟩, nf528⟩
          exact tn_zret (v := v502) rfl (by omega) dX5_statement_130 ⟨_, rfl, w503, (((FrC.rfl.put (by decide) (by decide)).put (by decide) (by decide)).trans (FrC.sub F504 (by decide))), by omega, ⟨ra507, rb508⟩, (RP.up rp506 (by omega))⟩
  · refine tn_aload_n dX5_statement_19 rfl 0 rfl ?_
    refine tn_iconst dX5_statement_20 ?_
    refine tn_aload_n dX5_statement_21 rfl 0 rfl ?_
    obtain ⟨xq530, hx531, hk532⟩ : ∃ x : Nat, σ.2.1 33 a = (x : Int) ∧ (T x).1 = 39 := wf_33 hw ha
    have hk532o : OB T xq530 9 := ⟨by omega, by rw [hk532]; rfl, by omega⟩
    refine tn_getR (ci := 5) (i := 0) (n := 33) (x := xq530) dX5_statement_22 rfl lay_5 (by decide) fl5_12 ha rfl rfl (rc_o (by decide) (hx531)) ?_
    refine tn_getI (ci := 9) (i := 6) (n := 87) (t := σ.2.1 87 xq530) dX5_statement_25 rfl lay_9 (by decide) fl5_74 hk532o rfl rfl (rc_o (by decide) (rfl)) ?_
    have g534 : ((-2147483648 : Int) ≤ σ.2.1 87 xq530 ∧ σ.2.1 87 xq530 ≤ 2147483647) := wf_87 hw hk532o
    have g534pl : σ.2.1 87 xq530 = (tkS Sx jx).1 := (rc_o (by decide) (rfl)).symm.trans ((fx2).1.pl (rc_o (by decide) (hx531)))
    refine tn_callV (M := m_X5_statement) (pc := 28) (ix := 113) (ci := 5) (M' := m_X5_note) (As := [.int (iI 5), .int (iI (σ.2.1 87 xq530))]) (rest := []) dX5_statement_28 ok_X5_note im_X5_note se_X5_note ml5_113 np_X5_note rfl rfl ha rfl (Nat.le_of_ble_eq_true rfl) (Nat.le_of_ble_eq_true rfl) rfl (k_X5_note_m (d + 3 * lv + 60) (T := T) (σ := (sA 45 a ((σ.2.1 45 a) + 1) σ)) (a := a) (f := 5) (p := σ.2.1 87 xq530) ha (by decide) (by omega) (hw.put (by decide) (by decide) (fo_45 (by omega))) ) (fun r535 T537 σ536 gt538 hp => ?_)
    obtain ⟨rfl, rfl, w542, F543, f539, f540⟩ := hp
    clear gt538
    have mg544 : MG Tg gs T (sA 45 a ((σ.2.1 45 a) + 1) σ) a ((mx).sN ((σ.2.1 45 a) + 1)) := (MG.f45 hmg)
    have fx545 : RDX σ536 a Sx nx jx (fpC (cntN 5 (σ.2.1 87 xq530) (msC (cx.m + 1) cx).fp) (msC (cx.m + 1) cx)) (Nx) := RDX.nt fx2 (hw.put (by decide) (by decide) (fo_45 (by omega))) ha F543 f539
    have rp546 : RP σ536 a (kp) := RP.frc (hrp.put (by decide)) F543 (by decide) (by decide) (by decide) (by decide) (by decide)
    show Tn _ _ 31 T σ536 [(0, .ref a), (1, .int (iI dp))] [] _
    refine tn_aload_n dX5_statement_31 rfl 0 rfl ?_
    obtain ⟨xq547, hx548, hk549⟩ : ∃ x : Nat, σ.2.1 35 a = (x : Int) ∧ (T x).1 = 31 := wf_35 hw ha
    have hk549o : OB T xq547 1 := ⟨by omega, by rw [hk549]; rfl, by omega⟩
    refine tn_getR (ci := 5) (i := 2) (n := 35) (x := xq547) dX5_statement_32 rfl lay_5 (by decide) fl5_47 ha rfl rfl (rc_F F543 (Or.inl (by decide)) (by decide) (rc_o (by decide) (hx548))) ?_
    refine tn_getI (ci := 1) (i := 4) (n := 9) (t := σ.2.1 9 xq547) dX5_statement_35 rfl lay_1 (by decide) fl5_186 hk549o rfl rfl (rc_F F543 (Or.inl (by decide)) (by decide) (rc_o (by decide) (rfl))) ?_
    have g551 : ((-2147483648 : Int) ≤ σ.2.1 9 xq547 ∧ σ.2.1 9 xq547 ≤ 2147483647) := wf_9 hw hk549o
    have mg552 : MG Tg gs T σ536 a ((mx).sN ((σ.2.1 45 a) + 1)) := (MG.nt mg544 f540)
    have g551fs : σ.2.1 9 xq547 = mx.fs := by have z0 := MG.e9 mg552 (MG.cd mg552 (show σ536.2.1 35 a = (xq547 : Int) from rc_F F543 (Or.inl (by decide)) (by decide) (rc_o (by decide) (hx548)))); have z1 : σ536.2.1 9 xq547 = mx.fs := z0; have z2 : σ536.2.1 9 xq547 = σ.2.1 9 xq547 := rc_F F543 (Or.inl (by decide)) (by decide) (rc_o (by decide) (rfl)); omega
    refine tn_if_ne (tgt := 52) dX5_statement_38 (by decide) ⟨by omega, by omega⟩ (fun h553 => ?_) (fun h553 => ?_)
    · have fx554 : RDX σ536 a Sx nx jx (uC cx (5, (tkS Sx jx).1, 0, 0)) Nx := RDX.cq fx545 (by rw [g534pl, uC5o (by omega)]; rfl)
      have mgs555 : MG Tg gs T σ536 a mx.stm := MG.st0 (m := mx) mg552 (by have z0 := MG.e45 hmg; have z1 : σ.2.1 45 a = mx.ln := z0; have y0 : σ536.2.1 45 a = (σ.2.1 45 a) + 1 := rc_F F543 (Or.inl (by decide)) (by decide) (ra_eq); have y1 : σ536.2.1 45 a = (σ.2.1 45 a) + 1 := rc_F F543 (Or.inl (by decide)) (by decide) (ra_eq); omega) (by omega)
      refine tn_aload_n dX5_statement_52 rfl 0 rfl ?_
      refine tn_getR (ci := 5) (i := 0) (n := 33) (x := xq530) dX5_statement_53 rfl lay_5 (by decide) fl5_12 ha rfl rfl (rc_F F543 (Or.inl (by decide)) (by decide) (rc_o (by decide) (hx531))) ?_
      refine tn_getI (ci := 9) (i := 4) (n := 85) (t := σ.2.1 85 xq530) dX5_statement_56 rfl lay_9 (by decide) fl5_71 hk532o rfl rfl (rc_F F543 (Or.inl (by decide)) (by decide) (rc_o (by decide) (rfl))) ?_
      have g556 : ((-2147483648 : Int) ≤ σ.2.1 85 xq530 ∧ σ.2.1 85 xq530 ≤ 2147483647) := wf_85 hw hk532o
      have g556kd : σ.2.1 85 xq530 = ckd (tkS Sx jx) := (rc_F F543 (Or.inl (by decide)) (by decide) (rc_o (by decide) (rfl))).symm.trans ((fx554).1.kd (rc_F F543 (Or.inl (by decide)) (by decide) (rc_o (by decide) (hx531))))
      by_cases h557 : σ.2.1 85 xq530 < 256 ∨ 262 < σ.2.1 85 xq530
      · refine tn_tableOut (tgt := 131) dX5_statement_59 (x := σ.2.1 85 xq530) ⟨by omega, by omega⟩ h557 (by decide) ?_
        refine tn_aload_n dX5_statement_131 rfl 0 rfl ?_
        refine tn_callV (M := m_X5_statement) (pc := 132) (ix := 90) (ci := 5) (M' := m_X5_refuse) (As := []) (rest := []) dX5_statement_132 ok_X5_refuse im_X5_refuse se_X5_refuse ml5_90 np_X5_refuse rfl rfl ha rfl (Nat.le_of_ble_eq_true rfl) (Nat.le_of_ble_eq_true rfl) rfl (k_X5_refuse_m (d + 3 * lv + 60) (T := T) (σ := σ536) (a := a) ha w542 (fx554).1.1) (fun r558 T560 σ559 gt561 hp => ?_)
        obtain ⟨v567, rfl, rfl, w568, F569, f562, f563, f564, f565, f566⟩ := hp
        clear gt561
        have pc570 : GRF Sx [20] jx (0) (bx) u0 (tkS Sx jx).1 := x20f hSb (by omega)
        have rf5710 : GR Sx [20] jx 0 (bx) u0 [20] jx (0) (bx) u0 (0) ([]) := GR.nl
        have rf571 : GRF Sx [20] jx 0 (bx) u0 ((tkS Sx jx).1) := GR.fl (l := [20]) [] rf5710 pc570
        have rp572 : RP σ559 a (kp) := RP.frc rp546 F569 (by decide) (by decide) (by decide) (by decide) (by decide)
        show Tn _ _ 135 T σ559 [(0, .ref a), (1, .int (iI dp))] [.int (iI v567)] _
        have mg575 : MG Tg gs T σ559 a mx.stm := (MG.nt mgs555 f566)
        have rb574 : YF σ559 a Sx bx [20] jx ∧ FG Tg gs T σ559 a := ⟨⟨_, rf571, f564⟩, (mg575).1⟩
        exact tn_zret (v := v567) rfl (by omega) dX5_statement_135 ⟨_, rfl, w568, (((FrC.rfl.put (by decide) (by decide)).trans (FrC.sub F543 (by decide))).trans (FrC.sub F569 (by decide))), by omega, ⟨fun q => absurd q (by omega), fun _ => rb574⟩, (RP.up rp572 (by omega))⟩
      · have h576 : σ.2.1 85 xq530 = 256 ∨ σ.2.1 85 xq530 = 257 ∨ σ.2.1 85 xq530 = 258 ∨ σ.2.1 85 xq530 = 259 ∨ σ.2.1 85 xq530 = 260 ∨ σ.2.1 85 xq530 = 261 ∨ σ.2.1 85 xq530 = 262 := by omega
        rcases h576 with h576 | h576 | h576 | h576 | h576 | h576 | h576
        · refine tn_tableIn (tgt := 100) (off := 41) dX5_statement_59 (x := σ.2.1 85 xq530) ⟨by omega, by omega⟩ (by omega) (by omega) (by rw [h576]; rfl) (by decide) ?_
          refine tn_aload_n dX5_statement_100 rfl 0 rfl ?_
          have pc577 : GR Sx [20] jx (0) (bx) u0 [51, 23] jx (0) (bx) u0 0 [(5, (tkS Sx jx).1, 0, 0)] := x20n hSb (by omega)
          have pm578 : CN nm mx.rt (uC cx (5, (tkS Sx jx).1, 0, 0)) (GW Sx nm rnQ tb1 [20] jx (0) (bx) u0 mx [51, 23] jx (0) (bx) u0 0 (mx.stm.push (1, 0, 0, []))) := fun hn9 => GW.of (gm20n hSb (by omega)) rfl
          have rd5790 : GR Sx [20] jx 0 (bx) u0 [20] jx (0) (bx) u0 (0) ([]) := GR.nl
          have rd579a : GR Sx [20] jx 0 (bx) u0 [51, 23] jx (0) (bx) u0 (0 + 0) ([] ++ [(5, (tkS Sx jx).1, 0, 0)]) := GR.gg (l := [20]) (ms := [51, 23]) [] rd5790 pc577
          have rd579 : GR Sx [20] jx 0 (bx) u0 [51, 23] jx (0) (bx) u0 (0 + 0) ([(5, (tkS Sx jx).1, 0, 0)]) := rd579a
          have rm5800 : CN nm mx.rt (cx) (GW Sx nm rnQ tb1 [20] jx 0 (bx) u0 mx [20] jx (0) (bx) u0 (0) mx) := fun _ => GW.nl
          have rm580 : CN nm mx.rt (uC cx (5, (tkS Sx jx).1, 0, 0)) (GW Sx nm rnQ tb1 [20] jx 0 (bx) u0 mx [51, 23] jx (0) (bx) u0 (0 + 0) (mx.stm.push (1, 0, 0, []))) := CN.gg (l := [20]) (ms := [51, 23]) [] rm5800 (fun q9 => (fun q9 => q9) (NMA.up (show (5 : Int) ≠ 2 by decide) q9)) pm578
          refine tn_callV (M := m_X5_statement) (pc := 101) (ix := 189) (ci := 5) (M' := m_X5_assignment) (As := []) (rest := []) dX5_statement_101 ok_X5_assignment im_X5_assignment se_X5_assignment ml5_189 np_X5_assignment rfl rfl ha rfl (Nat.le_of_ble_eq_true rfl) (Nat.le_of_ble_eq_true rfl) rfl (k_X5_assignment_m (d + 3 * lv + 9) (T := T) (σ := σ536) (a := a) (kp := kp) (bx := bx) (nm := nm) (Tg := Tg) (gs := gs) (mx := mx.stm) ha w542 fx554 mgs555 (MBD.st hmb) hgf (by omega) (by omega) rp546) (fun r581 T583 σ582 gt584 hp => ?_)
          obtain ⟨v588, rfl, w589, F590, f585, f586, f587⟩ := hp
          replace ha : OB T583 a 5 := gt584.ob ha
          have rp592 : RP σ582 a (kp - 10 * v588 + 1) := RP.up f587 (by omega)
          show Tn _ _ 104 T583 σ582 [(0, .ref a), (1, .int (iI dp))] [.int (iI v588)] _
          have ra593 : v588 = 1 → YSM σ582 a Sx nx bx [20] jx cx (Nx) bx [] ((jx : Int) + 1) nm Tg gs T583 mx (mx) (fun m9 => m9) := fun hv => by
            obtain ⟨i595, es596, m597, mw598, lo599, rr600, fx601, fx601m, ni602, mgq603, mb604, cn605⟩ := f586.1 hv
            have fx601s : σ582.2.1 45 a ≤ (i595 : Int) := by rw [fx601.e45]; exact fx601m
            have pm606 : CN nm mx.rt (es596.foldl uC (uC cx (5, (tkS Sx jx).1, 0, 0))) (GW Sx nm rnQ tb1 [51, 23] jx (0) (bx) u0 (mx.stm.push (1, 0, 0, [])) [] i595 (0) (bx) u0 m597 (mw598.on mx.stm)) := cn605
            have rd607 : GR Sx [20] jx 0 (bx) u0 [] i595 (0) (bx) u0 (0 + 0 + m597) ([(5, (tkS Sx jx).1, 0, 0)] ++ es596) := GR.gg (l := [51, 23]) (ms := []) [] rd579 rr600
            have rm608 : CN nm mx.rt (es596.foldl uC (uC cx (5, (tkS Sx jx).1, 0, 0))) (GW Sx nm rnQ tb1 [20] jx 0 (bx) u0 mx [] i595 (0) (bx) u0 (0 + 0 + m597) (mw598.on mx.stm)) := CN.gg (l := [51, 23]) (ms := []) [] rm580 (fun q9 => (fun q9 => q9) (NMA.fo ni602 q9)) pm606
            have hz609e : (mw598.on mx.stm) = (mw598).on mx := rfl
            have hz609c : (es596.foldl uC (uC cx (5, (tkS Sx jx).1, 0, 0))) = ([(5, (tkS Sx jx).1, 0, 0)] ++ es596).foldl uC cx := (by simp only [List.foldl_append, List.foldl_cons, List.foldl_nil])
            have hz609 : CN nm mx.rt (([(5, (tkS Sx jx).1, 0, 0)] ++ es596).foldl uC cx) (GW Sx nm rnQ tb1 [20] jx 0 (bx) u0 mx [] i595 (0) (bx) u0 (0 + 0 + m597) ((mw598).on mx)) := by
              have q9 := CN.up (c2 := es596.foldl uC (uC cx (5, (tkS Sx jx).1, 0, 0))) rm608 (fun q9 => q9)
              rw [hz609e, hz609c] at q9
              exact q9
            have fe610 := RDX.nq (M := Nx + (0 + 0 + m597)) (RDX.cq (c2 := ([(5, (tkS Sx jx).1, 0, 0)] ++ es596).foldl uC cx) fx601 hz609c) (by omega)
            have fe610m : (([(5, (tkS Sx jx).1, 0, 0)] ++ es596).foldl uC cx).m = (σ.2.1 45 a) + 1 := (fe610.e45).symm.trans (rc_F F590 (Or.inl (by decide)) (by decide) (rc_F F543 (Or.inl (by decide)) (by decide) (ra_eq)))
            exact ⟨i595, [(5, (tkS Sx jx).1, 0, 0)] ++ es596, 0 + 0 + m597, mw598, (by omega), rd607, fe610, by rw [fe610m]; omega, (NI2.app (NI2.one (show (5 : Int) ≠ 2 by decide)) ni602), mgq603, mb604, hz609⟩
          have rb594 : v588 = 0 → YF σ582 a Sx bx [20] jx ∧ FG Tg gs T583 σ582 a := fun hv => by
            obtain ⟨⟨pl611, g612, fx613⟩, nf614⟩ := f586.2 hv
            have rf615 : GRF Sx [20] jx 0 (bx) u0 (pl611) := GR.fl (l := [51, 23]) [] rd579 g612
            exact ⟨⟨_, rf615, fx613⟩, nf614⟩
          exact tn_zret (v := v588) rfl (by omega) dX5_statement_104 ⟨_, rfl, w589, (((FrC.rfl.put (by decide) (by decide)).trans (FrC.sub F543 (by decide))).trans (FrC.sub F590 (by decide))), by omega, ⟨ra593, rb594⟩, (RP.up rp592 (by omega))⟩
        · refine tn_tableIn (tgt := 131) (off := 72) dX5_statement_59 (x := σ.2.1 85 xq530) ⟨by omega, by omega⟩ (by omega) (by omega) (by rw [h576]; rfl) (by decide) ?_
          refine tn_aload_n dX5_statement_131 rfl 0 rfl ?_
          refine tn_callV (M := m_X5_statement) (pc := 132) (ix := 90) (ci := 5) (M' := m_X5_refuse) (As := []) (rest := []) dX5_statement_132 ok_X5_refuse im_X5_refuse se_X5_refuse ml5_90 np_X5_refuse rfl rfl ha rfl (Nat.le_of_ble_eq_true rfl) (Nat.le_of_ble_eq_true rfl) rfl (k_X5_refuse_m (d + 3 * lv + 60) (T := T) (σ := σ536) (a := a) ha w542 (fx554).1.1) (fun r616 T618 σ617 gt619 hp => ?_)
          obtain ⟨v625, rfl, rfl, w626, F627, f620, f621, f622, f623, f624⟩ := hp
          clear gt619
          have pc628 : GRF Sx [20] jx (0) (bx) u0 (tkS Sx jx).1 := x20f hSb (by omega)
          have rf6290 : GR Sx [20] jx 0 (bx) u0 [20] jx (0) (bx) u0 (0) ([]) := GR.nl
          have rf629 : GRF Sx [20] jx 0 (bx) u0 ((tkS Sx jx).1) := GR.fl (l := [20]) [] rf6290 pc628
          have rp630 : RP σ617 a (kp) := RP.frc rp546 F627 (by decide) (by decide) (by decide) (by decide) (by decide)
          show Tn _ _ 135 T σ617 [(0, .ref a), (1, .int (iI dp))] [.int (iI v625)] _
          have mg633 : MG Tg gs T σ617 a mx.stm := (MG.nt mgs555 f624)
          have rb632 : YF σ617 a Sx bx [20] jx ∧ FG Tg gs T σ617 a := ⟨⟨_, rf629, f622⟩, (mg633).1⟩
          exact tn_zret (v := v625) rfl (by omega) dX5_statement_135 ⟨_, rfl, w626, (((FrC.rfl.put (by decide) (by decide)).trans (FrC.sub F543 (by decide))).trans (FrC.sub F627 (by decide))), by omega, ⟨fun q => absurd q (by omega), fun _ => rb632⟩, (RP.up rp630 (by omega))⟩
        · refine tn_tableIn (tgt := 105) (off := 46) dX5_statement_59 (x := σ.2.1 85 xq530) ⟨by omega, by omega⟩ (by omega) (by omega) (by rw [h576]; rfl) (by decide) ?_
          refine tn_aload_n dX5_statement_105 rfl 0 rfl ?_
          refine tn_bipush dX5_statement_106 (by decide) ?_
          have pc634 : GR Sx [20] jx (0) (bx) u0 [51, 39] jx (0) (bx) u0 0 [(5, (tkS Sx jx).1, 0, 0)] := x20o hSb (by omega)
          have pm635 : CN nm mx.rt (uC cx (5, (tkS Sx jx).1, 0, 0)) (GW Sx nm rnQ tb1 [20] jx (0) (bx) u0 mx [51, 39] jx (0) (bx) u0 0 (mx.stm.push (1, 0, 0, []))) := fun hn9 => GW.of (gm20o hSb (by omega)) rfl
          have rd6360 : GR Sx [20] jx 0 (bx) u0 [20] jx (0) (bx) u0 (0) ([]) := GR.nl
          have rd636a : GR Sx [20] jx 0 (bx) u0 [51, 39] jx (0) (bx) u0 (0 + 0) ([] ++ [(5, (tkS Sx jx).1, 0, 0)]) := GR.gg (l := [20]) (ms := [51, 39]) [] rd6360 pc634
          have rd636 : GR Sx [20] jx 0 (bx) u0 [51, 39] jx (0) (bx) u0 (0 + 0) ([(5, (tkS Sx jx).1, 0, 0)]) := rd636a
          have rm6370 : CN nm mx.rt (cx) (GW Sx nm rnQ tb1 [20] jx 0 (bx) u0 mx [20] jx (0) (bx) u0 (0) mx) := fun _ => GW.nl
          have rm637 : CN nm mx.rt (uC cx (5, (tkS Sx jx).1, 0, 0)) (GW Sx nm rnQ tb1 [20] jx 0 (bx) u0 mx [51, 39] jx (0) (bx) u0 (0 + 0) (mx.stm.push (1, 0, 0, []))) := CN.gg (l := [20]) (ms := [51, 39]) [] rm6370 (fun q9 => (fun q9 => q9) (NMA.up (show (5 : Int) ≠ 2 by decide) q9)) pm635
          refine tn_callV (M := m_X5_statement) (pc := 108) (ix := 192) (ci := 5) (M' := m_X5_single) (As := [.int (iI 6)]) (rest := []) dX5_statement_108 ok_X5_single im_X5_single se_X5_single ml5_192 np_X5_single rfl rfl ha rfl (Nat.le_of_ble_eq_true rfl) (Nat.le_of_ble_eq_true rfl) rfl (k_X5_single_mo (d + 3 * lv + 10) (T := T) (σ := σ536) (a := a) (k := 6) (kp := kp) (bx := bx) (nm := nm) (Tg := Tg) (gs := gs) (mx := mx.stm) ha (by decide) w542 rfl fx554 mgs555 (MBD.st hmb) (by omega) (by omega) rp546) (fun r638 T640 σ639 gt641 hp => ?_)
          obtain ⟨v645, rfl, w646, F647, f642, f643, f644⟩ := hp
          replace ha : OB T640 a 5 := gt641.ob ha
          have rp649 : RP σ639 a (kp - 7 * v645 + 1) := RP.up f644 (by omega)
          show Tn _ _ 111 T640 σ639 [(0, .ref a), (1, .int (iI dp))] [.int (iI v645)] _
          have ra650 : v645 = 1 → YSM σ639 a Sx nx bx [20] jx cx (Nx) bx [] ((jx : Int) + 1) nm Tg gs T640 mx (mx) (fun m9 => m9) := fun hv => by
            obtain ⟨i652, es653, m654, mw655, lo656, rr657, fx658, fx658m, ni659, mgq660, mb661, cn662⟩ := f643.1 hv
            have fx658s : σ639.2.1 45 a ≤ (i652 : Int) := by rw [fx658.e45]; exact fx658m
            have pm663 : CN nm mx.rt (es653.foldl uC (uC cx (5, (tkS Sx jx).1, 0, 0))) (GW Sx nm rnQ tb1 [51, 39] jx (0) (bx) u0 (mx.stm.push (1, 0, 0, [])) [] i652 (0) (bx) u0 m654 (mw655.on mx.stm)) := cn662
            have rd664 : GR Sx [20] jx 0 (bx) u0 [] i652 (0) (bx) u0 (0 + 0 + m654) ([(5, (tkS Sx jx).1, 0, 0)] ++ es653) := GR.gg (l := [51, 39]) (ms := []) [] rd636 rr657
            have rm665 : CN nm mx.rt (es653.foldl uC (uC cx (5, (tkS Sx jx).1, 0, 0))) (GW Sx nm rnQ tb1 [20] jx 0 (bx) u0 mx [] i652 (0) (bx) u0 (0 + 0 + m654) (mw655.on mx.stm)) := CN.gg (l := [51, 39]) (ms := []) [] rm637 (fun q9 => (fun q9 => q9) (NMA.fo ni659 q9)) pm663
            have hz666e : (mw655.on mx.stm) = (mw655).on mx := rfl
            have hz666c : (es653.foldl uC (uC cx (5, (tkS Sx jx).1, 0, 0))) = ([(5, (tkS Sx jx).1, 0, 0)] ++ es653).foldl uC cx := (by simp only [List.foldl_append, List.foldl_cons, List.foldl_nil])
            have hz666 : CN nm mx.rt (([(5, (tkS Sx jx).1, 0, 0)] ++ es653).foldl uC cx) (GW Sx nm rnQ tb1 [20] jx 0 (bx) u0 mx [] i652 (0) (bx) u0 (0 + 0 + m654) ((mw655).on mx)) := by
              have q9 := CN.up (c2 := es653.foldl uC (uC cx (5, (tkS Sx jx).1, 0, 0))) rm665 (fun q9 => q9)
              rw [hz666e, hz666c] at q9
              exact q9
            have fe667 := RDX.nq (M := Nx + (0 + 0 + m654)) (RDX.cq (c2 := ([(5, (tkS Sx jx).1, 0, 0)] ++ es653).foldl uC cx) fx658 hz666c) (by omega)
            have fe667m : (([(5, (tkS Sx jx).1, 0, 0)] ++ es653).foldl uC cx).m = (σ.2.1 45 a) + 1 := (fe667.e45).symm.trans (rc_F F647 (Or.inl (by decide)) (by decide) (rc_F F543 (Or.inl (by decide)) (by decide) (ra_eq)))
            exact ⟨i652, [(5, (tkS Sx jx).1, 0, 0)] ++ es653, 0 + 0 + m654, mw655, (by omega), rd664, fe667, by rw [fe667m]; omega, (NI2.app (NI2.one (show (5 : Int) ≠ 2 by decide)) ni659), mgq660, mb661, hz666⟩
          have rb651 : v645 = 0 → YF σ639 a Sx bx [20] jx ∧ FG Tg gs T640 σ639 a := fun hv => by
            obtain ⟨⟨pl668, g669, fx670⟩, nf671⟩ := f643.2 hv
            have rf672 : GRF Sx [20] jx 0 (bx) u0 (pl668) := GR.fl (l := [51, 39]) [] rd636 g669
            exact ⟨⟨_, rf672, fx670⟩, nf671⟩
          exact tn_zret (v := v645) rfl (by omega) dX5_statement_111 ⟨_, rfl, w646, (((FrC.rfl.put (by decide) (by decide)).trans (FrC.sub F543 (by decide))).trans (FrC.sub F647 (by decide))), by omega, ⟨ra650, rb651⟩, (RP.up rp649 (by omega))⟩
        · refine tn_tableIn (tgt := 112) (off := 53) dX5_statement_59 (x := σ.2.1 85 xq530) ⟨by omega, by omega⟩ (by omega) (by omega) (by rw [h576]; rfl) (by decide) ?_
          refine tn_aload_n dX5_statement_112 rfl 0 rfl ?_
          refine tn_bipush dX5_statement_113 (by decide) ?_
          have pc673 : GR Sx [20] jx (0) (bx) u0 [51, 39] jx (0) (bx) u0 0 [(5, (tkS Sx jx).1, 0, 0)] := x20r hSb (by omega)
          have pm674 : CN nm mx.rt (uC cx (5, (tkS Sx jx).1, 0, 0)) (GW Sx nm rnQ tb1 [20] jx (0) (bx) u0 mx [51, 39] jx (0) (bx) u0 0 (mx.stm.push (1, 0, 0, []))) := fun hn9 => GW.of (gm20r hSb (by omega)) rfl
          have rd6750 : GR Sx [20] jx 0 (bx) u0 [20] jx (0) (bx) u0 (0) ([]) := GR.nl
          have rd675a : GR Sx [20] jx 0 (bx) u0 [51, 39] jx (0) (bx) u0 (0 + 0) ([] ++ [(5, (tkS Sx jx).1, 0, 0)]) := GR.gg (l := [20]) (ms := [51, 39]) [] rd6750 pc673
          have rd675 : GR Sx [20] jx 0 (bx) u0 [51, 39] jx (0) (bx) u0 (0 + 0) ([(5, (tkS Sx jx).1, 0, 0)]) := rd675a
          have rm6760 : CN nm mx.rt (cx) (GW Sx nm rnQ tb1 [20] jx 0 (bx) u0 mx [20] jx (0) (bx) u0 (0) mx) := fun _ => GW.nl
          have rm676 : CN nm mx.rt (uC cx (5, (tkS Sx jx).1, 0, 0)) (GW Sx nm rnQ tb1 [20] jx 0 (bx) u0 mx [51, 39] jx (0) (bx) u0 (0 + 0) (mx.stm.push (1, 0, 0, []))) := CN.gg (l := [20]) (ms := [51, 39]) [] rm6760 (fun q9 => (fun q9 => q9) (NMA.up (show (5 : Int) ≠ 2 by decide) q9)) pm674
          refine tn_callV (M := m_X5_statement) (pc := 115) (ix := 192) (ci := 5) (M' := m_X5_single) (As := [.int (iI 7)]) (rest := []) dX5_statement_115 ok_X5_single im_X5_single se_X5_single ml5_192 np_X5_single rfl rfl ha rfl (Nat.le_of_ble_eq_true rfl) (Nat.le_of_ble_eq_true rfl) rfl (k_X5_single_mr (d + 3 * lv + 10) (T := T) (σ := σ536) (a := a) (k := 7) (kp := kp) (bx := bx) (nm := nm) (Tg := Tg) (gs := gs) (mx := mx.stm) ha (by decide) w542 rfl fx554 mgs555 (MBD.st hmb) (by omega) (by omega) rp546) (fun r677 T679 σ678 gt680 hp => ?_)
          obtain ⟨v684, rfl, w685, F686, f681, f682, f683⟩ := hp
          replace ha : OB T679 a 5 := gt680.ob ha
          have rp688 : RP σ678 a (kp - 7 * v684 + 1) := RP.up f683 (by omega)
          show Tn _ _ 118 T679 σ678 [(0, .ref a), (1, .int (iI dp))] [.int (iI v684)] _
          have ra689 : v684 = 1 → YSM σ678 a Sx nx bx [20] jx cx (Nx) bx [] ((jx : Int) + 1) nm Tg gs T679 mx (mx) (fun m9 => m9) := fun hv => by
            obtain ⟨i691, es692, m693, mw694, lo695, rr696, fx697, fx697m, ni698, mgq699, mb700, cn701⟩ := f682.1 hv
            have fx697s : σ678.2.1 45 a ≤ (i691 : Int) := by rw [fx697.e45]; exact fx697m
            have pm702 : CN nm mx.rt (es692.foldl uC (uC cx (5, (tkS Sx jx).1, 0, 0))) (GW Sx nm rnQ tb1 [51, 39] jx (0) (bx) u0 (mx.stm.push (1, 0, 0, [])) [] i691 (0) (bx) u0 m693 (mw694.on mx.stm)) := cn701
            have rd703 : GR Sx [20] jx 0 (bx) u0 [] i691 (0) (bx) u0 (0 + 0 + m693) ([(5, (tkS Sx jx).1, 0, 0)] ++ es692) := GR.gg (l := [51, 39]) (ms := []) [] rd675 rr696
            have rm704 : CN nm mx.rt (es692.foldl uC (uC cx (5, (tkS Sx jx).1, 0, 0))) (GW Sx nm rnQ tb1 [20] jx 0 (bx) u0 mx [] i691 (0) (bx) u0 (0 + 0 + m693) (mw694.on mx.stm)) := CN.gg (l := [51, 39]) (ms := []) [] rm676 (fun q9 => (fun q9 => q9) (NMA.fo ni698 q9)) pm702
            have hz705e : (mw694.on mx.stm) = (mw694).on mx := rfl
            have hz705c : (es692.foldl uC (uC cx (5, (tkS Sx jx).1, 0, 0))) = ([(5, (tkS Sx jx).1, 0, 0)] ++ es692).foldl uC cx := (by simp only [List.foldl_append, List.foldl_cons, List.foldl_nil])
            have hz705 : CN nm mx.rt (([(5, (tkS Sx jx).1, 0, 0)] ++ es692).foldl uC cx) (GW Sx nm rnQ tb1 [20] jx 0 (bx) u0 mx [] i691 (0) (bx) u0 (0 + 0 + m693) ((mw694).on mx)) := by
              have q9 := CN.up (c2 := es692.foldl uC (uC cx (5, (tkS Sx jx).1, 0, 0))) rm704 (fun q9 => q9)
              rw [hz705e, hz705c] at q9
              exact q9
            have fe706 := RDX.nq (M := Nx + (0 + 0 + m693)) (RDX.cq (c2 := ([(5, (tkS Sx jx).1, 0, 0)] ++ es692).foldl uC cx) fx697 hz705c) (by omega)
            have fe706m : (([(5, (tkS Sx jx).1, 0, 0)] ++ es692).foldl uC cx).m = (σ.2.1 45 a) + 1 := (fe706.e45).symm.trans (rc_F F686 (Or.inl (by decide)) (by decide) (rc_F F543 (Or.inl (by decide)) (by decide) (ra_eq)))
            exact ⟨i691, [(5, (tkS Sx jx).1, 0, 0)] ++ es692, 0 + 0 + m693, mw694, (by omega), rd703, fe706, by rw [fe706m]; omega, (NI2.app (NI2.one (show (5 : Int) ≠ 2 by decide)) ni698), mgq699, mb700, hz705⟩
          have rb690 : v684 = 0 → YF σ678 a Sx bx [20] jx ∧ FG Tg gs T679 σ678 a := fun hv => by
            obtain ⟨⟨pl707, g708, fx709⟩, nf710⟩ := f682.2 hv
            have rf711 : GRF Sx [20] jx 0 (bx) u0 (pl707) := GR.fl (l := [51, 39]) [] rd675 g708
            exact ⟨⟨_, rf711, fx709⟩, nf710⟩
          exact tn_zret (v := v684) rfl (by omega) dX5_statement_118 ⟨_, rfl, w685, (((FrC.rfl.put (by decide) (by decide)).trans (FrC.sub F543 (by decide))).trans (FrC.sub F686 (by decide))), by omega, ⟨ra689, rb690⟩, (RP.up rp688 (by omega))⟩
        · refine tn_tableIn (tgt := 119) (off := 60) dX5_statement_59 (x := σ.2.1 85 xq530) ⟨by omega, by omega⟩ (by omega) (by omega) (by rw [h576]; rfl) (by decide) ?_
          refine tn_aload_n dX5_statement_119 rfl 0 rfl ?_
          refine tn_iload_n dX5_statement_120 rfl 1 rfl ?_
          have pc712 : GR Sx [20] jx (0) (bx) u0 [51, 21] jx (0) (bx) u0 0 [(5, (tkS Sx jx).1, 0, 0)] := x20i hSb (by omega)
          have pm713 : CN nm mx.rt (uC cx (5, (tkS Sx jx).1, 0, 0)) (GW Sx nm rnQ tb1 [20] jx (0) (bx) u0 mx [51, 21] jx (0) (bx) u0 0 (mx.stm.push (1, 0, 0, []))) := fun hn9 => GW.of (gm20i hSb (by omega)) rfl
          have rd7140 : GR Sx [20] jx 0 (bx) u0 [20] jx (0) (bx) u0 (0) ([]) := GR.nl
          have rd714a : GR Sx [20] jx 0 (bx) u0 [51, 21] jx (0) (bx) u0 (0 + 0) ([] ++ [(5, (tkS Sx jx).1, 0, 0)]) := GR.gg (l := [20]) (ms := [51, 21]) [] rd7140 pc712
          have rd714 : GR Sx [20] jx 0 (bx) u0 [51, 21] jx (0) (bx) u0 (0 + 0) ([(5, (tkS Sx jx).1, 0, 0)]) := rd714a
          have rm7150 : CN nm mx.rt (cx) (GW Sx nm rnQ tb1 [20] jx 0 (bx) u0 mx [20] jx (0) (bx) u0 (0) mx) := fun _ => GW.nl
          have rm715 : CN nm mx.rt (uC cx (5, (tkS Sx jx).1, 0, 0)) (GW Sx nm rnQ tb1 [20] jx 0 (bx) u0 mx [51, 21] jx (0) (bx) u0 (0 + 0) (mx.stm.push (1, 0, 0, []))) := CN.gg (l := [20]) (ms := [51, 21]) [] rm7150 (fun q9 => (fun q9 => q9) (NMA.up (show (5 : Int) ≠ 2 by decide) q9)) pm713
          refine tn_callV (M := m_X5_statement) (pc := 121) (ix := 195) (ci := 5) (M' := m_X5_choice) (As := [.int (iI dp)]) (rest := []) dX5_statement_121 ok_X5_choice im_X5_choice se_X5_choice ml5_195 np_X5_choice rfl rfl ha rfl (Nat.le_of_ble_eq_true rfl) (Nat.le_of_ble_eq_true rfl) rfl (k_X5_choice_m (d) (T := T) (σ := σ536) (a := a) (dp := dp) (kp := kp) (lv := lv) (bx := bx) (nm := nm) (Tg := Tg) (gs := gs) (mx := mx.stm) ha (by omega) w542 hex (by omega) (by omega) fx554 mgs555 (MBD.st hmb) hgf (by omega) (by omega) (by omega) rp546) (fun r716 T718 σ717 gt719 hp => ?_)
          obtain ⟨v723, rfl, w724, F725, f720, f721, f722⟩ := hp
          replace ha : OB T718 a 5 := gt719.ob ha
          have rp727 : RP σ717 a (kp - 10 * v723 + 1) := RP.up f722 (by omega)
          show Tn _ _ 124 T718 σ717 [(0, .ref a), (1, .int (iI dp))] [.int (iI v723)] _
          have ra728 : v723 = 1 → YSM σ717 a Sx nx bx [20] jx cx (Nx) bx [] ((jx : Int) + 1) nm Tg gs T718 mx (mx) (fun m9 => m9) := fun hv => by
            obtain ⟨i730, es731, m732, mw733, lo734, rr735, fx736, fx736m, ni737, mgq738, mb739, cn740⟩ := f721.1 hv
            have fx736s : σ717.2.1 45 a ≤ (i730 : Int) := by rw [fx736.e45]; exact fx736m
            have pm741 : CN nm mx.rt (es731.foldl uC (uC cx (5, (tkS Sx jx).1, 0, 0))) (GW Sx nm rnQ tb1 [51, 21] jx (0) (bx) u0 (mx.stm.push (1, 0, 0, [])) [] i730 (0) (bx) u0 m732 (mw733.on mx.stm)) := cn740
            have rd742 : GR Sx [20] jx 0 (bx) u0 [] i730 (0) (bx) u0 (0 + 0 + m732) ([(5, (tkS Sx jx).1, 0, 0)] ++ es731) := GR.gg (l := [51, 21]) (ms := []) [] rd714 rr735
            have rm743 : CN nm mx.rt (es731.foldl uC (uC cx (5, (tkS Sx jx).1, 0, 0))) (GW Sx nm rnQ tb1 [20] jx 0 (bx) u0 mx [] i730 (0) (bx) u0 (0 + 0 + m732) (mw733.on mx.stm)) := CN.gg (l := [51, 21]) (ms := []) [] rm715 (fun q9 => (fun q9 => q9) (NMA.fo ni737 q9)) pm741
            have hz744e : (mw733.on mx.stm) = (mw733).on mx := rfl
            have hz744c : (es731.foldl uC (uC cx (5, (tkS Sx jx).1, 0, 0))) = ([(5, (tkS Sx jx).1, 0, 0)] ++ es731).foldl uC cx := (by simp only [List.foldl_append, List.foldl_cons, List.foldl_nil])
            have hz744 : CN nm mx.rt (([(5, (tkS Sx jx).1, 0, 0)] ++ es731).foldl uC cx) (GW Sx nm rnQ tb1 [20] jx 0 (bx) u0 mx [] i730 (0) (bx) u0 (0 + 0 + m732) ((mw733).on mx)) := by
              have q9 := CN.up (c2 := es731.foldl uC (uC cx (5, (tkS Sx jx).1, 0, 0))) rm743 (fun q9 => q9)
              rw [hz744e, hz744c] at q9
              exact q9
            have fe745 := RDX.nq (M := Nx + (0 + 0 + m732)) (RDX.cq (c2 := ([(5, (tkS Sx jx).1, 0, 0)] ++ es731).foldl uC cx) fx736 hz744c) (by omega)
            have fe745m : (([(5, (tkS Sx jx).1, 0, 0)] ++ es731).foldl uC cx).m = σ717.2.1 45 a := (fe745.e45).symm.trans (rfl)
            exact ⟨i730, [(5, (tkS Sx jx).1, 0, 0)] ++ es731, 0 + 0 + m732, mw733, (by omega), rd742, fe745, by rw [fe745m]; omega, (NI2.app (NI2.one (show (5 : Int) ≠ 2 by decide)) ni737), mgq738, mb739, hz744⟩
          have rb729 : v723 = 0 → YF σ717 a Sx bx [20] jx ∧ FG Tg gs T718 σ717 a := fun hv => by
            obtain ⟨⟨pl746, g747, fx748⟩, nf749⟩ := f721.2 hv
            have rf750 : GRF Sx [20] jx 0 (bx) u0 (pl746) := GR.fl (l := [51, 21]) [] rd714 g747
            exact ⟨⟨_, rf750, fx748⟩, nf749⟩
          exact tn_zret (v := v723) rfl (by omega) dX5_statement_124 ⟨_, rfl, w724, (((FrC.rfl.put (by decide) (by decide)).trans (FrC.sub F543 (by decide))).trans (FrC.sub F725 (by decide))), by omega, ⟨ra728, rb729⟩, (RP.up rp727 (by omega))⟩
        · refine tn_tableIn (tgt := 131) (off := 72) dX5_statement_59 (x := σ.2.1 85 xq530) ⟨by omega, by omega⟩ (by omega) (by omega) (by rw [h576]; rfl) (by decide) ?_
          refine tn_aload_n dX5_statement_131 rfl 0 rfl ?_
          refine tn_callV (M := m_X5_statement) (pc := 132) (ix := 90) (ci := 5) (M' := m_X5_refuse) (As := []) (rest := []) dX5_statement_132 ok_X5_refuse im_X5_refuse se_X5_refuse ml5_90 np_X5_refuse rfl rfl ha rfl (Nat.le_of_ble_eq_true rfl) (Nat.le_of_ble_eq_true rfl) rfl (k_X5_refuse_m (d + 3 * lv + 60) (T := T) (σ := σ536) (a := a) ha w542 (fx554).1.1) (fun r751 T753 σ752 gt754 hp => ?_)
          obtain ⟨v760, rfl, rfl, w761, F762, f755, f756, f757, f758, f759⟩ := hp
          clear gt754
          have pc763 : GRF Sx [20] jx (0) (bx) u0 (tkS Sx jx).1 := x20f hSb (by omega)
          have rf7640 : GR Sx [20] jx 0 (bx) u0 [20] jx (0) (bx) u0 (0) ([]) := GR.nl
          have rf764 : GRF Sx [20] jx 0 (bx) u0 ((tkS Sx jx).1) := GR.fl (l := [20]) [] rf7640 pc763
          have rp765 : RP σ752 a (kp) := RP.frc rp546 F762 (by decide) (by decide) (by decide) (by decide) (by decide)
          show Tn _ _ 135 T σ752 [(0, .ref a), (1, .int (iI dp))] [.int (iI v760)] _
          have mg768 : MG Tg gs T σ752 a mx.stm := (MG.nt mgs555 f759)
          have rb767 : YF σ752 a Sx bx [20] jx ∧ FG Tg gs T σ752 a := ⟨⟨_, rf764, f757⟩, (mg768).1⟩
          exact tn_zret (v := v760) rfl (by omega) dX5_statement_135 ⟨_, rfl, w761, (((FrC.rfl.put (by decide) (by decide)).trans (FrC.sub F543 (by decide))).trans (FrC.sub F762 (by decide))), by omega, ⟨fun q => absurd q (by omega), fun _ => rb767⟩, (RP.up rp765 (by omega))⟩
        · refine tn_tableIn (tgt := 125) (off := 66) dX5_statement_59 (x := σ.2.1 85 xq530) ⟨by omega, by omega⟩ (by omega) (by omega) (by rw [h576]; rfl) (by decide) ?_
          refine tn_aload_n dX5_statement_125 rfl 0 rfl ?_
          refine tn_iload_n dX5_statement_126 rfl 1 rfl ?_
          have pc769 : GR Sx [20] jx (0) (bx) u0 [22] jx (0) (bx) u0 0 [(5, (tkS Sx jx).1, 0, 0)] := x20w hSb (by omega)
          have pm770 : CN nm mx.rt (uC cx (5, (tkS Sx jx).1, 0, 0)) (GW Sx nm rnQ tb1 [20] jx (0) (bx) u0 mx [22] jx (0) (bx) u0 0 (mx.stm)) := fun hn9 => GW.of (gm20w hSb (by omega)) rfl
          have rd7710 : GR Sx [20] jx 0 (bx) u0 [20] jx (0) (bx) u0 (0) ([]) := GR.nl
          have rd771a : GR Sx [20] jx 0 (bx) u0 [22] jx (0) (bx) u0 (0 + 0) ([] ++ [(5, (tkS Sx jx).1, 0, 0)]) := GR.gg (l := [20]) (ms := [22]) [] rd7710 pc769
          have rd771 : GR Sx [20] jx 0 (bx) u0 [22] jx (0) (bx) u0 (0 + 0) ([(5, (tkS Sx jx).1, 0, 0)]) := rd771a
          have rm7720 : CN nm mx.rt (cx) (GW Sx nm rnQ tb1 [20] jx 0 (bx) u0 mx [20] jx (0) (bx) u0 (0) mx) := fun _ => GW.nl
          have rm772 : CN nm mx.rt (uC cx (5, (tkS Sx jx).1, 0, 0)) (GW Sx nm rnQ tb1 [20] jx 0 (bx) u0 mx [22] jx (0) (bx) u0 (0 + 0) (mx.stm)) := CN.gg (l := [20]) (ms := [22]) [] rm7720 (fun q9 => (fun q9 => q9) (NMA.up (show (5 : Int) ≠ 2 by decide) q9)) pm770
          have sy773 : (mx.stm).w = ((mx.stm)).w := rfl
          refine tn_callV (M := m_X5_statement) (pc := 127) (ix := 198) (ci := 5) (M' := m_X5_ring) (As := [.int (iI dp)]) (rest := []) dX5_statement_127 ok_X5_ring im_X5_ring se_X5_ring ml5_198 np_X5_ring rfl rfl ha rfl (Nat.le_of_ble_eq_true rfl) (Nat.le_of_ble_eq_true rfl) rfl (k_X5_ring_m (d) (T := T) (σ := σ536) (a := a) (dp := dp) (kp := kp) (lv := lv) (bx := bx) (nm := nm) (Tg := Tg) (gs := gs) (mx := (mx.stm)) ha (by omega) w542 hex (by omega) (by omega) fx554 (MG.cg mgs555 sy773) (MBD.same (MBD.st hmb) sy773) hgf (by omega) (by omega) (by omega) rp546) (fun r774 T776 σ775 gt777 hp => ?_)
          obtain ⟨v781, rfl, w782, F783, f778, f779, f780⟩ := hp
          replace ha : OB T776 a 5 := gt777.ob ha
          have rp785 : RP σ775 a (kp - 9 * v781 + 2) := RP.up f780 (by omega)
          show Tn _ _ 130 T776 σ775 [(0, .ref a), (1, .int (iI dp))] [.int (iI v781)] _
          have ra786 : v781 = 1 → YSM σ775 a Sx nx bx [20] jx cx (Nx) bx [] ((jx : Int) + 1) nm Tg gs T776 mx (mx) (fun m9 => m9) := fun hv => by
            obtain ⟨i788, es789, m790, mw791, lo792, rr793, fx794, fx794m, ni795, mgq796, mb797, cn798⟩ := f779.1 hv
            have fx794s : σ775.2.1 45 a ≤ (i788 : Int) := by rw [fx794.e45]; exact fx794m
            have pm799 : CN nm mx.rt (es789.foldl uC (uC cx (5, (tkS Sx jx).1, 0, 0))) (GW Sx nm rnQ tb1 [22] jx (0) (bx) u0 (mx.stm) [] i788 (0) (bx) u0 m790 (mw791.on (mx.stm))) := cn798
            have rd800 : GR Sx [20] jx 0 (bx) u0 [] i788 (0) (bx) u0 (0 + 0 + m790) ([(5, (tkS Sx jx).1, 0, 0)] ++ es789) := GR.gg (l := [22]) (ms := []) [] rd771 rr793
            have rm801 : CN nm mx.rt (es789.foldl uC (uC cx (5, (tkS Sx jx).1, 0, 0))) (GW Sx nm rnQ tb1 [20] jx 0 (bx) u0 mx [] i788 (0) (bx) u0 (0 + 0 + m790) (mw791.on (mx.stm))) := CN.gg (l := [22]) (ms := []) [] rm772 (fun q9 => (fun q9 => q9) (NMA.fo ni795 q9)) pm799
            have hz802e : (mw791.on (mx.stm)) = (mw791).on mx := rfl
            have hz802c : (es789.foldl uC (uC cx (5, (tkS Sx jx).1, 0, 0))) = ([(5, (tkS Sx jx).1, 0, 0)] ++ es789).foldl uC cx := (by simp only [List.foldl_append, List.foldl_cons, List.foldl_nil])
            have hz802 : CN nm mx.rt (([(5, (tkS Sx jx).1, 0, 0)] ++ es789).foldl uC cx) (GW Sx nm rnQ tb1 [20] jx 0 (bx) u0 mx [] i788 (0) (bx) u0 (0 + 0 + m790) ((mw791).on mx)) := by
              have q9 := CN.up (c2 := es789.foldl uC (uC cx (5, (tkS Sx jx).1, 0, 0))) rm801 (fun q9 => q9)
              rw [hz802e, hz802c] at q9
              exact q9
            have fe803 := RDX.nq (M := Nx + (0 + 0 + m790)) (RDX.cq (c2 := ([(5, (tkS Sx jx).1, 0, 0)] ++ es789).foldl uC cx) fx794 hz802c) (by omega)
            have fe803m : (([(5, (tkS Sx jx).1, 0, 0)] ++ es789).foldl uC cx).m = σ775.2.1 45 a := (fe803.e45).symm.trans (rfl)
            exact ⟨i788, [(5, (tkS Sx jx).1, 0, 0)] ++ es789, 0 + 0 + m790, mw791, (by omega), rd800, fe803, by rw [fe803m]; omega, (NI2.app (NI2.one (show (5 : Int) ≠ 2 by decide)) ni795), mgq796, mb797, hz802⟩
          have rb787 : v781 = 0 → YF σ775 a Sx bx [20] jx ∧ FG Tg gs T776 σ775 a := fun hv => by
            obtain ⟨⟨pl804, g805, fx806⟩, nf807⟩ := f779.2 hv
            have rf808 : GRF Sx [20] jx 0 (bx) u0 (pl804) := GR.fl (l := [22]) [] rd771 g805
            exact ⟨⟨_, rf808, fx806⟩, nf807⟩
          exact tn_zret (v := v781) rfl (by omega) dX5_statement_130 ⟨_, rfl, w782, (((FrC.rfl.put (by decide) (by decide)).trans (FrC.sub F543 (by decide))).trans (FrC.sub F783 (by decide))), by omega, ⟨ra786, rb787⟩, (RP.up rp785 (by omega))⟩
    · refine tn_aload_n dX5_statement_41 rfl 0 rfl ?_
      refine tn_getR (ci := 5) (i := 2) (n := 35) (x := xq547) dX5_statement_42 rfl lay_5 (by decide) fl5_47 ha rfl rfl (rc_F F543 (Or.inl (by decide)) (by decide) (rc_o (by decide) (hx548))) ?_
      refine tn_aload_n dX5_statement_45 rfl 0 rfl ?_
      refine tn_getI (ci := 5) (i := 12) (n := 45) (t := (σ.2.1 45 a) + 1) dX5_statement_46 rfl lay_5 (by decide) fl5_64 ha rfl rfl (rc_F F543 (Or.inl (by decide)) (by decide) (ra_eq)) ?_
      refine tn_putV (ci := 1) (i := 4) (n := 9) (r := false) (v := (σ.2.1 45 a) + 1) tyX1 tyX1_ok nmX1 dX5_statement_49 rfl lay_1 (by decide) fl5_186 rfl (tyX1_ok 4 (by decide)) rfl rfl rfl hk549o rfl rfl ?_
      have mg810 : MG Tg gs T (sA 9 xq547 ((σ.2.1 45 a) + 1) σ536) a ((((mx).sN ((σ.2.1 45 a) + 1))).sF ((σ.2.1 45 a) + 1)) := (MG.f9 mg552 (MG.cd mg552 (show σ536.2.1 35 a = (xq547 : Int) from rc_F F543 (Or.inl (by decide)) (by decide) (rc_o (by decide) (hx548)))))
      have fx809 : RDX (sA 9 xq547 ((σ.2.1 45 a) + 1) σ536) a Sx nx jx (uC cx (5, (tkS Sx jx).1, 0, 0)) Nx := RDX.cq (fx545.pt (by decide) (by decide)) (by rw [g534pl, uC5o (by omega)]; rfl)
      have mgs811 : MG Tg gs T (sA 9 xq547 ((σ.2.1 45 a) + 1) σ536) a mx.stm := MG.st1 (m := mx) mg810 (by have z0 := MG.e45 hmg; have z1 : σ.2.1 45 a = mx.ln := z0; have y0 : (sA 9 xq547 ((σ.2.1 45 a) + 1) σ536).2.1 45 a = (σ.2.1 45 a) + 1 := rc_o (by decide) (rc_F F543 (Or.inl (by decide)) (by decide) (ra_eq)); have y1 : (sA 9 xq547 ((σ.2.1 45 a) + 1) σ536).2.1 45 a = (σ.2.1 45 a) + 1 := rc_o (by decide) (rc_F F543 (Or.inl (by decide)) (by decide) (ra_eq)); omega) (by have z0 := MG.e45 hmg; have z1 : σ.2.1 45 a = mx.ln := z0; have y0 : (sA 9 xq547 ((σ.2.1 45 a) + 1) σ536).2.1 45 a = (σ.2.1 45 a) + 1 := rc_o (by decide) (rc_F F543 (Or.inl (by decide)) (by decide) (ra_eq)); have y1 : (sA 9 xq547 ((σ.2.1 45 a) + 1) σ536).2.1 45 a = (σ.2.1 45 a) + 1 := rc_o (by decide) (rc_F F543 (Or.inl (by decide)) (by decide) (ra_eq)); omega) (by omega)
      refine tn_aload_n dX5_statement_52 rfl 0 rfl ?_
      refine tn_getR (ci := 5) (i := 0) (n := 33) (x := xq530) dX5_statement_53 rfl lay_5 (by decide) fl5_12 ha rfl rfl (rc_o (by decide) (rc_F F543 (Or.inl (by decide)) (by decide) (rc_o (by decide) (hx531)))) ?_
      refine tn_getI (ci := 9) (i := 4) (n := 85) (t := σ.2.1 85 xq530) dX5_statement_56 rfl lay_9 (by decide) fl5_71 hk532o rfl rfl (rc_o (by decide) (rc_F F543 (Or.inl (by decide)) (by decide) (rc_o (by decide) (rfl)))) ?_
      have g812 : ((-2147483648 : Int) ≤ σ.2.1 85 xq530 ∧ σ.2.1 85 xq530 ≤ 2147483647) := wf_85 hw hk532o
      have g812kd : σ.2.1 85 xq530 = ckd (tkS Sx jx) := (rc_o (by decide) (rc_F F543 (Or.inl (by decide)) (by decide) (rc_o (by decide) (rfl)))).symm.trans ((fx809).1.kd (rc_o (by decide) (rc_F F543 (Or.inl (by decide)) (by decide) (rc_o (by decide) (hx531)))))
      by_cases h813 : σ.2.1 85 xq530 < 256 ∨ 262 < σ.2.1 85 xq530
      · refine tn_tableOut (tgt := 131) dX5_statement_59 (x := σ.2.1 85 xq530) ⟨by omega, by omega⟩ h813 (by decide) ?_
        refine tn_aload_n dX5_statement_131 rfl 0 rfl ?_
        refine tn_callV (M := m_X5_statement) (pc := 132) (ix := 90) (ci := 5) (M' := m_X5_refuse) (As := []) (rest := []) dX5_statement_132 ok_X5_refuse im_X5_refuse se_X5_refuse ml5_90 np_X5_refuse rfl rfl ha rfl (Nat.le_of_ble_eq_true rfl) (Nat.le_of_ble_eq_true rfl) rfl (k_X5_refuse_m (d + 3 * lv + 60) (T := T) (σ := (sA 9 xq547 ((σ.2.1 45 a) + 1) σ536)) (a := a) ha (w542.put (by decide) (by decide) (fo_9 (by omega))) (fx809).1.1) (fun r814 T816 σ815 gt817 hp => ?_)
        obtain ⟨v823, rfl, rfl, w824, F825, f818, f819, f820, f821, f822⟩ := hp
        clear gt817
        have pc826 : GRF Sx [20] jx (0) (bx) u0 (tkS Sx jx).1 := x20f hSb (by omega)
        have rf8270 : GR Sx [20] jx 0 (bx) u0 [20] jx (0) (bx) u0 (0) ([]) := GR.nl
        have rf827 : GRF Sx [20] jx 0 (bx) u0 ((tkS Sx jx).1) := GR.fl (l := [20]) [] rf8270 pc826
        have rp828 : RP σ815 a (kp) := RP.frc (rp546.put (by decide)) F825 (by decide) (by decide) (by decide) (by decide) (by decide)
        show Tn _ _ 135 T σ815 [(0, .ref a), (1, .int (iI dp))] [.int (iI v823)] _
        have mg831 : MG Tg gs T σ815 a mx.stm := (MG.nt mgs811 f822)
        have rb830 : YF σ815 a Sx bx [20] jx ∧ FG Tg gs T σ815 a := ⟨⟨_, rf827, f820⟩, (mg831).1⟩
        exact tn_zret (v := v823) rfl (by omega) dX5_statement_135 ⟨_, rfl, w824, ((((FrC.rfl.put (by decide) (by decide)).trans (FrC.sub F543 (by decide))).put (by decide) (by decide)).trans (FrC.sub F825 (by decide))), by omega, ⟨fun q => absurd q (by omega), fun _ => rb830⟩, (RP.up rp828 (by omega))⟩
      · have h832 : σ.2.1 85 xq530 = 256 ∨ σ.2.1 85 xq530 = 257 ∨ σ.2.1 85 xq530 = 258 ∨ σ.2.1 85 xq530 = 259 ∨ σ.2.1 85 xq530 = 260 ∨ σ.2.1 85 xq530 = 261 ∨ σ.2.1 85 xq530 = 262 := by omega
        rcases h832 with h832 | h832 | h832 | h832 | h832 | h832 | h832
        · refine tn_tableIn (tgt := 100) (off := 41) dX5_statement_59 (x := σ.2.1 85 xq530) ⟨by omega, by omega⟩ (by omega) (by omega) (by rw [h832]; rfl) (by decide) ?_
          refine tn_aload_n dX5_statement_100 rfl 0 rfl ?_
          have pc833 : GR Sx [20] jx (0) (bx) u0 [51, 23] jx (0) (bx) u0 0 [(5, (tkS Sx jx).1, 0, 0)] := x20n hSb (by omega)
          have pm834 : CN nm mx.rt (uC cx (5, (tkS Sx jx).1, 0, 0)) (GW Sx nm rnQ tb1 [20] jx (0) (bx) u0 mx [51, 23] jx (0) (bx) u0 0 (mx.stm.push (1, 0, 0, []))) := fun hn9 => GW.of (gm20n hSb (by omega)) rfl
          have rd8350 : GR Sx [20] jx 0 (bx) u0 [20] jx (0) (bx) u0 (0) ([]) := GR.nl
          have rd835a : GR Sx [20] jx 0 (bx) u0 [51, 23] jx (0) (bx) u0 (0 + 0) ([] ++ [(5, (tkS Sx jx).1, 0, 0)]) := GR.gg (l := [20]) (ms := [51, 23]) [] rd8350 pc833
          have rd835 : GR Sx [20] jx 0 (bx) u0 [51, 23] jx (0) (bx) u0 (0 + 0) ([(5, (tkS Sx jx).1, 0, 0)]) := rd835a
          have rm8360 : CN nm mx.rt (cx) (GW Sx nm rnQ tb1 [20] jx 0 (bx) u0 mx [20] jx (0) (bx) u0 (0) mx) := fun _ => GW.nl
          have rm836 : CN nm mx.rt (uC cx (5, (tkS Sx jx).1, 0, 0)) (GW Sx nm rnQ tb1 [20] jx 0 (bx) u0 mx [51, 23] jx (0) (bx) u0 (0 + 0) (mx.stm.push (1, 0, 0, []))) := CN.gg (l := [20]) (ms := [51, 23]) [] rm8360 (fun q9 => (fun q9 => q9) (NMA.up (show (5 : Int) ≠ 2 by decide) q9)) pm834
          refine tn_callV (M := m_X5_statement) (pc := 101) (ix := 189) (ci := 5) (M' := m_X5_assignment) (As := []) (rest := []) dX5_statement_101 ok_X5_assignment im_X5_assignment se_X5_assignment ml5_189 np_X5_assignment rfl rfl ha rfl (Nat.le_of_ble_eq_true rfl) (Nat.le_of_ble_eq_true rfl) rfl (k_X5_assignment_m (d + 3 * lv + 9) (T := T) (σ := (sA 9 xq547 ((σ.2.1 45 a) + 1) σ536)) (a := a) (kp := kp) (bx := bx) (nm := nm) (Tg := Tg) (gs := gs) (mx := mx.stm) ha (w542.put (by decide) (by decide) (fo_9 (by omega))) fx809 mgs811 (MBD.st hmb) hgf (by omega) (by omega) (rp546.put (by decide))) (fun r837 T839 σ838 gt840 hp => ?_)
          obtain ⟨v844, rfl, w845, F846, f841, f842, f843⟩ := hp
          replace ha : OB T839 a 5 := gt840.ob ha
          have rp848 : RP σ838 a (kp - 10 * v844 + 1) := RP.up f843 (by omega)
          show Tn _ _ 104 T839 σ838 [(0, .ref a), (1, .int (iI dp))] [.int (iI v844)] _
          have ra849 : v844 = 1 → YSM σ838 a Sx nx bx [20] jx cx (Nx) bx [] ((jx : Int) + 1) nm Tg gs T839 mx (mx) (fun m9 => m9) := fun hv => by
            obtain ⟨i851, es852, m853, mw854, lo855, rr856, fx857, fx857m, ni858, mgq859, mb860, cn861⟩ := f842.1 hv
            have fx857s : σ838.2.1 45 a ≤ (i851 : Int) := by rw [fx857.e45]; exact fx857m
            have pm862 : CN nm mx.rt (es852.foldl uC (uC cx (5, (tkS Sx jx).1, 0, 0))) (GW Sx nm rnQ tb1 [51, 23] jx (0) (bx) u0 (mx.stm.push (1, 0, 0, [])) [] i851 (0) (bx) u0 m853 (mw854.on mx.stm)) := cn861
            have rd863 : GR Sx [20] jx 0 (bx) u0 [] i851 (0) (bx) u0 (0 + 0 + m853) ([(5, (tkS Sx jx).1, 0, 0)] ++ es852) := GR.gg (l := [51, 23]) (ms := []) [] rd835 rr856
            have rm864 : CN nm mx.rt (es852.foldl uC (uC cx (5, (tkS Sx jx).1, 0, 0))) (GW Sx nm rnQ tb1 [20] jx 0 (bx) u0 mx [] i851 (0) (bx) u0 (0 + 0 + m853) (mw854.on mx.stm)) := CN.gg (l := [51, 23]) (ms := []) [] rm836 (fun q9 => (fun q9 => q9) (NMA.fo ni858 q9)) pm862
            have hz865e : (mw854.on mx.stm) = (mw854).on mx := rfl
            have hz865c : (es852.foldl uC (uC cx (5, (tkS Sx jx).1, 0, 0))) = ([(5, (tkS Sx jx).1, 0, 0)] ++ es852).foldl uC cx := (by simp only [List.foldl_append, List.foldl_cons, List.foldl_nil])
            have hz865 : CN nm mx.rt (([(5, (tkS Sx jx).1, 0, 0)] ++ es852).foldl uC cx) (GW Sx nm rnQ tb1 [20] jx 0 (bx) u0 mx [] i851 (0) (bx) u0 (0 + 0 + m853) ((mw854).on mx)) := by
              have q9 := CN.up (c2 := es852.foldl uC (uC cx (5, (tkS Sx jx).1, 0, 0))) rm864 (fun q9 => q9)
              rw [hz865e, hz865c] at q9
              exact q9
            have fe866 := RDX.nq (M := Nx + (0 + 0 + m853)) (RDX.cq (c2 := ([(5, (tkS Sx jx).1, 0, 0)] ++ es852).foldl uC cx) fx857 hz865c) (by omega)
            have fe866m : (([(5, (tkS Sx jx).1, 0, 0)] ++ es852).foldl uC cx).m = (σ.2.1 45 a) + 1 := (fe866.e45).symm.trans (rc_F F846 (Or.inl (by decide)) (by decide) (rc_o (by decide) (rc_F F543 (Or.inl (by decide)) (by decide) (ra_eq))))
            exact ⟨i851, [(5, (tkS Sx jx).1, 0, 0)] ++ es852, 0 + 0 + m853, mw854, (by omega), rd863, fe866, by rw [fe866m]; omega, (NI2.app (NI2.one (show (5 : Int) ≠ 2 by decide)) ni858), mgq859, mb860, hz865⟩
          have rb850 : v844 = 0 → YF σ838 a Sx bx [20] jx ∧ FG Tg gs T839 σ838 a := fun hv => by
            obtain ⟨⟨pl867, g868, fx869⟩, nf870⟩ := f842.2 hv
            have rf871 : GRF Sx [20] jx 0 (bx) u0 (pl867) := GR.fl (l := [51, 23]) [] rd835 g868
            exact ⟨⟨_, rf871, fx869⟩, nf870⟩
          exact tn_zret (v := v844) rfl (by omega) dX5_statement_104 ⟨_, rfl, w845, ((((FrC.rfl.put (by decide) (by decide)).trans (FrC.sub F543 (by decide))).put (by decide) (by decide)).trans (FrC.sub F846 (by decide))), by omega, ⟨ra849, rb850⟩, (RP.up rp848 (by omega))⟩
        · refine tn_tableIn (tgt := 131) (off := 72) dX5_statement_59 (x := σ.2.1 85 xq530) ⟨by omega, by omega⟩ (by omega) (by omega) (by rw [h832]; rfl) (by decide) ?_
          refine tn_aload_n dX5_statement_131 rfl 0 rfl ?_
          refine tn_callV (M := m_X5_statement) (pc := 132) (ix := 90) (ci := 5) (M' := m_X5_refuse) (As := []) (rest := []) dX5_statement_132 ok_X5_refuse im_X5_refuse se_X5_refuse ml5_90 np_X5_refuse rfl rfl ha rfl (Nat.le_of_ble_eq_true rfl) (Nat.le_of_ble_eq_true rfl) rfl (k_X5_refuse_m (d + 3 * lv + 60) (T := T) (σ := (sA 9 xq547 ((σ.2.1 45 a) + 1) σ536)) (a := a) ha (w542.put (by decide) (by decide) (fo_9 (by omega))) (fx809).1.1) (fun r872 T874 σ873 gt875 hp => ?_)
          obtain ⟨v881, rfl, rfl, w882, F883, f876, f877, f878, f879, f880⟩ := hp
          clear gt875
          have pc884 : GRF Sx [20] jx (0) (bx) u0 (tkS Sx jx).1 := x20f hSb (by omega)
          have rf8850 : GR Sx [20] jx 0 (bx) u0 [20] jx (0) (bx) u0 (0) ([]) := GR.nl
          have rf885 : GRF Sx [20] jx 0 (bx) u0 ((tkS Sx jx).1) := GR.fl (l := [20]) [] rf8850 pc884
          have rp886 : RP σ873 a (kp) := RP.frc (rp546.put (by decide)) F883 (by decide) (by decide) (by decide) (by decide) (by decide)
          show Tn _ _ 135 T σ873 [(0, .ref a), (1, .int (iI dp))] [.int (iI v881)] _
          have mg889 : MG Tg gs T σ873 a mx.stm := (MG.nt mgs811 f880)
          have rb888 : YF σ873 a Sx bx [20] jx ∧ FG Tg gs T σ873 a := ⟨⟨_, rf885, f878⟩, (mg889).1⟩
          exact tn_zret (v := v881) rfl (by omega) dX5_statement_135 ⟨_, rfl, w882, ((((FrC.rfl.put (by decide) (by decide)).trans (FrC.sub F543 (by decide))).put (by decide) (by decide)).trans (FrC.sub F883 (by decide))), by omega, ⟨fun q => absurd q (by omega), fun _ => rb888⟩, (RP.up rp886 (by omega))⟩
        · refine tn_tableIn (tgt := 105) (off := 46) dX5_statement_59 (x := σ.2.1 85 xq530) ⟨by omega, by omega⟩ (by omega) (by omega) (by rw [h832]; rfl) (by decide) ?_
          refine tn_aload_n dX5_statement_105 rfl 0 rfl ?_
          refine tn_bipush dX5_statement_106 (by decide) ?_
          have pc890 : GR Sx [20] jx (0) (bx) u0 [51, 39] jx (0) (bx) u0 0 [(5, (tkS Sx jx).1, 0, 0)] := x20o hSb (by omega)
          have pm891 : CN nm mx.rt (uC cx (5, (tkS Sx jx).1, 0, 0)) (GW Sx nm rnQ tb1 [20] jx (0) (bx) u0 mx [51, 39] jx (0) (bx) u0 0 (mx.stm.push (1, 0, 0, []))) := fun hn9 => GW.of (gm20o hSb (by omega)) rfl
          have rd8920 : GR Sx [20] jx 0 (bx) u0 [20] jx (0) (bx) u0 (0) ([]) := GR.nl
          have rd892a : GR Sx [20] jx 0 (bx) u0 [51, 39] jx (0) (bx) u0 (0 + 0) ([] ++ [(5, (tkS Sx jx).1, 0, 0)]) := GR.gg (l := [20]) (ms := [51, 39]) [] rd8920 pc890
          have rd892 : GR Sx [20] jx 0 (bx) u0 [51, 39] jx (0) (bx) u0 (0 + 0) ([(5, (tkS Sx jx).1, 0, 0)]) := rd892a
          have rm8930 : CN nm mx.rt (cx) (GW Sx nm rnQ tb1 [20] jx 0 (bx) u0 mx [20] jx (0) (bx) u0 (0) mx) := fun _ => GW.nl
          have rm893 : CN nm mx.rt (uC cx (5, (tkS Sx jx).1, 0, 0)) (GW Sx nm rnQ tb1 [20] jx 0 (bx) u0 mx [51, 39] jx (0) (bx) u0 (0 + 0) (mx.stm.push (1, 0, 0, []))) := CN.gg (l := [20]) (ms := [51, 39]) [] rm8930 (fun q9 => (fun q9 => q9) (NMA.up (show (5 : Int) ≠ 2 by decide) q9)) pm891
          refine tn_callV (M := m_X5_statement) (pc := 108) (ix := 192) (ci := 5) (M' := m_X5_single) (As := [.int (iI 6)]) (rest := []) dX5_statement_108 ok_X5_single im_X5_single se_X5_single ml5_192 np_X5_single rfl rfl ha rfl (Nat.le_of_ble_eq_true rfl) (Nat.le_of_ble_eq_true rfl) rfl (k_X5_single_mo (d + 3 * lv + 10) (T := T) (σ := (sA 9 xq547 ((σ.2.1 45 a) + 1) σ536)) (a := a) (k := 6) (kp := kp) (bx := bx) (nm := nm) (Tg := Tg) (gs := gs) (mx := mx.stm) ha (by decide) (w542.put (by decide) (by decide) (fo_9 (by omega))) rfl fx809 mgs811 (MBD.st hmb) (by omega) (by omega) (rp546.put (by decide))) (fun r894 T896 σ895 gt897 hp => ?_)
          obtain ⟨v901, rfl, w902, F903, f898, f899, f900⟩ := hp
          replace ha : OB T896 a 5 := gt897.ob ha
          have rp905 : RP σ895 a (kp - 7 * v901 + 1) := RP.up f900 (by omega)
          show Tn _ _ 111 T896 σ895 [(0, .ref a), (1, .int (iI dp))] [.int (iI v901)] _
          have ra906 : v901 = 1 → YSM σ895 a Sx nx bx [20] jx cx (Nx) bx [] ((jx : Int) + 1) nm Tg gs T896 mx (mx) (fun m9 => m9) := fun hv => by
            obtain ⟨i908, es909, m910, mw911, lo912, rr913, fx914, fx914m, ni915, mgq916, mb917, cn918⟩ := f899.1 hv
            have fx914s : σ895.2.1 45 a ≤ (i908 : Int) := by rw [fx914.e45]; exact fx914m
            have pm919 : CN nm mx.rt (es909.foldl uC (uC cx (5, (tkS Sx jx).1, 0, 0))) (GW Sx nm rnQ tb1 [51, 39] jx (0) (bx) u0 (mx.stm.push (1, 0, 0, [])) [] i908 (0) (bx) u0 m910 (mw911.on mx.stm)) := cn918
            have rd920 : GR Sx [20] jx 0 (bx) u0 [] i908 (0) (bx) u0 (0 + 0 + m910) ([(5, (tkS Sx jx).1, 0, 0)] ++ es909) := GR.gg (l := [51, 39]) (ms := []) [] rd892 rr913
            have rm921 : CN nm mx.rt (es909.foldl uC (uC cx (5, (tkS Sx jx).1, 0, 0))) (GW Sx nm rnQ tb1 [20] jx 0 (bx) u0 mx [] i908 (0) (bx) u0 (0 + 0 + m910) (mw911.on mx.stm)) := CN.gg (l := [51, 39]) (ms := []) [] rm893 (fun q9 => (fun q9 => q9) (NMA.fo ni915 q9)) pm919
            have hz922e : (mw911.on mx.stm) = (mw911).on mx := rfl
            have hz922c : (es909.foldl uC (uC cx (5, (tkS Sx jx).1, 0, 0))) = ([(5, (tkS Sx jx).1, 0, 0)] ++ es909).foldl uC cx := (by simp only [List.foldl_append, List.foldl_cons, List.foldl_nil])
            have hz922 : CN nm mx.rt (([(5, (tkS Sx jx).1, 0, 0)] ++ es909).foldl uC cx) (GW Sx nm rnQ tb1 [20] jx 0 (bx) u0 mx [] i908 (0) (bx) u0 (0 + 0 + m910) ((mw911).on mx)) := by
              have q9 := CN.up (c2 := es909.foldl uC (uC cx (5, (tkS Sx jx).1, 0, 0))) rm921 (fun q9 => q9)
              rw [hz922e, hz922c] at q9
              exact q9
            have fe923 := RDX.nq (M := Nx + (0 + 0 + m910)) (RDX.cq (c2 := ([(5, (tkS Sx jx).1, 0, 0)] ++ es909).foldl uC cx) fx914 hz922c) (by omega)
            have fe923m : (([(5, (tkS Sx jx).1, 0, 0)] ++ es909).foldl uC cx).m = (σ.2.1 45 a) + 1 := (fe923.e45).symm.trans (rc_F F903 (Or.inl (by decide)) (by decide) (rc_o (by decide) (rc_F F543 (Or.inl (by decide)) (by decide) (ra_eq))))
            exact ⟨i908, [(5, (tkS Sx jx).1, 0, 0)] ++ es909, 0 + 0 + m910, mw911, (by omega), rd920, fe923, by rw [fe923m]; omega, (NI2.app (NI2.one (show (5 : Int) ≠ 2 by decide)) ni915), mgq916, mb917, hz922⟩
          have rb907 : v901 = 0 → YF σ895 a Sx bx [20] jx ∧ FG Tg gs T896 σ895 a := fun hv => by
            obtain ⟨⟨pl924, g925, fx926⟩, nf927⟩ := f899.2 hv
            have rf928 : GRF Sx [20] jx 0 (bx) u0 (pl924) := GR.fl (l := [51, 39]) [] rd892 g925
            exact ⟨⟨_, rf928, fx926⟩, nf927⟩
          exact tn_zret (v := v901) rfl (by omega) dX5_statement_111 ⟨_, rfl, w902, ((((FrC.rfl.put (by decide) (by decide)).trans (FrC.sub F543 (by decide))).put (by decide) (by decide)).trans (FrC.sub F903 (by decide))), by omega, ⟨ra906, rb907⟩, (RP.up rp905 (by omega))⟩
        · refine tn_tableIn (tgt := 112) (off := 53) dX5_statement_59 (x := σ.2.1 85 xq530) ⟨by omega, by omega⟩ (by omega) (by omega) (by rw [h832]; rfl) (by decide) ?_
          refine tn_aload_n dX5_statement_112 rfl 0 rfl ?_
          refine tn_bipush dX5_statement_113 (by decide) ?_
          have pc929 : GR Sx [20] jx (0) (bx) u0 [51, 39] jx (0) (bx) u0 0 [(5, (tkS Sx jx).1, 0, 0)] := x20r hSb (by omega)
          have pm930 : CN nm mx.rt (uC cx (5, (tkS Sx jx).1, 0, 0)) (GW Sx nm rnQ tb1 [20] jx (0) (bx) u0 mx [51, 39] jx (0) (bx) u0 0 (mx.stm.push (1, 0, 0, []))) := fun hn9 => GW.of (gm20r hSb (by omega)) rfl
          have rd9310 : GR Sx [20] jx 0 (bx) u0 [20] jx (0) (bx) u0 (0) ([]) := GR.nl
          have rd931a : GR Sx [20] jx 0 (bx) u0 [51, 39] jx (0) (bx) u0 (0 + 0) ([] ++ [(5, (tkS Sx jx).1, 0, 0)]) := GR.gg (l := [20]) (ms := [51, 39]) [] rd9310 pc929
          have rd931 : GR Sx [20] jx 0 (bx) u0 [51, 39] jx (0) (bx) u0 (0 + 0) ([(5, (tkS Sx jx).1, 0, 0)]) := rd931a
          have rm9320 : CN nm mx.rt (cx) (GW Sx nm rnQ tb1 [20] jx 0 (bx) u0 mx [20] jx (0) (bx) u0 (0) mx) := fun _ => GW.nl
          have rm932 : CN nm mx.rt (uC cx (5, (tkS Sx jx).1, 0, 0)) (GW Sx nm rnQ tb1 [20] jx 0 (bx) u0 mx [51, 39] jx (0) (bx) u0 (0 + 0) (mx.stm.push (1, 0, 0, []))) := CN.gg (l := [20]) (ms := [51, 39]) [] rm9320 (fun q9 => (fun q9 => q9) (NMA.up (show (5 : Int) ≠ 2 by decide) q9)) pm930
          refine tn_callV (M := m_X5_statement) (pc := 115) (ix := 192) (ci := 5) (M' := m_X5_single) (As := [.int (iI 7)]) (rest := []) dX5_statement_115 ok_X5_single im_X5_single se_X5_single ml5_192 np_X5_single rfl rfl ha rfl (Nat.le_of_ble_eq_true rfl) (Nat.le_of_ble_eq_true rfl) rfl (k_X5_single_mr (d + 3 * lv + 10) (T := T) (σ := (sA 9 xq547 ((σ.2.1 45 a) + 1) σ536)) (a := a) (k := 7) (kp := kp) (bx := bx) (nm := nm) (Tg := Tg) (gs := gs) (mx := mx.stm) ha (by decide) (w542.put (by decide) (by decide) (fo_9 (by omega))) rfl fx809 mgs811 (MBD.st hmb) (by omega) (by omega) (rp546.put (by decide))) (fun r933 T935 σ934 gt936 hp => ?_)
          obtain ⟨v940, rfl, w941, F942, f937, f938, f939⟩ := hp
          replace ha : OB T935 a 5 := gt936.ob ha
          have rp944 : RP σ934 a (kp - 7 * v940 + 1) := RP.up f939 (by omega)
          show Tn _ _ 118 T935 σ934 [(0, .ref a), (1, .int (iI dp))] [.int (iI v940)] _
          have ra945 : v940 = 1 → YSM σ934 a Sx nx bx [20] jx cx (Nx) bx [] ((jx : Int) + 1) nm Tg gs T935 mx (mx) (fun m9 => m9) := fun hv => by
            obtain ⟨i947, es948, m949, mw950, lo951, rr952, fx953, fx953m, ni954, mgq955, mb956, cn957⟩ := f938.1 hv
            have fx953s : σ934.2.1 45 a ≤ (i947 : Int) := by rw [fx953.e45]; exact fx953m
            have pm958 : CN nm mx.rt (es948.foldl uC (uC cx (5, (tkS Sx jx).1, 0, 0))) (GW Sx nm rnQ tb1 [51, 39] jx (0) (bx) u0 (mx.stm.push (1, 0, 0, [])) [] i947 (0) (bx) u0 m949 (mw950.on mx.stm)) := cn957
            have rd959 : GR Sx [20] jx 0 (bx) u0 [] i947 (0) (bx) u0 (0 + 0 + m949) ([(5, (tkS Sx jx).1, 0, 0)] ++ es948) := GR.gg (l := [51, 39]) (ms := []) [] rd931 rr952
            have rm960 : CN nm mx.rt (es948.foldl uC (uC cx (5, (tkS Sx jx).1, 0, 0))) (GW Sx nm rnQ tb1 [20] jx 0 (bx) u0 mx [] i947 (0) (bx) u0 (0 + 0 + m949) (mw950.on mx.stm)) := CN.gg (l := [51, 39]) (ms := []) [] rm932 (fun q9 => (fun q9 => q9) (NMA.fo ni954 q9)) pm958
            have hz961e : (mw950.on mx.stm) = (mw950).on mx := rfl
            have hz961c : (es948.foldl uC (uC cx (5, (tkS Sx jx).1, 0, 0))) = ([(5, (tkS Sx jx).1, 0, 0)] ++ es948).foldl uC cx := (by simp only [List.foldl_append, List.foldl_cons, List.foldl_nil])
            have hz961 : CN nm mx.rt (([(5, (tkS Sx jx).1, 0, 0)] ++ es948).foldl uC cx) (GW Sx nm rnQ tb1 [20] jx 0 (bx) u0 mx [] i947 (0) (bx) u0 (0 + 0 + m949) ((mw950).on mx)) := by
              have q9 := CN.up (c2 := es948.foldl uC (uC cx (5, (tkS Sx jx).1, 0, 0))) rm960 (fun q9 => q9)
              rw [hz961e, hz961c] at q9
              exact q9
            have fe962 := RDX.nq (M := Nx + (0 + 0 + m949)) (RDX.cq (c2 := ([(5, (tkS Sx jx).1, 0, 0)] ++ es948).foldl uC cx) fx953 hz961c) (by omega)
            have fe962m : (([(5, (tkS Sx jx).1, 0, 0)] ++ es948).foldl uC cx).m = (σ.2.1 45 a) + 1 := (fe962.e45).symm.trans (rc_F F942 (Or.inl (by decide)) (by decide) (rc_o (by decide) (rc_F F543 (Or.inl (by decide)) (by decide) (ra_eq))))
            exact ⟨i947, [(5, (tkS Sx jx).1, 0, 0)] ++ es948, 0 + 0 + m949, mw950, (by omega), rd959, fe962, by rw [fe962m]; omega, (NI2.app (NI2.one (show (5 : Int) ≠ 2 by decide)) ni954), mgq955, mb956, hz961⟩
          have rb946 : v940 = 0 → YF σ934 a Sx bx [20] jx ∧ FG Tg gs T935 σ934 a := fun hv => by
            obtain ⟨⟨pl963, g964, fx965⟩, nf966⟩ := f938.2 hv
            have rf967 : GRF Sx [20] jx 0 (bx) u0 (pl963) := GR.fl (l := [51, 39]) [] rd931 g964
            exact ⟨⟨_, rf967, fx965⟩, nf966⟩
          exact tn_zret (v := v940) rfl (by omega) dX5_statement_118 ⟨_, rfl, w941, ((((FrC.rfl.put (by decide) (by decide)).trans (FrC.sub F543 (by decide))).put (by decide) (by decide)).trans (FrC.sub F942 (by decide))), by omega, ⟨ra945, rb946⟩, (RP.up rp944 (by omega))⟩
        · refine tn_tableIn (tgt := 119) (off := 60) dX5_statement_59 (x := σ.2.1 85 xq530) ⟨by omega, by omega⟩ (by omega) (by omega) (by rw [h832]; rfl) (by decide) ?_
          refine tn_aload_n dX5_statement_119 rfl 0 rfl ?_
          refine tn_iload_n dX5_statement_120 rfl 1 rfl ?_
          have pc968 : GR Sx [20] jx (0) (bx) u0 [51, 21] jx (0) (bx) u0 0 [(5, (tkS Sx jx).1, 0, 0)] := x20i hSb (by omega)
          have pm969 : CN nm mx.rt (uC cx (5, (tkS Sx jx).1, 0, 0)) (GW Sx nm rnQ tb1 [20] jx (0) (bx) u0 mx [51, 21] jx (0) (bx) u0 0 (mx.stm.push (1, 0, 0, []))) := fun hn9 => GW.of (gm20i hSb (by omega)) rfl
          have rd9700 : GR Sx [20] jx 0 (bx) u0 [20] jx (0) (bx) u0 (0) ([]) := GR.nl
          have rd970a : GR Sx [20] jx 0 (bx) u0 [51, 21] jx (0) (bx) u0 (0 + 0) ([] ++ [(5, (tkS Sx jx).1, 0, 0)]) := GR.gg (l := [20]) (ms := [51, 21]) [] rd9700 pc968
          have rd970 : GR Sx [20] jx 0 (bx) u0 [51, 21] jx (0) (bx) u0 (0 + 0) ([(5, (tkS Sx jx).1, 0, 0)]) := rd970a
          have rm9710 : CN nm mx.rt (cx) (GW Sx nm rnQ tb1 [20] jx 0 (bx) u0 mx [20] jx (0) (bx) u0 (0) mx) := fun _ => GW.nl
          have rm971 : CN nm mx.rt (uC cx (5, (tkS Sx jx).1, 0, 0)) (GW Sx nm rnQ tb1 [20] jx 0 (bx) u0 mx [51, 21] jx (0) (bx) u0 (0 + 0) (mx.stm.push (1, 0, 0, []))) := CN.gg (l := [20]) (ms := [51, 21]) [] rm9710 (fun q9 => (fun q9 => q9) (NMA.up (show (5 : Int) ≠ 2 by decide) q9)) pm969
          refine tn_callV (M := m_X5_statement) (pc := 121) (ix := 195) (ci := 5) (M' := m_X5_choice) (As := [.int (iI dp)]) (rest := []) dX5_statement_121 ok_X5_choice im_X5_choice se_X5_choice ml5_195 np_X5_choice rfl rfl ha rfl (Nat.le_of_ble_eq_true rfl) (Nat.le_of_ble_eq_true rfl) rfl (k_X5_choice_m (d) (T := T) (σ := (sA 9 xq547 ((σ.2.1 45 a) + 1) σ536)) (a := a) (dp := dp) (kp := kp) (lv := lv) (bx := bx) (nm := nm) (Tg := Tg) (gs := gs) (mx := mx.stm) ha (by omega) (w542.put (by decide) (by decide) (fo_9 (by omega))) hex (by omega) (by omega) fx809 mgs811 (MBD.st hmb) hgf (by omega) (by omega) (by omega) (rp546.put (by decide))) (fun r972 T974 σ973 gt975 hp => ?_)
          obtain ⟨v979, rfl, w980, F981, f976, f977, f978⟩ := hp
          replace ha : OB T974 a 5 := gt975.ob ha
          have rp983 : RP σ973 a (kp - 10 * v979 + 1) := RP.up f978 (by omega)
          show Tn _ _ 124 T974 σ973 [(0, .ref a), (1, .int (iI dp))] [.int (iI v979)] _
          have ra984 : v979 = 1 → YSM σ973 a Sx nx bx [20] jx cx (Nx) bx [] ((jx : Int) + 1) nm Tg gs T974 mx (mx) (fun m9 => m9) := fun hv => by
            obtain ⟨i986, es987, m988, mw989, lo990, rr991, fx992, fx992m, ni993, mgq994, mb995, cn996⟩ := f977.1 hv
            have fx992s : σ973.2.1 45 a ≤ (i986 : Int) := by rw [fx992.e45]; exact fx992m
            have pm997 : CN nm mx.rt (es987.foldl uC (uC cx (5, (tkS Sx jx).1, 0, 0))) (GW Sx nm rnQ tb1 [51, 21] jx (0) (bx) u0 (mx.stm.push (1, 0, 0, [])) [] i986 (0) (bx) u0 m988 (mw989.on mx.stm)) := cn996
            have rd998 : GR Sx [20] jx 0 (bx) u0 [] i986 (0) (bx) u0 (0 + 0 + m988) ([(5, (tkS Sx jx).1, 0, 0)] ++ es987) := GR.gg (l := [51, 21]) (ms := []) [] rd970 rr991
            have rm999 : CN nm mx.rt (es987.foldl uC (uC cx (5, (tkS Sx jx).1, 0, 0))) (GW Sx nm rnQ tb1 [20] jx 0 (bx) u0 mx [] i986 (0) (bx) u0 (0 + 0 + m988) (mw989.on mx.stm)) := CN.gg (l := [51, 21]) (ms := []) [] rm971 (fun q9 => (fun q9 => q9) (NMA.fo ni993 q9)) pm997
            have hz1000e : (mw989.on mx.stm) = (mw989).on mx := rfl
            have hz1000c : (es987.foldl uC (uC cx (5, (tkS Sx jx).1, 0, 0))) = ([(5, (tkS Sx jx).1, 0, 0)] ++ es987).foldl uC cx := (by simp only [List.foldl_append, List.foldl_cons, List.foldl_nil])
            have hz1000 : CN nm mx.rt (([(5, (tkS Sx jx).1, 0, 0)] ++ es987).foldl uC cx) (GW Sx nm rnQ tb1 [20] jx 0 (bx) u0 mx [] i986 (0) (bx) u0 (0 + 0 + m988) ((mw989).on mx)) := by
              have q9 := CN.up (c2 := es987.foldl uC (uC cx (5, (tkS Sx jx).1, 0, 0))) rm999 (fun q9 => q9)
              rw [hz1000e, hz1000c] at q9
              exact q9
            have fe1001 := RDX.nq (M := Nx + (0 + 0 + m988)) (RDX.cq (c2 := ([(5, (tkS Sx jx).1, 0, 0)] ++ es987).foldl uC cx) fx992 hz1000c) (by omega)
            have fe1001m : (([(5, (tkS Sx jx).1, 0, 0)] ++ es987).foldl uC cx).m = σ973.2.1 45 a := (fe1001.e45).symm.trans (rfl)
            exact ⟨i986, [(5, (tkS Sx jx).1, 0, 0)] ++ es987, 0 + 0 + m988, mw989, (by omega), rd998, fe1001, by rw [fe1001m]; omega, (NI2.app (NI2.one (show (5 : Int) ≠ 2 by decide)) ni993), mgq994, mb995, hz1000⟩
          have rb985 : v979 = 0 → YF σ973 a Sx bx [20] jx ∧ FG Tg gs T974 σ973 a := fun hv => by
            obtain ⟨⟨pl1002, g1003, fx1004⟩, nf1005⟩ := f977.2 hv
            have rf1006 : GRF Sx [20] jx 0 (bx) u0 (pl1002) := GR.fl (l := [51, 21]) [] rd970 g1003
            exact ⟨⟨_, rf1006, fx1004⟩, nf1005⟩
          exact tn_zret (v := v979) rfl (by omega) dX5_statement_124 ⟨_, rfl, w980, ((((FrC.rfl.put (by decide) (by decide)).trans (FrC.sub F543 (by decide))).put (by decide) (by decide)).trans (FrC.sub F981 (by decide))), by omega, ⟨ra984, rb985⟩, (RP.up rp983 (by omega))⟩
        · refine tn_tableIn (tgt := 131) (off := 72) dX5_statement_59 (x := σ.2.1 85 xq530) ⟨by omega, by omega⟩ (by omega) (by omega) (by rw [h832]; rfl) (by decide) ?_
          refine tn_aload_n dX5_statement_131 rfl 0 rfl ?_
          refine tn_callV (M := m_X5_statement) (pc := 132) (ix := 90) (ci := 5) (M' := m_X5_refuse) (As := []) (rest := []) dX5_statement_132 ok_X5_refuse im_X5_refuse se_X5_refuse ml5_90 np_X5_refuse rfl rfl ha rfl (Nat.le_of_ble_eq_true rfl) (Nat.le_of_ble_eq_true rfl) rfl (k_X5_refuse_m (d + 3 * lv + 60) (T := T) (σ := (sA 9 xq547 ((σ.2.1 45 a) + 1) σ536)) (a := a) ha (w542.put (by decide) (by decide) (fo_9 (by omega))) (fx809).1.1) (fun r1007 T1009 σ1008 gt1010 hp => ?_)
          obtain ⟨v1016, rfl, rfl, w1017, F1018, f1011, f1012, f1013, f1014, f1015⟩ := hp
          clear gt1010
          have pc1019 : GRF Sx [20] jx (0) (bx) u0 (tkS Sx jx).1 := x20f hSb (by omega)
          have rf10200 : GR Sx [20] jx 0 (bx) u0 [20] jx (0) (bx) u0 (0) ([]) := GR.nl
          have rf1020 : GRF Sx [20] jx 0 (bx) u0 ((tkS Sx jx).1) := GR.fl (l := [20]) [] rf10200 pc1019
          have rp1021 : RP σ1008 a (kp) := RP.frc (rp546.put (by decide)) F1018 (by decide) (by decide) (by decide) (by decide) (by decide)
          show Tn _ _ 135 T σ1008 [(0, .ref a), (1, .int (iI dp))] [.int (iI v1016)] _
          have mg1024 : MG Tg gs T σ1008 a mx.stm := (MG.nt mgs811 f1015)
          have rb1023 : YF σ1008 a Sx bx [20] jx ∧ FG Tg gs T σ1008 a := ⟨⟨_, rf1020, f1013⟩, (mg1024).1⟩
          exact tn_zret (v := v1016) rfl (by omega) dX5_statement_135 ⟨_, rfl, w1017, ((((FrC.rfl.put (by decide) (by decide)).trans (FrC.sub F543 (by decide))).put (by decide) (by decide)).trans (FrC.sub F1018 (by decide))), by omega, ⟨fun q => absurd q (by omega), fun _ => rb1023⟩, (RP.up rp1021 (by omega))⟩
        · refine tn_tableIn (tgt := 125) (off := 66) dX5_statement_59 (x := σ.2.1 85 xq530) ⟨by omega, by omega⟩ (by omega) (by omega) (by rw [h832]; rfl) (by decide) ?_
          refine tn_aload_n dX5_statement_125 rfl 0 rfl ?_
          refine tn_iload_n dX5_statement_126 rfl 1 rfl ?_
          have pc1025 : GR Sx [20] jx (0) (bx) u0 [22] jx (0) (bx) u0 0 [(5, (tkS Sx jx).1, 0, 0)] := x20w hSb (by omega)
          have pm1026 : CN nm mx.rt (uC cx (5, (tkS Sx jx).1, 0, 0)) (GW Sx nm rnQ tb1 [20] jx (0) (bx) u0 mx [22] jx (0) (bx) u0 0 (mx.stm)) := fun hn9 => GW.of (gm20w hSb (by omega)) rfl
          have rd10270 : GR Sx [20] jx 0 (bx) u0 [20] jx (0) (bx) u0 (0) ([]) := GR.nl
          have rd1027a : GR Sx [20] jx 0 (bx) u0 [22] jx (0) (bx) u0 (0 + 0) ([] ++ [(5, (tkS Sx jx).1, 0, 0)]) := GR.gg (l := [20]) (ms := [22]) [] rd10270 pc1025
          have rd1027 : GR Sx [20] jx 0 (bx) u0 [22] jx (0) (bx) u0 (0 + 0) ([(5, (tkS Sx jx).1, 0, 0)]) := rd1027a
          have rm10280 : CN nm mx.rt (cx) (GW Sx nm rnQ tb1 [20] jx 0 (bx) u0 mx [20] jx (0) (bx) u0 (0) mx) := fun _ => GW.nl
          have rm1028 : CN nm mx.rt (uC cx (5, (tkS Sx jx).1, 0, 0)) (GW Sx nm rnQ tb1 [20] jx 0 (bx) u0 mx [22] jx (0) (bx) u0 (0 + 0) (mx.stm)) := CN.gg (l := [20]) (ms := [22]) [] rm10280 (fun q9 => (fun q9 => q9) (NMA.up (show (5 : Int) ≠ 2 by decide) q9)) pm1026
          have sy1029 : (mx.stm).w = ((mx.stm)).w := rfl
          refine tn_callV (M := m_X5_statement) (pc := 127) (ix := 198) (ci := 5) (M' := m_X5_ring) (As := [.int (iI dp)]) (rest := []) dX5_statement_127 ok_X5_ring im_X5_ring se_X5_ring ml5_198 np_X5_ring rfl rfl ha rfl (Nat.le_of_ble_eq_true rfl) (Nat.le_of_ble_eq_true rfl) rfl (k_X5_ring_m (d) (T := T) (σ := (sA 9 xq547 ((σ.2.1 45 a) + 1) σ536)) (a := a) (dp := dp) (kp := kp) (lv := lv) (bx := bx) (nm := nm) (Tg := Tg) (gs := gs) (mx := (mx.stm)) ha (by omega) (w542.put (by decide) (by decide) (fo_9 (by omega))) hex (by omega) (by omega) fx809 (MG.cg mgs811 sy1029) (MBD.same (MBD.st hmb) sy1029) hgf (by omega) (by omega) (by omega) (rp546.put (by decide))) (fun r1030 T1032 σ1031 gt1033 hp => ?_)
          obtain ⟨v1037, rfl, w1038, F1039, f1034, f1035, f1036⟩ := hp
          replace ha : OB T1032 a 5 := gt1033.ob ha
          have rp1041 : RP σ1031 a (kp - 9 * v1037 + 2) := RP.up f1036 (by omega)
          show Tn _ _ 130 T1032 σ1031 [(0, .ref a), (1, .int (iI dp))] [.int (iI v1037)] _
          have ra1042 : v1037 = 1 → YSM σ1031 a Sx nx bx [20] jx cx (Nx) bx [] ((jx : Int) + 1) nm Tg gs T1032 mx (mx) (fun m9 => m9) := fun hv => by
            obtain ⟨i1044, es1045, m1046, mw1047, lo1048, rr1049, fx1050, fx1050m, ni1051, mgq1052, mb1053, cn1054⟩ := f1035.1 hv
            have fx1050s : σ1031.2.1 45 a ≤ (i1044 : Int) := by rw [fx1050.e45]; exact fx1050m
            have pm1055 : CN nm mx.rt (es1045.foldl uC (uC cx (5, (tkS Sx jx).1, 0, 0))) (GW Sx nm rnQ tb1 [22] jx (0) (bx) u0 (mx.stm) [] i1044 (0) (bx) u0 m1046 (mw1047.on (mx.stm))) := cn1054
            have rd1056 : GR Sx [20] jx 0 (bx) u0 [] i1044 (0) (bx) u0 (0 + 0 + m1046) ([(5, (tkS Sx jx).1, 0, 0)] ++ es1045) := GR.gg (l := [22]) (ms := []) [] rd1027 rr1049
            have rm1057 : CN nm mx.rt (es1045.foldl uC (uC cx (5, (tkS Sx jx).1, 0, 0))) (GW Sx nm rnQ tb1 [20] jx 0 (bx) u0 mx [] i1044 (0) (bx) u0 (0 + 0 + m1046) (mw1047.on (mx.stm))) := CN.gg (l := [22]) (ms := []) [] rm1028 (fun q9 => (fun q9 => q9) (NMA.fo ni1051 q9)) pm1055
            have hz1058e : (mw1047.on (mx.stm)) = (mw1047).on mx := rfl
            have hz1058c : (es1045.foldl uC (uC cx (5, (tkS Sx jx).1, 0, 0))) = ([(5, (tkS Sx jx).1, 0, 0)] ++ es1045).foldl uC cx := (by simp only [List.foldl_append, List.foldl_cons, List.foldl_nil])
            have hz1058 : CN nm mx.rt (([(5, (tkS Sx jx).1, 0, 0)] ++ es1045).foldl uC cx) (GW Sx nm rnQ tb1 [20] jx 0 (bx) u0 mx [] i1044 (0) (bx) u0 (0 + 0 + m1046) ((mw1047).on mx)) := by
              have q9 := CN.up (c2 := es1045.foldl uC (uC cx (5, (tkS Sx jx).1, 0, 0))) rm1057 (fun q9 => q9)
              rw [hz1058e, hz1058c] at q9
              exact q9
            have fe1059 := RDX.nq (M := Nx + (0 + 0 + m1046)) (RDX.cq (c2 := ([(5, (tkS Sx jx).1, 0, 0)] ++ es1045).foldl uC cx) fx1050 hz1058c) (by omega)
            have fe1059m : (([(5, (tkS Sx jx).1, 0, 0)] ++ es1045).foldl uC cx).m = σ1031.2.1 45 a := (fe1059.e45).symm.trans (rfl)
            exact ⟨i1044, [(5, (tkS Sx jx).1, 0, 0)] ++ es1045, 0 + 0 + m1046, mw1047, (by omega), rd1056, fe1059, by rw [fe1059m]; omega, (NI2.app (NI2.one (show (5 : Int) ≠ 2 by decide)) ni1051), mgq1052, mb1053, hz1058⟩
          have rb1043 : v1037 = 0 → YF σ1031 a Sx bx [20] jx ∧ FG Tg gs T1032 σ1031 a := fun hv => by
            obtain ⟨⟨pl1060, g1061, fx1062⟩, nf1063⟩ := f1035.2 hv
            have rf1064 : GRF Sx [20] jx 0 (bx) u0 (pl1060) := GR.fl (l := [22]) [] rd1027 g1061
            exact ⟨⟨_, rf1064, fx1062⟩, nf1063⟩
          exact tn_zret (v := v1037) rfl (by omega) dX5_statement_130 ⟨_, rfl, w1038, ((((FrC.rfl.put (by decide) (by decide)).trans (FrC.sub F543 (by decide))).put (by decide) (by decide)).trans (FrC.sub F1039 (by decide))), by omega, ⟨ra1042, rb1043⟩, (RP.up rp1041 (by omega))⟩
end
section
set_option maxHeartbeats 1000000 in
set_option maxRecDepth 20000 in
theorem k_X5_block_m0 (d : Nat) {T : CT} {σ : MS} {a : Nat} {dp : Int} {kp : Int} {Sx : Int → Int} {nx jx : Nat} {cx : CS} {Nx : Int} {Tg : CT} {gs : MS} {mx : MK} {nm : Int → Int64 → Int} {bx : Int} (ha : OB T a 5) (h_dp : -2147483648 ≤ dp ∧ dp ≤ 2147483647) (hw : WT T σ) (h9 : 7 = dp) (hfx : RDX σ a Sx nx jx cx Nx) (hmg : MG Tg gs T σ a mx) (hmb : MBD mx) (hgf : gs.1 5 = 0) (hb : bx = dp - 1) (hm : cx.m ≤ (jx : Int)) (hkp : kp ≤ 140) (hrp : RP σ a kp) : Tn (d + 60) m_X5_block 0 T σ [(0, .ref a), (1, .int (iI dp))] [] (fun ro T2 σ2 => ∃ v : Int, ro = some (.int (iI v)) ∧ WT T2 σ2 ∧ FrC T [5, 6, 7, 9, 42, 43, 44, 45, 46, 47, 50, 51, 84, 85, 86, 87, 518, 519, 520, 521] σ σ2 ∧ (v = 0 ∨ v = 1) ∧ (YQM σ2 a Sx nx bx [28] jx cx (Nx) 2 v nm Tg gs T2 mx (mx) (fun m9 => m9)) ∧ (RP σ2 a (kp + 2 - 10 * v))) := by
  have hSb := hfx.1.sb
  have e45 := hfx.e45
  have hpo9 := hfx.po
  unfold PO at hpo9
  refine tn_iload_n dX5_block_0 rfl 1 rfl ?_
  refine tn_bipush dX5_block_1 (by decide) ?_
  refine tn_icmp_gt (tgt := 15) dX5_block_3 (by decide) ⟨by omega, by omega⟩ ⟨by decide, by decide⟩ (fun h1 => ?_) (fun h1 => absurd h1 (by omega))
  refine tn_aload_n dX5_block_15 rfl 0 rfl ?_
  refine tn_callV (M := m_X5_block) (pc := 16) (ix := 90) (ci := 5) (M' := m_X5_refuse) (As := []) (rest := []) dX5_block_16 ok_X5_refuse im_X5_refuse se_X5_refuse ml5_90 np_X5_refuse rfl rfl ha rfl (Nat.le_of_ble_eq_true rfl) (Nat.le_of_ble_eq_true rfl) rfl (k_X5_refuse_m (d + 58) (T := T) (σ := σ) (a := a) ha hw (hfx).1.1) (fun r2 T4 σ3 gt5 hp => ?_)
  obtain ⟨v11, rfl, rfl, w12, F13, f6, f7, f8, f9, f10⟩ := hp
  clear gt5
  have pc14 : GRF Sx [28] jx (0) (bx) u0 (tkS Sx jx).1 := x28f hSb (by omega)
  have rf150 : GR Sx [28] jx 0 (bx) u0 [28] jx (0) (bx) u0 (0) ([]) := GR.nl
  have rf15 : GRF Sx [28] jx 0 (bx) u0 ((tkS Sx jx).1) := GR.fl (l := [28]) [] rf150 pc14
  have rp16 : RP σ3 a (kp) := RP.frc hrp F13 (by decide) (by decide) (by decide) (by decide) (by decide)
  show Tn _ _ 19 T σ3 [(0, .ref a), (1, .int (iI dp))] [.int (iI v11)] _
  have mg19 : MG Tg gs T σ3 a mx := (MG.nt hmg f10)
  have rb18 : YF σ3 a Sx bx [28] jx ∧ FG Tg gs T σ3 a := ⟨⟨_, rf15, f8⟩, (mg19).1⟩
  exact tn_zret (v := v11) rfl (by omega) dX5_block_19 ⟨_, rfl, w12, (FrC.rfl.trans (FrC.sub F13 (by decide))), by omega, ⟨fun q => absurd q (by omega), fun _ => rb18⟩, (RP.up rp16 (by omega))⟩
end
section
set_option maxHeartbeats 1000000 in
set_option maxRecDepth 20000 in
theorem l_X5_block_m1_22 (d : Nat) {T0 : CT} {σ0 : MS} {a : Nat} {c1 : Int} {Sx : Int → Int} {nx : Nat} {jx : Nat} {cx : CS} {Nx : Int} {nm : Int → Int64 → Int} {Tg : CT} {gs : MS} {mx : MK} {bx : Int} {kp : Int} {lv : Nat} {post : Option Value → CT → MS → Prop} (r_c1 : 1 ≤ c1 ∧ c1 ≤ 6) (hw0 : WT T0 σ0) (hlv : 6 ≤ c1 + (lv : Int)) (hb : bx = c1 - 1) (hgf : gs.1 5 = 0) (hkp : kp ≤ 140) (hex : ∀ (d : Nat) {T : CT} {σ : MS} {a : Nat} {dp : Int} {kp : Int} {Sx : Int → Int} {nx jx : Nat} {cx : CS} {Nx : Int} {Tg : CT} {gs : MS} {mx : MK} {nm : Int → Int64 → Int} {bx : Int} (ha : OB T a 5) (h_dp : -2147483648 ≤ dp ∧ dp ≤ 2147483647) (hw : WT T σ) (hdp : 1 ≤ dp ∧ dp ≤ 7) (hlv : 7 ≤ dp + (lv : Int)) (hfx : RDX σ a Sx nx jx cx Nx) (hmg : MG Tg gs T σ a mx) (hmb : MBD mx) (hgf : gs.1 5 = 0) (hb : bx = dp - 1) (hm : cx.m ≤ (jx : Int)) (hkp : kp ≤ 140) (hrp : RP σ a kp), Tn (d + 3 * lv + 60) m_X5_block 0 T σ [(0, .ref a), (1, .int (iI dp))] [] (fun ro T2 σ2 => ∃ v : Int, ro = some (.int (iI v)) ∧ WT T2 σ2 ∧ FrC T [5, 6, 7, 9, 42, 43, 44, 45, 46, 47, 50, 51, 84, 85, 86, 87, 518, 519, 520, 521] σ σ2 ∧ (v = 0 ∨ v = 1) ∧ (YQM σ2 a Sx nx bx [28] jx cx (Nx) 2 v nm Tg gs T2 mx (mx) (fun m9 => m9)) ∧ (RP σ2 a (kp + 2 - 10 * v)))) (hx_49 : ∀ (T : CT) (i2 : Int) (σ : MS) , (GT T0 T) → (WT T σ) → (FrC T0 [5, 6, 7, 9, 42, 43, 44, 45, 46, 47, 50, 51, 84, 85, 86, 87, 518, 519, 520, 521] σ0 σ) → (OB T a 5) → (0 ≤ i2 ∧ i2 ≤ 2147483647) → (True) → (RP σ a (kp + 2)) → (YF σ a Sx bx [28] jx ∧ FG Tg gs T σ a) → Tn (d + 3 * lv + 63) m_X5_block 49 T σ [(0, .ref a), (1, .int (iI c1)), (2, .int (iI i2))] [] post) (hx_57 : ∀ (T : CT) (i2 : Int) (σ : MS) , (GT T0 T) → (WT T σ) → (FrC T0 [5, 6, 7, 9, 42, 43, 44, 45, 46, 47, 50, 51, 84, 85, 86, 87, 518, 519, 520, 521] σ0 σ) → (OB T a 5) → (0 ≤ i2 ∧ i2 ≤ 2147483647) → (True) → (RP σ a kp) → (YKM σ a Sx nx bx [28] jx cx Nx (bx + 1) [29] ((jx : Int) + 1) 125 nm Tg gs T mx) → Tn (d + 3 * lv + 63) m_X5_block 57 T σ [(0, .ref a), (1, .int (iI c1)), (2, .int (iI i2))] [] post) : ∀ (n : Nat) (T : CT) (i2 : Int) (σ : MS) , (GT T0 T) → (WT T σ) → (FrC T0 [5, 6, 7, 9, 42, 43, 44, 45, 46, 47, 50, 51, 84, 85, 86, 87, 518, 519, 520, 521] σ0 σ) → (OB T a 5) → (0 ≤ i2 ∧ i2 ≤ 2147483647) → (YSM σ a Sx nx bx [28] jx cx Nx (bx + 1) [29] ((jx : Int) + 1 + i2) nm Tg gs T mx mx (fun m9 => m9)) → (RP σ a kp) → (2147483700 - i2).toNat = n → Tn (d + 3 * lv + 63) m_X5_block 22 T σ [(0, .ref a), (1, .int (iI c1)), (2, .int (iI i2))] [] post := by
  intro n
  induction n using Nat.strongRecOn with
  | _ n ih =>
    intro T i2 σ hG hw hF h_a r_i2 hx hrp hm
    obtain ⟨jy, ey, my, mw, loy, rdy, hfy, hmy, niy, mgy, mby, cny⟩ := hx
    have hSb := hfy.1.sb
    have hjn := RDX.jn hfy hw h_a
    have e45 := hfy.e45
    refine tn_iload_n dX5_block_22 rfl 2 rfl ?_
    refine tn_sipush dX5_block_23 (by decide) ?_
    refine tn_icmp_ge (tgt := 57) dX5_block_26 (by decide) ⟨by omega, by omega⟩ ⟨by decide, by decide⟩ (fun h1 => ?_) (fun h1 => ?_)
    · exact tn_sub [0, 1, 2] rfl (hx_57 T (i2) σ hG hw (FrC.rfl.trans (FrC.sub hF (by decide))) h_a (by omega) True.intro (RP.up hrp (by omega)) (False.elim (by omega)))
    · refine tn_aload_n dX5_block_29 rfl 0 rfl ?_
      obtain ⟨xq2, hx3, hk4⟩ : ∃ x : Nat, σ.2.1 33 a = (x : Int) ∧ (T x).1 = 39 := wf_33 hw h_a
      have hk4o : OB T xq2 9 := ⟨by omega, by rw [hk4]; rfl, by omega⟩
      refine tn_getR (ci := 5) (i := 0) (n := 33) (x := xq2) dX5_block_30 rfl lay_5 (by decide) fl5_12 h_a rfl rfl (hx3) ?_
      refine tn_getI (ci := 9) (i := 4) (n := 85) (t := σ.2.1 85 xq2) dX5_block_33 rfl lay_9 (by decide) fl5_71 hk4o rfl rfl (rfl) ?_
      have g6 : ((-2147483648 : Int) ≤ σ.2.1 85 xq2 ∧ σ.2.1 85 xq2 ≤ 2147483647) := wf_85 hw hk4o
      have g6kd : σ.2.1 85 xq2 = ckd (tkS Sx jy) := (rfl).symm.trans ((hfy).1.kd (hx3))
      refine tn_bipush dX5_block_36 (by decide) ?_
      refine tn_icmp_eq (tgt := 57) dX5_block_38 (by decide) ⟨by omega, by omega⟩ ⟨by decide, by decide⟩ (fun h7 => ?_) (fun h7 => ?_)
      · exact tn_sub [0, 1, 2] rfl (hx_57 T (i2) σ hG hw (FrC.rfl.trans (FrC.sub hF (by decide))) h_a (by omega) True.intro (RP.up hrp (by omega)) ⟨jy, ey, my, mw, by omega, rdy, hfy, hmy, niy, mgy, mby, cny, by omega⟩)
      · refine tn_aload_n dX5_block_41 rfl 0 rfl ?_
        refine tn_iload_n dX5_block_42 rfl 1 rfl ?_
        have pc8 : GR Sx [29] jy (0) (bx + 1) u0 [20, 29] jy (0) (bx + 1) u0 0 [] := x29n hSb (by omega)
        have pm9 : CN nm mx.rt (ey.foldl uC cx) (GW Sx nm rnQ tb1 [29] jy (0) (bx + 1) u0 (mw.on mx) [20, 29] jy (0) (bx + 1) u0 0 (mw.on mx)) := fun hn9 => GW.of (gm29n hSb (by omega)) rfl
        have rd10 : GR Sx [28] jx 0 (bx) u0 [20, 29] jy (0) (bx + 1) u0 (my + 0) (ey) := GR.g0 (l := [29]) (ms := [20, 29]) [] rdy pc8
        have rm11 : CN nm mx.rt (ey.foldl uC cx) (GW Sx nm rnQ tb1 [28] jx 0 (bx) u0 mx [20, 29] jy (0) (bx + 1) u0 (my + 0) (mw.on mx)) := CN.gg (l := [29]) (ms := [20, 29]) [] cny (fun q9 => q9) pm9
        have sy12 : (mw).w = ((mw.on mx)).w := rfl
        refine tn_callV (M := m_X5_block) (pc := 43) (ix := 183) (ci := 5) (M' := m_X5_statement) (As := [.int (iI c1)]) (rest := []) dX5_block_43 ok_X5_statement im_X5_statement se_X5_statement ml5_183 np_X5_statement rfl rfl h_a rfl (Nat.le_of_ble_eq_true rfl) (Nat.le_of_ble_eq_true rfl) rfl (k_X5_statement_m (d) (T := T) (σ := σ) (a := a) (dp := c1) (kp := kp) (lv := lv) (bx := bx + 1) (nm := nm) (Tg := Tg) (gs := gs) (mx := (mw.on mx)) h_a (by omega) hw hex (by omega) (by omega) hfy (MG.cg mgy sy12) (MBD.same mby sy12) hgf (by omega) hmy (by omega) hrp) (fun r13 T15 σ14 gt16 hp => ?_)
        obtain ⟨v20, rfl, w21, F22, f17, f18, f19⟩ := hp
        replace h_a : OB T15 a 5 := gt16.ob h_a
        have rp24 : RP σ14 a (kp - 8 * v20 + 2) := RP.up f19 (by omega)
        show Tn _ _ 46 T15 σ14 [(0, .ref a), (1, .int (iI c1)), (2, .int (iI i2))] [.int (iI v20)] _
        refine tn_if_ne (tgt := 51) dX5_block_46 (by decide) ⟨by omega, by omega⟩ (fun h25 => ?_) (fun h25 => ?_)
        · refine tn_iinc (q0 := 2) (L' := [(2, .int (iI (i2 + 1))), (0, .ref a), (1, .int (iI c1))]) dX5_block_51 rfl (by decide) rfl ?_
          refine tn_goto (tgt := 22) dX5_block_54 (by decide) ?_
          obtain ⟨i26, es27, m28, mw29, lo30, rr31, fx32, fx32m, ni33, mgq34, mb35, cn36⟩ := f18.1 (by omega)
          have fx32s : σ14.2.1 45 a ≤ (i26 : Int) := by rw [fx32.e45]; exact fx32m
          have pm37 : CN nm mx.rt (es27.foldl uC (ey.foldl uC cx)) (GW Sx nm rnQ tb1 [20] jy (0) (bx + 1) u0 (mw.on mx) [] i26 (0) (bx + 1) u0 m28 (mw29.on (mw.on mx))) := cn36
          have rd38 : GR Sx [28] jx 0 (bx) u0 [29] i26 (0) (bx + 1) u0 (my + 0 + m28) (ey ++ es27) := GR.gg (l := [20]) (ms := []) [29] rd10 rr31
          have rm39 : CN nm mx.rt (es27.foldl uC (ey.foldl uC cx)) (GW Sx nm rnQ tb1 [28] jx 0 (bx) u0 mx [29] i26 (0) (bx + 1) u0 (my + 0 + m28) (mw29.on (mw.on mx))) := CN.gg (l := [20]) (ms := []) [29] rm11 (fun q9 => (fun q9 => q9) (NMA.fo ni33 q9)) pm37
          have hz41e : (mw29.on (mw.on mx)) = (mw29).on mx := rfl
          have hz41c : (es27.foldl uC (ey.foldl uC cx)) = (ey ++ es27).foldl uC cx := (by simp only [List.foldl_append, List.foldl_cons, List.foldl_nil])
          have hz41 : CN nm mx.rt ((ey ++ es27).foldl uC cx) (GW Sx nm rnQ tb1 [28] jx 0 (bx) u0 mx [29] i26 (0) (bx + 1) u0 (my + 0 + m28) ((mw29).on mx)) := by
            have q9 := CN.up (c2 := es27.foldl uC (ey.foldl uC cx)) rm39 (fun q9 => q9)
            rw [hz41e, hz41c] at q9
            exact q9
          have fe42 := RDX.nq (M := Nx + (my + 0 + m28)) (RDX.cq (c2 := (ey ++ es27).foldl uC cx) fx32 hz41c) (by omega)
          have fe42m : ((ey ++ es27).foldl uC cx).m = σ14.2.1 45 a := (fe42.e45).symm.trans (rfl)
          have hx40 : YSM σ14 a Sx nx bx [28] jx cx Nx (bx + 1) [29] ((jx : Int) + 1 + (i2 + 1)) nm Tg gs T15 mx mx (fun m9 => m9) := ⟨i26, ey ++ es27, my + 0 + m28, mw29, (by omega), rd38, fe42, by rw [fe42m]; omega, (NI2.app niy ni33), mgq34, mb35, hz41⟩
          exact tn_sub [1, 2, 0] rfl (ih _ (by omega) T15 (i2 + 1) σ14 (GT.trans hG gt16) w21 ((FrC.rfl.trans (FrC.sub hF (by decide))).trans (FrC.sub (FrC.old F22 hG) (by decide))) h_a (by omega) hx40 (RP.up rp24 (by omega)) rfl)
        · obtain ⟨⟨pl43, g44, fx45⟩, nf46⟩ := f18.2 (by omega)
          have rf47 : GRF Sx [28] jx 0 (bx) u0 (pl43) := GR.fl (l := [20]) [29] rd10 g44
          exact tn_sub [0, 1, 2] rfl (hx_49 T15 (i2) σ14 (GT.trans hG gt16) w21 ((FrC.rfl.trans (FrC.sub hF (by decide))).trans (FrC.sub (FrC.old F22 hG) (by decide))) h_a (by omega) True.intro (RP.up rp24 (by omega)) ⟨⟨_, rf47, fx45⟩, nf46⟩)
set_option maxHeartbeats 1000000 in
set_option maxRecDepth 20000 in
theorem k_X5_block_m1 (d : Nat) {T : CT} {σ : MS} {a : Nat} {dp : Int} {kp : Int} {lv : Nat} {Sx : Int → Int} {nx jx : Nat} {cx : CS} {Nx : Int} {Tg : CT} {gs : MS} {mx : MK} {nm : Int → Int64 → Int} {bx : Int} (ha : OB T a 5) (h_dp : -2147483648 ≤ dp ∧ dp ≤ 2147483647) (hw : WT T σ) (hex : ∀ (d : Nat) {T : CT} {σ : MS} {a : Nat} {dp : Int} {kp : Int} {Sx : Int → Int} {nx jx : Nat} {cx : CS} {Nx : Int} {Tg : CT} {gs : MS} {mx : MK} {nm : Int → Int64 → Int} {bx : Int} (ha : OB T a 5) (h_dp : -2147483648 ≤ dp ∧ dp ≤ 2147483647) (hw : WT T σ) (hdp : 1 ≤ dp ∧ dp ≤ 7) (hlv : 7 ≤ dp + (lv : Int)) (hfx : RDX σ a Sx nx jx cx Nx) (hmg : MG Tg gs T σ a mx) (hmb : MBD mx) (hgf : gs.1 5 = 0) (hb : bx = dp - 1) (hm : cx.m ≤ (jx : Int)) (hkp : kp ≤ 140) (hrp : RP σ a kp), Tn (d + 3 * lv + 60) m_X5_block 0 T σ [(0, .ref a), (1, .int (iI dp))] [] (fun ro T2 σ2 => ∃ v : Int, ro = some (.int (iI v)) ∧ WT T2 σ2 ∧ FrC T [5, 6, 7, 9, 42, 43, 44, 45, 46, 47, 50, 51, 84, 85, 86, 87, 518, 519, 520, 521] σ σ2 ∧ (v = 0 ∨ v = 1) ∧ (YQM σ2 a Sx nx bx [28] jx cx (Nx) 2 v nm Tg gs T2 mx (mx) (fun m9 => m9)) ∧ (RP σ2 a (kp + 2 - 10 * v)))) (hdp : 1 ≤ dp ∧ dp ≤ 6) (hlv : 7 ≤ dp + ((lv : Int) + 1)) (hfx : RDX σ a Sx nx jx cx Nx) (hmg : MG Tg gs T σ a mx) (hmb : MBD mx) (hgf : gs.1 5 = 0) (hb : bx = dp - 1) (hm : cx.m ≤ (jx : Int)) (hkp : kp ≤ 140) (hrp : RP σ a kp) : Tn (d + 3 * lv + 63) m_X5_block 0 T σ [(0, .ref a), (1, .int (iI dp))] [] (fun ro T2 σ2 => ∃ v : Int, ro = some (.int (iI v)) ∧ WT T2 σ2 ∧ FrC T [5, 6, 7, 9, 42, 43, 44, 45, 46, 47, 50, 51, 84, 85, 86, 87, 518, 519, 520, 521] σ σ2 ∧ (v = 0 ∨ v = 1) ∧ (YQM σ2 a Sx nx bx [28] jx cx (Nx) 2 v nm Tg gs T2 mx (mx) (fun m9 => m9)) ∧ (RP σ2 a (kp + 2 - 10 * v))) := by
  have hSb := hfx.1.sb
  have e45 := hfx.e45
  have hpo9 := hfx.po
  unfold PO at hpo9
  refine tn_iload_n dX5_block_0 rfl 1 rfl ?_
  refine tn_bipush dX5_block_1 (by decide) ?_
  refine tn_icmp_gt (tgt := 15) dX5_block_3 (by decide) ⟨by omega, by omega⟩ ⟨by decide, by decide⟩ (fun h1 => absurd h1 (by omega)) (fun h1 => ?_)
  refine tn_aload_n dX5_block_6 rfl 0 rfl ?_
  refine tn_bipush dX5_block_7 (by decide) ?_
  refine tn_callV (M := m_X5_block) (pc := 9) (ix := 102) (ci := 5) (M' := m_X5_taken) (As := [.int (iI 123)]) (rest := []) dX5_block_9 ok_X5_taken im_X5_taken se_X5_taken ml5_102 np_X5_taken rfl rfl ha rfl (Nat.le_of_ble_eq_true rfl) (Nat.le_of_ble_eq_true rfl) rfl (k_X5_taken_m (d + 3 * lv + 60) (T := T) (σ := σ) (a := a) (s := 123) (kp := kp) (Tg := Tg) (gs := gs) (mx := mx) ha (by decide) hw (by omega) hfx hmg (by omega) hrp) (fun r2 T4 σ3 gt5 hp => ?_)
  obtain ⟨v10, rfl, rfl, w11, F12, f6, f7, f8, f9⟩ := hp
  clear gt5
  have pc13 : GR Sx [28] jx (0) (bx) u0 [223, 29] jx (0) (bx + 1) u0 0 [] := x28 hSb (by omega)
  have pm14 : CN nm mx.rt (cx) (GW Sx nm rnQ tb1 [28] jx (0) (bx) u0 mx [223, 29] jx (0) (bx + 1) u0 0 mx) := fun hn9 => GW.of (gm28 hSb (by omega)) rfl
  have rd150 : GR Sx [28] jx 0 (bx) u0 [28] jx (0) (bx) u0 (0) ([]) := GR.nl
  have rd15 : GR Sx [28] jx 0 (bx) u0 [223, 29] jx (0) (bx + 1) u0 (0 + 0) ([]) := GR.g0 (l := [28]) (ms := [223, 29]) [] rd150 pc13
  have rm160 : CN nm mx.rt (cx) (GW Sx nm rnQ tb1 [28] jx 0 (bx) u0 mx [28] jx (0) (bx) u0 (0) mx) := fun _ => GW.nl
  have rm16 : CN nm mx.rt (cx) (GW Sx nm rnQ tb1 [28] jx 0 (bx) u0 mx [223, 29] jx (0) (bx + 1) u0 (0 + 0) mx) := CN.gg (l := [28]) (ms := [223, 29]) [] rm160 (fun q9 => q9) pm14
  show Tn _ _ 12 T σ3 [(0, .ref a), (1, .int (iI dp))] [.int (iI v10)] _
  refine tn_if_ne (tgt := 20) dX5_block_12 (by decide) ⟨by omega, by omega⟩ (fun h18 => ?_) (fun h18 => ?_)
  · refine tn_iconst dX5_block_20 ?_
    refine tn_istore_n (L' := [(2, .int (iI 0)), (0, .ref a), (1, .int (iI dp))]) dX5_block_21 rfl (by decide) rfl ?_
    obtain ⟨kd20, fx19⟩ := f7.1 (by omega)
    have pc21 : GR Sx [223] jx (0) (bx + 1) u0 [] (jx + 1) (0) (bx + 1) u0 0 [] := y123 hSb kd20
    have pm22 : CN nm mx.rt (cx) (GW Sx nm rnQ tb1 [223] jx (0) (bx + 1) u0 mx [] (jx + 1) (0) (bx + 1) u0 0 mx) := fun _ => GW.of (gmy123 hSb kd20) rfl
    have rd23 : GR Sx [28] jx 0 (bx) u0 [29] (jx + 1) (0) (bx + 1) u0 (0 + 0 + 0) ([]) := GR.g0 (l := [223]) (ms := []) [29] rd15 pc21
    have rm24 : CN nm mx.rt (cx) (GW Sx nm rnQ tb1 [28] jx 0 (bx) u0 mx [29] (jx + 1) (0) (bx + 1) u0 (0 + 0 + 0) mx) := CN.gg (l := [223]) (ms := []) [29] rm16 (fun q9 => q9) pm22
    have hz26e : mx = (mx).on mx := rfl
    have hz26c : (cx) = ([]).foldl uC cx := rfl
    have hz26 : CN nm mx.rt (([]).foldl uC cx) (GW Sx nm rnQ tb1 [28] jx 0 (bx) u0 mx [29] (jx + 1) (0) (bx + 1) u0 (0 + 0 + 0) ((mx).on mx)) := by
      have q9 := CN.up (c2 := cx) rm24 (fun q9 => q9)
      rw [hz26e, hz26c] at q9
      exact q9
    have fe27 := RDX.nq (M := Nx + (0 + 0 + 0)) (RDX.cq (c2 := ([]).foldl uC cx) fx19 hz26c) (by omega)
    have fe27m : (([]).foldl uC cx).m = σ.2.1 45 a := (fe27.e45).symm.trans (rc_F F12 (Or.inl (by decide)) (by decide) (rfl))
    have hx25 : YSM σ3 a Sx nx bx [28] jx cx Nx (bx + 1) [29] ((jx : Int) + 1 + (0)) nm Tg gs T mx mx (fun m9 => m9) := ⟨(jx + 1), [], 0 + 0 + 0, mx, (by omega), rd23, fe27, by rw [fe27m]; omega, NI2.nil, f8, hmb, hz26⟩
    refine tn_sub [1, 2, 0] rfl (l_X5_block_m1_22 (d) (σ0 := σ3) (T0 := T) (a := a) (c1 := dp) (kp := kp - 4 * v10) (lv := lv) (Sx := Sx) (nx := nx) (jx := jx) (cx := cx) (Nx := Nx) (nm := nm) (Tg := Tg) (gs := gs) (mx := mx) (bx := bx) (by omega) w11 (by omega) hb hgf (by omega) hex (fun T30 i228 σ29 gt31 w32 F33 q34 r35 f36 f37 f38 => ?_) (fun T41 i239 σ40 gt42 w43 F44 q45 r46 f47 f48 f49 => ?_) _ T (0) σ3 GT.rfl w11 FrC.rfl ha (by omega) hx25 f9 rfl)
    · show Tn _ _ 49 T30 σ29 [(0, .ref a), (1, .int (iI dp)), (2, .int (iI i228))] [] _
      refine tn_iconst dX5_block_49 ?_
      exact tn_zret (v := 0) rfl (by decide) dX5_block_50 ⟨_, rfl, w32, ((FrC.rfl.trans (FrC.sub F12 (by decide))).trans (FrC.sub F33 (by decide))), by omega, ⟨fun q => absurd q (by decide), fun _ => f38⟩, (RP.up f37 (by omega))⟩
    · obtain ⟨i50, es51, m52, mw53, lo54, rr55, fx56, hm57, ni58, mgq59, mb60, cn61, hk62⟩ := f49
      have fx56s : σ40.2.1 45 a ≤ (i50 : Int) := by rw [fx56.e45]; exact hm57
      show Tn _ _ 57 T41 σ40 [(0, .ref a), (1, .int (iI dp)), (2, .int (iI i239))] [] _
      refine tn_aload_n dX5_block_57 rfl 0 rfl ?_
      refine tn_bipush dX5_block_58 (by decide) ?_
      refine tn_callV (M := m_X5_block) (pc := 60) (ix := 102) (ci := 5) (M' := m_X5_taken) (As := [.int (iI 125)]) (rest := []) dX5_block_60 ok_X5_taken im_X5_taken se_X5_taken ml5_102 np_X5_taken rfl rfl q45 rfl (Nat.le_of_ble_eq_true rfl) (Nat.le_of_ble_eq_true rfl) rfl (k_X5_taken_m (d + 3 * lv + 60) (T := T41) (σ := σ40) (a := a) (s := 125) (kp := kp - 4 * v10) (Tg := Tg) (gs := gs) (mx := mw53) q45 (by decide) w43 (by omega) fx56 mgq59 (by omega) f48) (fun r63 T65 σ64 gt66 hp => ?_)
      obtain ⟨v71, rfl, rfl, w72, F73, f67, f68, f69, f70⟩ := hp
      clear gt66
      show Tn _ _ 63 T41 σ64 [(0, .ref a), (1, .int (iI dp)), (2, .int (iI i239))] [.int (iI v71)] _
      have ra75 : v71 = 1 → YSM σ64 a Sx nx bx [28] jx cx (Nx) bx [] ((jx : Int) + 2) nm Tg gs T41 mx (mx) (fun m9 => m9) := fun hv => by
        obtain ⟨kd77, fx76⟩ := f68.1 hv
        have pc78 : GR Sx [29] i50 0 (bx + 1) u0 [40] (i50 + 1) 0 (bx + 1) u0 0 [] := x29y hSb kd77
        have pm79 : CN nm mx.rt (es51.foldl uC cx) (GW Sx nm rnQ tb1 [29] i50 0 (bx + 1) u0 (mw53.on mx) [40] (i50 + 1) 0 (bx + 1) u0 0 (mw53.on mx)) := fun _ => GW.of (gm29y hSb kd77) rfl
        have rd82 : GR Sx [28] jx 0 (bx) u0 [40] (i50 + 1) (0) (bx + 1) u0 (m52 + 0) (es51) := GR.g0 (l := [29]) (ms := [40]) [] rr55 pc78
        have rm83 : CN nm mx.rt (es51.foldl uC cx) (GW Sx nm rnQ tb1 [28] jx 0 (bx) u0 mx [40] (i50 + 1) (0) (bx + 1) u0 (m52 + 0) (mw53.on mx)) := CN.gg (l := [29]) (ms := [40]) [] cn61 (fun q9 => q9) pm79
        have pc80 : GR Sx [40] (i50 + 1) 0 (bx + 1) u0 [] (i50 + 1) 0 bx u0 0 [] := by have q9 := x40 (S := Sx) (j := i50 + 1) (e := 0) (b := bx + 1) (u := u0) hSb; rw [show bx + 1 - 1 = bx by omega] at q9; exact q9
        have pm81 : CN nm mx.rt (es51.foldl uC cx) (GW Sx nm rnQ tb1 [40] (i50 + 1) 0 (bx + 1) u0 (mw53.on mx) [] (i50 + 1) 0 bx u0 0 (mw53.on mx)) := fun _ => by have q9 := GW.of (m0 := (mw53.on mx)) (m1 := (mw53.on mx)) (gm40 (S := Sx) (nm := nm) (rn := rnQ) (tb := tb1) (j := i50 + 1) (e := 0) (b := bx + 1) (u := u0) hSb) rfl; rw [show bx + 1 - 1 = bx by omega] at q9; exact q9
        have rd84 : GR Sx [28] jx 0 (bx) u0 [] (i50 + 1) (0) (bx) u0 (m52 + 0 + 0) (es51) := GR.g0 (l := [40]) (ms := []) [] rd82 pc80
        have rm85 : CN nm mx.rt (es51.foldl uC cx) (GW Sx nm rnQ tb1 [28] jx 0 (bx) u0 mx [] (i50 + 1) (0) (bx) u0 (m52 + 0 + 0) (mw53.on mx)) := CN.gg (l := [40]) (ms := []) [] rm83 (fun q9 => q9) pm81
        have hz86e : (mw53.on mx) = (mw53).on mx := rfl
        have hz86c : (es51.foldl uC cx) = (es51).foldl uC cx := rfl
        have hz86 : CN nm mx.rt ((es51).foldl uC cx) (GW Sx nm rnQ tb1 [28] jx 0 (bx) u0 mx [] (i50 + 1) (0) (bx) u0 (m52 + 0 + 0) ((mw53).on mx)) := by
          have q9 := CN.up (c2 := es51.foldl uC cx) rm85 (fun q9 => q9)
          rw [hz86e, hz86c] at q9
          exact q9
        have fe87 := RDX.nq (M := Nx + (m52 + 0 + 0)) (RDX.cq (c2 := (es51).foldl uC cx) fx76 hz86c) (by omega)
        have fe87m : ((es51).foldl uC cx).m = σ40.2.1 45 a := (fe87.e45).symm.trans (rc_F F73 (Or.inl (by decide)) (by decide) (rfl))
        exact ⟨(i50 + 1), es51, m52 + 0 + 0, mw53, (by omega), rd84, fe87, by rw [fe87m]; omega, ni58, f69, mb60, hz86⟩
      exact tn_zret (v := v71) rfl (by omega) dX5_block_63 ⟨_, rfl, w72, (((FrC.rfl.trans (FrC.sub F12 (by decide))).trans (FrC.sub F44 (by decide))).trans (FrC.sub (FrC.old F73 gt42) (by decide))), by omega, ⟨ra75, fun q => absurd hk62 (f68.2 q).1⟩, (RP.up f70 (by omega))⟩
  · refine tn_aload_n dX5_block_15 rfl 0 rfl ?_
    obtain ⟨kd88, fx89, tk90⟩ := f7.2 (by omega)
    have pc91 : GRF Sx [223] jx (0) (bx + 1) u0 (tkS Sx jx).1 := z123 hSb kd88
    have rf92 : GRF Sx [28] jx 0 (bx) u0 ((tkS Sx jx).1) := GR.fl (l := [223]) [29] rd15 pc91
    refine tn_callV (M := m_X5_block) (pc := 16) (ix := 90) (ci := 5) (M' := m_X5_refuse) (As := []) (rest := []) dX5_block_16 ok_X5_refuse im_X5_refuse se_X5_refuse ml5_90 np_X5_refuse rfl rfl ha rfl (Nat.le_of_ble_eq_true rfl) (Nat.le_of_ble_eq_true rfl) rfl (k_X5_refuse_m (d + 3 * lv + 61) (T := T) (σ := σ3) (a := a) ha w11 tk90) (fun r93 T95 σ94 gt96 hp => ?_)
    obtain ⟨v102, rfl, rfl, w103, F104, f97, f98, f99, f100, f101⟩ := hp
    clear gt96
    have rp105 : RP σ94 a (kp - 4 * v10) := RP.frc f9 F104 (by decide) (by decide) (by decide) (by decide) (by decide)
    show Tn _ _ 19 T σ94 [(0, .ref a), (1, .int (iI dp))] [.int (iI v102)] _
    have mg108 : MG Tg gs T σ94 a mx := (MG.nt f8 f101)
    have rb107 : YF σ94 a Sx bx [28] jx ∧ FG Tg gs T σ94 a := ⟨⟨_, rf92, f99⟩, (mg108).1⟩
    exact tn_zret (v := v102) rfl (by omega) dX5_block_19 ⟨_, rfl, w103, ((FrC.rfl.trans (FrC.sub F12 (by decide))).trans (FrC.sub F104 (by decide))), by omega, ⟨fun q => absurd q (by omega), fun _ => rb107⟩, (RP.up rp105 (by omega))⟩
end
section
theorem lvm_X5_block : ∀ (lv : Nat), ∀ (d : Nat) {T : CT} {σ : MS} {a : Nat} {dp : Int} {kp : Int} {Sx : Int → Int} {nx jx : Nat} {cx : CS} {Nx : Int} {Tg : CT} {gs : MS} {mx : MK} {nm : Int → Int64 → Int} {bx : Int} (ha : OB T a 5) (h_dp : -2147483648 ≤ dp ∧ dp ≤ 2147483647) (hw : WT T σ) (hdp : 1 ≤ dp ∧ dp ≤ 7) (hlv : 7 ≤ dp + (lv : Int)) (hfx : RDX σ a Sx nx jx cx Nx) (hmg : MG Tg gs T σ a mx) (hmb : MBD mx) (hgf : gs.1 5 = 0) (hb : bx = dp - 1) (hm : cx.m ≤ (jx : Int)) (hkp : kp ≤ 140) (hrp : RP σ a kp), Tn (d + 3 * lv + 60) m_X5_block 0 T σ [(0, .ref a), (1, .int (iI dp))] [] (fun ro T2 σ2 => ∃ v : Int, ro = some (.int (iI v)) ∧ WT T2 σ2 ∧ FrC T [5, 6, 7, 9, 42, 43, 44, 45, 46, 47, 50, 51, 84, 85, 86, 87, 518, 519, 520, 521] σ σ2 ∧ (v = 0 ∨ v = 1) ∧ (YQM σ2 a Sx nx bx [28] jx cx (Nx) 2 v nm Tg gs T2 mx (mx) (fun m9 => m9)) ∧ (RP σ2 a (kp + 2 - 10 * v))) := by
  intro lv
  induction lv with
  | zero =>
    intro d T σ a dp kp Sx nx jx cx Nx Tg gs mx nm bx ha h_dp hw hdp hlv hfx hmg hmb hgf hb hm hkp hrp
    exact k_X5_block_m0 d ha h_dp hw (by omega) hfx hmg hmb hgf hb hm hkp hrp
  | succ lv ih =>
    intro d T σ a dp kp Sx nx jx cx Nx Tg gs mx nm bx ha h_dp hw hdp hlv hfx hmg hmb hgf hb hm hkp hrp
    have e : d + 3 * (lv + 1) + 60 = d + 3 * lv + 63 := by omega
    by_cases h9 : dp = 7
    · exact k_X5_block_m0 (d + 3 * (lv + 1)) ha h_dp hw (by omega) hfx hmg hmb hgf hb hm hkp hrp
    · rw [e]
      exact k_X5_block_m1 d (lv := lv) ha h_dp hw ih (by omega) (by omega) hfx hmg hmb hgf hb hm hkp hrp
theorem k_X5_block_m : ∀ (d : Nat) {T : CT} {σ : MS} {a : Nat} {dp : Int} {kp : Int} {Sx : Int → Int} {nx jx : Nat} {cx : CS} {Nx : Int} {Tg : CT} {gs : MS} {mx : MK} {nm : Int → Int64 → Int} {bx : Int} (ha : OB T a 5) (h_dp : -2147483648 ≤ dp ∧ dp ≤ 2147483647) (hw : WT T σ) (hdp : 1 ≤ dp ∧ dp ≤ 7) (hfx : RDX σ a Sx nx jx cx Nx) (hmg : MG Tg gs T σ a mx) (hmb : MBD mx) (hgf : gs.1 5 = 0) (hb : bx = dp - 1) (hm : cx.m ≤ (jx : Int)) (hkp : kp ≤ 140) (hrp : RP σ a kp), Tn (d + 78) m_X5_block 0 T σ [(0, .ref a), (1, .int (iI dp))] [] (fun ro T2 σ2 => ∃ v : Int, ro = some (.int (iI v)) ∧ WT T2 σ2 ∧ FrC T [5, 6, 7, 9, 42, 43, 44, 45, 46, 47, 50, 51, 84, 85, 86, 87, 518, 519, 520, 521] σ σ2 ∧ (v = 0 ∨ v = 1) ∧ (YQM σ2 a Sx nx bx [28] jx cx (Nx) 2 v nm Tg gs T2 mx (mx) (fun m9 => m9)) ∧ (RP σ2 a (kp + 2 - 10 * v))) := by
  intro d T σ a dp kp Sx nx jx cx Nx Tg gs mx nm bx ha h_dp hw hdp hfx hmg hmb hgf hb hm hkp hrp
  have e : d + 78 = d + 3 * 6 + 60 := by omega
  rw [e]
  exact lvm_X5_block 6 d ha h_dp hw (by omega) (by omega) hfx hmg hmb hgf hb hm hkp hrp
end
