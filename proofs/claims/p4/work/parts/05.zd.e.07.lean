set_option maxHeartbeats 4000000 in
set_option maxRecDepth 20000 in
theorem k_X5_ring_f (d : Nat) {T : CT} {σ : MS} {a : Nat} {dp : Int} {kp : Int} {lv : Nat} {Sx : Int → Int} {nx jx : Nat} {cx : CS} {Nx : Int} {bx : Int} (ha : OB T a 5) (h_dp : -2147483648 ≤ dp ∧ dp ≤ 2147483647) (hw : WT T σ) (hex : ∀ (d : Nat) {T : CT} {σ : MS} {a : Nat} {dp : Int} {kp : Int} {Sx : Int → Int} {nx jx : Nat} {cx : CS} {Nx : Int} {bx : Int} (ha : OB T a 5) (h_dp : -2147483648 ≤ dp ∧ dp ≤ 2147483647) (hw : WT T σ) (hdp : 1 ≤ dp ∧ dp ≤ 7) (hlv : 7 ≤ dp + (lv : Int)) (hfx : RDX σ a Sx nx jx cx Nx) (hb : bx = dp - 1) (hm : cx.m ≤ (jx : Int)) (hkp : kp ≤ 140) (hrp : RP σ a kp), Tn (d + 3 * lv + 60) m_X5_block 0 T σ [(0, .ref a), (1, .int (iI dp))] [] (fun ro T2 σ2 => ∃ v : Int, ro = some (.int (iI v)) ∧ WT T2 σ2 ∧ FrC T [5, 6, 7, 9, 42, 43, 44, 45, 46, 47, 50, 51, 84, 85, 86, 87, 518, 519, 520, 521] σ σ2 ∧ (v = 0 ∨ v = 1) ∧ (YQ σ2 a Sx nx bx [28] jx cx (Nx) 2 v) ∧ (RP σ2 a (kp + 2 - 10 * v)))) (hdp : 1 ≤ dp ∧ dp ≤ 6) (hlv : 6 ≤ dp + (lv : Int)) (hfx : RDX σ a Sx nx jx cx Nx) (hb : bx = dp) (hkd : ckd (tkS Sx jx) = 262) (hkp : kp ≤ 140) (hrp : RP σ a kp) : Tn (d + 3 * lv + 61) m_X5_ring 0 T σ [(0, .ref a), (1, .int (iI dp))] [] (fun ro T2 σ2 => ∃ v : Int, ro = some (.int (iI v)) ∧ WT T2 σ2 ∧ FrC T [5, 6, 7, 9, 42, 43, 44, 45, 46, 47, 50, 51, 84, 85, 86, 87, 518, 519, 520, 521] σ σ2 ∧ (v = 0 ∨ v = 1) ∧ (YQ σ2 a Sx nx bx [22] jx cx (Nx) 1 v) ∧ (RP σ2 a (kp + 2 - 9 * v))) := by
  have hSb := hfx.1.sb
  have e45 := hfx.e45
  have hpo9 := hfx.po
  unfold PO at hpo9
  refine tn_aload_n dX5_ring_0 rfl 0 rfl ?_
  refine tn_callV (M := m_X5_ring) (pc := 1) (ix := 238) (ci := 5) (M' := m_X5_newLabel) (As := []) (rest := []) dX5_ring_1 ok_X5_newLabel im_X5_newLabel se_X5_newLabel ml5_238 np_X5_newLabel rfl rfl ha rfl (Nat.le_of_ble_eq_true rfl) (Nat.le_of_ble_eq_true rfl) rfl (k_X5_newLabel (d + 3 * lv + 59) (T := T) (σ := σ) (a := a) ha hw ) (fun r1 T3 σ2 gt4 hp => ?_)
  obtain ⟨v6, rfl, rfl, w7, F8, f5⟩ := hp
  clear gt4
  have fx9 : RDX σ2 a Sx nx jx (cx) (Nx) := RDX.fc hfx hw ha F8 (by decide) (by decide)
  have rp10 : RP σ2 a (kp) := RP.frc hrp F8 (by decide) (by decide) (by decide) (by decide) (by decide)
  show Tn _ _ 4 T σ2 [(0, .ref a), (1, .int (iI dp))] [.int (iI v6)] _
  refine tn_istore_n (L' := [(2, .int (iI v6)), (0, .ref a), (1, .int (iI dp))]) dX5_ring_4 rfl (by decide) rfl ?_
  refine tn_aload_n dX5_ring_5 rfl 1 rfl ?_
  obtain ⟨x11, hx12, hk13⟩ : ∃ x : Nat, σ.2.1 35 a = (x : Int) ∧ (T x).1 = 31 := wf_35 hw ha
  have hk13o : OB T x11 1 := ⟨by omega, by rw [hk13]; rfl, by omega⟩
  refine tn_getR (ci := 5) (i := 2) (n := 35) (x := x11) dX5_ring_6 rfl lay_5 (by decide) fl5_47 ha rfl rfl (rc_F F8 (Or.inl (by decide)) (by decide) (hx12)) ?_
  refine tn_bipush dX5_ring_9 (by decide) ?_
  refine tn_iload_n dX5_ring_11 rfl 0 rfl ?_
  refine tn_iconst dX5_ring_12 ?_
  have q19 : σ2.2.1 6 x11 = σ.2.1 6 x11 := rc_F F8 (Or.inl (by decide)) (by decide) (rfl)
  refine tn_callV (M := m_X5_ring) (pc := 13) (ix := 139) (ci := 1) (M' := m_X1_append) (As := [.int (iI 13), .int (iI v6), .int (iI 0)]) (rest := []) dX5_ring_13 ok_X1_append im_X1_append se_X1_append ml5_139 np_X1_append rfl rfl hk13o rfl (Nat.le_of_ble_eq_true rfl) (Nat.le_of_ble_eq_true rfl) rfl (k_X1_append (d + 3 * lv + 57) (T := T) (σ := σ2) (a := x11) (k := 13) (x := v6) (y := 0) hk13o hk13 (by decide) (by omega) (by decide) w7 (RP.cnt rp10 w7 ha (rc_F F8 (Or.inl (by decide)) (by decide) (hx12)) (by omega)) (by omega)) (fun r15 T17 σ16 gt18 hp => ?_)
  obtain ⟨rfl, w22, F23, f20⟩ := hp
  have fx24 : RDX σ16 a Sx nx jx (cx) (Nx + 1) := RDX.ap fx9 w7 ha (rc_F F8 (Or.inl (by decide)) (by decide) (hx12)) F23 f20
  replace ha : OB T17 a 5 := gt18.ob ha
  have rp25 : RP σ16 a (kp + 1) := RP.app rp10 (rc_F F8 (Or.inl (by decide)) (by decide) (hx12)) F23 (by decide) (by decide) (by decide) (by decide) f20
  show Tn _ _ 16 T17 σ16 [(2, .int (iI v6)), (0, .ref a), (1, .int (iI dp))] [] _
  refine tn_aload_n dX5_ring_16 rfl 1 rfl ?_
  obtain ⟨x26, hx27, hk28⟩ : ∃ x : Nat, σ16.2.1 35 a = (x : Int) ∧ (T17 x).1 = 31 := wf_35 w22 ha
  have hk28o : OB T17 x26 1 := ⟨by omega, by rw [hk28]; rfl, by omega⟩
  refine tn_getR (ci := 5) (i := 2) (n := 35) (x := x26) dX5_ring_17 rfl lay_5 (by decide) fl5_47 ha rfl rfl (hx27) ?_
  refine tn_bipush dX5_ring_20 (by decide) ?_
  refine tn_aload_n dX5_ring_22 rfl 1 rfl ?_
  refine tn_getI (ci := 5) (i := 12) (n := 45) (t := σ16.2.1 45 a) dX5_ring_23 rfl lay_5 (by decide) fl5_64 ha rfl rfl (rfl) ?_
  have g30 : ((-2147483648 : Int) ≤ σ16.2.1 45 a ∧ σ16.2.1 45 a ≤ 2147483647) := wf_45 w22 ha
  refine tn_iconst dX5_ring_26 ?_
  refine tn_callV (M := m_X5_ring) (pc := 27) (ix := 139) (ci := 1) (M' := m_X1_append) (As := [.int (iI 11), .int (iI (σ16.2.1 45 a)), .int (iI 0)]) (rest := []) dX5_ring_27 ok_X1_append im_X1_append se_X1_append ml5_139 np_X1_append rfl rfl hk28o rfl (Nat.le_of_ble_eq_true rfl) (Nat.le_of_ble_eq_true rfl) rfl (k_X1_append (d + 3 * lv + 57) (T := T17) (σ := σ16) (a := x26) (k := 11) (x := σ16.2.1 45 a) (y := 0) hk28o hk28 (by decide) (by omega) (by decide) w22 (RP.cnt rp25 w22 ha (hx27) (by omega)) (by omega)) (fun r31 T33 σ32 gt34 hp => ?_)
  obtain ⟨rfl, w37, F38, f35⟩ := hp
  have fx39 : RDX σ32 a Sx nx jx (cx) (Nx + 1 + 1) := RDX.ap fx24 w22 ha (hx27) F38 f35
  replace ha : OB T33 a 5 := gt34.ob ha
  have rp40 : RP σ32 a (kp + 1 + 1) := RP.app rp25 (hx27) F38 (by decide) (by decide) (by decide) (by decide) f35
  have rp41 : RP σ32 a (kp + 2) := RP.up rp40 (by omega)
  show Tn _ _ 30 T33 σ32 [(2, .int (iI v6)), (0, .ref a), (1, .int (iI dp))] [] _
  refine tn_aload_n dX5_ring_30 rfl 1 rfl ?_
  obtain ⟨x42, hx43, hk44⟩ : ∃ x : Nat, σ32.2.1 33 a = (x : Int) ∧ (T33 x).1 = 39 := wf_33 w37 ha
  have hk44o : OB T33 x42 9 := ⟨by omega, by rw [hk44]; rfl, by omega⟩
  refine tn_getR (ci := 5) (i := 0) (n := 33) (x := x42) dX5_ring_31 rfl lay_5 (by decide) fl5_12 ha rfl rfl (hx43) ?_
  refine tn_callV (M := m_X5_ring) (pc := 34) (ix := 93) (ci := 9) (M' := m_X9_next) (As := []) (rest := []) dX5_ring_34 ok_X9_next im_X9_next se_X9_next ml5_93 np_X9_next rfl rfl hk44o rfl (Nat.le_of_ble_eq_true rfl) (Nat.le_of_ble_eq_true rfl) rfl (k_X9_next_f (d + 3 * lv + 59) (T := T33) (σ := σ32) (a := x42) hk44o w37 (RP.tk rp41 w37 ha (hx43)) ((fx39).1.tk (hx43)) (by rw [(fx39).1.kd (hx43)]; omega)) (fun r46 T48 σ47 gt49 hp => ?_)
  obtain ⟨rfl, rfl, w55, F56, f50, f51, f52, f53⟩ := hp
  clear gt49
  have pc58 : GR Sx [22] jx (0) (bx) u0 [52, 2, 51, 28, 52] (jx + 1) (0) (bx) u0 0 [] := x22 hSb 
  have rd590 : GR Sx [22] jx 0 (bx) u0 [22] jx (0) (bx) u0 (0) ([]) := GR.nl
  have rd59 : GR Sx [22] jx 0 (bx) u0 [52, 2, 51, 28, 52] (jx + 1) (0) (bx) u0 (0 + 0) ([]) := GR.g0 (l := [22]) (ms := [52, 2, 51, 28, 52]) [] rd590 pc58
  have fx57 : RDX σ47 a Sx nx (jx + 1) (cx) (Nx + 1 + 1) := RDX.nx fx39 w37 ha (hx43) F56 f53
  have rp60 : RP σ47 a (kp + 2) := RP.next rp41 (hx43) F56 (by decide) (by decide) (by decide) f50 f51
  show Tn _ _ 37 T33 σ47 [(2, .int (iI v6)), (0, .ref a), (1, .int (iI dp))] [] _
  refine tn_aload_n dX5_ring_37 rfl 1 rfl ?_
  refine tn_iconst dX5_ring_38 ?_
  have pc61 : GR Sx [52] (jx + 1) (0) (bx) u0 [] (jx + 1) (0) (bx) u0 2 [] := x52 hSb 
  have rd62 : GR Sx [22] jx 0 (bx) u0 [2, 51, 28, 52] (jx + 1) (0) (bx) u0 (0 + 0 + 2) ([]) := GR.g0 (l := [52]) (ms := []) [2, 51, 28, 52] rd59 pc61
  refine tn_callV (M := m_X5_ring) (pc := 39) (ix := 213) (ci := 5) (M' := m_X5_expression) (As := [.int (iI 1)]) (rest := []) dX5_ring_39 ok_X5_expression im_X5_expression se_X5_expression ml5_213 np_X5_expression rfl rfl ha rfl (Nat.le_of_ble_eq_true rfl) (Nat.le_of_ble_eq_true rfl) rfl (k_X5_expression_f (d + 3 * lv + 10) (T := T33) (σ := σ47) (a := a) (dp := 1) (kp := kp + 2) (eo := 0) ha (by decide) w55 (by omega) fx57 (by omega) (by omega) rp60) (fun r63 T65 σ64 gt66 hp => ?_)
  obtain ⟨v70, rfl, w71, F72, f67, f68, f69⟩ := hp
  replace ha : OB T65 a 5 := gt66.ob ha
  have rp74 : RP σ64 a (kp - 4 * v70 + 2) := RP.up f69 (by omega)
  show Tn _ _ 42 T65 σ64 [(2, .int (iI v6)), (0, .ref a), (1, .int (iI dp))] [.int (iI v70)] _
  refine tn_if_ne (tgt := 47) dX5_ring_42 (by decide) ⟨by omega, by omega⟩ (fun h75 => ?_) (fun h75 => ?_)
  · refine tn_aload_n dX5_ring_47 rfl 1 rfl ?_
    obtain ⟨i76, es77, m78, lo79, rr80, fx81⟩ := f68.1 (by omega)
    have rr80g := rr80 (bx) u0
    have rd82a : GR Sx [22] jx 0 (bx) u0 [51, 28, 52] i76 (0) (bx) u0 (0 + 0 + 2 + m78) ([] ++ es77) := GR.gg (l := [2]) (ms := []) [51, 28, 52] rd62 rr80g
    have rd82 : GR Sx [22] jx 0 (bx) u0 [51, 28, 52] i76 (0) (bx) u0 (0 + 0 + 2 + m78) (es77) := rd82a
    refine tn_callV (M := m_X5_ring) (pc := 48) (ix := 235) (ci := 5) (M' := m_X5_zeroToNew) (As := []) (rest := []) dX5_ring_48 ok_X5_zeroToNew im_X5_zeroToNew se_X5_zeroToNew ml5_235 np_X5_zeroToNew rfl rfl ha rfl (Nat.le_of_ble_eq_true rfl) (Nat.le_of_ble_eq_true rfl) rfl (k_X5_zeroToNew_f (d + 3 * lv + 56) (T := T65) (σ := σ64) (a := a) (kp := kp - 4 * v70 + 2) ha w71 fx81 (by omega) rp74) (fun r83 T85 σ84 gt86 hp => ?_)
    obtain ⟨v90, rfl, w91, F92, f87, f88, f89⟩ := hp
    replace ha : OB T85 a 5 := gt86.ob ha
    have rp94 : RP σ84 a (kp - 4 * v70 + 3) := RP.up f89 (by omega)
    show Tn _ _ 51 T85 σ84 [(2, .int (iI v6)), (0, .ref a), (1, .int (iI dp))] [.int (iI v90)] _
    refine tn_istore_n (L' := [(3, .int (iI v90)), (2, .int (iI v6)), (0, .ref a), (1, .int (iI dp))]) dX5_ring_51 rfl (by decide) rfl ?_
    refine tn_aload_n dX5_ring_52 rfl 2 rfl ?_
    refine tn_iload_n dX5_ring_53 rfl 3 rfl ?_
    refine tn_iconst dX5_ring_54 ?_
    refine tn_iadd dX5_ring_55 ?_
    have q4595 : (es77.foldl uC (cx)).m = σ.2.1 45 a := (f88.e45).symm.trans (rc_F F92 (Or.inl (by decide)) (by decide) (rc_F F72 (Or.inl (by decide)) (by decide) (rc_F F56 (Or.inl (by decide)) (by decide) (rc_F F38 (Or.inl (by decide)) (by decide) (rc_F F23 (Or.inl (by decide)) (by decide) (rc_F F8 (Or.inl (by decide)) (by decide) (rfl)))))))
    have pc96 : GR Sx [51] i76 (0) (bx) u0 [] i76 (0) (bx) u0 1 [] := x51 hSb 
    have rd97 : GR Sx [22] jx 0 (bx) u0 [28, 52] i76 (0) (bx) u0 (0 + 0 + 2 + m78 + 1) (es77) := GR.g0 (l := [51]) (ms := []) [28, 52] rd82 pc96
    refine tn_callV (M := m_X5_ring) (pc := 56) (ix := 79) (ci := 5) (M' := m_X5_block) (As := [.int (iI (dp + 1))]) (rest := []) dX5_ring_56 ok_X5_block im_X5_block se_X5_block ml5_79 np_X5_block rfl rfl ha rfl (Nat.le_of_ble_eq_true rfl) (Nat.le_of_ble_eq_true rfl) rfl (hex (d) (T := T85) (σ := σ84) (a := a) (dp := dp + 1) (kp := kp - 4 * v70 + 3) (bx := bx) ha (by omega) w91 (by omega) (by omega) f88 (by omega) (by rw [q4595]; omega) (by omega) rp94) (fun r98 T100 σ99 gt101 hp => ?_)
    obtain ⟨v105, rfl, w106, F107, f102, f103, f104⟩ := hp
    replace ha : OB T100 a 5 := gt101.ob ha
    have rp109 : RP σ99 a (kp - 4 * v70 - 10 * v105 + 5) := RP.up f104 (by omega)
    show Tn _ _ 59 T100 σ99 [(3, .int (iI v90)), (2, .int (iI v6)), (0, .ref a), (1, .int (iI dp))] [.int (iI v105)] _
    refine tn_if_ne (tgt := 64) dX5_ring_59 (by decide) ⟨by omega, by omega⟩ (fun h110 => ?_) (fun h110 => ?_)
    · refine tn_aload_n dX5_ring_64 rfl 2 rfl ?_
      obtain ⟨x111, hx112, hk113⟩ : ∃ x : Nat, σ99.2.1 35 a = (x : Int) ∧ (T100 x).1 = 31 := wf_35 w106 ha
      have hk113o : OB T100 x111 1 := ⟨by omega, by rw [hk113]; rfl, by omega⟩
      refine tn_getR (ci := 5) (i := 2) (n := 35) (x := x111) dX5_ring_65 rfl lay_5 (by decide) fl5_47 ha rfl rfl (hx112) ?_
      refine tn_bipush dX5_ring_68 (by decide) ?_
      refine tn_iload_n dX5_ring_70 rfl 1 rfl ?_
      refine tn_iconst dX5_ring_71 ?_
      refine tn_callV (M := m_X5_ring) (pc := 72) (ix := 139) (ci := 1) (M' := m_X1_append) (As := [.int (iI 8), .int (iI v6), .int (iI 0)]) (rest := []) dX5_ring_72 ok_X1_append im_X1_append se_X1_append ml5_139 np_X1_append rfl rfl hk113o rfl (Nat.le_of_ble_eq_true rfl) (Nat.le_of_ble_eq_true rfl) rfl (k_X1_append (d + 3 * lv + 57) (T := T100) (σ := σ99) (a := x111) (k := 8) (x := v6) (y := 0) hk113o hk113 (by decide) (by omega) (by decide) w106 (RP.cnt rp109 w106 ha (hx112) (by omega)) (by omega)) (fun r115 T117 σ116 gt118 hp => ?_)
      obtain ⟨rfl, w121, F122, f119⟩ := hp
      obtain ⟨i123, es124, m125, lo126, rr127, fx128, fx128m⟩ := f103.1 (by omega)
      have fx128s : σ99.2.1 45 a ≤ (i123 : Int) := by rw [fx128.e45]; exact fx128m
      have rd129 : GR Sx [22] jx 0 (bx) u0 [52] i123 (0) (bx) u0 (0 + 0 + 2 + m78 + 1 + m125) (es77 ++ es124) := GR.gg (l := [28]) (ms := []) [52] rd97 rr127
      have fx130 : RDX σ116 a Sx nx i123 (es124.foldl uC (es77.foldl uC (cx))) (Nx + 1 + 1 + m78 + 1 + m125 + 1) := RDX.ap fx128 w106 ha (hx112) F122 f119
      replace ha : OB T117 a 5 := gt118.ob ha
      have rp131 : RP σ116 a (kp - 4 * v70 - 10 * v105 + 5 + 1) := RP.app rp109 (hx112) F122 (by decide) (by decide) (by decide) (by decide) f119
      have rp132 : RP σ116 a (kp - 4 * v70 - 10 * v105 + 6) := RP.up rp131 (by omega)
      show Tn _ _ 75 T117 σ116 [(3, .int (iI v90)), (2, .int (iI v6)), (0, .ref a), (1, .int (iI dp))] [] _
      refine tn_aload_n dX5_ring_75 rfl 2 rfl ?_
      obtain ⟨x133, hx134, hk135⟩ : ∃ x : Nat, σ116.2.1 35 a = (x : Int) ∧ (T117 x).1 = 31 := wf_35 w121 ha
      have hk135o : OB T117 x133 1 := ⟨by omega, by rw [hk135]; rfl, by omega⟩
      refine tn_getR (ci := 5) (i := 2) (n := 35) (x := x133) dX5_ring_76 rfl lay_5 (by decide) fl5_47 ha rfl rfl (hx134) ?_
      refine tn_bipush dX5_ring_79 (by decide) ?_
      refine tn_iload_n dX5_ring_81 rfl 0 rfl ?_
      refine tn_iconst dX5_ring_82 ?_
      refine tn_callV (M := m_X5_ring) (pc := 83) (ix := 139) (ci := 1) (M' := m_X1_append) (As := [.int (iI 13), .int (iI v90), .int (iI 0)]) (rest := []) dX5_ring_83 ok_X1_append im_X1_append se_X1_append ml5_139 np_X1_append rfl rfl hk135o rfl (Nat.le_of_ble_eq_true rfl) (Nat.le_of_ble_eq_true rfl) rfl (k_X1_append (d + 3 * lv + 57) (T := T117) (σ := σ116) (a := x133) (k := 13) (x := v90) (y := 0) hk135o hk135 (by decide) (by omega) (by decide) w121 (RP.cnt rp132 w121 ha (hx134) (by omega)) (by omega)) (fun r137 T139 σ138 gt140 hp => ?_)
      obtain ⟨rfl, w143, F144, f141⟩ := hp
      have fx145 : RDX σ138 a Sx nx i123 (es124.foldl uC (es77.foldl uC (cx))) (Nx + 1 + 1 + m78 + 1 + m125 + 1 + 1) := RDX.ap fx130 w121 ha (hx134) F144 f141
      replace ha : OB T139 a 5 := gt140.ob ha
      have rp146 : RP σ138 a (kp - 4 * v70 - 10 * v105 + 6 + 1) := RP.app rp132 (hx134) F144 (by decide) (by decide) (by decide) (by decide) f141
      have rp147 : RP σ138 a (kp - 4 * v70 - 10 * v105 + 7) := RP.up rp146 (by omega)
      show Tn _ _ 86 T139 σ138 [(3, .int (iI v90)), (2, .int (iI v6)), (0, .ref a), (1, .int (iI dp))] [] _
      refine tn_iconst dX5_ring_86 ?_
      have pc150 : GR Sx [52] i123 (0) (bx) u0 [] i123 (0) (bx) u0 2 [] := x52 hSb 
      have rd151 : GR Sx [22] jx 0 (bx) u0 [] i123 (0) (bx) u0 (0 + 0 + 2 + m78 + 1 + m125 + 2) (es77 ++ es124) := GR.g0 (l := [52]) (ms := []) [] rd129 pc150
      have fe152 := RDX.nq (M := Nx + (0 + 0 + 2 + m78 + 1 + m125 + 2)) (RDX.cq (c2 := (es77 ++ es124).foldl uC cx) fx145 (by simp only [List.foldl_append, List.foldl_cons, List.foldl_nil])) (by omega)
      have fe152m : ((es77 ++ es124).foldl uC cx).m = σ99.2.1 45 a := (fe152.e45).symm.trans (rc_F F144 (Or.inl (by decide)) (by decide) (rc_F F122 (Or.inl (by decide)) (by decide) (rfl)))
      have ra148 : YS σ138 a Sx nx bx [22] jx cx (Nx) bx [] ((jx : Int) + 1) := ⟨i123, es77 ++ es124, 0 + 0 + 2 + m78 + 1 + m125 + 2, (by omega), rd151, fe152, by rw [fe152m]; omega⟩
      exact tn_zret (v := 1) rfl (by decide) dX5_ring_87 ⟨_, rfl, w143, (((((((((FrC.rfl.trans (FrC.sub F8 (by decide))).trans (FrC.sub F23 (by decide))).trans (FrC.sub (FrC.old F38 gt18) (by decide))).trans (FrC.sub (FrC.old F56 (GT.trans gt18 gt34)) (by decide))).trans (FrC.sub (FrC.old F72 (GT.trans gt18 gt34)) (by decide))).trans (FrC.sub (FrC.old F92 (GT.trans (GT.trans gt18 gt34) gt66)) (by decide))).trans (FrC.sub (FrC.old F107 (GT.trans (GT.trans (GT.trans gt18 gt34) gt66) gt86)) (by decide))).trans (FrC.sub (FrC.old F122 (GT.trans (GT.trans (GT.trans (GT.trans gt18 gt34) gt66) gt86) gt101)) (by decide))).trans (FrC.sub (FrC.old F144 (GT.trans (GT.trans (GT.trans (GT.trans (GT.trans gt18 gt34) gt66) gt86) gt101) gt118)) (by decide))), by omega, ⟨fun _ => ra148, fun q => absurd q (by decide)⟩, (RP.up rp147 (by omega))⟩
    · refine tn_iconst dX5_ring_62 ?_
      obtain ⟨pl155, g156, fx157⟩ := f103.2 (by omega)
      have rf158 : GRF Sx [22] jx 0 (bx) u0 (pl155) := GR.fl (l := [28]) [52] rd97 g156
      have rb154 : YF σ99 a Sx bx [22] jx := ⟨_, rf158, fx157⟩
      exact tn_zret (v := 0) rfl (by decide) dX5_ring_63 ⟨_, rfl, w106, (((((((FrC.rfl.trans (FrC.sub F8 (by decide))).trans (FrC.sub F23 (by decide))).trans (FrC.sub (FrC.old F38 gt18) (by decide))).trans (FrC.sub (FrC.old F56 (GT.trans gt18 gt34)) (by decide))).trans (FrC.sub (FrC.old F72 (GT.trans gt18 gt34)) (by decide))).trans (FrC.sub (FrC.old F92 (GT.trans (GT.trans gt18 gt34) gt66)) (by decide))).trans (FrC.sub (FrC.old F107 (GT.trans (GT.trans (GT.trans gt18 gt34) gt66) gt86)) (by decide))), by omega, ⟨fun q => absurd q (by decide), fun _ => rb154⟩, (RP.up rp109 (by omega))⟩
  · refine tn_iconst dX5_ring_45 ?_
    obtain ⟨pl161, g162, fx163⟩ := f68.2 (by omega)
    have g162g := g162 (bx) u0
    have rf164 : GRF Sx [22] jx 0 (bx) u0 (pl161) := GR.fl (l := [2]) [51, 28, 52] rd62 g162g
    have rb160 : YF σ64 a Sx bx [22] jx := ⟨_, rf164, fx163⟩
    exact tn_zret (v := 0) rfl (by decide) dX5_ring_46 ⟨_, rfl, w71, (((((FrC.rfl.trans (FrC.sub F8 (by decide))).trans (FrC.sub F23 (by decide))).trans (FrC.sub (FrC.old F38 gt18) (by decide))).trans (FrC.sub (FrC.old F56 (GT.trans gt18 gt34)) (by decide))).trans (FrC.sub (FrC.old F72 (GT.trans gt18 gt34)) (by decide))), by omega, ⟨fun q => absurd q (by decide), fun _ => rb160⟩, (RP.up rp74 (by omega))⟩
