set_option maxHeartbeats 4000000 in
set_option maxRecDepth 20000 in
theorem k_X5_expression_f1 (d : Nat) {T : CT} {σ : MS} {a : Nat} {dp : Int} {kp : Int} {lv : Nat} {Sx : Int → Int} {nx jx : Nat} {cx : CS} {Nx : Int} {eo : Int} (ha : OB T a 5) (h_dp : -2147483648 ≤ dp ∧ dp ≤ 2147483647) (hw : WT T σ) (hex : ∀ (d : Nat) {T : CT} {σ : MS} {a : Nat} {dp : Int} {kp : Int} {Sx : Int → Int} {nx jx : Nat} {cx : CS} {Nx : Int} {eo : Int} (ha : OB T a 5) (h_dp : -2147483648 ≤ dp ∧ dp ≤ 2147483647) (hw : WT T σ) (hdp : 1 ≤ dp ∧ dp ≤ 9) (hlv : 9 ≤ dp + (lv : Int)) (hfx : RDX σ a Sx nx jx cx Nx) (heo : eo = dp - 1) (hkp : kp ≤ 150) (hrp : RP σ a kp), Tn (d + 5 * lv + 10) m_X5_expression 0 T σ [(0, .ref a), (1, .int (iI dp))] [] (fun ro T2 σ2 => ∃ v : Int, ro = some (.int (iI v)) ∧ WT T2 σ2 ∧ FrC T [5, 6, 7, 43, 44, 47, 50, 51, 84, 85, 86, 87, 521] σ σ2 ∧ (v = 0 ∨ v = 1) ∧ (XQ σ2 a Sx nx (eo) [2] jx cx Nx v) ∧ (RP σ2 a (kp - 4 * v)))) (hdp : 1 ≤ dp ∧ dp ≤ 8) (hlv : 9 ≤ dp + ((lv : Int) + 1)) (hfx : RDX σ a Sx nx jx cx Nx) (heo : eo = dp - 1) (hkp : kp ≤ 150) (hrp : RP σ a kp) : Tn (d + 5 * lv + 15) m_X5_expression 0 T σ [(0, .ref a), (1, .int (iI dp))] [] (fun ro T2 σ2 => ∃ v : Int, ro = some (.int (iI v)) ∧ WT T2 σ2 ∧ FrC T [5, 6, 7, 43, 44, 47, 50, 51, 84, 85, 86, 87, 521] σ σ2 ∧ (v = 0 ∨ v = 1) ∧ (XQ σ2 a Sx nx (eo) [2] jx cx Nx v) ∧ (RP σ2 a (kp - 4 * v))) := by
  have hSb := hfx.1.sb
  refine tn_iload_n dX5_expression_0 rfl 1 rfl ?_
  refine tn_bipush dX5_expression_1 (by decide) ?_
  refine tn_icmp_le (tgt := 11) dX5_expression_3 (by decide) ⟨by omega, by omega⟩ ⟨by decide, by decide⟩ (fun h1 => ?_) (fun h1 => absurd h1 (by omega))
  refine tn_aload_n dX5_expression_11 rfl 0 rfl ?_
  refine tn_iload_n dX5_expression_12 rfl 1 rfl ?_
  have pc2 : EXR Sx (eo) [2] jx (eo + 1) [3, 6] jx 0 [] := fun _ _ => x2 hSb (by omega)
  have rd30 : EXR Sx (eo) [2] jx (eo) [2] jx (0) ([]) := EXR.nl
  have rd3 : EXR Sx (eo) [2] jx (eo + 1) [3, 6] jx (0 + 0) ([]) := EXR.g0 (l := [2]) (ms := [3, 6]) [] rd30 pc2
  refine tn_callV (M := m_X5_expression) (pc := 13) (ix := 241) (ci := 5) (M' := m_X5_sum) (As := [.int (iI dp)]) (rest := []) dX5_expression_13 ok_X5_sum im_X5_sum se_X5_sum ml5_241 np_X5_sum rfl rfl ha rfl (Nat.le_of_ble_eq_true rfl) (Nat.le_of_ble_eq_true rfl) rfl (k_X5_sum_f (d) (T := T) (σ := σ) (a := a) (dp := dp) (kp := kp) (lv := lv) (eo := eo + 1) ha (by omega) hw hex (by omega) (by omega) hfx (by omega) (by omega) hrp) (fun r4 T6 σ5 gt7 hp => ?_)
  obtain ⟨v11, rfl, w12, F13, f8, f9, f10⟩ := hp
  replace ha : OB T6 a 5 := gt7.ob ha
  show Tn _ _ 16 T6 σ5 [(0, .ref a), (1, .int (iI dp))] [.int (iI v11)] _
  refine tn_if_ne (tgt := 21) dX5_expression_16 (by decide) ⟨by omega, by omega⟩ (fun h15 => ?_) (fun h15 => ?_)
  · refine tn_aload_n dX5_expression_21 rfl 0 rfl ?_
    obtain ⟨x16, hx17, hk18⟩ : ∃ x : Nat, σ5.2.1 33 a = (x : Int) ∧ (T6 x).1 = 39 := wf_33 w12 ha
    have hk18o : OB T6 x16 9 := ⟨by omega, by rw [hk18]; rfl, by omega⟩
    refine tn_getR (ci := 5) (i := 0) (n := 33) (x := x16) dX5_expression_22 rfl lay_5 (by decide) fl5_12 ha rfl rfl (hx17) ?_
    refine tn_getI (ci := 9) (i := 4) (n := 85) (t := σ5.2.1 85 x16) dX5_expression_25 rfl lay_9 (by decide) fl5_71 hk18o rfl rfl (rfl) ?_
    have g20 : ((-2147483648 : Int) ≤ σ5.2.1 85 x16 ∧ σ5.2.1 85 x16 ≤ 2147483647) := wf_85 w12 hk18o
    obtain ⟨i21, es22, m23, lo24, rr25, fx26⟩ := f9.1 (by omega)
    have rd27a : EXR Sx (eo) [2] jx (eo + 1) [6] i21 (0 + 0 + m23) ([] ++ es22) := EXR.gg (l := [3]) (ms := []) [6] rd3 rr25
    have rd27 : EXR Sx (eo) [2] jx (eo + 1) [6] i21 (0 + 0 + m23) (es22) := rd27a
    have g20kd : σ5.2.1 85 x16 = ckd (tkS Sx i21) := (rfl).symm.trans ((fx26).1.kd (hx17))
    refine tn_bipush dX5_expression_28 (by decide) ?_
    refine tn_icmp_eq (tgt := 47) dX5_expression_30 (by decide) ⟨by omega, by omega⟩ ⟨by decide, by decide⟩ (fun h28 => ?_) (fun h28 => ?_)
    · refine tn_aload_n dX5_expression_47 rfl 0 rfl ?_
      refine tn_getR (ci := 5) (i := 0) (n := 33) (x := x16) dX5_expression_48 rfl lay_5 (by decide) fl5_12 ha rfl rfl (hx17) ?_
      refine tn_getI (ci := 9) (i := 4) (n := 85) (t := σ5.2.1 85 x16) dX5_expression_51 rfl lay_9 (by decide) fl5_71 hk18o rfl rfl (rfl) ?_
      refine tn_bipush dX5_expression_54 (by decide) ?_
      refine tn_icmp_ne (tgt := 63) dX5_expression_56 (by decide) ⟨by omega, by omega⟩ ⟨by decide, by decide⟩ (fun h29 => absurd h29 (by omega)) (fun h29 => ?_)
      refine tn_iconst dX5_expression_59 ?_
      refine tn_goto (tgt := 64) dX5_expression_60 (by decide) ?_
      refine tn_istore_n (L' := [(2, .int (iI 4)), (0, .ref a), (1, .int (iI dp))]) dX5_expression_64 rfl (by decide) rfl ?_
      refine tn_aload_n dX5_expression_65 rfl 1 rfl ?_
      refine tn_getI (ci := 5) (i := 17) (n := 50) (t := σ5.2.1 50 a) dX5_expression_66 rfl lay_5 (by decide) fl5_216 ha rfl rfl (rfl) ?_
      have g30 : ((-2147483648 : Int) ≤ σ5.2.1 50 a ∧ σ5.2.1 50 a ≤ 2147483647) := wf_50 w12 ha
      refine tn_istore_n (L' := [(3, .int (iI (σ5.2.1 50 a))), (2, .int (iI 4)), (0, .ref a), (1, .int (iI dp))]) dX5_expression_69 rfl (by decide) rfl ?_
      refine tn_aload_n dX5_expression_70 rfl 2 rfl ?_
      refine tn_getI (ci := 5) (i := 18) (n := 51) (t := σ5.2.1 51 a) dX5_expression_71 rfl lay_5 (by decide) fl5_219 ha rfl rfl (rfl) ?_
      have g31 : ((-2147483648 : Int) ≤ σ5.2.1 51 a ∧ σ5.2.1 51 a ≤ 2147483647) := wf_51 w12 ha
      refine tn_istore (L' := [(4, .int (iI (σ5.2.1 51 a))), (3, .int (iI (σ5.2.1 50 a))), (2, .int (iI 4)), (0, .ref a), (1, .int (iI dp))]) dX5_expression_74 (by decide) rfl ?_
      refine tn_aload_n dX5_expression_76 rfl 3 rfl ?_
      refine tn_getR (ci := 5) (i := 0) (n := 33) (x := x16) dX5_expression_77 rfl lay_5 (by decide) fl5_12 ha rfl rfl (hx17) ?_
      refine tn_callV (M := m_X5_expression) (pc := 80) (ix := 93) (ci := 9) (M' := m_X9_next) (As := []) (rest := []) dX5_expression_80 ok_X9_next im_X9_next se_X9_next ml5_93 np_X9_next rfl rfl hk18o rfl (Nat.le_of_ble_eq_true rfl) (Nat.le_of_ble_eq_true rfl) rfl (k_X9_next_f (d + 5 * lv + 13) (T := T6) (σ := σ5) (a := x16) hk18o w12 (RP.tk f10 w12 ha (hx17)) ((fx26).1.tk (hx17)) (by rw [(fx26).1.kd (hx17)]; omega)) (fun r32 T34 σ33 gt35 hp => ?_)
      obtain ⟨rfl, rfl, w41, F42, f36, f37, f38, f39⟩ := hp
      clear gt35
      have pc44 : EXR Sx (eo + 1) [6] i21 (eo + 1) [3, 51, 7] (i21 + 1) 0 [] := fun _ _ => x6e hSb (by omega)
      have rd45 : EXR Sx (eo) [2] jx (eo + 1) [3, 51, 7] (i21 + 1) (0 + 0 + m23 + 0) (es22) := EXR.g0 (l := [6]) (ms := [3, 51, 7]) [] rd27 pc44
      have fx43 : RDX σ33 a Sx nx (i21 + 1) (es22.foldl uC (cx)) (Nx + m23) := RDX.nx fx26 w12 ha (hx17) F42 f39
      have rp46 : RP σ33 a (kp - 4 * v11 - 4) := RP.next4 f10 (hx17) F42 (by decide) (by decide) (by decide) f36 f38 (by rw [show σ5.2.1 85 x16 = σ5.2.1 85 x16 from rfl]; omega)
      show Tn _ _ 83 T6 σ33 [(4, .int (iI (σ5.2.1 51 a))), (3, .int (iI (σ5.2.1 50 a))), (2, .int (iI 4)), (0, .ref a), (1, .int (iI dp))] [] _
      refine tn_aload_n dX5_expression_83 rfl 3 rfl ?_
      refine tn_iload_n dX5_expression_84 rfl 4 rfl ?_
      refine tn_callV (M := m_X5_expression) (pc := 85) (ix := 241) (ci := 5) (M' := m_X5_sum) (As := [.int (iI dp)]) (rest := []) dX5_expression_85 ok_X5_sum im_X5_sum se_X5_sum ml5_241 np_X5_sum rfl rfl ha rfl (Nat.le_of_ble_eq_true rfl) (Nat.le_of_ble_eq_true rfl) rfl (k_X5_sum_f (d) (T := T6) (σ := σ33) (a := a) (dp := dp) (kp := kp - 4 * v11 - 4) (lv := lv) (eo := eo + 1) ha (by omega) w41 hex (by omega) (by omega) fx43 (by omega) (by omega) rp46) (fun r47 T49 σ48 gt50 hp => ?_)
      obtain ⟨v54, rfl, w55, F56, f51, f52, f53⟩ := hp
      replace ha : OB T49 a 5 := gt50.ob ha
      have rp58 : RP σ48 a (kp - 4 * v11 - 4 * v54 - 4) := RP.up f53 (by omega)
      show Tn _ _ 88 T49 σ48 [(4, .int (iI (σ5.2.1 51 a))), (3, .int (iI (σ5.2.1 50 a))), (2, .int (iI 4)), (0, .ref a), (1, .int (iI dp))] [.int (iI v54)] _
      refine tn_if_ne (tgt := 93) dX5_expression_88 (by decide) ⟨by omega, by omega⟩ (fun h59 => ?_) (fun h59 => ?_)
      · refine tn_aload_n dX5_expression_93 rfl 3 rfl ?_
        refine tn_iload_n dX5_expression_94 rfl 2 rfl ?_
        refine tn_iload_n dX5_expression_95 rfl 1 rfl ?_
        refine tn_iload dX5_expression_96 0 rfl ?_
        obtain ⟨i60, es61, m62, lo63, rr64, fx65⟩ := f52.1 (by omega)
        have rd66 : EXR Sx (eo) [2] jx (eo + 1) [51, 7] i60 (0 + 0 + m23 + 0 + m62) (es22 ++ es61) := EXR.gg (l := [3]) (ms := []) [51, 7] rd45 rr64
        refine tn_callV (M := m_X5_expression) (pc := 98) (ix := 244) (ci := 5) (M' := m_X5_join) (As := [.int (iI 4), .int (iI (σ5.2.1 50 a)), .int (iI (σ5.2.1 51 a))]) (rest := []) dX5_expression_98 ok_X5_join im_X5_join se_X5_join ml5_244 np_X5_join rfl rfl ha rfl (Nat.le_of_ble_eq_true rfl) (Nat.le_of_ble_eq_true rfl) rfl (k_X5_join_f (d + 5 * lv + 10) (T := T49) (σ := σ48) (a := a) (k := 4) (e := σ5.2.1 50 a) (l := σ5.2.1 51 a) (kp := kp - 4 * v11 - 4 * v54 - 4) ha (by decide) (by omega) (by omega) w55 (by omega) fx65 (by omega) rp58) (fun r67 T69 σ68 gt70 hp => ?_)
        obtain ⟨rfl, w74, F75, f71, f72⟩ := hp
        replace ha : OB T69 a 5 := gt70.ob ha
        have rp77 : RP σ68 a (kp - 4 * v11 - 4 * v54 - 3) := RP.up f72 (by omega)
        show Tn _ _ 101 T69 σ68 [(4, .int (iI (σ5.2.1 51 a))), (3, .int (iI (σ5.2.1 50 a))), (2, .int (iI 4)), (0, .ref a), (1, .int (iI dp))] [] _
        refine tn_iconst dX5_expression_101 ?_
        have pc80 : EXR Sx (eo + 1) [51] i60 (eo + 1) [] i60 1 [] := fun _ _ => x51 hSb 
        have rd81 : EXR Sx (eo) [2] jx (eo + 1) [7] i60 (0 + 0 + m23 + 0 + m62 + 1) (es22 ++ es61) := EXR.g0 (l := [51]) (ms := []) [7] rd66 pc80
        have pc82 : EXR Sx (eo + 1) [7] i60 (eo) [] i60 0 [] := fun b9 u9 => by have q9 := x7 (S := Sx) (j := i60) (e := eo + 1) (b := b9) (u := u9) hSb; rw [show eo + 1 - 1 = eo by omega] at q9; exact q9
        have rd83 : EXR Sx (eo) [2] jx (eo) [] i60 (0 + 0 + m23 + 0 + m62 + 1 + 0) (es22 ++ es61) := EXR.g0 (l := [7]) (ms := []) [] rd81 pc82
        have ra78 : XS σ68 a Sx nx (eo) [2] jx cx Nx (eo) [] ((jx : Int) + 1) := ⟨i60, es22 ++ es61, 0 + 0 + m23 + 0 + m62 + 1 + 0, (by omega), rd83, RDX.nq (RDX.cq f71 (by simp only [List.foldl_append, List.foldl_cons, List.foldl_nil])) (by omega)⟩
        exact tn_zret (v := 1) rfl (by decide) dX5_expression_102 ⟨_, rfl, w74, ((((FrC.rfl.trans (FrC.sub F13 (by decide))).trans (FrC.sub (FrC.old F42 gt7) (by decide))).trans (FrC.sub (FrC.old F56 gt7) (by decide))).trans (FrC.sub (FrC.old F75 (GT.trans gt7 gt50)) (by decide))), by omega, ⟨fun _ => ra78, fun q => absurd q (by decide)⟩, (RP.up rp77 (by omega))⟩
      · refine tn_iconst dX5_expression_91 ?_
        obtain ⟨pl86, g87, fx88⟩ := f52.2 (by omega)
        have rf89 : EXF Sx (eo) [2] jx (pl86) := EXR.fl (l := [3]) [51, 7] rd45 g87
        have rb85 : XFc σ48 a Sx (eo) [2] jx := ⟨_, rf89, fx88⟩
        exact tn_zret (v := 0) rfl (by decide) dX5_expression_92 ⟨_, rfl, w55, (((FrC.rfl.trans (FrC.sub F13 (by decide))).trans (FrC.sub (FrC.old F42 gt7) (by decide))).trans (FrC.sub (FrC.old F56 gt7) (by decide))), by omega, ⟨fun q => absurd q (by decide), fun _ => rb85⟩, (RP.up rp58 (by omega))⟩
    · refine tn_aload_n dX5_expression_33 rfl 0 rfl ?_
      refine tn_getR (ci := 5) (i := 0) (n := 33) (x := x16) dX5_expression_34 rfl lay_5 (by decide) fl5_12 ha rfl rfl (hx17) ?_
      refine tn_getI (ci := 9) (i := 4) (n := 85) (t := σ5.2.1 85 x16) dX5_expression_37 rfl lay_9 (by decide) fl5_71 hk18o rfl rfl (rfl) ?_
      refine tn_bipush dX5_expression_40 (by decide) ?_
      refine tn_icmp_eq (tgt := 47) dX5_expression_42 (by decide) ⟨by omega, by omega⟩ ⟨by decide, by decide⟩ (fun h90 => ?_) (fun h90 => ?_)
      · refine tn_aload_n dX5_expression_47 rfl 0 rfl ?_
        refine tn_getR (ci := 5) (i := 0) (n := 33) (x := x16) dX5_expression_48 rfl lay_5 (by decide) fl5_12 ha rfl rfl (hx17) ?_
        refine tn_getI (ci := 9) (i := 4) (n := 85) (t := σ5.2.1 85 x16) dX5_expression_51 rfl lay_9 (by decide) fl5_71 hk18o rfl rfl (rfl) ?_
        refine tn_bipush dX5_expression_54 (by decide) ?_
        refine tn_icmp_ne (tgt := 63) dX5_expression_56 (by decide) ⟨by omega, by omega⟩ ⟨by decide, by decide⟩ (fun h91 => ?_) (fun h91 => absurd h91 (by omega))
        refine tn_iconst dX5_expression_63 ?_
        refine tn_istore_n (L' := [(2, .int (iI 5)), (0, .ref a), (1, .int (iI dp))]) dX5_expression_64 rfl (by decide) rfl ?_
        refine tn_aload_n dX5_expression_65 rfl 1 rfl ?_
        refine tn_getI (ci := 5) (i := 17) (n := 50) (t := σ5.2.1 50 a) dX5_expression_66 rfl lay_5 (by decide) fl5_216 ha rfl rfl (rfl) ?_
        have g92 : ((-2147483648 : Int) ≤ σ5.2.1 50 a ∧ σ5.2.1 50 a ≤ 2147483647) := wf_50 w12 ha
        refine tn_istore_n (L' := [(3, .int (iI (σ5.2.1 50 a))), (2, .int (iI 5)), (0, .ref a), (1, .int (iI dp))]) dX5_expression_69 rfl (by decide) rfl ?_
        refine tn_aload_n dX5_expression_70 rfl 2 rfl ?_
        refine tn_getI (ci := 5) (i := 18) (n := 51) (t := σ5.2.1 51 a) dX5_expression_71 rfl lay_5 (by decide) fl5_219 ha rfl rfl (rfl) ?_
        have g93 : ((-2147483648 : Int) ≤ σ5.2.1 51 a ∧ σ5.2.1 51 a ≤ 2147483647) := wf_51 w12 ha
        refine tn_istore (L' := [(4, .int (iI (σ5.2.1 51 a))), (3, .int (iI (σ5.2.1 50 a))), (2, .int (iI 5)), (0, .ref a), (1, .int (iI dp))]) dX5_expression_74 (by decide) rfl ?_
        refine tn_aload_n dX5_expression_76 rfl 3 rfl ?_
        refine tn_getR (ci := 5) (i := 0) (n := 33) (x := x16) dX5_expression_77 rfl lay_5 (by decide) fl5_12 ha rfl rfl (hx17) ?_
        refine tn_callV (M := m_X5_expression) (pc := 80) (ix := 93) (ci := 9) (M' := m_X9_next) (As := []) (rest := []) dX5_expression_80 ok_X9_next im_X9_next se_X9_next ml5_93 np_X9_next rfl rfl hk18o rfl (Nat.le_of_ble_eq_true rfl) (Nat.le_of_ble_eq_true rfl) rfl (k_X9_next_f (d + 5 * lv + 13) (T := T6) (σ := σ5) (a := x16) hk18o w12 (RP.tk f10 w12 ha (hx17)) ((fx26).1.tk (hx17)) (by rw [(fx26).1.kd (hx17)]; omega)) (fun r94 T96 σ95 gt97 hp => ?_)
        obtain ⟨rfl, rfl, w103, F104, f98, f99, f100, f101⟩ := hp
        clear gt97
        have pc106 : EXR Sx (eo + 1) [6] i21 (eo + 1) [3, 51, 7] (i21 + 1) 0 [] := fun _ _ => x6l hSb (by omega)
        have rd107 : EXR Sx (eo) [2] jx (eo + 1) [3, 51, 7] (i21 + 1) (0 + 0 + m23 + 0) (es22) := EXR.g0 (l := [6]) (ms := [3, 51, 7]) [] rd27 pc106
        have fx105 : RDX σ95 a Sx nx (i21 + 1) (es22.foldl uC (cx)) (Nx + m23) := RDX.nx fx26 w12 ha (hx17) F104 f101
        have rp108 : RP σ95 a (kp - 4 * v11 - 4) := RP.next4 f10 (hx17) F104 (by decide) (by decide) (by decide) f98 f100 (by rw [show σ5.2.1 85 x16 = σ5.2.1 85 x16 from rfl]; omega)
        show Tn _ _ 83 T6 σ95 [(4, .int (iI (σ5.2.1 51 a))), (3, .int (iI (σ5.2.1 50 a))), (2, .int (iI 5)), (0, .ref a), (1, .int (iI dp))] [] _
        refine tn_aload_n dX5_expression_83 rfl 3 rfl ?_
        refine tn_iload_n dX5_expression_84 rfl 4 rfl ?_
        refine tn_callV (M := m_X5_expression) (pc := 85) (ix := 241) (ci := 5) (M' := m_X5_sum) (As := [.int (iI dp)]) (rest := []) dX5_expression_85 ok_X5_sum im_X5_sum se_X5_sum ml5_241 np_X5_sum rfl rfl ha rfl (Nat.le_of_ble_eq_true rfl) (Nat.le_of_ble_eq_true rfl) rfl (k_X5_sum_f (d) (T := T6) (σ := σ95) (a := a) (dp := dp) (kp := kp - 4 * v11 - 4) (lv := lv) (eo := eo + 1) ha (by omega) w103 hex (by omega) (by omega) fx105 (by omega) (by omega) rp108) (fun r109 T111 σ110 gt112 hp => ?_)
        obtain ⟨v116, rfl, w117, F118, f113, f114, f115⟩ := hp
        replace ha : OB T111 a 5 := gt112.ob ha
        have rp120 : RP σ110 a (kp - 4 * v11 - 4 * v116 - 4) := RP.up f115 (by omega)
        show Tn _ _ 88 T111 σ110 [(4, .int (iI (σ5.2.1 51 a))), (3, .int (iI (σ5.2.1 50 a))), (2, .int (iI 5)), (0, .ref a), (1, .int (iI dp))] [.int (iI v116)] _
        refine tn_if_ne (tgt := 93) dX5_expression_88 (by decide) ⟨by omega, by omega⟩ (fun h121 => ?_) (fun h121 => ?_)
        · refine tn_aload_n dX5_expression_93 rfl 3 rfl ?_
          refine tn_iload_n dX5_expression_94 rfl 2 rfl ?_
          refine tn_iload_n dX5_expression_95 rfl 1 rfl ?_
          refine tn_iload dX5_expression_96 0 rfl ?_
          obtain ⟨i122, es123, m124, lo125, rr126, fx127⟩ := f114.1 (by omega)
          have rd128 : EXR Sx (eo) [2] jx (eo + 1) [51, 7] i122 (0 + 0 + m23 + 0 + m124) (es22 ++ es123) := EXR.gg (l := [3]) (ms := []) [51, 7] rd107 rr126
          refine tn_callV (M := m_X5_expression) (pc := 98) (ix := 244) (ci := 5) (M' := m_X5_join) (As := [.int (iI 5), .int (iI (σ5.2.1 50 a)), .int (iI (σ5.2.1 51 a))]) (rest := []) dX5_expression_98 ok_X5_join im_X5_join se_X5_join ml5_244 np_X5_join rfl rfl ha rfl (Nat.le_of_ble_eq_true rfl) (Nat.le_of_ble_eq_true rfl) rfl (k_X5_join_f (d + 5 * lv + 10) (T := T111) (σ := σ110) (a := a) (k := 5) (e := σ5.2.1 50 a) (l := σ5.2.1 51 a) (kp := kp - 4 * v11 - 4 * v116 - 4) ha (by decide) (by omega) (by omega) w117 (by omega) fx127 (by omega) rp120) (fun r129 T131 σ130 gt132 hp => ?_)
          obtain ⟨rfl, w136, F137, f133, f134⟩ := hp
          replace ha : OB T131 a 5 := gt132.ob ha
          have rp139 : RP σ130 a (kp - 4 * v11 - 4 * v116 - 3) := RP.up f134 (by omega)
          show Tn _ _ 101 T131 σ130 [(4, .int (iI (σ5.2.1 51 a))), (3, .int (iI (σ5.2.1 50 a))), (2, .int (iI 5)), (0, .ref a), (1, .int (iI dp))] [] _
          refine tn_iconst dX5_expression_101 ?_
          have pc142 : EXR Sx (eo + 1) [51] i122 (eo + 1) [] i122 1 [] := fun _ _ => x51 hSb 
          have rd143 : EXR Sx (eo) [2] jx (eo + 1) [7] i122 (0 + 0 + m23 + 0 + m124 + 1) (es22 ++ es123) := EXR.g0 (l := [51]) (ms := []) [7] rd128 pc142
          have pc144 : EXR Sx (eo + 1) [7] i122 (eo) [] i122 0 [] := fun b9 u9 => by have q9 := x7 (S := Sx) (j := i122) (e := eo + 1) (b := b9) (u := u9) hSb; rw [show eo + 1 - 1 = eo by omega] at q9; exact q9
          have rd145 : EXR Sx (eo) [2] jx (eo) [] i122 (0 + 0 + m23 + 0 + m124 + 1 + 0) (es22 ++ es123) := EXR.g0 (l := [7]) (ms := []) [] rd143 pc144
          have ra140 : XS σ130 a Sx nx (eo) [2] jx cx Nx (eo) [] ((jx : Int) + 1) := ⟨i122, es22 ++ es123, 0 + 0 + m23 + 0 + m124 + 1 + 0, (by omega), rd145, RDX.nq (RDX.cq f133 (by simp only [List.foldl_append, List.foldl_cons, List.foldl_nil])) (by omega)⟩
          exact tn_zret (v := 1) rfl (by decide) dX5_expression_102 ⟨_, rfl, w136, ((((FrC.rfl.trans (FrC.sub F13 (by decide))).trans (FrC.sub (FrC.old F104 gt7) (by decide))).trans (FrC.sub (FrC.old F118 gt7) (by decide))).trans (FrC.sub (FrC.old F137 (GT.trans gt7 gt112)) (by decide))), by omega, ⟨fun _ => ra140, fun q => absurd q (by decide)⟩, (RP.up rp139 (by omega))⟩
        · refine tn_iconst dX5_expression_91 ?_
          obtain ⟨pl148, g149, fx150⟩ := f114.2 (by omega)
          have rf151 : EXF Sx (eo) [2] jx (pl148) := EXR.fl (l := [3]) [51, 7] rd107 g149
          have rb147 : XFc σ110 a Sx (eo) [2] jx := ⟨_, rf151, fx150⟩
          exact tn_zret (v := 0) rfl (by decide) dX5_expression_92 ⟨_, rfl, w117, (((FrC.rfl.trans (FrC.sub F13 (by decide))).trans (FrC.sub (FrC.old F104 gt7) (by decide))).trans (FrC.sub (FrC.old F118 gt7) (by decide))), by omega, ⟨fun q => absurd q (by decide), fun _ => rb147⟩, (RP.up rp120 (by omega))⟩
      · refine tn_iconst dX5_expression_45 ?_
        have pc154 : EXR Sx (eo + 1) [6] i21 (eo + 1) [7] i21 0 [] := fun _ _ => x6n hSb (by omega) (by omega)
        have rd155 : EXR Sx (eo) [2] jx (eo + 1) [7] i21 (0 + 0 + m23 + 0) (es22) := EXR.g0 (l := [6]) (ms := [7]) [] rd27 pc154
        have pc156 : EXR Sx (eo + 1) [7] i21 (eo) [] i21 0 [] := fun b9 u9 => by have q9 := x7 (S := Sx) (j := i21) (e := eo + 1) (b := b9) (u := u9) hSb; rw [show eo + 1 - 1 = eo by omega] at q9; exact q9
        have rd157 : EXR Sx (eo) [2] jx (eo) [] i21 (0 + 0 + m23 + 0 + 0) (es22) := EXR.g0 (l := [7]) (ms := []) [] rd155 pc156
        have ra152 : XS σ5 a Sx nx (eo) [2] jx cx Nx (eo) [] ((jx : Int) + 1) := ⟨i21, es22, 0 + 0 + m23 + 0 + 0, (by omega), rd157, RDX.nq (RDX.cq fx26 rfl) (by omega)⟩
        exact tn_zret (v := 1) rfl (by decide) dX5_expression_46 ⟨_, rfl, w12, (FrC.rfl.trans (FrC.sub F13 (by decide))), by omega, ⟨fun _ => ra152, fun q => absurd q (by decide)⟩, (RP.up f10 (by omega))⟩
  · refine tn_iconst dX5_expression_19 ?_
    obtain ⟨pl160, g161, fx162⟩ := f9.2 (by omega)
    have rf163 : EXF Sx (eo) [2] jx (pl160) := EXR.fl (l := [3]) [6] rd3 g161
    have rb159 : XFc σ5 a Sx (eo) [2] jx := ⟨_, rf163, fx162⟩
    exact tn_zret (v := 0) rfl (by decide) dX5_expression_20 ⟨_, rfl, w12, (FrC.rfl.trans (FrC.sub F13 (by decide))), by omega, ⟨fun q => absurd q (by decide), fun _ => rb159⟩, (RP.up f10 (by omega))⟩
