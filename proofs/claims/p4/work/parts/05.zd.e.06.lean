set_option maxHeartbeats 4000000 in
set_option maxRecDepth 20000 in
theorem k_X5_choice_f (d : Nat) {T : CT} {σ : MS} {a : Nat} {dp : Int} {kp : Int} {lv : Nat} {Sx : Int → Int} {nx jx : Nat} {cx : CS} {Nx : Int} {bx : Int} (ha : OB T a 5) (h_dp : -2147483648 ≤ dp ∧ dp ≤ 2147483647) (hw : WT T σ) (hex : ∀ (d : Nat) {T : CT} {σ : MS} {a : Nat} {dp : Int} {kp : Int} {Sx : Int → Int} {nx jx : Nat} {cx : CS} {Nx : Int} {bx : Int} (ha : OB T a 5) (h_dp : -2147483648 ≤ dp ∧ dp ≤ 2147483647) (hw : WT T σ) (hdp : 1 ≤ dp ∧ dp ≤ 7) (hlv : 7 ≤ dp + (lv : Int)) (hfx : RDX σ a Sx nx jx cx Nx) (hb : bx = dp - 1) (hm : cx.m ≤ (jx : Int)) (hkp : kp ≤ 140) (hrp : RP σ a kp), Tn (d + 3 * lv + 60) m_X5_block 0 T σ [(0, .ref a), (1, .int (iI dp))] [] (fun ro T2 σ2 => ∃ v : Int, ro = some (.int (iI v)) ∧ WT T2 σ2 ∧ FrC T [5, 6, 7, 9, 42, 43, 44, 45, 46, 47, 50, 51, 84, 85, 86, 87, 518, 519, 520, 521] σ σ2 ∧ (v = 0 ∨ v = 1) ∧ (YQ σ2 a Sx nx bx [28] jx cx (Nx) 2 v) ∧ (RP σ2 a (kp + 2 - 10 * v)))) (hdp : 1 ≤ dp ∧ dp ≤ 6) (hlv : 6 ≤ dp + (lv : Int)) (hfx : RDX σ a Sx nx jx cx Nx) (hb : bx = dp) (hkd : ckd (tkS Sx jx) = 260) (hkp : kp ≤ 140) (hrp : RP σ a kp) : Tn (d + 3 * lv + 61) m_X5_choice 0 T σ [(0, .ref a), (1, .int (iI dp))] [] (fun ro T2 σ2 => ∃ v : Int, ro = some (.int (iI v)) ∧ WT T2 σ2 ∧ FrC T [5, 6, 7, 9, 42, 43, 44, 45, 46, 47, 50, 51, 84, 85, 86, 87, 518, 519, 520, 521] σ σ2 ∧ (v = 0 ∨ v = 1) ∧ (YQ σ2 a Sx nx bx [51, 21] jx cx (Nx) 1 v) ∧ (RP σ2 a (kp + 1 - 10 * v))) := by
  have hSb := hfx.1.sb
  have e45 := hfx.e45
  have hpo9 := hfx.po
  unfold PO at hpo9
  refine tn_aload_n dX5_choice_0 rfl 0 rfl ?_
  obtain ⟨x1, hx2, hk3⟩ : ∃ x : Nat, σ.2.1 35 a = (x : Int) ∧ (T x).1 = 31 := wf_35 hw ha
  have hk3o : OB T x1 1 := ⟨by omega, by rw [hk3]; rfl, by omega⟩
  refine tn_getR (ci := 5) (i := 2) (n := 35) (x := x1) dX5_choice_1 rfl lay_5 (by decide) fl5_47 ha rfl rfl (hx2) ?_
  refine tn_bipush dX5_choice_4 (by decide) ?_
  refine tn_aload_n dX5_choice_6 rfl 0 rfl ?_
  refine tn_getI (ci := 5) (i := 12) (n := 45) (t := σ.2.1 45 a) dX5_choice_7 rfl lay_5 (by decide) fl5_64 ha rfl rfl (rfl) ?_
  have g5 : ((-2147483648 : Int) ≤ σ.2.1 45 a ∧ σ.2.1 45 a ≤ 2147483647) := wf_45 hw ha
  refine tn_iconst dX5_choice_10 ?_
  refine tn_callV (M := m_X5_choice) (pc := 11) (ix := 139) (ci := 1) (M' := m_X1_append) (As := [.int (iI 11), .int (iI (σ.2.1 45 a)), .int (iI 0)]) (rest := []) dX5_choice_11 ok_X1_append im_X1_append se_X1_append ml5_139 np_X1_append rfl rfl hk3o rfl (Nat.le_of_ble_eq_true rfl) (Nat.le_of_ble_eq_true rfl) rfl (k_X1_append (d + 3 * lv + 57) (T := T) (σ := σ) (a := x1) (k := 11) (x := σ.2.1 45 a) (y := 0) hk3o hk3 (by decide) (by omega) (by decide) hw (RP.cnt hrp hw ha (hx2) (by omega)) (by omega)) (fun r6 T8 σ7 gt9 hp => ?_)
  obtain ⟨rfl, w12, F13, f10⟩ := hp
  have fx14 : RDX σ7 a Sx nx jx (cx) (Nx + 1) := RDX.ap hfx hw ha (hx2) F13 f10
  replace ha : OB T8 a 5 := gt9.ob ha
  have rp15 : RP σ7 a (kp + 1) := RP.app hrp (hx2) F13 (by decide) (by decide) (by decide) (by decide) f10
  show Tn _ _ 14 T8 σ7 [(0, .ref a), (1, .int (iI dp))] [] _
  refine tn_aload_n dX5_choice_14 rfl 0 rfl ?_
  obtain ⟨x16, hx17, hk18⟩ : ∃ x : Nat, σ7.2.1 33 a = (x : Int) ∧ (T8 x).1 = 39 := wf_33 w12 ha
  have hk18o : OB T8 x16 9 := ⟨by omega, by rw [hk18]; rfl, by omega⟩
  refine tn_getR (ci := 5) (i := 0) (n := 33) (x := x16) dX5_choice_15 rfl lay_5 (by decide) fl5_12 ha rfl rfl (hx17) ?_
  refine tn_callV (M := m_X5_choice) (pc := 18) (ix := 93) (ci := 9) (M' := m_X9_next) (As := []) (rest := []) dX5_choice_18 ok_X9_next im_X9_next se_X9_next ml5_93 np_X9_next rfl rfl hk18o rfl (Nat.le_of_ble_eq_true rfl) (Nat.le_of_ble_eq_true rfl) rfl (k_X9_next_f (d + 3 * lv + 59) (T := T8) (σ := σ7) (a := x16) hk18o w12 (RP.tk rp15 w12 ha (hx17)) ((fx14).1.tk (hx17)) (by rw [(fx14).1.kd (hx17)]; omega)) (fun r20 T22 σ21 gt23 hp => ?_)
  obtain ⟨rfl, rfl, w29, F30, f24, f25, f26, f27⟩ := hp
  clear gt23
  have pc32 : GR Sx [51] jx (0) (bx) u0 [] jx (0) (bx) u0 1 [] := x51 hSb 
  have rd330 : GR Sx [51, 21] jx 0 (bx) u0 [51, 21] jx (0) (bx) u0 (0) ([]) := GR.nl
  have rd33 : GR Sx [51, 21] jx 0 (bx) u0 [21] jx (0) (bx) u0 (0 + 1) ([]) := GR.g0 (l := [51]) (ms := []) [21] rd330 pc32
  have pc34 : GR Sx [21] jx (0) (bx) u0 [2, 51, 28, 24] (jx + 1) (0) (bx) u0 0 [] := x21 hSb 
  have rd35 : GR Sx [51, 21] jx 0 (bx) u0 [2, 51, 28, 24] (jx + 1) (0) (bx) u0 (0 + 1 + 0) ([]) := GR.g0 (l := [21]) (ms := [2, 51, 28, 24]) [] rd33 pc34
  have fx31 : RDX σ21 a Sx nx (jx + 1) (cx) (Nx + 1) := RDX.nx fx14 w12 ha (hx17) F30 f27
  have rp36 : RP σ21 a (kp + 1) := RP.next rp15 (hx17) F30 (by decide) (by decide) (by decide) f24 f25
  show Tn _ _ 21 T8 σ21 [(0, .ref a), (1, .int (iI dp))] [] _
  refine tn_aload_n dX5_choice_21 rfl 0 rfl ?_
  refine tn_iconst dX5_choice_22 ?_
  refine tn_callV (M := m_X5_choice) (pc := 23) (ix := 213) (ci := 5) (M' := m_X5_expression) (As := [.int (iI 1)]) (rest := []) dX5_choice_23 ok_X5_expression im_X5_expression se_X5_expression ml5_213 np_X5_expression rfl rfl ha rfl (Nat.le_of_ble_eq_true rfl) (Nat.le_of_ble_eq_true rfl) rfl (k_X5_expression_f (d + 3 * lv + 10) (T := T8) (σ := σ21) (a := a) (dp := 1) (kp := kp + 1) (eo := 0) ha (by decide) w29 (by omega) fx31 (by omega) (by omega) rp36) (fun r37 T39 σ38 gt40 hp => ?_)
  obtain ⟨v44, rfl, w45, F46, f41, f42, f43⟩ := hp
  replace ha : OB T39 a 5 := gt40.ob ha
  have rp48 : RP σ38 a (kp - 4 * v44 + 1) := RP.up f43 (by omega)
  show Tn _ _ 26 T39 σ38 [(0, .ref a), (1, .int (iI dp))] [.int (iI v44)] _
  refine tn_if_ne (tgt := 31) dX5_choice_26 (by decide) ⟨by omega, by omega⟩ (fun h49 => ?_) (fun h49 => ?_)
  · refine tn_aload_n dX5_choice_31 rfl 0 rfl ?_
    obtain ⟨i50, es51, m52, lo53, rr54, fx55⟩ := f42.1 (by omega)
    have rr54g := rr54 (bx) u0
    have rd56a : GR Sx [51, 21] jx 0 (bx) u0 [51, 28, 24] i50 (0) (bx) u0 (0 + 1 + 0 + m52) ([] ++ es51) := GR.gg (l := [2]) (ms := []) [51, 28, 24] rd35 rr54g
    have rd56 : GR Sx [51, 21] jx 0 (bx) u0 [51, 28, 24] i50 (0) (bx) u0 (0 + 1 + 0 + m52) (es51) := rd56a
    refine tn_callV (M := m_X5_choice) (pc := 32) (ix := 235) (ci := 5) (M' := m_X5_zeroToNew) (As := []) (rest := []) dX5_choice_32 ok_X5_zeroToNew im_X5_zeroToNew se_X5_zeroToNew ml5_235 np_X5_zeroToNew rfl rfl ha rfl (Nat.le_of_ble_eq_true rfl) (Nat.le_of_ble_eq_true rfl) rfl (k_X5_zeroToNew_f (d + 3 * lv + 56) (T := T39) (σ := σ38) (a := a) (kp := kp - 4 * v44 + 1) ha w45 fx55 (by omega) rp48) (fun r57 T59 σ58 gt60 hp => ?_)
    obtain ⟨v64, rfl, w65, F66, f61, f62, f63⟩ := hp
    replace ha : OB T59 a 5 := gt60.ob ha
    have rp68 : RP σ58 a (kp - 4 * v44 + 2) := RP.up f63 (by omega)
    show Tn _ _ 35 T59 σ58 [(0, .ref a), (1, .int (iI dp))] [.int (iI v64)] _
    refine tn_istore_n (L' := [(2, .int (iI v64)), (0, .ref a), (1, .int (iI dp))]) dX5_choice_35 rfl (by decide) rfl ?_
    refine tn_aload_n dX5_choice_36 rfl 1 rfl ?_
    refine tn_iload_n dX5_choice_37 rfl 2 rfl ?_
    refine tn_iconst dX5_choice_38 ?_
    refine tn_iadd dX5_choice_39 ?_
    have q4569 : (es51.foldl uC (cx)).m = σ.2.1 45 a := (f62.e45).symm.trans (rc_F F66 (Or.inl (by decide)) (by decide) (rc_F F46 (Or.inl (by decide)) (by decide) (rc_F F30 (Or.inl (by decide)) (by decide) (rc_F F13 (Or.inl (by decide)) (by decide) (rfl)))))
    have pc70 : GR Sx [51] i50 (0) (bx) u0 [] i50 (0) (bx) u0 1 [] := x51 hSb 
    have rd71 : GR Sx [51, 21] jx 0 (bx) u0 [28, 24] i50 (0) (bx) u0 (0 + 1 + 0 + m52 + 1) (es51) := GR.g0 (l := [51]) (ms := []) [28, 24] rd56 pc70
    refine tn_callV (M := m_X5_choice) (pc := 40) (ix := 79) (ci := 5) (M' := m_X5_block) (As := [.int (iI (dp + 1))]) (rest := []) dX5_choice_40 ok_X5_block im_X5_block se_X5_block ml5_79 np_X5_block rfl rfl ha rfl (Nat.le_of_ble_eq_true rfl) (Nat.le_of_ble_eq_true rfl) rfl (hex (d) (T := T59) (σ := σ58) (a := a) (dp := dp + 1) (kp := kp - 4 * v44 + 2) (bx := bx) ha (by omega) w65 (by omega) (by omega) f62 (by omega) (by rw [q4569]; omega) (by omega) rp68) (fun r72 T74 σ73 gt75 hp => ?_)
    obtain ⟨v79, rfl, w80, F81, f76, f77, f78⟩ := hp
    replace ha : OB T74 a 5 := gt75.ob ha
    have rp83 : RP σ73 a (kp - 4 * v44 - 10 * v79 + 4) := RP.up f78 (by omega)
    show Tn _ _ 43 T74 σ73 [(2, .int (iI v64)), (0, .ref a), (1, .int (iI dp))] [.int (iI v79)] _
    refine tn_if_ne (tgt := 48) dX5_choice_43 (by decide) ⟨by omega, by omega⟩ (fun h84 => ?_) (fun h84 => ?_)
    · refine tn_aload_n dX5_choice_48 rfl 1 rfl ?_
      obtain ⟨x85, hx86, hk87⟩ : ∃ x : Nat, σ73.2.1 33 a = (x : Int) ∧ (T74 x).1 = 39 := wf_33 w80 ha
      have hk87o : OB T74 x85 9 := ⟨by omega, by rw [hk87]; rfl, by omega⟩
      refine tn_getR (ci := 5) (i := 0) (n := 33) (x := x85) dX5_choice_49 rfl lay_5 (by decide) fl5_12 ha rfl rfl (hx86) ?_
      refine tn_getI (ci := 9) (i := 4) (n := 85) (t := σ73.2.1 85 x85) dX5_choice_52 rfl lay_9 (by decide) fl5_71 hk87o rfl rfl (rfl) ?_
      have g89 : ((-2147483648 : Int) ≤ σ73.2.1 85 x85 ∧ σ73.2.1 85 x85 ≤ 2147483647) := wf_85 w80 hk87o
      obtain ⟨i90, es91, m92, lo93, rr94, fx95, fx95m⟩ := f77.1 (by omega)
      have fx95s : σ73.2.1 45 a ≤ (i90 : Int) := by rw [fx95.e45]; exact fx95m
      have rd96 : GR Sx [51, 21] jx 0 (bx) u0 [24] i90 (0) (bx) u0 (0 + 1 + 0 + m52 + 1 + m92) (es51 ++ es91) := GR.gg (l := [28]) (ms := []) [24] rd71 rr94
      have g89kd : σ73.2.1 85 x85 = ckd (tkS Sx i90) := (rfl).symm.trans ((fx95).1.kd (hx86))
      refine tn_sipush dX5_choice_55 (by decide) ?_
      refine tn_icmp_eq (tgt := 74) dX5_choice_58 (by decide) ⟨by omega, by omega⟩ ⟨by decide, by decide⟩ (fun h97 => ?_) (fun h97 => ?_)
      · refine tn_aload_n dX5_choice_74 rfl 1 rfl ?_
        refine tn_callV (M := m_X5_choice) (pc := 75) (ix := 238) (ci := 5) (M' := m_X5_newLabel) (As := []) (rest := []) dX5_choice_75 ok_X5_newLabel im_X5_newLabel se_X5_newLabel ml5_238 np_X5_newLabel rfl rfl ha rfl (Nat.le_of_ble_eq_true rfl) (Nat.le_of_ble_eq_true rfl) rfl (k_X5_newLabel (d + 3 * lv + 59) (T := T74) (σ := σ73) (a := a) ha w80 ) (fun r98 T100 σ99 gt101 hp => ?_)
        obtain ⟨v103, rfl, rfl, w104, F105, f102⟩ := hp
        clear gt101
        have fx106 : RDX σ99 a Sx nx i90 (es91.foldl uC (es51.foldl uC (cx))) (Nx + 1 + m52 + 1 + m92) := RDX.fc fx95 w80 ha F105 (by decide) (by decide)
        have rp107 : RP σ99 a (kp - 4 * v44 - 10 * v79 + 4) := RP.frc rp83 F105 (by decide) (by decide) (by decide) (by decide) (by decide)
        show Tn _ _ 78 T74 σ99 [(2, .int (iI v64)), (0, .ref a), (1, .int (iI dp))] [.int (iI v103)] _
        refine tn_istore_n (L' := [(3, .int (iI v103)), (2, .int (iI v64)), (0, .ref a), (1, .int (iI dp))]) dX5_choice_78 rfl (by decide) rfl ?_
        refine tn_aload_n dX5_choice_79 rfl 2 rfl ?_
        obtain ⟨x108, hx109, hk110⟩ : ∃ x : Nat, σ73.2.1 35 a = (x : Int) ∧ (T74 x).1 = 31 := wf_35 w80 ha
        have hk110o : OB T74 x108 1 := ⟨by omega, by rw [hk110]; rfl, by omega⟩
        refine tn_getR (ci := 5) (i := 2) (n := 35) (x := x108) dX5_choice_80 rfl lay_5 (by decide) fl5_47 ha rfl rfl (rc_F F105 (Or.inl (by decide)) (by decide) (hx109)) ?_
        refine tn_bipush dX5_choice_83 (by decide) ?_
        refine tn_iload_n dX5_choice_85 rfl 0 rfl ?_
        refine tn_iconst dX5_choice_86 ?_
        have q116 : σ99.2.1 6 x108 = σ73.2.1 6 x108 := rc_F F105 (Or.inl (by decide)) (by decide) (rfl)
        refine tn_callV (M := m_X5_choice) (pc := 87) (ix := 139) (ci := 1) (M' := m_X1_append) (As := [.int (iI 8), .int (iI v103), .int (iI 0)]) (rest := []) dX5_choice_87 ok_X1_append im_X1_append se_X1_append ml5_139 np_X1_append rfl rfl hk110o rfl (Nat.le_of_ble_eq_true rfl) (Nat.le_of_ble_eq_true rfl) rfl (k_X1_append (d + 3 * lv + 57) (T := T74) (σ := σ99) (a := x108) (k := 8) (x := v103) (y := 0) hk110o hk110 (by decide) (by omega) (by decide) w104 (RP.cnt rp107 w104 ha (rc_F F105 (Or.inl (by decide)) (by decide) (hx109)) (by omega)) (by omega)) (fun r112 T114 σ113 gt115 hp => ?_)
        obtain ⟨rfl, w119, F120, f117⟩ := hp
        have fx121 : RDX σ113 a Sx nx i90 (es91.foldl uC (es51.foldl uC (cx))) (Nx + 1 + m52 + 1 + m92 + 1) := RDX.ap fx106 w104 ha (rc_F F105 (Or.inl (by decide)) (by decide) (hx109)) F120 f117
        replace ha : OB T114 a 5 := gt115.ob ha
        have rp122 : RP σ113 a (kp - 4 * v44 - 10 * v79 + 4 + 1) := RP.app rp107 (rc_F F105 (Or.inl (by decide)) (by decide) (hx109)) F120 (by decide) (by decide) (by decide) (by decide) f117
        have rp123 : RP σ113 a (kp - 4 * v44 - 10 * v79 + 5) := RP.up rp122 (by omega)
        show Tn _ _ 90 T114 σ113 [(3, .int (iI v103)), (2, .int (iI v64)), (0, .ref a), (1, .int (iI dp))] [] _
        refine tn_aload_n dX5_choice_90 rfl 2 rfl ?_
        obtain ⟨x124, hx125, hk126⟩ : ∃ x : Nat, σ113.2.1 35 a = (x : Int) ∧ (T114 x).1 = 31 := wf_35 w119 ha
        have hk126o : OB T114 x124 1 := ⟨by omega, by rw [hk126]; rfl, by omega⟩
        refine tn_getR (ci := 5) (i := 2) (n := 35) (x := x124) dX5_choice_91 rfl lay_5 (by decide) fl5_47 ha rfl rfl (hx125) ?_
        refine tn_bipush dX5_choice_94 (by decide) ?_
        refine tn_iload_n dX5_choice_96 rfl 1 rfl ?_
        refine tn_iconst dX5_choice_97 ?_
        refine tn_callV (M := m_X5_choice) (pc := 98) (ix := 139) (ci := 1) (M' := m_X1_append) (As := [.int (iI 13), .int (iI v64), .int (iI 0)]) (rest := []) dX5_choice_98 ok_X1_append im_X1_append se_X1_append ml5_139 np_X1_append rfl rfl hk126o rfl (Nat.le_of_ble_eq_true rfl) (Nat.le_of_ble_eq_true rfl) rfl (k_X1_append (d + 3 * lv + 57) (T := T114) (σ := σ113) (a := x124) (k := 13) (x := v64) (y := 0) hk126o hk126 (by decide) (by omega) (by decide) w119 (RP.cnt rp123 w119 ha (hx125) (by omega)) (by omega)) (fun r128 T130 σ129 gt131 hp => ?_)
        obtain ⟨rfl, w134, F135, f132⟩ := hp
        have fx136 : RDX σ129 a Sx nx i90 (es91.foldl uC (es51.foldl uC (cx))) (Nx + 1 + m52 + 1 + m92 + 1 + 1) := RDX.ap fx121 w119 ha (hx125) F135 f132
        replace ha : OB T130 a 5 := gt131.ob ha
        have rp137 : RP σ129 a (kp - 4 * v44 - 10 * v79 + 5 + 1) := RP.app rp123 (hx125) F135 (by decide) (by decide) (by decide) (by decide) f132
        have rp138 : RP σ129 a (kp - 4 * v44 - 10 * v79 + 6) := RP.up rp137 (by omega)
        show Tn _ _ 101 T130 σ129 [(3, .int (iI v103)), (2, .int (iI v64)), (0, .ref a), (1, .int (iI dp))] [] _
        refine tn_aload_n dX5_choice_101 rfl 2 rfl ?_
        obtain ⟨x139, hx140, hk141⟩ : ∃ x : Nat, σ129.2.1 33 a = (x : Int) ∧ (T130 x).1 = 39 := wf_33 w134 ha
        have hk141o : OB T130 x139 9 := ⟨by omega, by rw [hk141]; rfl, by omega⟩
        refine tn_getR (ci := 5) (i := 0) (n := 33) (x := x139) dX5_choice_102 rfl lay_5 (by decide) fl5_12 ha rfl rfl (hx140) ?_
        refine tn_callV (M := m_X5_choice) (pc := 105) (ix := 93) (ci := 9) (M' := m_X9_next) (As := []) (rest := []) dX5_choice_105 ok_X9_next im_X9_next se_X9_next ml5_93 np_X9_next rfl rfl hk141o rfl (Nat.le_of_ble_eq_true rfl) (Nat.le_of_ble_eq_true rfl) rfl (k_X9_next_f (d + 3 * lv + 59) (T := T130) (σ := σ129) (a := x139) hk141o w134 (RP.tk rp138 w134 ha (hx140)) ((fx136).1.tk (hx140)) (by rw [(fx136).1.kd (hx140)]; omega)) (fun r143 T145 σ144 gt146 hp => ?_)
        obtain ⟨rfl, rfl, w152, F153, f147, f148, f149, f150⟩ := hp
        clear gt146
        have pc155 : GR Sx [24] i90 (0) (bx) u0 [52, 28, 51] (i90 + 1) (0) (bx) u0 0 [] := x24y hSb (by omega)
        have rd156 : GR Sx [51, 21] jx 0 (bx) u0 [52, 28, 51] (i90 + 1) (0) (bx) u0 (0 + 1 + 0 + m52 + 1 + m92 + 0) (es51 ++ es91) := GR.g0 (l := [24]) (ms := [52, 28, 51]) [] rd96 pc155
        have fx154 : RDX σ144 a Sx nx (i90 + 1) (es91.foldl uC (es51.foldl uC (cx))) (Nx + 1 + m52 + 1 + m92 + 1 + 1) := RDX.nx fx136 w134 ha (hx140) F153 f150
        have rp157 : RP σ144 a (kp - 4 * v44 - 10 * v79 + 6) := RP.next rp138 (hx140) F153 (by decide) (by decide) (by decide) f147 f148
        show Tn _ _ 108 T130 σ144 [(3, .int (iI v103)), (2, .int (iI v64)), (0, .ref a), (1, .int (iI dp))] [] _
        refine tn_aload_n dX5_choice_108 rfl 2 rfl ?_
        refine tn_iload_n dX5_choice_109 rfl 3 rfl ?_
        refine tn_iconst dX5_choice_110 ?_
        refine tn_iadd dX5_choice_111 ?_
        have q45158 : (es91.foldl uC (es51.foldl uC (cx))).m = σ73.2.1 45 a := (fx154.e45).symm.trans (rc_F F153 (Or.inl (by decide)) (by decide) (rc_F F135 (Or.inl (by decide)) (by decide) (rc_F F120 (Or.inl (by decide)) (by decide) (rc_F F105 (Or.inl (by decide)) (by decide) (rfl)))))
        have pc159 : GR Sx [52] (i90 + 1) (0) (bx) u0 [] (i90 + 1) (0) (bx) u0 2 [] := x52 hSb 
        have rd160 : GR Sx [51, 21] jx 0 (bx) u0 [28, 51] (i90 + 1) (0) (bx) u0 (0 + 1 + 0 + m52 + 1 + m92 + 0 + 2) (es51 ++ es91) := GR.g0 (l := [52]) (ms := []) [28, 51] rd156 pc159
        refine tn_callV (M := m_X5_choice) (pc := 112) (ix := 79) (ci := 5) (M' := m_X5_block) (As := [.int (iI (dp + 1))]) (rest := []) dX5_choice_112 ok_X5_block im_X5_block se_X5_block ml5_79 np_X5_block rfl rfl ha rfl (Nat.le_of_ble_eq_true rfl) (Nat.le_of_ble_eq_true rfl) rfl (hex (d) (T := T130) (σ := σ144) (a := a) (dp := dp + 1) (kp := kp - 4 * v44 - 10 * v79 + 6) (bx := bx) ha (by omega) w152 (by omega) (by omega) fx154 (by omega) (by rw [q45158]; omega) (by omega) rp157) (fun r161 T163 σ162 gt164 hp => ?_)
        obtain ⟨v168, rfl, w169, F170, f165, f166, f167⟩ := hp
        replace ha : OB T163 a 5 := gt164.ob ha
        have rp172 : RP σ162 a (kp - 4 * v44 - 10 * v79 - 10 * v168 + 8) := RP.up f167 (by omega)
        show Tn _ _ 115 T163 σ162 [(3, .int (iI v103)), (2, .int (iI v64)), (0, .ref a), (1, .int (iI dp))] [.int (iI v168)] _
        refine tn_if_ne (tgt := 120) dX5_choice_115 (by decide) ⟨by omega, by omega⟩ (fun h173 => ?_) (fun h173 => ?_)
        · refine tn_aload_n dX5_choice_120 rfl 2 rfl ?_
          obtain ⟨x174, hx175, hk176⟩ : ∃ x : Nat, σ162.2.1 35 a = (x : Int) ∧ (T163 x).1 = 31 := wf_35 w169 ha
          have hk176o : OB T163 x174 1 := ⟨by omega, by rw [hk176]; rfl, by omega⟩
          refine tn_getR (ci := 5) (i := 2) (n := 35) (x := x174) dX5_choice_121 rfl lay_5 (by decide) fl5_47 ha rfl rfl (hx175) ?_
          refine tn_bipush dX5_choice_124 (by decide) ?_
          refine tn_iload_n dX5_choice_126 rfl 0 rfl ?_
          refine tn_iconst dX5_choice_127 ?_
          refine tn_callV (M := m_X5_choice) (pc := 128) (ix := 139) (ci := 1) (M' := m_X1_append) (As := [.int (iI 13), .int (iI v103), .int (iI 0)]) (rest := []) dX5_choice_128 ok_X1_append im_X1_append se_X1_append ml5_139 np_X1_append rfl rfl hk176o rfl (Nat.le_of_ble_eq_true rfl) (Nat.le_of_ble_eq_true rfl) rfl (k_X1_append (d + 3 * lv + 57) (T := T163) (σ := σ162) (a := x174) (k := 13) (x := v103) (y := 0) hk176o hk176 (by decide) (by omega) (by decide) w169 (RP.cnt rp172 w169 ha (hx175) (by omega)) (by omega)) (fun r178 T180 σ179 gt181 hp => ?_)
          obtain ⟨rfl, w184, F185, f182⟩ := hp
          obtain ⟨i186, es187, m188, lo189, rr190, fx191, fx191m⟩ := f166.1 (by omega)
          have fx191s : σ162.2.1 45 a ≤ (i186 : Int) := by rw [fx191.e45]; exact fx191m
          have rd192 : GR Sx [51, 21] jx 0 (bx) u0 [51] i186 (0) (bx) u0 (0 + 1 + 0 + m52 + 1 + m92 + 0 + 2 + m188) (es51 ++ es91 ++ es187) := GR.gg (l := [28]) (ms := []) [51] rd160 rr190
          have fx193 : RDX σ179 a Sx nx i186 (es187.foldl uC (es91.foldl uC (es51.foldl uC (cx)))) (Nx + 1 + m52 + 1 + m92 + 1 + 1 + m188 + 1) := RDX.ap fx191 w169 ha (hx175) F185 f182
          replace ha : OB T180 a 5 := gt181.ob ha
          have rp194 : RP σ179 a (kp - 4 * v44 - 10 * v79 - 10 * v168 + 8 + 1) := RP.app rp172 (hx175) F185 (by decide) (by decide) (by decide) (by decide) f182
          have rp195 : RP σ179 a (kp - 4 * v44 - 10 * v79 - 10 * v168 + 9) := RP.up rp194 (by omega)
          show Tn _ _ 131 T180 σ179 [(3, .int (iI v103)), (2, .int (iI v64)), (0, .ref a), (1, .int (iI dp))] [] _
          refine tn_iconst dX5_choice_131 ?_
          have pc198 : GR Sx [51] i186 (0) (bx) u0 [] i186 (0) (bx) u0 1 [] := x51 hSb 
          have rd199 : GR Sx [51, 21] jx 0 (bx) u0 [] i186 (0) (bx) u0 (0 + 1 + 0 + m52 + 1 + m92 + 0 + 2 + m188 + 1) (es51 ++ es91 ++ es187) := GR.g0 (l := [51]) (ms := []) [] rd192 pc198
          have fe200 := RDX.nq (M := Nx + (0 + 1 + 0 + m52 + 1 + m92 + 0 + 2 + m188 + 1)) (RDX.cq (c2 := (es51 ++ es91 ++ es187).foldl uC cx) fx193 (by simp only [List.foldl_append, List.foldl_cons, List.foldl_nil])) (by omega)
          have fe200m : ((es51 ++ es91 ++ es187).foldl uC cx).m = σ162.2.1 45 a := (fe200.e45).symm.trans (rc_F F185 (Or.inl (by decide)) (by decide) (rfl))
          have ra196 : YS σ179 a Sx nx bx [51, 21] jx cx (Nx) bx [] ((jx : Int) + 1) := ⟨i186, es51 ++ es91 ++ es187, 0 + 1 + 0 + m52 + 1 + m92 + 0 + 2 + m188 + 1, (by omega), rd199, fe200, by rw [fe200m]; omega⟩
          exact tn_zret (v := 1) rfl (by decide) dX5_choice_132 ⟨_, rfl, w184, (((((((((((FrC.rfl.trans (FrC.sub F13 (by decide))).trans (FrC.sub (FrC.old F30 gt9) (by decide))).trans (FrC.sub (FrC.old F46 gt9) (by decide))).trans (FrC.sub (FrC.old F66 (GT.trans gt9 gt40)) (by decide))).trans (FrC.sub (FrC.old F81 (GT.trans (GT.trans gt9 gt40) gt60)) (by decide))).trans (FrC.sub (FrC.old F105 (GT.trans (GT.trans (GT.trans gt9 gt40) gt60) gt75)) (by decide))).trans (FrC.sub (FrC.old F120 (GT.trans (GT.trans (GT.trans gt9 gt40) gt60) gt75)) (by decide))).trans (FrC.sub (FrC.old F135 (GT.trans (GT.trans (GT.trans (GT.trans gt9 gt40) gt60) gt75) gt115)) (by decide))).trans (FrC.sub (FrC.old F153 (GT.trans (GT.trans (GT.trans (GT.trans (GT.trans gt9 gt40) gt60) gt75) gt115) gt131)) (by decide))).trans (FrC.sub (FrC.old F170 (GT.trans (GT.trans (GT.trans (GT.trans (GT.trans gt9 gt40) gt60) gt75) gt115) gt131)) (by decide))).trans (FrC.sub (FrC.old F185 (GT.trans (GT.trans (GT.trans (GT.trans (GT.trans (GT.trans gt9 gt40) gt60) gt75) gt115) gt131) gt164)) (by decide))), by omega, ⟨fun _ => ra196, fun q => absurd q (by decide)⟩, (RP.up rp195 (by omega))⟩
        · refine tn_iconst dX5_choice_118 ?_
          obtain ⟨pl203, g204, fx205⟩ := f166.2 (by omega)
          have rf206 : GRF Sx [51, 21] jx 0 (bx) u0 (pl203) := GR.fl (l := [28]) [51] rd160 g204
          have rb202 : YF σ162 a Sx bx [51, 21] jx := ⟨_, rf206, fx205⟩
          exact tn_zret (v := 0) rfl (by decide) dX5_choice_119 ⟨_, rfl, w169, ((((((((((FrC.rfl.trans (FrC.sub F13 (by decide))).trans (FrC.sub (FrC.old F30 gt9) (by decide))).trans (FrC.sub (FrC.old F46 gt9) (by decide))).trans (FrC.sub (FrC.old F66 (GT.trans gt9 gt40)) (by decide))).trans (FrC.sub (FrC.old F81 (GT.trans (GT.trans gt9 gt40) gt60)) (by decide))).trans (FrC.sub (FrC.old F105 (GT.trans (GT.trans (GT.trans gt9 gt40) gt60) gt75)) (by decide))).trans (FrC.sub (FrC.old F120 (GT.trans (GT.trans (GT.trans gt9 gt40) gt60) gt75)) (by decide))).trans (FrC.sub (FrC.old F135 (GT.trans (GT.trans (GT.trans (GT.trans gt9 gt40) gt60) gt75) gt115)) (by decide))).trans (FrC.sub (FrC.old F153 (GT.trans (GT.trans (GT.trans (GT.trans (GT.trans gt9 gt40) gt60) gt75) gt115) gt131)) (by decide))).trans (FrC.sub (FrC.old F170 (GT.trans (GT.trans (GT.trans (GT.trans (GT.trans gt9 gt40) gt60) gt75) gt115) gt131)) (by decide))), by omega, ⟨fun q => absurd q (by decide), fun _ => rb202⟩, (RP.up rp172 (by omega))⟩
      · refine tn_aload_n dX5_choice_61 rfl 1 rfl ?_
        obtain ⟨x207, hx208, hk209⟩ : ∃ x : Nat, σ73.2.1 35 a = (x : Int) ∧ (T74 x).1 = 31 := wf_35 w80 ha
        have hk209o : OB T74 x207 1 := ⟨by omega, by rw [hk209]; rfl, by omega⟩
        refine tn_getR (ci := 5) (i := 2) (n := 35) (x := x207) dX5_choice_62 rfl lay_5 (by decide) fl5_47 ha rfl rfl (hx208) ?_
        refine tn_bipush dX5_choice_65 (by decide) ?_
        refine tn_iload_n dX5_choice_67 rfl 0 rfl ?_
        refine tn_iconst dX5_choice_68 ?_
        refine tn_callV (M := m_X5_choice) (pc := 69) (ix := 139) (ci := 1) (M' := m_X1_append) (As := [.int (iI 13), .int (iI v64), .int (iI 0)]) (rest := []) dX5_choice_69 ok_X1_append im_X1_append se_X1_append ml5_139 np_X1_append rfl rfl hk209o rfl (Nat.le_of_ble_eq_true rfl) (Nat.le_of_ble_eq_true rfl) rfl (k_X1_append (d + 3 * lv + 57) (T := T74) (σ := σ73) (a := x207) (k := 13) (x := v64) (y := 0) hk209o hk209 (by decide) (by omega) (by decide) w80 (RP.cnt rp83 w80 ha (hx208) (by omega)) (by omega)) (fun r211 T213 σ212 gt214 hp => ?_)
        obtain ⟨rfl, w217, F218, f215⟩ := hp
        have fx219 : RDX σ212 a Sx nx i90 (es91.foldl uC (es51.foldl uC (cx))) (Nx + 1 + m52 + 1 + m92 + 1) := RDX.ap fx95 w80 ha (hx208) F218 f215
        replace ha : OB T213 a 5 := gt214.ob ha
        have rp220 : RP σ212 a (kp - 4 * v44 - 10 * v79 + 4 + 1) := RP.app rp83 (hx208) F218 (by decide) (by decide) (by decide) (by decide) f215
        have rp221 : RP σ212 a (kp - 4 * v44 - 10 * v79 + 5) := RP.up rp220 (by omega)
        show Tn _ _ 72 T213 σ212 [(2, .int (iI v64)), (0, .ref a), (1, .int (iI dp))] [] _
        refine tn_iconst dX5_choice_72 ?_
        have pc224 : GR Sx [24] i90 (0) (bx) u0 [51] i90 (0) (bx) u0 0 [] := x24n hSb (by omega)
        have rd225 : GR Sx [51, 21] jx 0 (bx) u0 [51] i90 (0) (bx) u0 (0 + 1 + 0 + m52 + 1 + m92 + 0) (es51 ++ es91) := GR.g0 (l := [24]) (ms := [51]) [] rd96 pc224
        have pc226 : GR Sx [51] i90 (0) (bx) u0 [] i90 (0) (bx) u0 1 [] := x51 hSb 
        have rd227 : GR Sx [51, 21] jx 0 (bx) u0 [] i90 (0) (bx) u0 (0 + 1 + 0 + m52 + 1 + m92 + 0 + 1) (es51 ++ es91) := GR.g0 (l := [51]) (ms := []) [] rd225 pc226
        have fe228 := RDX.nq (M := Nx + (0 + 1 + 0 + m52 + 1 + m92 + 0 + 1)) (RDX.cq (c2 := (es51 ++ es91).foldl uC cx) fx219 (by simp only [List.foldl_append, List.foldl_cons, List.foldl_nil])) (by omega)
        have fe228m : ((es51 ++ es91).foldl uC cx).m = σ73.2.1 45 a := (fe228.e45).symm.trans (rc_F F218 (Or.inl (by decide)) (by decide) (rfl))
        have ra222 : YS σ212 a Sx nx bx [51, 21] jx cx (Nx) bx [] ((jx : Int) + 1) := ⟨i90, es51 ++ es91, 0 + 1 + 0 + m52 + 1 + m92 + 0 + 1, (by omega), rd227, fe228, by rw [fe228m]; omega⟩
        exact tn_zret (v := 1) rfl (by decide) dX5_choice_73 ⟨_, rfl, w217, ((((((FrC.rfl.trans (FrC.sub F13 (by decide))).trans (FrC.sub (FrC.old F30 gt9) (by decide))).trans (FrC.sub (FrC.old F46 gt9) (by decide))).trans (FrC.sub (FrC.old F66 (GT.trans gt9 gt40)) (by decide))).trans (FrC.sub (FrC.old F81 (GT.trans (GT.trans gt9 gt40) gt60)) (by decide))).trans (FrC.sub (FrC.old F218 (GT.trans (GT.trans (GT.trans gt9 gt40) gt60) gt75)) (by decide))), by omega, ⟨fun _ => ra222, fun q => absurd q (by decide)⟩, (RP.up rp221 (by omega))⟩
    · refine tn_iconst dX5_choice_46 ?_
      obtain ⟨pl231, g232, fx233⟩ := f77.2 (by omega)
      have rf234 : GRF Sx [51, 21] jx 0 (bx) u0 (pl231) := GR.fl (l := [28]) [24] rd71 g232
      have rb230 : YF σ73 a Sx bx [51, 21] jx := ⟨_, rf234, fx233⟩
      exact tn_zret (v := 0) rfl (by decide) dX5_choice_47 ⟨_, rfl, w80, (((((FrC.rfl.trans (FrC.sub F13 (by decide))).trans (FrC.sub (FrC.old F30 gt9) (by decide))).trans (FrC.sub (FrC.old F46 gt9) (by decide))).trans (FrC.sub (FrC.old F66 (GT.trans gt9 gt40)) (by decide))).trans (FrC.sub (FrC.old F81 (GT.trans (GT.trans gt9 gt40) gt60)) (by decide))), by omega, ⟨fun q => absurd q (by decide), fun _ => rb230⟩, (RP.up rp83 (by omega))⟩
  · refine tn_iconst dX5_choice_29 ?_
    obtain ⟨pl237, g238, fx239⟩ := f42.2 (by omega)
    have g238g := g238 (bx) u0
    have rf240 : GRF Sx [51, 21] jx 0 (bx) u0 (pl237) := GR.fl (l := [2]) [51, 28, 24] rd35 g238g
    have rb236 : YF σ38 a Sx bx [51, 21] jx := ⟨_, rf240, fx239⟩
    exact tn_zret (v := 0) rfl (by decide) dX5_choice_30 ⟨_, rfl, w45, (((FrC.rfl.trans (FrC.sub F13 (by decide))).trans (FrC.sub (FrC.old F30 gt9) (by decide))).trans (FrC.sub (FrC.old F46 gt9) (by decide))), by omega, ⟨fun q => absurd q (by decide), fun _ => rb236⟩, (RP.up rp48 (by omega))⟩
