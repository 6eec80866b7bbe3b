set_option maxHeartbeats 4000000 in
set_option maxRecDepth 20000 in
theorem k_X5_assignment_f (d : Nat) {T : CT} {σ : MS} {a : Nat} {kp : Int} {Sx : Int → Int} {nx jx : Nat} {cx : CS} {Nx : Int} {bx : Int} (ha : OB T a 5) (hw : WT T σ) (hfx : RDX σ a Sx nx jx cx Nx) (hkd : ckd (tkS Sx jx) = 256) (hkp : kp ≤ 140) (hrp : RP σ a kp) : Tn (d + 52) m_X5_assignment 0 T σ [(0, .ref a)] [] (fun ro T2 σ2 => ∃ v : Int, ro = some (.int (iI v)) ∧ WT T2 σ2 ∧ FrC T [5, 6, 7, 42, 43, 44, 47, 50, 51, 84, 85, 86, 87, 518, 519, 520, 521] σ σ2 ∧ (v = 0 ∨ v = 1) ∧ (YQ σ2 a Sx nx bx [51, 23] jx cx (Nx) 1 v) ∧ (RP σ2 a (kp + 1 - 10 * v))) := by
  have hSb := hfx.1.sb
  have e45 := hfx.e45
  have hpo9 := hfx.po
  unfold PO at hpo9
  have e42 : σ.2.1 42 a = cx.cn := hfx.1.2.1.1.2.2.2.1
  refine tn_aload_n dX5_assignment_0 rfl 0 rfl ?_
  obtain ⟨x1, hx2, hk3⟩ : ∃ x : Nat, σ.2.1 35 a = (x : Int) ∧ (T x).1 = 31 := wf_35 hw ha
  have hk3o : OB T x1 1 := ⟨by omega, by rw [hk3]; rfl, by omega⟩
  refine tn_getR (ci := 5) (i := 2) (n := 35) (x := x1) dX5_assignment_1 rfl lay_5 (by decide) fl5_47 ha rfl rfl (hx2) ?_
  refine tn_bipush dX5_assignment_4 (by decide) ?_
  refine tn_aload_n dX5_assignment_6 rfl 0 rfl ?_
  refine tn_getI (ci := 5) (i := 12) (n := 45) (t := σ.2.1 45 a) dX5_assignment_7 rfl lay_5 (by decide) fl5_64 ha rfl rfl (rfl) ?_
  have g5 : ((-2147483648 : Int) ≤ σ.2.1 45 a ∧ σ.2.1 45 a ≤ 2147483647) := wf_45 hw ha
  refine tn_iconst dX5_assignment_10 ?_
  refine tn_callV (M := m_X5_assignment) (pc := 11) (ix := 139) (ci := 1) (M' := m_X1_append) (As := [.int (iI 11), .int (iI (σ.2.1 45 a)), .int (iI 0)]) (rest := []) dX5_assignment_11 ok_X1_append im_X1_append se_X1_append ml5_139 np_X1_append rfl rfl hk3o rfl (Nat.le_of_ble_eq_true rfl) (Nat.le_of_ble_eq_true rfl) rfl (k_X1_append (d + 48) (T := T) (σ := σ) (a := x1) (k := 11) (x := σ.2.1 45 a) (y := 0) hk3o hk3 (by decide) (by omega) (by decide) hw (RP.cnt hrp hw ha (hx2) (by omega)) (by omega)) (fun r6 T8 σ7 gt9 hp => ?_)
  obtain ⟨rfl, w12, F13, f10⟩ := hp
  have fx14 : RDX σ7 a Sx nx jx (cx) (Nx + 1) := RDX.ap hfx hw ha (hx2) F13 f10
  replace ha : OB T8 a 5 := gt9.ob ha
  have rp15 : RP σ7 a (kp + 1) := RP.app hrp (hx2) F13 (by decide) (by decide) (by decide) (by decide) f10
  show Tn _ _ 14 T8 σ7 [(0, .ref a)] [] _
  refine tn_aload_n dX5_assignment_14 rfl 0 rfl ?_
  refine tn_callV (M := m_X5_assignment) (pc := 15) (ix := 176) (ci := 5) (M' := m_X5_register) (As := []) (rest := []) dX5_assignment_15 ok_X5_register im_X5_register se_X5_register ml5_176 np_X5_register rfl rfl ha rfl (Nat.le_of_ble_eq_true rfl) (Nat.le_of_ble_eq_true rfl) rfl (k_X5_register_f (d + 49) (T := T8) (σ := σ7) (a := a) ha w12 fx14 hkd) (fun r16 T18 σ17 gt19 hp => ?_)
  obtain ⟨v22, rfl, rfl, w23, F24, f20, f21⟩ := hp
  clear gt19
  have rp25 : RP σ17 a (kp + 1) := RP.frc rp15 F24 (by decide) (by decide) (by decide) (by decide) (by decide)
  show Tn _ _ 18 T8 σ17 [(0, .ref a)] [.int (iI v22)] _
  refine tn_istore_n (L' := [(1, .int (iI v22)), (0, .ref a)]) dX5_assignment_18 rfl (by decide) rfl ?_
  refine tn_aload_n dX5_assignment_19 rfl 1 rfl ?_
  obtain ⟨x26, hx27, hk28⟩ : ∃ x : Nat, σ7.2.1 33 a = (x : Int) ∧ (T8 x).1 = 39 := wf_33 w12 ha
  have hk28o : OB T8 x26 9 := ⟨by omega, by rw [hk28]; rfl, by omega⟩
  refine tn_getR (ci := 5) (i := 0) (n := 33) (x := x26) dX5_assignment_20 rfl lay_5 (by decide) fl5_12 ha rfl rfl (rc_F F24 (Or.inl (by decide)) (by decide) (hx27)) ?_
  have q34 : σ17.2.1 84 x26 = σ7.2.1 84 x26 := rc_F F24 (Or.inl (by decide)) (by decide) (rfl)
  refine tn_callV (M := m_X5_assignment) (pc := 23) (ix := 93) (ci := 9) (M' := m_X9_next) (As := []) (rest := []) dX5_assignment_23 ok_X9_next im_X9_next se_X9_next ml5_93 np_X9_next rfl rfl hk28o rfl (Nat.le_of_ble_eq_true rfl) (Nat.le_of_ble_eq_true rfl) rfl (k_X9_next_f (d + 50) (T := T8) (σ := σ17) (a := x26) hk28o w23 (RP.tk rp25 w23 ha (rc_F F24 (Or.inl (by decide)) (by decide) (hx27))) ((f21).1.tk (rc_F F24 (Or.inl (by decide)) (by decide) (hx27))) (by rw [(f21).1.kd (rc_F F24 (Or.inl (by decide)) (by decide) (hx27))]; omega)) (fun r30 T32 σ31 gt33 hp => ?_)
  obtain ⟨rfl, rfl, w40, F41, f35, f36, f37, f38⟩ := hp
  clear gt33
  have pc43 : GR Sx [51] jx (0) (bx) u0 [] jx (0) (bx) u0 1 [] := x51 hSb 
  have rd440 : GR Sx [51, 23] jx 0 (bx) u0 [51, 23] jx (0) (bx) u0 (0) ([]) := GR.nl
  have rd44 : GR Sx [51, 23] jx 0 (bx) u0 [23] jx (0) (bx) u0 (0 + 1) ([]) := GR.g0 (l := [51]) (ms := []) [23] rd440 pc43
  have pc45 : GR Sx [23] jx (0) (bx) u0 [161, 25] (jx + 1) (0) (bx) u0 0 [(4, (tkS Sx jx).1, 0, (tkS Sx jx).2.2.2.2)] := x23 hSb 
  have rd46a : GR Sx [51, 23] jx 0 (bx) u0 [161, 25] (jx + 1) (0) (bx) u0 (0 + 1 + 0) ([] ++ [(4, (tkS Sx jx).1, 0, (tkS Sx jx).2.2.2.2)]) := GR.gg (l := [23]) (ms := [161, 25]) [] rd44 pc45
  have rd46 : GR Sx [51, 23] jx 0 (bx) u0 [161, 25] (jx + 1) (0) (bx) u0 (0 + 1 + 0) ([(4, (tkS Sx jx).1, 0, (tkS Sx jx).2.2.2.2)]) := rd46a
  have fx42 : RDX σ31 a Sx nx (jx + 1) (uC (cx) (4, (tkS Sx jx).1, 0, (tkS Sx jx).2.2.2.2)) (Nx + 1) := RDX.nx f21 w23 ha (rc_F F24 (Or.inl (by decide)) (by decide) (hx27)) F41 f38
  have rp47 : RP σ31 a (kp + 1) := RP.next rp25 (rc_F F24 (Or.inl (by decide)) (by decide) (hx27)) F41 (by decide) (by decide) (by decide) f35 f36
  show Tn _ _ 26 T8 σ31 [(1, .int (iI v22)), (0, .ref a)] [] _
  refine tn_aload_n dX5_assignment_26 rfl 1 rfl ?_
  refine tn_bipush dX5_assignment_27 (by decide) ?_
  refine tn_callV (M := m_X5_assignment) (pc := 29) (ix := 102) (ci := 5) (M' := m_X5_taken) (As := [.int (iI 61)]) (rest := []) dX5_assignment_29 ok_X5_taken im_X5_taken se_X5_taken ml5_102 np_X5_taken rfl rfl ha rfl (Nat.le_of_ble_eq_true rfl) (Nat.le_of_ble_eq_true rfl) rfl (k_X5_taken_f (d + 49) (T := T8) (σ := σ31) (a := a) (s := 61) (kp := kp + 1) ha (by decide) w40 (by omega) fx42 (by omega) rp47) (fun r48 T50 σ49 gt51 hp => ?_)
  obtain ⟨v55, rfl, rfl, w56, F57, f52, f53, f54⟩ := hp
  clear gt51
  have rp59 : RP σ49 a (kp - 4 * v55 + 1) := RP.up f54 (by omega)
  show Tn _ _ 32 T8 σ49 [(1, .int (iI v22)), (0, .ref a)] [.int (iI v55)] _
  refine tn_if_ne (tgt := 37) dX5_assignment_32 (by decide) ⟨by omega, by omega⟩ (fun h60 => ?_) (fun h60 => ?_)
  · refine tn_aload_n dX5_assignment_37 rfl 1 rfl ?_
    refine tn_getR (ci := 5) (i := 0) (n := 33) (x := x26) dX5_assignment_38 rfl lay_5 (by decide) fl5_12 ha rfl rfl (rc_F F57 (Or.inl (by decide)) (by decide) (rc_F F41 (Or.inl (by decide)) (by decide) (rc_F F24 (Or.inl (by decide)) (by decide) (hx27)))) ?_
    refine tn_getI (ci := 9) (i := 4) (n := 85) (t := σ49.2.1 85 x26) dX5_assignment_41 rfl lay_9 (by decide) fl5_71 hk28o rfl rfl (rfl) ?_
    have g61 : ((-2147483648 : Int) ≤ σ49.2.1 85 x26 ∧ σ49.2.1 85 x26 ≤ 2147483647) := wf_85 w56 hk28o
    obtain ⟨kd63, fx62⟩ := f53.1 (by omega)
    have pc64 : GR Sx [161] (jx + 1) (0) (bx) u0 [] ((jx + 1) + 1) (0) (bx) u0 0 [] := y61 hSb kd63
    have rd65 : GR Sx [51, 23] jx 0 (bx) u0 [25] ((jx + 1) + 1) (0) (bx) u0 (0 + 1 + 0 + 0) ([(4, (tkS Sx jx).1, 0, (tkS Sx jx).2.2.2.2)]) := GR.g0 (l := [161]) (ms := []) [25] rd46 pc64
    have g61kd : σ49.2.1 85 x26 = ckd (tkS Sx ((jx + 1) + 1)) := (rfl).symm.trans ((fx62).1.kd (rc_F F57 (Or.inl (by decide)) (by decide) (rc_F F41 (Or.inl (by decide)) (by decide) (rc_F F24 (Or.inl (by decide)) (by decide) (hx27)))))
    refine tn_sipush dX5_assignment_44 (by decide) ?_
    refine tn_icmp_ne (tgt := 70) dX5_assignment_47 (by decide) ⟨by omega, by omega⟩ ⟨by decide, by decide⟩ (fun h66 => ?_) (fun h66 => ?_)
    · refine tn_aload_n dX5_assignment_70 rfl 1 rfl ?_
      refine tn_iload_n dX5_assignment_71 rfl 0 rfl ?_
      refine tn_callV (M := m_X5_assignment) (pc := 72) (ix := 207) (ci := 5) (M' := m_X5_setting) (As := [.int (iI v22)]) (rest := []) dX5_assignment_72 ok_X5_setting im_X5_setting se_X5_setting ml5_207 np_X5_setting rfl rfl ha rfl (Nat.le_of_ble_eq_true rfl) (Nat.le_of_ble_eq_true rfl) rfl (k_X5_setting_f (d) (T := T8) (σ := σ49) (a := a) (r := v22) (kp := kp - 4 * v55 + 1) (bx := bx) ha (by omega) w56 fx62 (fun q => absurd q.1 (by omega)) (by omega) rp59) (fun r67 T69 σ68 gt70 hp => ?_)
      obtain ⟨v74, rfl, w75, F76, f71, f72, f73⟩ := hp
      replace ha : OB T69 a 5 := gt70.ob ha
      have rp78 : RP σ68 a (kp - 4 * v55 - 7 * v74 + 1) := RP.up f73 (by omega)
      show Tn _ _ 75 T69 σ68 [(1, .int (iI v22)), (0, .ref a)] [.int (iI v74)] _
      rcases f71 with f71 | f71
      · refine tn_istore_n (L' := [(2, .int (iI v74)), (1, .int (iI v22)), (0, .ref a)]) dX5_assignment_75 rfl (by decide) rfl ?_
        refine tn_aload_n dX5_assignment_76 rfl 2 rfl ?_
        obtain ⟨x79, hx80, hk81⟩ : ∃ x : Nat, σ68.2.1 35 a = (x : Int) ∧ (T69 x).1 = 31 := wf_35 w75 ha
        have hk81o : OB T69 x79 1 := ⟨by omega, by rw [hk81]; rfl, by omega⟩
        refine tn_getR (ci := 5) (i := 2) (n := 35) (x := x79) dX5_assignment_77 rfl lay_5 (by decide) fl5_47 ha rfl rfl (hx80) ?_
        refine tn_bipush dX5_assignment_80 (by decide) ?_
        refine tn_iload_n dX5_assignment_82 rfl 1 rfl ?_
        refine tn_iconst dX5_assignment_83 ?_
        refine tn_callV (M := m_X5_assignment) (pc := 84) (ix := 139) (ci := 1) (M' := m_X1_append) (As := [.int (iI 12), .int (iI v22), .int (iI 0)]) (rest := []) dX5_assignment_84 ok_X1_append im_X1_append se_X1_append ml5_139 np_X1_append rfl rfl hk81o rfl (Nat.le_of_ble_eq_true rfl) (Nat.le_of_ble_eq_true rfl) rfl (k_X1_append (d + 48) (T := T69) (σ := σ68) (a := x79) (k := 12) (x := v22) (y := 0) hk81o hk81 (by decide) (by omega) (by decide) w75 (RP.cnt rp78 w75 ha (hx80) (by omega)) (by omega)) (fun r83 T85 σ84 gt86 hp => ?_)
        obtain ⟨rfl, w89, F90, f87⟩ := hp
        obtain ⟨pl91, g92, fx93⟩ := f72.2 (by omega)
        have rf94 : GRF Sx [51, 23] jx 0 (bx) u0 (pl91) := GR.fl (l := [25]) [] rd65 g92
        have fx95 : FLC σ84 a (pl91) := FLC.fc fx93 F90 (by decide) (by decide)
        replace ha : OB T85 a 5 := gt86.ob ha
        have rp96 : RP σ84 a (kp - 4 * v55 - 7 * v74 + 1 + 1) := RP.app rp78 (hx80) F90 (by decide) (by decide) (by decide) (by decide) f87
        have rp97 : RP σ84 a (kp - 4 * v55 - 7 * v74 + 2) := RP.up rp96 (by omega)
        show Tn _ _ 87 T85 σ84 [(2, .int (iI v74)), (1, .int (iI v22)), (0, .ref a)] [] _
        refine tn_aload_n dX5_assignment_87 rfl 2 rfl ?_
        obtain ⟨x98, hx99, hk100⟩ : ∃ x : Nat, σ84.2.1 35 a = (x : Int) ∧ (T85 x).1 = 31 := wf_35 w89 ha
        have hk100o : OB T85 x98 1 := ⟨by omega, by rw [hk100]; rfl, by omega⟩
        refine tn_getR (ci := 5) (i := 2) (n := 35) (x := x98) dX5_assignment_88 rfl lay_5 (by decide) fl5_47 ha rfl rfl (hx99) ?_
        refine tn_aload_n dX5_assignment_91 rfl 2 rfl ?_
        refine tn_getR (ci := 5) (i := 2) (n := 35) (x := x98) dX5_assignment_92 rfl lay_5 (by decide) fl5_47 ha rfl rfl (hx99) ?_
        refine tn_getI (ci := 1) (i := 1) (n := 6) (t := σ84.2.1 6 x98) dX5_assignment_95 rfl lay_1 (by decide) fl5_146 hk100o rfl rfl (rfl) ?_
        have g102 : ((0 : Int) ≤ σ84.2.1 6 x98 ∧ σ84.2.1 6 x98 ≤ 5000) ∧ ((T85 x98).1 = 50 → σ84.2.1 6 x98 ≤ 200) := wf_6 w89 hk100o
        have g102x := g102.2
        replace g102 := g102.1
        clear g102x
        refine tn_iconst dX5_assignment_98 ?_
        refine tn_isub dX5_assignment_99 ?_
        refine tn_iconst dX5_assignment_100 ?_
        refine tn_iload_n dX5_assignment_101 rfl 1 rfl ?_
        refine tn_callV (M := m_X5_assignment) (pc := 102) (ix := 210) (ci := 1) (M' := m_X1_setWhere) (As := [.int (iI ((σ84.2.1 6 x98) - 1)), .int (iI 2), .int (iI v22)]) (rest := []) dX5_assignment_102 ok_X1_setWhere im_X1_setWhere se_X1_setWhere ml5_210 np_X1_setWhere rfl rfl hk100o rfl (Nat.le_of_ble_eq_true rfl) (Nat.le_of_ble_eq_true rfl) rfl (k_X1_setWhere (d + 49) (T := T85) (σ := σ84) (a := x98) (k := (σ84.2.1 6 x98) - 1) (y := 2) (z := v22) hk100o (by omega) (by decide) (by omega) w89 ) (fun r103 T105 σ104 gt106 hp => ?_)
        obtain ⟨rfl, rfl, w108, F109⟩ := hp
        clear gt106
        have fx110 : FLC σ104 a (pl91) := FLC.fc fx95 F109 (by decide) (by decide)
        have rp111 : RP σ104 a (kp - 4 * v55 - 7 * v74 + 2) := RP.frc rp97 F109 (by decide) (by decide) (by decide) (by decide) (by decide)
        show Tn _ _ 105 T85 σ104 [(2, .int (iI v74)), (1, .int (iI v22)), (0, .ref a)] [] _
        refine tn_iload_n dX5_assignment_105 rfl 0 rfl ?_
        have rb113 : YF σ104 a Sx bx [51, 23] jx := ⟨_, rf94, fx110⟩
        exact tn_zret (v := v74) rfl (by omega) dX5_assignment_106 ⟨_, rfl, w108, (((((((FrC.rfl.trans (FrC.sub F13 (by decide))).trans (FrC.sub (FrC.old F24 gt9) (by decide))).trans (FrC.sub (FrC.old F41 gt9) (by decide))).trans (FrC.sub (FrC.old F57 gt9) (by decide))).trans (FrC.sub (FrC.old F76 gt9) (by decide))).trans (FrC.sub (FrC.old F90 (GT.trans gt9 gt70)) (by decide))).trans (FrC.sub (FrC.old F109 (GT.trans (GT.trans gt9 gt70) gt86)) (by decide))), by omega, ⟨fun q => absurd q (by omega), fun _ => rb113⟩, (RP.up rp111 (by omega))⟩
      · refine tn_istore_n (L' := [(2, .int (iI v74)), (1, .int (iI v22)), (0, .ref a)]) dX5_assignment_75 rfl (by decide) rfl ?_
        refine tn_aload_n dX5_assignment_76 rfl 2 rfl ?_
        obtain ⟨x114, hx115, hk116⟩ : ∃ x : Nat, σ68.2.1 35 a = (x : Int) ∧ (T69 x).1 = 31 := wf_35 w75 ha
        have hk116o : OB T69 x114 1 := ⟨by omega, by rw [hk116]; rfl, by omega⟩
        refine tn_getR (ci := 5) (i := 2) (n := 35) (x := x114) dX5_assignment_77 rfl lay_5 (by decide) fl5_47 ha rfl rfl (hx115) ?_
        refine tn_bipush dX5_assignment_80 (by decide) ?_
        refine tn_iload_n dX5_assignment_82 rfl 1 rfl ?_
        refine tn_iconst dX5_assignment_83 ?_
        refine tn_callV (M := m_X5_assignment) (pc := 84) (ix := 139) (ci := 1) (M' := m_X1_append) (As := [.int (iI 12), .int (iI v22), .int (iI 0)]) (rest := []) dX5_assignment_84 ok_X1_append im_X1_append se_X1_append ml5_139 np_X1_append rfl rfl hk116o rfl (Nat.le_of_ble_eq_true rfl) (Nat.le_of_ble_eq_true rfl) rfl (k_X1_append (d + 48) (T := T69) (σ := σ68) (a := x114) (k := 12) (x := v22) (y := 0) hk116o hk116 (by decide) (by omega) (by decide) w75 (RP.cnt rp78 w75 ha (hx115) (by omega)) (by omega)) (fun r118 T120 σ119 gt121 hp => ?_)
        obtain ⟨rfl, w124, F125, f122⟩ := hp
        obtain ⟨i126, es127, m128, lo129, rr130, fx131, fx131m⟩ := f72.1 (by omega)
        have fx131s : σ68.2.1 45 a ≤ (i126 : Int) := by rw [fx131.e45]; exact fx131m
        have rd132 : GR Sx [51, 23] jx 0 (bx) u0 [] i126 (0) (bx) u0 (0 + 1 + 0 + 0 + m128) ([(4, (tkS Sx jx).1, 0, (tkS Sx jx).2.2.2.2)] ++ es127) := GR.gg (l := [25]) (ms := []) [] rd65 rr130
        have fx133 : RDX σ119 a Sx nx i126 (es127.foldl uC (uC (cx) (4, (tkS Sx jx).1, 0, (tkS Sx jx).2.2.2.2))) (Nx + 1 - 1 + m128 + 1) := RDX.ap fx131 w75 ha (hx115) F125 f122
        replace ha : OB T120 a 5 := gt121.ob ha
        have rp134 : RP σ119 a (kp - 4 * v55 - 7 * v74 + 1 + 1) := RP.app rp78 (hx115) F125 (by decide) (by decide) (by decide) (by decide) f122
        have rp135 : RP σ119 a (kp - 4 * v55 - 7 * v74 + 2) := RP.up rp134 (by omega)
        show Tn _ _ 87 T120 σ119 [(2, .int (iI v74)), (1, .int (iI v22)), (0, .ref a)] [] _
        refine tn_aload_n dX5_assignment_87 rfl 2 rfl ?_
        obtain ⟨x136, hx137, hk138⟩ : ∃ x : Nat, σ119.2.1 35 a = (x : Int) ∧ (T120 x).1 = 31 := wf_35 w124 ha
        have hk138o : OB T120 x136 1 := ⟨by omega, by rw [hk138]; rfl, by omega⟩
        refine tn_getR (ci := 5) (i := 2) (n := 35) (x := x136) dX5_assignment_88 rfl lay_5 (by decide) fl5_47 ha rfl rfl (hx137) ?_
        refine tn_aload_n dX5_assignment_91 rfl 2 rfl ?_
        refine tn_getR (ci := 5) (i := 2) (n := 35) (x := x136) dX5_assignment_92 rfl lay_5 (by decide) fl5_47 ha rfl rfl (hx137) ?_
        refine tn_getI (ci := 1) (i := 1) (n := 6) (t := σ119.2.1 6 x136) dX5_assignment_95 rfl lay_1 (by decide) fl5_146 hk138o rfl rfl (rfl) ?_
        have g140 : ((0 : Int) ≤ σ119.2.1 6 x136 ∧ σ119.2.1 6 x136 ≤ 5000) ∧ ((T120 x136).1 = 50 → σ119.2.1 6 x136 ≤ 200) := wf_6 w124 hk138o
        have g140x := g140.2
        replace g140 := g140.1
        clear g140x
        refine tn_iconst dX5_assignment_98 ?_
        refine tn_isub dX5_assignment_99 ?_
        refine tn_iconst dX5_assignment_100 ?_
        refine tn_iload_n dX5_assignment_101 rfl 1 rfl ?_
        refine tn_callV (M := m_X5_assignment) (pc := 102) (ix := 210) (ci := 1) (M' := m_X1_setWhere) (As := [.int (iI ((σ119.2.1 6 x136) - 1)), .int (iI 2), .int (iI v22)]) (rest := []) dX5_assignment_102 ok_X1_setWhere im_X1_setWhere se_X1_setWhere ml5_210 np_X1_setWhere rfl rfl hk138o rfl (Nat.le_of_ble_eq_true rfl) (Nat.le_of_ble_eq_true rfl) rfl (k_X1_setWhere (d + 49) (T := T120) (σ := σ119) (a := x136) (k := (σ119.2.1 6 x136) - 1) (y := 2) (z := v22) hk138o (by omega) (by decide) (by omega) w124 ) (fun r141 T143 σ142 gt144 hp => ?_)
        obtain ⟨rfl, rfl, w146, F147⟩ := hp
        clear gt144
        have fx148 : RDX σ142 a Sx nx i126 (es127.foldl uC (uC (cx) (4, (tkS Sx jx).1, 0, (tkS Sx jx).2.2.2.2))) (Nx + 1 - 1 + m128 + 1) := RDX.fc fx133 w124 ha F147 (by decide) (by decide)
        have rp149 : RP σ142 a (kp - 4 * v55 - 7 * v74 + 2) := RP.frc rp135 F147 (by decide) (by decide) (by decide) (by decide) (by decide)
        show Tn _ _ 105 T120 σ142 [(2, .int (iI v74)), (1, .int (iI v22)), (0, .ref a)] [] _
        refine tn_iload_n dX5_assignment_105 rfl 0 rfl ?_
        have fe152 := RDX.nq (M := Nx + (0 + 1 + 0 + 0 + m128)) (RDX.cq (c2 := ([(4, (tkS Sx jx).1, 0, (tkS Sx jx).2.2.2.2)] ++ es127).foldl uC cx) fx148 (by simp only [List.foldl_append, List.foldl_cons, List.foldl_nil])) (by omega)
        have fe152m : (([(4, (tkS Sx jx).1, 0, (tkS Sx jx).2.2.2.2)] ++ es127).foldl uC cx).m = σ.2.1 45 a := (fe152.e45).symm.trans (rc_F F147 (Or.inl (by decide)) (by decide) (rc_F F125 (Or.inl (by decide)) (by decide) (rc_F F76 (Or.inl (by decide)) (by decide) (rc_F F57 (Or.inl (by decide)) (by decide) (rc_F F41 (Or.inl (by decide)) (by decide) (rc_F F24 (Or.inl (by decide)) (by decide) (rc_F F13 (Or.inl (by decide)) (by decide) (rfl))))))))
        have ra150 : YS σ142 a Sx nx bx [51, 23] jx cx (Nx) bx [] ((jx : Int) + 1) := ⟨i126, [(4, (tkS Sx jx).1, 0, (tkS Sx jx).2.2.2.2)] ++ es127, 0 + 1 + 0 + 0 + m128, (by omega), rd132, fe152, by rw [fe152m]; omega⟩
        exact tn_zret (v := v74) rfl (by omega) dX5_assignment_106 ⟨_, rfl, w146, (((((((FrC.rfl.trans (FrC.sub F13 (by decide))).trans (FrC.sub (FrC.old F24 gt9) (by decide))).trans (FrC.sub (FrC.old F41 gt9) (by decide))).trans (FrC.sub (FrC.old F57 gt9) (by decide))).trans (FrC.sub (FrC.old F76 gt9) (by decide))).trans (FrC.sub (FrC.old F125 (GT.trans gt9 gt70)) (by decide))).trans (FrC.sub (FrC.old F147 (GT.trans (GT.trans gt9 gt70) gt121)) (by decide))), by omega, ⟨fun _ => ra150, fun q => absurd q (by omega)⟩, (RP.up rp149 (by omega))⟩
    · refine tn_aload_n dX5_assignment_50 rfl 1 rfl ?_
      refine tn_getR (ci := 5) (i := 0) (n := 33) (x := x26) dX5_assignment_51 rfl lay_5 (by decide) fl5_12 ha rfl rfl (rc_F F57 (Or.inl (by decide)) (by decide) (rc_F F41 (Or.inl (by decide)) (by decide) (rc_F F24 (Or.inl (by decide)) (by decide) (hx27)))) ?_
      refine tn_bipush dX5_assignment_54 (by decide) ?_
      refine tn_callV (M := m_X5_assignment) (pc := 56) (ix := 201) (ci := 9) (M' := m_X9_nextIs) (As := [.int (iI 40)]) (rest := []) dX5_assignment_56 ok_X9_nextIs im_X9_nextIs se_X9_nextIs ml5_201 np_X9_nextIs rfl rfl hk28o rfl (Nat.le_of_ble_eq_true rfl) (Nat.le_of_ble_eq_true rfl) rfl (k_X9_nextIs_f (d + 49) (T := T8) (σ := σ49) (a := x26) (s := 40) hk28o (by decide) w56 ((fx62).1.tk (rc_F F57 (Or.inl (by decide)) (by decide) (rc_F F41 (Or.inl (by decide)) (by decide) (rc_F F24 (Or.inl (by decide)) (by decide) (hx27))))) (by rw [(fx62).1.kd (rc_F F57 (Or.inl (by decide)) (by decide) (rc_F F41 (Or.inl (by decide)) (by decide) (rc_F F24 (Or.inl (by decide)) (by decide) (hx27))))]; omega)) (fun r153 T155 σ154 gt156 hp => ?_)
      obtain ⟨v159, rfl, rfl, rfl, f157, f158⟩ := hp
      clear gt156
      show Tn _ _ 59 T8 σ49 [(1, .int (iI v22)), (0, .ref a)] [.int (iI v159)] _
      refine tn_if_eq (tgt := 70) dX5_assignment_59 (by decide) ⟨by omega, by omega⟩ (fun h160 => ?_) (fun h160 => ?_)
      · refine tn_aload_n dX5_assignment_70 rfl 1 rfl ?_
        refine tn_iload_n dX5_assignment_71 rfl 0 rfl ?_
        refine tn_callV (M := m_X5_assignment) (pc := 72) (ix := 207) (ci := 5) (M' := m_X5_setting) (As := [.int (iI v22)]) (rest := []) dX5_assignment_72 ok_X5_setting im_X5_setting se_X5_setting ml5_207 np_X5_setting rfl rfl ha rfl (Nat.le_of_ble_eq_true rfl) (Nat.le_of_ble_eq_true rfl) rfl (k_X5_setting_f (d) (T := T8) (σ := σ49) (a := a) (r := v22) (kp := kp - 4 * v55 + 1) (bx := bx) ha (by omega) w56 fx62 (fun q => f158.2 (by omega) q.2) (by omega) rp59) (fun r161 T163 σ162 gt164 hp => ?_)
        obtain ⟨v168, rfl, w169, F170, f165, f166, f167⟩ := hp
        replace ha : OB T163 a 5 := gt164.ob ha
        have rp172 : RP σ162 a (kp - 4 * v55 - 7 * v168 + 1) := RP.up f167 (by omega)
        show Tn _ _ 75 T163 σ162 [(1, .int (iI v22)), (0, .ref a)] [.int (iI v168)] _
        rcases f165 with f165 | f165
        · refine tn_istore_n (L' := [(2, .int (iI v168)), (1, .int (iI v22)), (0, .ref a)]) dX5_assignment_75 rfl (by decide) rfl ?_
          refine tn_aload_n dX5_assignment_76 rfl 2 rfl ?_
          obtain ⟨x173, hx174, hk175⟩ : ∃ x : Nat, σ162.2.1 35 a = (x : Int) ∧ (T163 x).1 = 31 := wf_35 w169 ha
          have hk175o : OB T163 x173 1 := ⟨by omega, by rw [hk175]; rfl, by omega⟩
          refine tn_getR (ci := 5) (i := 2) (n := 35) (x := x173) dX5_assignment_77 rfl lay_5 (by decide) fl5_47 ha rfl rfl (hx174) ?_
          refine tn_bipush dX5_assignment_80 (by decide) ?_
          refine tn_iload_n dX5_assignment_82 rfl 1 rfl ?_
          refine tn_iconst dX5_assignment_83 ?_
          refine tn_callV (M := m_X5_assignment) (pc := 84) (ix := 139) (ci := 1) (M' := m_X1_append) (As := [.int (iI 12), .int (iI v22), .int (iI 0)]) (rest := []) dX5_assignment_84 ok_X1_append im_X1_append se_X1_append ml5_139 np_X1_append rfl rfl hk175o rfl (Nat.le_of_ble_eq_true rfl) (Nat.le_of_ble_eq_true rfl) rfl (k_X1_append (d + 48) (T := T163) (σ := σ162) (a := x173) (k := 12) (x := v22) (y := 0) hk175o hk175 (by decide) (by omega) (by decide) w169 (RP.cnt rp172 w169 ha (hx174) (by omega)) (by omega)) (fun r177 T179 σ178 gt180 hp => ?_)
          obtain ⟨rfl, w183, F184, f181⟩ := hp
          obtain ⟨pl185, g186, fx187⟩ := f166.2 (by omega)
          have rf188 : GRF Sx [51, 23] jx 0 (bx) u0 (pl185) := GR.fl (l := [25]) [] rd65 g186
          have fx189 : FLC σ178 a (pl185) := FLC.fc fx187 F184 (by decide) (by decide)
          replace ha : OB T179 a 5 := gt180.ob ha
          have rp190 : RP σ178 a (kp - 4 * v55 - 7 * v168 + 1 + 1) := RP.app rp172 (hx174) F184 (by decide) (by decide) (by decide) (by decide) f181
          have rp191 : RP σ178 a (kp - 4 * v55 - 7 * v168 + 2) := RP.up rp190 (by omega)
          show Tn _ _ 87 T179 σ178 [(2, .int (iI v168)), (1, .int (iI v22)), (0, .ref a)] [] _
          refine tn_aload_n dX5_assignment_87 rfl 2 rfl ?_
          obtain ⟨x192, hx193, hk194⟩ : ∃ x : Nat, σ178.2.1 35 a = (x : Int) ∧ (T179 x).1 = 31 := wf_35 w183 ha
          have hk194o : OB T179 x192 1 := ⟨by omega, by rw [hk194]; rfl, by omega⟩
          refine tn_getR (ci := 5) (i := 2) (n := 35) (x := x192) dX5_assignment_88 rfl lay_5 (by decide) fl5_47 ha rfl rfl (hx193) ?_
          refine tn_aload_n dX5_assignment_91 rfl 2 rfl ?_
          refine tn_getR (ci := 5) (i := 2) (n := 35) (x := x192) dX5_assignment_92 rfl lay_5 (by decide) fl5_47 ha rfl rfl (hx193) ?_
          refine tn_getI (ci := 1) (i := 1) (n := 6) (t := σ178.2.1 6 x192) dX5_assignment_95 rfl lay_1 (by decide) fl5_146 hk194o rfl rfl (rfl) ?_
          have g196 : ((0 : Int) ≤ σ178.2.1 6 x192 ∧ σ178.2.1 6 x192 ≤ 5000) ∧ ((T179 x192).1 = 50 → σ178.2.1 6 x192 ≤ 200) := wf_6 w183 hk194o
          have g196x := g196.2
          replace g196 := g196.1
          clear g196x
          refine tn_iconst dX5_assignment_98 ?_
          refine tn_isub dX5_assignment_99 ?_
          refine tn_iconst dX5_assignment_100 ?_
          refine tn_iload_n dX5_assignment_101 rfl 1 rfl ?_
          refine tn_callV (M := m_X5_assignment) (pc := 102) (ix := 210) (ci := 1) (M' := m_X1_setWhere) (As := [.int (iI ((σ178.2.1 6 x192) - 1)), .int (iI 2), .int (iI v22)]) (rest := []) dX5_assignment_102 ok_X1_setWhere im_X1_setWhere se_X1_setWhere ml5_210 np_X1_setWhere rfl rfl hk194o rfl (Nat.le_of_ble_eq_true rfl) (Nat.le_of_ble_eq_true rfl) rfl (k_X1_setWhere (d + 49) (T := T179) (σ := σ178) (a := x192) (k := (σ178.2.1 6 x192) - 1) (y := 2) (z := v22) hk194o (by omega) (by decide) (by omega) w183 ) (fun r197 T199 σ198 gt200 hp => ?_)
          obtain ⟨rfl, rfl, w202, F203⟩ := hp
          clear gt200
          have fx204 : FLC σ198 a (pl185) := FLC.fc fx189 F203 (by decide) (by decide)
          have rp205 : RP σ198 a (kp - 4 * v55 - 7 * v168 + 2) := RP.frc rp191 F203 (by decide) (by decide) (by decide) (by decide) (by decide)
          show Tn _ _ 105 T179 σ198 [(2, .int (iI v168)), (1, .int (iI v22)), (0, .ref a)] [] _
          refine tn_iload_n dX5_assignment_105 rfl 0 rfl ?_
          have rb207 : YF σ198 a Sx bx [51, 23] jx := ⟨_, rf188, fx204⟩
          exact tn_zret (v := v168) rfl (by omega) dX5_assignment_106 ⟨_, rfl, w202, (((((((FrC.rfl.trans (FrC.sub F13 (by decide))).trans (FrC.sub (FrC.old F24 gt9) (by decide))).trans (FrC.sub (FrC.old F41 gt9) (by decide))).trans (FrC.sub (FrC.old F57 gt9) (by decide))).trans (FrC.sub (FrC.old F170 gt9) (by decide))).trans (FrC.sub (FrC.old F184 (GT.trans gt9 gt164)) (by decide))).trans (FrC.sub (FrC.old F203 (GT.trans (GT.trans gt9 gt164) gt180)) (by decide))), by omega, ⟨fun q => absurd q (by omega), fun _ => rb207⟩, (RP.up rp205 (by omega))⟩
        · refine tn_istore_n (L' := [(2, .int (iI v168)), (1, .int (iI v22)), (0, .ref a)]) dX5_assignment_75 rfl (by decide) rfl ?_
          refine tn_aload_n dX5_assignment_76 rfl 2 rfl ?_
          obtain ⟨x208, hx209, hk210⟩ : ∃ x : Nat, σ162.2.1 35 a = (x : Int) ∧ (T163 x).1 = 31 := wf_35 w169 ha
          have hk210o : OB T163 x208 1 := ⟨by omega, by rw [hk210]; rfl, by omega⟩
          refine tn_getR (ci := 5) (i := 2) (n := 35) (x := x208) dX5_assignment_77 rfl lay_5 (by decide) fl5_47 ha rfl rfl (hx209) ?_
          refine tn_bipush dX5_assignment_80 (by decide) ?_
          refine tn_iload_n dX5_assignment_82 rfl 1 rfl ?_
          refine tn_iconst dX5_assignment_83 ?_
          refine tn_callV (M := m_X5_assignment) (pc := 84) (ix := 139) (ci := 1) (M' := m_X1_append) (As := [.int (iI 12), .int (iI v22), .int (iI 0)]) (rest := []) dX5_assignment_84 ok_X1_append im_X1_append se_X1_append ml5_139 np_X1_append rfl rfl hk210o rfl (Nat.le_of_ble_eq_true rfl) (Nat.le_of_ble_eq_true rfl) rfl (k_X1_append (d + 48) (T := T163) (σ := σ162) (a := x208) (k := 12) (x := v22) (y := 0) hk210o hk210 (by decide) (by omega) (by decide) w169 (RP.cnt rp172 w169 ha (hx209) (by omega)) (by omega)) (fun r212 T214 σ213 gt215 hp => ?_)
          obtain ⟨rfl, w218, F219, f216⟩ := hp
          obtain ⟨i220, es221, m222, lo223, rr224, fx225, fx225m⟩ := f166.1 (by omega)
          have fx225s : σ162.2.1 45 a ≤ (i220 : Int) := by rw [fx225.e45]; exact fx225m
          have rd226 : GR Sx [51, 23] jx 0 (bx) u0 [] i220 (0) (bx) u0 (0 + 1 + 0 + 0 + m222) ([(4, (tkS Sx jx).1, 0, (tkS Sx jx).2.2.2.2)] ++ es221) := GR.gg (l := [25]) (ms := []) [] rd65 rr224
          have fx227 : RDX σ213 a Sx nx i220 (es221.foldl uC (uC (cx) (4, (tkS Sx jx).1, 0, (tkS Sx jx).2.2.2.2))) (Nx + 1 - 1 + m222 + 1) := RDX.ap fx225 w169 ha (hx209) F219 f216
          replace ha : OB T214 a 5 := gt215.ob ha
          have rp228 : RP σ213 a (kp - 4 * v55 - 7 * v168 + 1 + 1) := RP.app rp172 (hx209) F219 (by decide) (by decide) (by decide) (by decide) f216
          have rp229 : RP σ213 a (kp - 4 * v55 - 7 * v168 + 2) := RP.up rp228 (by omega)
          show Tn _ _ 87 T214 σ213 [(2, .int (iI v168)), (1, .int (iI v22)), (0, .ref a)] [] _
          refine tn_aload_n dX5_assignment_87 rfl 2 rfl ?_
          obtain ⟨x230, hx231, hk232⟩ : ∃ x : Nat, σ213.2.1 35 a = (x : Int) ∧ (T214 x).1 = 31 := wf_35 w218 ha
          have hk232o : OB T214 x230 1 := ⟨by omega, by rw [hk232]; rfl, by omega⟩
          refine tn_getR (ci := 5) (i := 2) (n := 35) (x := x230) dX5_assignment_88 rfl lay_5 (by decide) fl5_47 ha rfl rfl (hx231) ?_
          refine tn_aload_n dX5_assignment_91 rfl 2 rfl ?_
          refine tn_getR (ci := 5) (i := 2) (n := 35) (x := x230) dX5_assignment_92 rfl lay_5 (by decide) fl5_47 ha rfl rfl (hx231) ?_
          refine tn_getI (ci := 1) (i := 1) (n := 6) (t := σ213.2.1 6 x230) dX5_assignment_95 rfl lay_1 (by decide) fl5_146 hk232o rfl rfl (rfl) ?_
          have g234 : ((0 : Int) ≤ σ213.2.1 6 x230 ∧ σ213.2.1 6 x230 ≤ 5000) ∧ ((T214 x230).1 = 50 → σ213.2.1 6 x230 ≤ 200) := wf_6 w218 hk232o
          have g234x := g234.2
          replace g234 := g234.1
          clear g234x
          refine tn_iconst dX5_assignment_98 ?_
          refine tn_isub dX5_assignment_99 ?_
          refine tn_iconst dX5_assignment_100 ?_
          refine tn_iload_n dX5_assignment_101 rfl 1 rfl ?_
          refine tn_callV (M := m_X5_assignment) (pc := 102) (ix := 210) (ci := 1) (M' := m_X1_setWhere) (As := [.int (iI ((σ213.2.1 6 x230) - 1)), .int (iI 2), .int (iI v22)]) (rest := []) dX5_assignment_102 ok_X1_setWhere im_X1_setWhere se_X1_setWhere ml5_210 np_X1_setWhere rfl rfl hk232o rfl (Nat.le_of_ble_eq_true rfl) (Nat.le_of_ble_eq_true rfl) rfl (k_X1_setWhere (d + 49) (T := T214) (σ := σ213) (a := x230) (k := (σ213.2.1 6 x230) - 1) (y := 2) (z := v22) hk232o (by omega) (by decide) (by omega) w218 ) (fun r235 T237 σ236 gt238 hp => ?_)
          obtain ⟨rfl, rfl, w240, F241⟩ := hp
          clear gt238
          have fx242 : RDX σ236 a Sx nx i220 (es221.foldl uC (uC (cx) (4, (tkS Sx jx).1, 0, (tkS Sx jx).2.2.2.2))) (Nx + 1 - 1 + m222 + 1) := RDX.fc fx227 w218 ha F241 (by decide) (by decide)
          have rp243 : RP σ236 a (kp - 4 * v55 - 7 * v168 + 2) := RP.frc rp229 F241 (by decide) (by decide) (by decide) (by decide) (by decide)
          show Tn _ _ 105 T214 σ236 [(2, .int (iI v168)), (1, .int (iI v22)), (0, .ref a)] [] _
          refine tn_iload_n dX5_assignment_105 rfl 0 rfl ?_
          have fe246 := RDX.nq (M := Nx + (0 + 1 + 0 + 0 + m222)) (RDX.cq (c2 := ([(4, (tkS Sx jx).1, 0, (tkS Sx jx).2.2.2.2)] ++ es221).foldl uC cx) fx242 (by simp only [List.foldl_append, List.foldl_cons, List.foldl_nil])) (by omega)
          have fe246m : (([(4, (tkS Sx jx).1, 0, (tkS Sx jx).2.2.2.2)] ++ es221).foldl uC cx).m = σ.2.1 45 a := (fe246.e45).symm.trans (rc_F F241 (Or.inl (by decide)) (by decide) (rc_F F219 (Or.inl (by decide)) (by decide) (rc_F F170 (Or.inl (by decide)) (by decide) (rc_F F57 (Or.inl (by decide)) (by decide) (rc_F F41 (Or.inl (by decide)) (by decide) (rc_F F24 (Or.inl (by decide)) (by decide) (rc_F F13 (Or.inl (by decide)) (by decide) (rfl))))))))
          have ra244 : YS σ236 a Sx nx bx [51, 23] jx cx (Nx) bx [] ((jx : Int) + 1) := ⟨i220, [(4, (tkS Sx jx).1, 0, (tkS Sx jx).2.2.2.2)] ++ es221, 0 + 1 + 0 + 0 + m222, (by omega), rd226, fe246, by rw [fe246m]; omega⟩
          exact tn_zret (v := v168) rfl (by omega) dX5_assignment_106 ⟨_, rfl, w240, (((((((FrC.rfl.trans (FrC.sub F13 (by decide))).trans (FrC.sub (FrC.old F24 gt9) (by decide))).trans (FrC.sub (FrC.old F41 gt9) (by decide))).trans (FrC.sub (FrC.old F57 gt9) (by decide))).trans (FrC.sub (FrC.old F170 gt9) (by decide))).trans (FrC.sub (FrC.old F219 (GT.trans gt9 gt164)) (by decide))).trans (FrC.sub (FrC.old F241 (GT.trans (GT.trans gt9 gt164) gt215)) (by decide))), by omega, ⟨fun _ => ra244, fun q => absurd q (by omega)⟩, (RP.up rp243 (by omega))⟩
      · refine tn_aload_n dX5_assignment_62 rfl 1 rfl ?_
        refine tn_iload_n dX5_assignment_63 rfl 0 rfl ?_
        have q42247 : (uC (cx) (4, (tkS Sx jx).1, 0, (tkS Sx jx).2.2.2.2)).cn = σ.2.1 42 a := (fx62.1.2.1.1.2.2.2.1).symm.trans (rc_F F57 (Or.inl (by decide)) (by decide) (rc_F F41 (Or.inl (by decide)) (by decide) (rc_F F24 (Or.inl (by decide)) (by decide) (rc_F F13 (Or.inl (by decide)) (by decide) (rfl)))))
        refine tn_callV (M := m_X5_assignment) (pc := 64) (ix := 204) (ci := 5) (M' := m_X5_call) (As := [.int (iI v22)]) (rest := []) dX5_assignment_64 ok_X5_call im_X5_call se_X5_call ml5_204 np_X5_call rfl rfl ha rfl (Nat.le_of_ble_eq_true rfl) (Nat.le_of_ble_eq_true rfl) rfl (k_X5_call_f (d) (T := T8) (σ := σ49) (a := a) (r := v22) (kp := kp - 4 * v55 + 1) (bx := bx) ha (by omega) w56 fx62 (by omega) (f158.1 (by omega)) (by rw [q42247]; omega) (by omega) rp59) (fun r248 T250 σ249 gt251 hp => ?_)
        obtain ⟨v255, rfl, w256, F257, f252, f253, f254⟩ := hp
        replace ha : OB T250 a 5 := gt251.ob ha
        have rp259 : RP σ249 a (kp - 4 * v55 - 7 * v255 + 1) := RP.up f254 (by omega)
        show Tn _ _ 67 T250 σ249 [(1, .int (iI v22)), (0, .ref a)] [.int (iI v255)] _
        rcases f252 with f252 | f252
        · refine tn_goto (tgt := 75) dX5_assignment_67 (by decide) ?_
          refine tn_istore_n (L' := [(2, .int (iI v255)), (1, .int (iI v22)), (0, .ref a)]) dX5_assignment_75 rfl (by decide) rfl ?_
          refine tn_aload_n dX5_assignment_76 rfl 2 rfl ?_
          obtain ⟨x260, hx261, hk262⟩ : ∃ x : Nat, σ249.2.1 35 a = (x : Int) ∧ (T250 x).1 = 31 := wf_35 w256 ha
          have hk262o : OB T250 x260 1 := ⟨by omega, by rw [hk262]; rfl, by omega⟩
          refine tn_getR (ci := 5) (i := 2) (n := 35) (x := x260) dX5_assignment_77 rfl lay_5 (by decide) fl5_47 ha rfl rfl (hx261) ?_
          refine tn_bipush dX5_assignment_80 (by decide) ?_
          refine tn_iload_n dX5_assignment_82 rfl 1 rfl ?_
          refine tn_iconst dX5_assignment_83 ?_
          refine tn_callV (M := m_X5_assignment) (pc := 84) (ix := 139) (ci := 1) (M' := m_X1_append) (As := [.int (iI 12), .int (iI v22), .int (iI 0)]) (rest := []) dX5_assignment_84 ok_X1_append im_X1_append se_X1_append ml5_139 np_X1_append rfl rfl hk262o rfl (Nat.le_of_ble_eq_true rfl) (Nat.le_of_ble_eq_true rfl) rfl (k_X1_append (d + 48) (T := T250) (σ := σ249) (a := x260) (k := 12) (x := v22) (y := 0) hk262o hk262 (by decide) (by omega) (by decide) w256 (RP.cnt rp259 w256 ha (hx261) (by omega)) (by omega)) (fun r264 T266 σ265 gt267 hp => ?_)
          obtain ⟨rfl, w270, F271, f268⟩ := hp
          obtain ⟨pl272, g273, fx274⟩ := f253.2 (by omega)
          have rf275 : GRF Sx [51, 23] jx 0 (bx) u0 (pl272) := GR.fl (l := [25]) [] rd65 g273
          have fx276 : FLC σ265 a (pl272) := FLC.fc fx274 F271 (by decide) (by decide)
          replace ha : OB T266 a 5 := gt267.ob ha
          have rp277 : RP σ265 a (kp - 4 * v55 - 7 * v255 + 1 + 1) := RP.app rp259 (hx261) F271 (by decide) (by decide) (by decide) (by decide) f268
          have rp278 : RP σ265 a (kp - 4 * v55 - 7 * v255 + 2) := RP.up rp277 (by omega)
          show Tn _ _ 87 T266 σ265 [(2, .int (iI v255)), (1, .int (iI v22)), (0, .ref a)] [] _
          refine tn_aload_n dX5_assignment_87 rfl 2 rfl ?_
          obtain ⟨x279, hx280, hk281⟩ : ∃ x : Nat, σ265.2.1 35 a = (x : Int) ∧ (T266 x).1 = 31 := wf_35 w270 ha
          have hk281o : OB T266 x279 1 := ⟨by omega, by rw [hk281]; rfl, by omega⟩
          refine tn_getR (ci := 5) (i := 2) (n := 35) (x := x279) dX5_assignment_88 rfl lay_5 (by decide) fl5_47 ha rfl rfl (hx280) ?_
          refine tn_aload_n dX5_assignment_91 rfl 2 rfl ?_
          refine tn_getR (ci := 5) (i := 2) (n := 35) (x := x279) dX5_assignment_92 rfl lay_5 (by decide) fl5_47 ha rfl rfl (hx280) ?_
          refine tn_getI (ci := 1) (i := 1) (n := 6) (t := σ265.2.1 6 x279) dX5_assignment_95 rfl lay_1 (by decide) fl5_146 hk281o rfl rfl (rfl) ?_
          have g283 : ((0 : Int) ≤ σ265.2.1 6 x279 ∧ σ265.2.1 6 x279 ≤ 5000) ∧ ((T266 x279).1 = 50 → σ265.2.1 6 x279 ≤ 200) := wf_6 w270 hk281o
          have g283x := g283.2
          replace g283 := g283.1
          clear g283x
          refine tn_iconst dX5_assignment_98 ?_
          refine tn_isub dX5_assignment_99 ?_
          refine tn_iconst dX5_assignment_100 ?_
          refine tn_iload_n dX5_assignment_101 rfl 1 rfl ?_
          refine tn_callV (M := m_X5_assignment) (pc := 102) (ix := 210) (ci := 1) (M' := m_X1_setWhere) (As := [.int (iI ((σ265.2.1 6 x279) - 1)), .int (iI 2), .int (iI v22)]) (rest := []) dX5_assignment_102 ok_X1_setWhere im_X1_setWhere se_X1_setWhere ml5_210 np_X1_setWhere rfl rfl hk281o rfl (Nat.le_of_ble_eq_true rfl) (Nat.le_of_ble_eq_true rfl) rfl (k_X1_setWhere (d + 49) (T := T266) (σ := σ265) (a := x279) (k := (σ265.2.1 6 x279) - 1) (y := 2) (z := v22) hk281o (by omega) (by decide) (by omega) w270 ) (fun r284 T286 σ285 gt287 hp => ?_)
          obtain ⟨rfl, rfl, w289, F290⟩ := hp
          clear gt287
          have fx291 : FLC σ285 a (pl272) := FLC.fc fx276 F290 (by decide) (by decide)
          have rp292 : RP σ285 a (kp - 4 * v55 - 7 * v255 + 2) := RP.frc rp278 F290 (by decide) (by decide) (by decide) (by decide) (by decide)
          show Tn _ _ 105 T266 σ285 [(2, .int (iI v255)), (1, .int (iI v22)), (0, .ref a)] [] _
          refine tn_iload_n dX5_assignment_105 rfl 0 rfl ?_
          have rb294 : YF σ285 a Sx bx [51, 23] jx := ⟨_, rf275, fx291⟩
          exact tn_zret (v := v255) rfl (by omega) dX5_assignment_106 ⟨_, rfl, w289, (((((((FrC.rfl.trans (FrC.sub F13 (by decide))).trans (FrC.sub (FrC.old F24 gt9) (by decide))).trans (FrC.sub (FrC.old F41 gt9) (by decide))).trans (FrC.sub (FrC.old F57 gt9) (by decide))).trans (FrC.sub (FrC.old F257 gt9) (by decide))).trans (FrC.sub (FrC.old F271 (GT.trans gt9 gt251)) (by decide))).trans (FrC.sub (FrC.old F290 (GT.trans (GT.trans gt9 gt251) gt267)) (by decide))), by omega, ⟨fun q => absurd q (by omega), fun _ => rb294⟩, (RP.up rp292 (by omega))⟩
        · refine tn_goto (tgt := 75) dX5_assignment_67 (by decide) ?_
          refine tn_istore_n (L' := [(2, .int (iI v255)), (1, .int (iI v22)), (0, .ref a)]) dX5_assignment_75 rfl (by decide) rfl ?_
          refine tn_aload_n dX5_assignment_76 rfl 2 rfl ?_
          obtain ⟨x295, hx296, hk297⟩ : ∃ x : Nat, σ249.2.1 35 a = (x : Int) ∧ (T250 x).1 = 31 := wf_35 w256 ha
          have hk297o : OB T250 x295 1 := ⟨by omega, by rw [hk297]; rfl, by omega⟩
          refine tn_getR (ci := 5) (i := 2) (n := 35) (x := x295) dX5_assignment_77 rfl lay_5 (by decide) fl5_47 ha rfl rfl (hx296) ?_
          refine tn_bipush dX5_assignment_80 (by decide) ?_
          refine tn_iload_n dX5_assignment_82 rfl 1 rfl ?_
          refine tn_iconst dX5_assignment_83 ?_
          refine tn_callV (M := m_X5_assignment) (pc := 84) (ix := 139) (ci := 1) (M' := m_X1_append) (As := [.int (iI 12), .int (iI v22), .int (iI 0)]) (rest := []) dX5_assignment_84 ok_X1_append im_X1_append se_X1_append ml5_139 np_X1_append rfl rfl hk297o rfl (Nat.le_of_ble_eq_true rfl) (Nat.le_of_ble_eq_true rfl) rfl (k_X1_append (d + 48) (T := T250) (σ := σ249) (a := x295) (k := 12) (x := v22) (y := 0) hk297o hk297 (by decide) (by omega) (by decide) w256 (RP.cnt rp259 w256 ha (hx296) (by omega)) (by omega)) (fun r299 T301 σ300 gt302 hp => ?_)
          obtain ⟨rfl, w305, F306, f303⟩ := hp
          obtain ⟨i307, es308, m309, lo310, rr311, fx312, fx312m⟩ := f253.1 (by omega)
          have fx312s : σ249.2.1 45 a ≤ (i307 : Int) := by rw [fx312.e45]; exact fx312m
          have rd313 : GR Sx [51, 23] jx 0 (bx) u0 [] i307 (0) (bx) u0 (0 + 1 + 0 + 0 + m309) ([(4, (tkS Sx jx).1, 0, (tkS Sx jx).2.2.2.2)] ++ es308) := GR.gg (l := [25]) (ms := []) [] rd65 rr311
          have fx314 : RDX σ300 a Sx nx i307 (es308.foldl uC (uC (cx) (4, (tkS Sx jx).1, 0, (tkS Sx jx).2.2.2.2))) (Nx + 1 - 1 + m309 + 1) := RDX.ap fx312 w256 ha (hx296) F306 f303
          replace ha : OB T301 a 5 := gt302.ob ha
          have rp315 : RP σ300 a (kp - 4 * v55 - 7 * v255 + 1 + 1) := RP.app rp259 (hx296) F306 (by decide) (by decide) (by decide) (by decide) f303
          have rp316 : RP σ300 a (kp - 4 * v55 - 7 * v255 + 2) := RP.up rp315 (by omega)
          show Tn _ _ 87 T301 σ300 [(2, .int (iI v255)), (1, .int (iI v22)), (0, .ref a)] [] _
          refine tn_aload_n dX5_assignment_87 rfl 2 rfl ?_
          obtain ⟨x317, hx318, hk319⟩ : ∃ x : Nat, σ300.2.1 35 a = (x : Int) ∧ (T301 x).1 = 31 := wf_35 w305 ha
          have hk319o : OB T301 x317 1 := ⟨by omega, by rw [hk319]; rfl, by omega⟩
          refine tn_getR (ci := 5) (i := 2) (n := 35) (x := x317) dX5_assignment_88 rfl lay_5 (by decide) fl5_47 ha rfl rfl (hx318) ?_
          refine tn_aload_n dX5_assignment_91 rfl 2 rfl ?_
          refine tn_getR (ci := 5) (i := 2) (n := 35) (x := x317) dX5_assignment_92 rfl lay_5 (by decide) fl5_47 ha rfl rfl (hx318) ?_
          refine tn_getI (ci := 1) (i := 1) (n := 6) (t := σ300.2.1 6 x317) dX5_assignment_95 rfl lay_1 (by decide) fl5_146 hk319o rfl rfl (rfl) ?_
          have g321 : ((0 : Int) ≤ σ300.2.1 6 x317 ∧ σ300.2.1 6 x317 ≤ 5000) ∧ ((T301 x317).1 = 50 → σ300.2.1 6 x317 ≤ 200) := wf_6 w305 hk319o
          have g321x := g321.2
          replace g321 := g321.1
          clear g321x
          refine tn_iconst dX5_assignment_98 ?_
          refine tn_isub dX5_assignment_99 ?_
          refine tn_iconst dX5_assignment_100 ?_
          refine tn_iload_n dX5_assignment_101 rfl 1 rfl ?_
          refine tn_callV (M := m_X5_assignment) (pc := 102) (ix := 210) (ci := 1) (M' := m_X1_setWhere) (As := [.int (iI ((σ300.2.1 6 x317) - 1)), .int (iI 2), .int (iI v22)]) (rest := []) dX5_assignment_102 ok_X1_setWhere im_X1_setWhere se_X1_setWhere ml5_210 np_X1_setWhere rfl rfl hk319o rfl (Nat.le_of_ble_eq_true rfl) (Nat.le_of_ble_eq_true rfl) rfl (k_X1_setWhere (d + 49) (T := T301) (σ := σ300) (a := x317) (k := (σ300.2.1 6 x317) - 1) (y := 2) (z := v22) hk319o (by omega) (by decide) (by omega) w305 ) (fun r322 T324 σ323 gt325 hp => ?_)
          obtain ⟨rfl, rfl, w327, F328⟩ := hp
          clear gt325
          have fx329 : RDX σ323 a Sx nx i307 (es308.foldl uC (uC (cx) (4, (tkS Sx jx).1, 0, (tkS Sx jx).2.2.2.2))) (Nx + 1 - 1 + m309 + 1) := RDX.fc fx314 w305 ha F328 (by decide) (by decide)
          have rp330 : RP σ323 a (kp - 4 * v55 - 7 * v255 + 2) := RP.frc rp316 F328 (by decide) (by decide) (by decide) (by decide) (by decide)
          show Tn _ _ 105 T301 σ323 [(2, .int (iI v255)), (1, .int (iI v22)), (0, .ref a)] [] _
          refine tn_iload_n dX5_assignment_105 rfl 0 rfl ?_
          have fe333 := RDX.nq (M := Nx + (0 + 1 + 0 + 0 + m309)) (RDX.cq (c2 := ([(4, (tkS Sx jx).1, 0, (tkS Sx jx).2.2.2.2)] ++ es308).foldl uC cx) fx329 (by simp only [List.foldl_append, List.foldl_cons, List.foldl_nil])) (by omega)
          have fe333m : (([(4, (tkS Sx jx).1, 0, (tkS Sx jx).2.2.2.2)] ++ es308).foldl uC cx).m = σ.2.1 45 a := (fe333.e45).symm.trans (rc_F F328 (Or.inl (by decide)) (by decide) (rc_F F306 (Or.inl (by decide)) (by decide) (rc_F F257 (Or.inl (by decide)) (by decide) (rc_F F57 (Or.inl (by decide)) (by decide) (rc_F F41 (Or.inl (by decide)) (by decide) (rc_F F24 (Or.inl (by decide)) (by decide) (rc_F F13 (Or.inl (by decide)) (by decide) (rfl))))))))
          have ra331 : YS σ323 a Sx nx bx [51, 23] jx cx (Nx) bx [] ((jx : Int) + 1) := ⟨i307, [(4, (tkS Sx jx).1, 0, (tkS Sx jx).2.2.2.2)] ++ es308, 0 + 1 + 0 + 0 + m309, (by omega), rd313, fe333, by rw [fe333m]; omega⟩
          exact tn_zret (v := v255) rfl (by omega) dX5_assignment_106 ⟨_, rfl, w327, (((((((FrC.rfl.trans (FrC.sub F13 (by decide))).trans (FrC.sub (FrC.old F24 gt9) (by decide))).trans (FrC.sub (FrC.old F41 gt9) (by decide))).trans (FrC.sub (FrC.old F57 gt9) (by decide))).trans (FrC.sub (FrC.old F257 gt9) (by decide))).trans (FrC.sub (FrC.old F306 (GT.trans gt9 gt251)) (by decide))).trans (FrC.sub (FrC.old F328 (GT.trans (GT.trans gt9 gt251) gt302)) (by decide))), by omega, ⟨fun _ => ra331, fun q => absurd q (by omega)⟩, (RP.up rp330 (by omega))⟩
  · refine tn_iconst dX5_assignment_35 ?_
    obtain ⟨kd336, fx337, tk338⟩ := f53.2 (by omega)
    have pc339 : GRF Sx [161] (jx + 1) (0) (bx) u0 (tkS Sx (jx + 1)).1 := z61 hSb kd336
    have rf340 : GRF Sx [51, 23] jx 0 (bx) u0 ((tkS Sx (jx + 1)).1) := GR.fl (l := [161]) [25] rd46 pc339
    have rb335 : YF σ49 a Sx bx [51, 23] jx := ⟨_, rf340, fx337⟩
    exact tn_zret (v := 0) rfl (by decide) dX5_assignment_36 ⟨_, rfl, w56, ((((FrC.rfl.trans (FrC.sub F13 (by decide))).trans (FrC.sub (FrC.old F24 gt9) (by decide))).trans (FrC.sub (FrC.old F41 gt9) (by decide))).trans (FrC.sub (FrC.old F57 gt9) (by decide))), by omega, ⟨fun q => absurd q (by decide), fun _ => rb335⟩, (RP.up rp59 (by omega))⟩
