set_option maxHeartbeats 4000000 in
set_option maxRecDepth 20000 in
theorem k_X5_setting_f (d : Nat) {T : CT} {σ : MS} {a : Nat} {r : Int} {kp : Int} {Sx : Int → Int} {nx jx : Nat} {cx : CS} {Nx : Int} {bx : Int} (ha : OB T a 5) (h_r : -2147483648 ≤ r ∧ r ≤ 2147483647) (hw : WT T σ) (hfx : RDX σ a Sx nx jx cx Nx) (hns : ¬ (ckd (tkS Sx jx) = 256 ∧ ckd (tkS Sx (jx + 1)) = 40)) (hkp : kp ≤ 150) (hrp : RP σ a kp) : Tn (d + 51) m_X5_setting 0 T σ [(0, .ref a), (1, .int (iI r))] [] (fun ro T2 σ2 => ∃ v : Int, ro = some (.int (iI v)) ∧ WT T2 σ2 ∧ FrC T [5, 6, 7, 43, 44, 47, 50, 51, 84, 85, 86, 87, 521] σ σ2 ∧ (v = 0 ∨ v = 1) ∧ (YQ σ2 a Sx nx bx [25] jx cx (Nx - 1) 2 v) ∧ (RP σ2 a (kp - 7 * v))) := by
  have hSb := hfx.1.sb
  have e45 := hfx.e45
  have hpo9 := hfx.po
  unfold PO at hpo9
  refine tn_aload_n dX5_setting_0 rfl 0 rfl ?_
  refine tn_iconst dX5_setting_1 ?_
  have pc1 : GR Sx [25] jx (0) (bx) u0 [2, 52, 159] jx (0) (bx) u0 0 [] := x25s hSb hns
  have rd20 : GR Sx [25] jx 0 (bx) u0 [25] jx (0) (bx) u0 (0) ([]) := GR.nl
  have rd2 : GR Sx [25] jx 0 (bx) u0 [2, 52, 159] jx (0) (bx) u0 (0 + 0) ([]) := GR.g0 (l := [25]) (ms := [2, 52, 159]) [] rd20 pc1
  refine tn_callV (M := m_X5_setting) (pc := 2) (ix := 213) (ci := 5) (M' := m_X5_expression) (As := [.int (iI 1)]) (rest := []) dX5_setting_2 ok_X5_expression im_X5_expression se_X5_expression ml5_213 np_X5_expression rfl rfl ha rfl (Nat.le_of_ble_eq_true rfl) (Nat.le_of_ble_eq_true rfl) rfl (k_X5_expression_f (d) (T := T) (σ := σ) (a := a) (dp := 1) (kp := kp) (eo := 0) ha (by decide) hw (by omega) hfx (by omega) (by omega) hrp) (fun r3 T5 σ4 gt6 hp => ?_)
  obtain ⟨v10, rfl, w11, F12, f7, f8, f9⟩ := hp
  replace ha : OB T5 a 5 := gt6.ob ha
  show Tn _ _ 5 T5 σ4 [(0, .ref a), (1, .int (iI r))] [.int (iI v10)] _
  refine tn_if_eq (tgt := 17) dX5_setting_5 (by decide) ⟨by omega, by omega⟩ (fun h14 => ?_) (fun h14 => ?_)
  · refine tn_iconst dX5_setting_17 ?_
    obtain ⟨pl17, g18, fx19⟩ := f8.2 (by omega)
    have g18g := g18 (bx) u0
    have rf20 : GRF Sx [25] jx 0 (bx) u0 (pl17) := GR.fl (l := [2]) [52, 159] rd2 g18g
    have rb16 : YF σ4 a Sx bx [25] jx := ⟨_, rf20, fx19⟩
    exact tn_zret (v := 0) rfl (by decide) dX5_setting_18 ⟨_, rfl, w11, (FrC.rfl.trans (FrC.sub F12 (by decide))), by omega, ⟨fun q => absurd q (by decide), fun _ => rb16⟩, (RP.up f9 (by omega))⟩
  · refine tn_aload_n dX5_setting_8 rfl 0 rfl ?_
    refine tn_bipush dX5_setting_9 (by decide) ?_
    obtain ⟨i21, es22, m23, lo24, rr25, fx26⟩ := f8.1 (by omega)
    have rr25g := rr25 (bx) u0
    have rd27a : GR Sx [25] jx 0 (bx) u0 [52, 159] i21 (0) (bx) u0 (0 + 0 + m23) ([] ++ es22) := GR.gg (l := [2]) (ms := []) [52, 159] rd2 rr25g
    have rd27 : GR Sx [25] jx 0 (bx) u0 [52, 159] i21 (0) (bx) u0 (0 + 0 + m23) (es22) := rd27a
    refine tn_callV (M := m_X5_setting) (pc := 11) (ix := 102) (ci := 5) (M' := m_X5_taken) (As := [.int (iI 59)]) (rest := []) dX5_setting_11 ok_X5_taken im_X5_taken se_X5_taken ml5_102 np_X5_taken rfl rfl ha rfl (Nat.le_of_ble_eq_true rfl) (Nat.le_of_ble_eq_true rfl) rfl (k_X5_taken_f (d + 48) (T := T5) (σ := σ4) (a := a) (s := 59) (kp := kp - 4 * v10) ha (by decide) w11 (by omega) fx26 (by omega) f9) (fun r28 T30 σ29 gt31 hp => ?_)
    obtain ⟨v35, rfl, rfl, w36, F37, f32, f33, f34⟩ := hp
    clear gt31
    have pc38 : GR Sx [52] i21 (0) (bx) u0 [] i21 (0) (bx) u0 2 [] := x52 hSb 
    have rd39 : GR Sx [25] jx 0 (bx) u0 [159] i21 (0) (bx) u0 (0 + 0 + m23 + 2) (es22) := GR.g0 (l := [52]) (ms := []) [159] rd27 pc38
    show Tn _ _ 14 T5 σ29 [(0, .ref a), (1, .int (iI r))] [.int (iI v35)] _
    refine tn_if_ne (tgt := 19) dX5_setting_14 (by decide) ⟨by omega, by omega⟩ (fun h41 => ?_) (fun h41 => ?_)
    · refine tn_aload_n dX5_setting_19 rfl 0 rfl ?_
      obtain ⟨x42, hx43, hk44⟩ : ∃ x : Nat, σ4.2.1 35 a = (x : Int) ∧ (T5 x).1 = 31 := wf_35 w11 ha
      have hk44o : OB T5 x42 1 := ⟨by omega, by rw [hk44]; rfl, by omega⟩
      refine tn_getR (ci := 5) (i := 2) (n := 35) (x := x42) dX5_setting_20 rfl lay_5 (by decide) fl5_47 ha rfl rfl (rc_F F37 (Or.inl (by decide)) (by decide) (hx43)) ?_
      refine tn_iconst dX5_setting_23 ?_
      refine tn_iload_n dX5_setting_24 rfl 1 rfl ?_
      refine tn_iconst dX5_setting_25 ?_
      have q50 : σ29.2.1 6 x42 = σ4.2.1 6 x42 := rc_F F37 (Or.inl (by decide)) (by decide) (rfl)
      refine tn_callV (M := m_X5_setting) (pc := 26) (ix := 139) (ci := 1) (M' := m_X1_append) (As := [.int (iI 0), .int (iI r), .int (iI 0)]) (rest := []) dX5_setting_26 ok_X1_append im_X1_append se_X1_append ml5_139 np_X1_append rfl rfl hk44o rfl (Nat.le_of_ble_eq_true rfl) (Nat.le_of_ble_eq_true rfl) rfl (k_X1_append (d + 47) (T := T5) (σ := σ29) (a := x42) (k := 0) (x := r) (y := 0) hk44o hk44 (by decide) (by omega) (by decide) w36 (RP.cnt f34 w36 ha (rc_F F37 (Or.inl (by decide)) (by decide) (hx43)) (by omega)) (by omega)) (fun r46 T48 σ47 gt49 hp => ?_)
      obtain ⟨rfl, w53, F54, f51⟩ := hp
      obtain ⟨kd56, fx55⟩ := f33.1 (by omega)
      have pc57 : GR Sx [159] i21 (0) (bx) u0 [] (i21 + 1) (0) (bx) u0 0 [] := y59 hSb kd56
      have rd58 : GR Sx [25] jx 0 (bx) u0 [] (i21 + 1) (0) (bx) u0 (0 + 0 + m23 + 2 + 0) (es22) := GR.g0 (l := [159]) (ms := []) [] rd39 pc57
      have fx59 : RDX σ47 a Sx nx (i21 + 1) (es22.foldl uC (cx)) (Nx + m23 + 1) := RDX.ap fx55 w36 ha (rc_F F37 (Or.inl (by decide)) (by decide) (hx43)) F54 f51
      replace ha : OB T48 a 5 := gt49.ob ha
      have rp60 : RP σ47 a (kp - 4 * v10 - 4 * v35 + 1) := RP.app f34 (rc_F F37 (Or.inl (by decide)) (by decide) (hx43)) F54 (by decide) (by decide) (by decide) (by decide) f51
      show Tn _ _ 29 T48 σ47 [(0, .ref a), (1, .int (iI r))] [] _
      refine tn_aload_n dX5_setting_29 rfl 0 rfl ?_
      obtain ⟨x61, hx62, hk63⟩ : ∃ x : Nat, σ47.2.1 35 a = (x : Int) ∧ (T48 x).1 = 31 := wf_35 w53 ha
      have hk63o : OB T48 x61 1 := ⟨by omega, by rw [hk63]; rfl, by omega⟩
      refine tn_getR (ci := 5) (i := 2) (n := 35) (x := x61) dX5_setting_30 rfl lay_5 (by decide) fl5_47 ha rfl rfl (hx62) ?_
      refine tn_iconst dX5_setting_33 ?_
      refine tn_aload_n dX5_setting_34 rfl 0 rfl ?_
      refine tn_getI (ci := 5) (i := 17) (n := 50) (t := σ47.2.1 50 a) dX5_setting_35 rfl lay_5 (by decide) fl5_216 ha rfl rfl (rfl) ?_
      have g65 : ((-2147483648 : Int) ≤ σ47.2.1 50 a ∧ σ47.2.1 50 a ≤ 2147483647) := wf_50 w53 ha
      refine tn_aload_n dX5_setting_38 rfl 0 rfl ?_
      refine tn_getI (ci := 5) (i := 18) (n := 51) (t := σ47.2.1 51 a) dX5_setting_39 rfl lay_5 (by decide) fl5_219 ha rfl rfl (rfl) ?_
      have g66 : ((-2147483648 : Int) ≤ σ47.2.1 51 a ∧ σ47.2.1 51 a ≤ 2147483647) := wf_51 w53 ha
      refine tn_callV (M := m_X5_setting) (pc := 42) (ix := 143) (ci := 1) (M' := m_X1_lastOperand) (As := [.int (iI 0), .int (iI (σ47.2.1 50 a)), .int (iI (σ47.2.1 51 a))]) (rest := []) dX5_setting_42 ok_X1_lastOperand im_X1_lastOperand se_X1_lastOperand ml5_143 np_X1_lastOperand rfl rfl hk63o rfl (Nat.le_of_ble_eq_true rfl) (Nat.le_of_ble_eq_true rfl) rfl (k_X1_lastOperand (d + 49) (T := T48) (σ := σ47) (a := x61) (i := 0) (k := σ47.2.1 50 a) (y := σ47.2.1 51 a) hk63o (by decide) (by omega) (by omega) w53 ) (fun r67 T69 σ68 gt70 hp => ?_)
      obtain ⟨rfl, rfl, w72, F73⟩ := hp
      clear gt70
      have fx74 : RDX σ68 a Sx nx (i21 + 1) (es22.foldl uC (cx)) (Nx + m23 + 1) := RDX.fc fx59 w53 ha F73 (by decide) (by decide)
      have rp75 : RP σ68 a (kp - 4 * v10 - 4 * v35 + 1) := RP.frc rp60 F73 (by decide) (by decide) (by decide) (by decide) (by decide)
      show Tn _ _ 45 T48 σ68 [(0, .ref a), (1, .int (iI r))] [] _
      refine tn_iconst dX5_setting_45 ?_
      have fe78 := RDX.nq (M := (Nx - 1) + (0 + 0 + m23 + 2 + 0)) (RDX.cq (c2 := (es22).foldl uC cx) fx74 rfl) (by omega)
      have fe78m : ((es22).foldl uC cx).m = σ.2.1 45 a := (fe78.e45).symm.trans (rc_F F73 (Or.inl (by decide)) (by decide) (rc_F F54 (Or.inl (by decide)) (by decide) (rc_F F37 (Or.inl (by decide)) (by decide) (rc_F F12 (Or.inl (by decide)) (by decide) (rfl)))))
      have ra76 : YS σ68 a Sx nx bx [25] jx cx (Nx - 1) bx [] ((jx : Int) + 2) := ⟨(i21 + 1), es22, 0 + 0 + m23 + 2 + 0, (by omega), rd58, fe78, by rw [fe78m]; omega⟩
      exact tn_zret (v := 1) rfl (by decide) dX5_setting_46 ⟨_, rfl, w72, ((((FrC.rfl.trans (FrC.sub F12 (by decide))).trans (FrC.sub (FrC.old F37 gt6) (by decide))).trans (FrC.sub (FrC.old F54 gt6) (by decide))).trans (FrC.sub (FrC.old F73 (GT.trans gt6 gt49)) (by decide))), by omega, ⟨fun _ => ra76, fun q => absurd q (by decide)⟩, (RP.up rp75 (by omega))⟩
    · refine tn_iconst dX5_setting_17 ?_
      obtain ⟨kd81, fx82, tk83⟩ := f33.2 (by omega)
      have pc84 : GRF Sx [159] i21 (0) (bx) u0 (tkS Sx i21).1 := z59 hSb kd81
      have rf85 : GRF Sx [25] jx 0 (bx) u0 ((tkS Sx i21).1) := GR.fl (l := [159]) [] rd39 pc84
      have rb80 : YF σ29 a Sx bx [25] jx := ⟨_, rf85, fx82⟩
      exact tn_zret (v := 0) rfl (by decide) dX5_setting_18 ⟨_, rfl, w36, ((FrC.rfl.trans (FrC.sub F12 (by decide))).trans (FrC.sub (FrC.old F37 gt6) (by decide))), by omega, ⟨fun q => absurd q (by decide), fun _ => rb80⟩, (RP.up f34 (by omega))⟩
