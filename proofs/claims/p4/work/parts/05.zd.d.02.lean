set_option maxHeartbeats 4000000 in
set_option maxRecDepth 20000 in
theorem k_X5_factor_f (d : Nat) {T : CT} {σ : MS} {a : Nat} {dp : Int} {kp : Int} {lv : Nat} {Sx : Int → Int} {nx jx : Nat} {cx : CS} {Nx : Int} {eo : Int} (ha : OB T a 5) (h_dp : -2147483648 ≤ dp ∧ dp ≤ 2147483647) (hw : WT T σ) (hex : ∀ (d : Nat) {T : CT} {σ : MS} {a : Nat} {dp : Int} {kp : Int} {Sx : Int → Int} {nx jx : Nat} {cx : CS} {Nx : Int} {eo : Int} (ha : OB T a 5) (h_dp : -2147483648 ≤ dp ∧ dp ≤ 2147483647) (hw : WT T σ) (hdp : 1 ≤ dp ∧ dp ≤ 9) (hlv : 9 ≤ dp + (lv : Int)) (hfx : RDX σ a Sx nx jx cx Nx) (heo : eo = dp - 1) (hkp : kp ≤ 150) (hrp : RP σ a kp), Tn (d + 5 * lv + 10) m_X5_expression 0 T σ [(0, .ref a), (1, .int (iI dp))] [] (fun ro T2 σ2 => ∃ v : Int, ro = some (.int (iI v)) ∧ WT T2 σ2 ∧ FrC T [5, 6, 7, 43, 44, 47, 50, 51, 84, 85, 86, 87, 521] σ σ2 ∧ (v = 0 ∨ v = 1) ∧ (XQ σ2 a Sx nx (eo) [2] jx cx Nx v) ∧ (RP σ2 a (kp - 4 * v)))) (hdp : 1 ≤ dp ∧ dp ≤ 8) (hlv : 8 ≤ dp + (lv : Int)) (hfx : RDX σ a Sx nx jx cx Nx) (heo : eo = dp) (hkp : kp ≤ 150) (hrp : RP σ a kp) : Tn (d + 5 * lv + 12) m_X5_factor 0 T σ [(0, .ref a), (1, .int (iI dp))] [] (fun ro T2 σ2 => ∃ v : Int, ro = some (.int (iI v)) ∧ WT T2 σ2 ∧ FrC T [5, 6, 7, 43, 44, 47, 50, 51, 84, 85, 86, 87, 521] σ σ2 ∧ (v = 0 ∨ v = 1) ∧ (XQ σ2 a Sx nx (eo) [0] jx cx Nx v) ∧ (RP σ2 a (kp - 4 * v))) := by
  have hSb := hfx.1.sb
  refine tn_aload_n dX5_factor_0 rfl 0 rfl ?_
  obtain ⟨x1, hx2, hk3⟩ : ∃ x : Nat, σ.2.1 33 a = (x : Int) ∧ (T x).1 = 39 := wf_33 hw ha
  have hk3o : OB T x1 9 := ⟨by omega, by rw [hk3]; rfl, by omega⟩
  refine tn_getR (ci := 5) (i := 0) (n := 33) (x := x1) dX5_factor_1 rfl lay_5 (by decide) fl5_12 ha rfl rfl (hx2) ?_
  refine tn_getI (ci := 9) (i := 4) (n := 85) (t := σ.2.1 85 x1) dX5_factor_4 rfl lay_9 (by decide) fl5_71 hk3o rfl rfl (rfl) ?_
  have g5 : ((-2147483648 : Int) ≤ σ.2.1 85 x1 ∧ σ.2.1 85 x1 ≤ 2147483647) := wf_85 hw hk3o
  have g5kd : σ.2.1 85 x1 = ckd (tkS Sx jx) := (rfl).symm.trans ((hfx).1.kd (hx2))
  refine tn_bipush dX5_factor_7 (by decide) ?_
  refine tn_icmp_eq (tgt := 18) dX5_factor_9 (by decide) ⟨by omega, by omega⟩ ⟨by decide, by decide⟩ (fun h6 => ?_) (fun h6 => ?_)
  · refine tn_aload_n dX5_factor_18 rfl 0 rfl ?_
    refine tn_getR (ci := 5) (i := 0) (n := 33) (x := x1) dX5_factor_19 rfl lay_5 (by decide) fl5_12 ha rfl rfl (hx2) ?_
    refine tn_callV (M := m_X5_factor) (pc := 22) (ix := 93) (ci := 9) (M' := m_X9_next) (As := []) (rest := []) dX5_factor_22 ok_X9_next im_X9_next se_X9_next ml5_93 np_X9_next rfl rfl hk3o rfl (Nat.le_of_ble_eq_true rfl) (Nat.le_of_ble_eq_true rfl) rfl (k_X9_next_f (d + 5 * lv + 10) (T := T) (σ := σ) (a := x1) hk3o hw (RP.tk hrp hw ha (hx2)) ((hfx).1.tk (hx2)) (by rw [(hfx).1.kd (hx2)]; omega)) (fun r7 T9 σ8 gt10 hp => ?_)
    obtain ⟨rfl, rfl, w16, F17, f11, f12, f13, f14⟩ := hp
    clear gt10
    have pc19 : EXR Sx (eo) [0] jx (eo) [1, 51] (jx + 1) 0 [] := fun _ _ => x0m hSb (by omega)
    have rd200 : EXR Sx (eo) [0] jx (eo) [0] jx (0) ([]) := EXR.nl
    have rd20 : EXR Sx (eo) [0] jx (eo) [1, 51] (jx + 1) (0 + 0) ([]) := EXR.g0 (l := [0]) (ms := [1, 51]) [] rd200 pc19
    have fx18 : RDX σ8 a Sx nx (jx + 1) (cx) (Nx) := RDX.nx hfx hw ha (hx2) F17 f14
    have rp21 : RP σ8 a (kp - 4) := RP.next4 hrp (hx2) F17 (by decide) (by decide) (by decide) f11 f13 (by rw [show σ.2.1 85 x1 = σ.2.1 85 x1 from rfl]; omega)
    show Tn _ _ 25 T σ8 [(0, .ref a), (1, .int (iI dp))] [] _
    refine tn_aload_n dX5_factor_25 rfl 0 rfl ?_
    refine tn_iload_n dX5_factor_26 rfl 1 rfl ?_
    refine tn_callV (M := m_X5_factor) (pc := 27) (ix := 253) (ci := 5) (M' := m_X5_atom) (As := [.int (iI dp)]) (rest := []) dX5_factor_27 ok_X5_atom im_X5_atom se_X5_atom ml5_253 np_X5_atom rfl rfl ha rfl (Nat.le_of_ble_eq_true rfl) (Nat.le_of_ble_eq_true rfl) rfl (k_X5_atom_f (d) (T := T) (σ := σ8) (a := a) (dp := dp) (kp := kp - 4) (lv := lv) (eo := eo) ha (by omega) w16 hex (by omega) (by omega) fx18 (by omega) (by omega) rp21) (fun r22 T24 σ23 gt25 hp => ?_)
    obtain ⟨v29, rfl, w30, F31, f26, f27, f28⟩ := hp
    replace ha : OB T24 a 5 := gt25.ob ha
    have rp33 : RP σ23 a (kp - 4 * v29 - 4) := RP.up f28 (by omega)
    show Tn _ _ 30 T24 σ23 [(0, .ref a), (1, .int (iI dp))] [.int (iI v29)] _
    refine tn_if_ne (tgt := 35) dX5_factor_30 (by decide) ⟨by omega, by omega⟩ (fun h34 => ?_) (fun h34 => ?_)
    · refine tn_aload_n dX5_factor_35 rfl 0 rfl ?_
      refine tn_iconst dX5_factor_36 ?_
      refine tn_iconst dX5_factor_37 ?_
      refine tn_iconst dX5_factor_38 ?_
      obtain ⟨i35, es36, m37, lo38, rr39, fx40⟩ := f27.1 (by omega)
      have rd41a : EXR Sx (eo) [0] jx (eo) [51] i35 (0 + 0 + m37) ([] ++ es36) := EXR.gg (l := [1]) (ms := []) [51] rd20 rr39
      have rd41 : EXR Sx (eo) [0] jx (eo) [51] i35 (0 + 0 + m37) (es36) := rd41a
      refine tn_callV (M := m_X5_factor) (pc := 39) (ix := 244) (ci := 5) (M' := m_X5_join) (As := [.int (iI 2), .int (iI 1), .int (iI 0)]) (rest := []) dX5_factor_39 ok_X5_join im_X5_join se_X5_join ml5_244 np_X5_join rfl rfl ha rfl (Nat.le_of_ble_eq_true rfl) (Nat.le_of_ble_eq_true rfl) rfl (k_X5_join_f (d + 5 * lv + 7) (T := T24) (σ := σ23) (a := a) (k := 2) (e := 1) (l := 0) (kp := kp - 4 * v29 - 4) ha (by decide) (by decide) (by decide) w30 (by omega) fx40 (by omega) rp33) (fun r42 T44 σ43 gt45 hp => ?_)
      obtain ⟨rfl, w49, F50, f46, f47⟩ := hp
      replace ha : OB T44 a 5 := gt45.ob ha
      have rp52 : RP σ43 a (kp - 4 * v29 - 3) := RP.up f47 (by omega)
      show Tn _ _ 42 T44 σ43 [(0, .ref a), (1, .int (iI dp))] [] _
      refine tn_iconst dX5_factor_42 ?_
      have pc55 : EXR Sx (eo) [51] i35 (eo) [] i35 1 [] := fun _ _ => x51 hSb 
      have rd56 : EXR Sx (eo) [0] jx (eo) [] i35 (0 + 0 + m37 + 1) (es36) := EXR.g0 (l := [51]) (ms := []) [] rd41 pc55
      have ra53 : XS σ43 a Sx nx (eo) [0] jx cx Nx (eo) [] ((jx : Int) + 1) := ⟨i35, es36, 0 + 0 + m37 + 1, (by omega), rd56, RDX.nq (RDX.cq f46 rfl) (by omega)⟩
      exact tn_zret (v := 1) rfl (by decide) dX5_factor_43 ⟨_, rfl, w49, (((FrC.rfl.trans (FrC.sub F17 (by decide))).trans (FrC.sub F31 (by decide))).trans (FrC.sub (FrC.old F50 gt25) (by decide))), by omega, ⟨fun _ => ra53, fun q => absurd q (by decide)⟩, (RP.up rp52 (by omega))⟩
    · refine tn_iconst dX5_factor_33 ?_
      obtain ⟨pl59, g60, fx61⟩ := f27.2 (by omega)
      have rf62 : EXF Sx (eo) [0] jx (pl59) := EXR.fl (l := [1]) [51] rd20 g60
      have rb58 : XFc σ23 a Sx (eo) [0] jx := ⟨_, rf62, fx61⟩
      exact tn_zret (v := 0) rfl (by decide) dX5_factor_34 ⟨_, rfl, w30, ((FrC.rfl.trans (FrC.sub F17 (by decide))).trans (FrC.sub F31 (by decide))), by omega, ⟨fun q => absurd q (by decide), fun _ => rb58⟩, (RP.up rp33 (by omega))⟩
  · refine tn_aload_n dX5_factor_12 rfl 0 rfl ?_
    refine tn_iload_n dX5_factor_13 rfl 1 rfl ?_
    have pc63 : EXR Sx (eo) [0] jx (eo) [1] jx 0 [] := fun _ _ => x0n hSb (by omega)
    have rd640 : EXR Sx (eo) [0] jx (eo) [0] jx (0) ([]) := EXR.nl
    have rd64 : EXR Sx (eo) [0] jx (eo) [1] jx (0 + 0) ([]) := EXR.g0 (l := [0]) (ms := [1]) [] rd640 pc63
    refine tn_callV (M := m_X5_factor) (pc := 14) (ix := 253) (ci := 5) (M' := m_X5_atom) (As := [.int (iI dp)]) (rest := []) dX5_factor_14 ok_X5_atom im_X5_atom se_X5_atom ml5_253 np_X5_atom rfl rfl ha rfl (Nat.le_of_ble_eq_true rfl) (Nat.le_of_ble_eq_true rfl) rfl (k_X5_atom_f (d) (T := T) (σ := σ) (a := a) (dp := dp) (kp := kp) (lv := lv) (eo := eo) ha (by omega) hw hex (by omega) (by omega) hfx (by omega) (by omega) hrp) (fun r65 T67 σ66 gt68 hp => ?_)
    obtain ⟨v72, rfl, w73, F74, f69, f70, f71⟩ := hp
    replace ha : OB T67 a 5 := gt68.ob ha
    show Tn _ _ 17 T67 σ66 [(0, .ref a), (1, .int (iI dp))] [.int (iI v72)] _
    have ra76 : v72 = 1 → XS σ66 a Sx nx (eo) [0] jx cx Nx (eo) [] ((jx : Int) + 1) := fun hv => by
      obtain ⟨i78, es79, m80, lo81, rr82, fx83⟩ := f70.1 hv
      have rd84a : EXR Sx (eo) [0] jx (eo) [] i78 (0 + 0 + m80) ([] ++ es79) := EXR.gg (l := [1]) (ms := []) [] rd64 rr82
      have rd84 : EXR Sx (eo) [0] jx (eo) [] i78 (0 + 0 + m80) (es79) := rd84a
      exact ⟨i78, es79, 0 + 0 + m80, (by omega), rd84, RDX.nq (RDX.cq fx83 rfl) (by omega)⟩
    have rb77 : v72 = 0 → XFc σ66 a Sx (eo) [0] jx := fun hv => by
      obtain ⟨pl85, g86, fx87⟩ := f70.2 hv
      have rf88 : EXF Sx (eo) [0] jx (pl85) := EXR.fl (l := [1]) [] rd64 g86
      exact ⟨_, rf88, fx87⟩
    exact tn_zret (v := v72) rfl (by omega) dX5_factor_17 ⟨_, rfl, w73, (FrC.rfl.trans (FrC.sub F74 (by decide))), by omega, ⟨ra76, rb77⟩, (RP.up f71 (by omega))⟩
