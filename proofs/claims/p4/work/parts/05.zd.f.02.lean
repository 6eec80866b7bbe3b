set_option maxHeartbeats 4000000 in
set_option maxRecDepth 20000 in
theorem k_X5_header_f (d : Nat) {T : CT} {σ : MS} {a : Nat} {Sx : Int → Int} {nx jx : Nat} {cx : CS} (ha : OB T a 5) (hw : WT T σ) (hrt : RT σ a) (hf0 : RD0 σ a Sx nx jx cx) (hpo : 5 * cx.rn ≤ (jx : Int)) (hr0 : 0 ≤ cx.rn) : Tn (d + 5) m_X5_header 0 T σ [(0, .ref a)] [] (fun ro T2 σ2 => ∃ v : Int, ro = some (.int (iI v)) ∧ T = T2 ∧ WT T2 σ2 ∧ FrC T [6, 7, 8, 9, 10, 35, 38, 43, 44, 46, 47, 84, 85, 86, 87, 516, 517, 521] σ σ2 ∧ (v = 0 ∨ v = 1) ∧ (v = 1 → RP σ2 a 4) ∧ (HQ9 σ2 a Sx nx jx cx v)) := by
  have hSb := hf0.sb
  have hjn := RD0.jn hf0 hw ha
  refine tn_aload_n dX5_header_0 rfl 0 rfl ?_
  obtain ⟨x1, hx2, hk3⟩ : ∃ x : Nat, σ.2.1 33 a = (x : Int) ∧ (T x).1 = 39 := wf_33 hw ha
  have hk3o : OB T x1 9 := ⟨by omega, by rw [hk3]; rfl, by omega⟩
  refine tn_getR (ci := 5) (i := 0) (n := 33) (x := x1) dX5_header_1 rfl lay_5 (by decide) fl5_12 ha rfl rfl (hx2) ?_
  refine tn_getI (ci := 9) (i := 4) (n := 85) (t := σ.2.1 85 x1) dX5_header_4 rfl lay_9 (by decide) fl5_71 hk3o rfl rfl (rfl) ?_
  have g5 : ((-2147483648 : Int) ≤ σ.2.1 85 x1 ∧ σ.2.1 85 x1 ≤ 2147483647) := wf_85 hw hk3o
  have g5kd : σ.2.1 85 x1 = ckd (tkS Sx jx) := (rfl).symm.trans ((hf0).kd (hx2))
  refine tn_sipush dX5_header_7 (by decide) ?_
  refine tn_icmp_eq (tgt := 18) dX5_header_10 (by decide) ⟨by omega, by omega⟩ ⟨by decide, by decide⟩ (fun h6 => ?_) (fun h6 => ?_)
  · have hk256 : ckd (tkS Sx jx) = 256 := by omega
    refine tn_aload_n dX5_header_18 rfl 0 rfl ?_
    refine tn_aload_n dX5_header_19 rfl 0 rfl ?_
    refine tn_getR (ci := 5) (i := 0) (n := 33) (x := x1) dX5_header_20 rfl lay_5 (by decide) fl5_12 ha rfl rfl (hx2) ?_
    refine tn_getI (ci := 9) (i := 5) (n := 86) (t := σ.2.1 86 x1) dX5_header_23 rfl lay_9 (by decide) fl5_96 hk3o rfl rfl (rfl) ?_
    have g7 : ((-2147483648 : Int) ≤ σ.2.1 86 x1 ∧ σ.2.1 86 x1 ≤ 2147483647) := wf_86 hw hk3o
    have g7ky : NKY (tkS Sx jx) (σ.2.1 86 x1) := by rw [← show σ.2.1 86 x1 = σ.2.1 86 x1 from rfl]; exact (hf0).ky (hx2)
    refine tn_callV (M := m_X5_header) (pc := 26) (ix := 99) (ci := 5) (M' := m_X5_openRoutine) (As := [.int (iI (σ.2.1 86 x1))]) (rest := []) dX5_header_26 ok_X5_openRoutine im_X5_openRoutine se_X5_openRoutine ml5_99 np_X5_openRoutine rfl rfl ha rfl (Nat.le_of_ble_eq_true rfl) (Nat.le_of_ble_eq_true rfl) rfl (k_X5_openRoutine_f (d + 1) (T := T) (σ := σ) (a := a) (k := σ.2.1 86 x1) ha (by omega) hw hrt hf0 (g7ky.kw ((ck_nam (tkS_v hSb jx)).mp hk256).1) hpo) (fun r8 T10 σ9 gt11 hp => ?_)
    obtain ⟨rfl, rfl, w15, F16, f12, f13⟩ := hp
    clear gt11
    show Tn _ _ 29 T σ9 [(0, .ref a)] [] _
    refine tn_aload_n dX5_header_29 rfl 0 rfl ?_
    refine tn_getR (ci := 5) (i := 0) (n := 33) (x := x1) dX5_header_30 rfl lay_5 (by decide) fl5_12 ha rfl rfl (rc_F F16 (Or.inl (by decide)) (by decide) (hx2)) ?_
    have q21 : σ9.2.1 84 x1 = σ.2.1 84 x1 := rc_F F16 (Or.inl (by decide)) (by decide) (rfl)
    refine tn_callV (M := m_X5_header) (pc := 33) (ix := 93) (ci := 9) (M' := m_X9_next) (As := []) (rest := []) dX5_header_33 ok_X9_next im_X9_next se_X9_next ml5_93 np_X9_next rfl rfl hk3o rfl (Nat.le_of_ble_eq_true rfl) (Nat.le_of_ble_eq_true rfl) rfl (k_X9_next_f (d + 3) (T := T) (σ := σ9) (a := x1) hk3o w15 (RP.tk f12 w15 ha (rc_F F16 (Or.inl (by decide)) (by decide) (hx2))) ((f13).1.tk (rc_F F16 (Or.inl (by decide)) (by decide) (hx2))) (by rw [(f13).1.kd (rc_F F16 (Or.inl (by decide)) (by decide) (hx2))]; omega)) (fun r17 T19 σ18 gt20 hp => ?_)
    obtain ⟨rfl, rfl, w27, F28, f22, f23, f24, f25⟩ := hp
    clear gt20
    have fx29 : RDX σ18 a Sx nx (jx + 1) (uC cx (2, (tkS Sx jx).1, 0, (tkS Sx jx).2.2.2.2)) (0) := RDX.nx f13 w15 ha (rc_F F16 (Or.inl (by decide)) (by decide) (hx2)) F28 f25
    have rp30 : RP σ18 a (4 - 4) := RP.next4 f12 (rc_F F16 (Or.inl (by decide)) (by decide) (hx2)) F28 (by decide) (by decide) (by decide) f22 f24 (by rw [show σ9.2.1 85 x1 = σ.2.1 85 x1 from rc_F F16 (Or.inl (by decide)) (by decide) (rfl)]; omega)
    have rp31 : RP σ18 a (0) := RP.up rp30 (by omega)
    show Tn _ _ 36 T σ18 [(0, .ref a)] [] _
    refine tn_aload_n dX5_header_36 rfl 0 rfl ?_
    refine tn_bipush dX5_header_37 (by decide) ?_
    refine tn_callV (M := m_X5_header) (pc := 39) (ix := 102) (ci := 5) (M' := m_X5_taken) (As := [.int (iI 40)]) (rest := []) dX5_header_39 ok_X5_taken im_X5_taken se_X5_taken ml5_102 np_X5_taken rfl rfl ha rfl (Nat.le_of_ble_eq_true rfl) (Nat.le_of_ble_eq_true rfl) rfl (k_X5_taken_f (d + 2) (T := T) (σ := σ18) (a := a) (s := 40) (kp := 0) ha (by decide) w27 (by omega) fx29 (by omega) rp31) (fun r32 T34 σ33 gt35 hp => ?_)
    obtain ⟨v39, rfl, rfl, w40, F41, f36, f37, f38⟩ := hp
    clear gt35
    have rp43 : RP σ33 a (- 4 * v39) := RP.up f38 (by omega)
    show Tn _ _ 42 T σ33 [(0, .ref a)] [.int (iI v39)] _
    refine tn_if_eq (tgt := 65) dX5_header_42 (by decide) ⟨by omega, by omega⟩ (fun h44 => ?_) (fun h44 => ?_)
    · refine tn_iconst dX5_header_65 ?_
      obtain ⟨kd45, fx46, tk47⟩ := f37.2 (by omega)
      exact tn_zret (v := 0) rfl (by decide) dX5_header_66 ⟨_, rfl, rfl, w40, (((FrC.rfl.trans (FrC.sub F16 (by decide))).trans (FrC.sub F28 (by decide))).trans (FrC.sub F41 (by decide))), by omega, fun _ => (RP.up rp43 (by omega)), ⟨fun q => absurd q (by decide), fun _ => ⟨_, HD.f40 hSb hk256 kd45, fx46⟩⟩⟩
    · refine tn_aload_n dX5_header_45 rfl 0 rfl ?_
      obtain ⟨kd49, fx48⟩ := f37.1 (by omega)
      refine tn_callV (M := m_X5_header) (pc := 46) (ix := 106) (ci := 5) (M' := m_X5_parameters) (As := []) (rest := []) dX5_header_46 ok_X5_parameters im_X5_parameters se_X5_parameters ml5_106 np_X5_parameters rfl rfl ha rfl (Nat.le_of_ble_eq_true rfl) (Nat.le_of_ble_eq_true rfl) rfl (k_X5_parameters_f (d) (T := T) (σ := σ33) (a := a) (kp := - 4 * v39) (rp := (tkS Sx jx).1) ha w40 fx48 ⟨by show 1 ≤ cx.rn + 1; omega, by show cx.rn + 1 ≤ 256; omega⟩ (by omega) (by omega) rp43) (fun r51 T53 σ52 gt54 hp => ?_)
      obtain ⟨v58, rfl, rfl, w59, F60, f55, f56, f57⟩ := hp
      clear gt54
      show Tn _ _ 49 T σ52 [(0, .ref a)] [.int (iI v58)] _
      refine tn_if_eq (tgt := 65) dX5_header_49 (by decide) ⟨by omega, by omega⟩ (fun h62 => ?_) (fun h62 => ?_)
      · refine tn_iconst dX5_header_65 ?_
        obtain ⟨pl63, g64, fx65⟩ := f56.2 (by omega)
        exact tn_zret (v := 0) rfl (by decide) dX5_header_66 ⟨_, rfl, rfl, w59, ((((FrC.rfl.trans (FrC.sub F16 (by decide))).trans (FrC.sub F28 (by decide))).trans (FrC.sub F41 (by decide))).trans (FrC.sub F60 (by decide))), by omega, fun _ => (RP.up f57 (by omega)), ⟨fun q => absurd q (by decide), fun _ => ⟨_, HD.fpr hSb hk256 kd49 g64, fx65⟩⟩⟩
      · refine tn_aload_n dX5_header_52 rfl 0 rfl ?_
        refine tn_bipush dX5_header_53 (by decide) ?_
        obtain ⟨i66, es67, k68, lo69, pr70, fx71, fx71rn⟩ := f56.1 (by omega)
        refine tn_callV (M := m_X5_header) (pc := 55) (ix := 102) (ci := 5) (M' := m_X5_taken) (As := [.int (iI 41)]) (rest := []) dX5_header_55 ok_X5_taken im_X5_taken se_X5_taken ml5_102 np_X5_taken rfl rfl ha rfl (Nat.le_of_ble_eq_true rfl) (Nat.le_of_ble_eq_true rfl) rfl (k_X5_taken_f (d + 2) (T := T) (σ := σ52) (a := a) (s := 41) (kp := - 4 * v39) ha (by decide) w59 (by omega) fx71 (by omega) f57) (fun r72 T74 σ73 gt75 hp => ?_)
        obtain ⟨v79, rfl, rfl, w80, F81, f76, f77, f78⟩ := hp
        clear gt75
        show Tn _ _ 58 T σ73 [(0, .ref a)] [.int (iI v79)] _
        refine tn_if_eq (tgt := 65) dX5_header_58 (by decide) ⟨by omega, by omega⟩ (fun h83 => ?_) (fun h83 => ?_)
        · refine tn_iconst dX5_header_65 ?_
          obtain ⟨kd84, fx85, tk86⟩ := f77.2 (by omega)
          exact tn_zret (v := 0) rfl (by decide) dX5_header_66 ⟨_, rfl, rfl, w80, (((((FrC.rfl.trans (FrC.sub F16 (by decide))).trans (FrC.sub F28 (by decide))).trans (FrC.sub F41 (by decide))).trans (FrC.sub F60 (by decide))).trans (FrC.sub F81 (by decide))), by omega, fun _ => (RP.up f78 (by omega)), ⟨fun q => absurd q (by decide), fun _ => ⟨_, HD.f41 hSb hk256 kd49 pr70 kd84, fx85⟩⟩⟩
        · refine tn_iconst dX5_header_61 ?_
          refine tn_goto (tgt := 66) dX5_header_62 (by decide) ?_
          obtain ⟨kd88, fx87⟩ := f77.1 (by omega)
          have hq89 := HD.ok hSb hk256 kd49 pr70 kd88
          exact tn_zret (v := 1) rfl (by decide) dX5_header_66 ⟨_, rfl, rfl, w80, (((((FrC.rfl.trans (FrC.sub F16 (by decide))).trans (FrC.sub F28 (by decide))).trans (FrC.sub F41 (by decide))).trans (FrC.sub F60 (by decide))).trans (FrC.sub F81 (by decide))), by omega, fun _ => (RP.up f78 (by omega)), ⟨fun _ => ⟨(i66 + 1), _, k68, by omega, hq89, RDX.cq fx87 (by rw [List.foldl_append]; rfl), by rw [List.foldl_append]; exact fx71rn.trans uC2_rn⟩, fun q => absurd q (by decide)⟩⟩
  · refine tn_aload_n dX5_header_13 rfl 0 rfl ?_
    refine tn_callV (M := m_X5_header) (pc := 14) (ix := 90) (ci := 5) (M' := m_X5_refuse) (As := []) (rest := []) dX5_header_14 ok_X5_refuse im_X5_refuse se_X5_refuse ml5_90 np_X5_refuse rfl rfl ha rfl (Nat.le_of_ble_eq_true rfl) (Nat.le_of_ble_eq_true rfl) rfl (k_X5_refuse_f (d + 3) (T := T) (σ := σ) (a := a) ha hw (hf0).1) (fun r90 T92 σ91 gt93 hp => ?_)
    obtain ⟨v98, rfl, rfl, w99, F100, f94, f95, f96, f97⟩ := hp
    clear gt93
    show Tn _ _ 17 T σ91 [(0, .ref a)] [.int (iI v98)] _
    exact tn_zret (v := v98) rfl (by omega) dX5_header_17 ⟨_, rfl, rfl, w99, (FrC.rfl.trans (FrC.sub F100 (by decide))), by omega, fun q => by omega, ⟨fun q => absurd q (by omega), fun _ => ⟨_, HD.f30 hSb (by omega), f96⟩⟩⟩
