set_option maxHeartbeats 4000000 in
set_option maxRecDepth 20000 in
theorem k_X5_single_f (d : Nat) {T : CT} {σ : MS} {a : Nat} {k : Int} {kp : Int} {Sx : Int → Int} {nx jx : Nat} {cx : CS} {Nx : Int} {bx : Int} (ha : OB T a 5) (h_k : -2147483648 ≤ k ∧ k ≤ 2147483647) (hw : WT T σ) (hk : k ≠ 14 ∧ k ≠ 15) (hfx : RDX σ a Sx nx jx cx Nx) (hkd : ckd (tkS Sx jx) = 258 ∨ ckd (tkS Sx jx) = 259) (hkp : kp ≤ 140) (hrp : RP σ a kp) : Tn (d + 51) m_X5_single 0 T σ [(0, .ref a), (1, .int (iI k))] [] (fun ro T2 σ2 => ∃ v : Int, ro = some (.int (iI v)) ∧ WT T2 σ2 ∧ FrC T [5, 6, 7, 43, 44, 47, 50, 51, 84, 85, 86, 87, 521] σ σ2 ∧ (v = 0 ∨ v = 1) ∧ (YQ σ2 a Sx nx bx [51, 39] jx cx (Nx) 1 v) ∧ (RP σ2 a (kp + 1 - 7 * v))) := by
  have hSb := hfx.1.sb
  have e45 := hfx.e45
  have hpo9 := hfx.po
  unfold PO at hpo9
  refine tn_aload_n dX5_single_0 rfl 0 rfl ?_
  obtain ⟨x1, hx2, hk3⟩ : ∃ x : Nat, σ.2.1 35 a = (x : Int) ∧ (T x).1 = 31 := wf_35 hw ha
  have hk3o : OB T x1 1 := ⟨by omega, by rw [hk3]; rfl, by omega⟩
  refine tn_getR (ci := 5) (i := 2) (n := 35) (x := x1) dX5_single_1 rfl lay_5 (by decide) fl5_47 ha rfl rfl (hx2) ?_
  refine tn_bipush dX5_single_4 (by decide) ?_
  refine tn_aload_n dX5_single_6 rfl 0 rfl ?_
  refine tn_getI (ci := 5) (i := 12) (n := 45) (t := σ.2.1 45 a) dX5_single_7 rfl lay_5 (by decide) fl5_64 ha rfl rfl (rfl) ?_
  have g5 : ((-2147483648 : Int) ≤ σ.2.1 45 a ∧ σ.2.1 45 a ≤ 2147483647) := wf_45 hw ha
  refine tn_iconst dX5_single_10 ?_
  refine tn_callV (M := m_X5_single) (pc := 11) (ix := 139) (ci := 1) (M' := m_X1_append) (As := [.int (iI 11), .int (iI (σ.2.1 45 a)), .int (iI 0)]) (rest := []) dX5_single_11 ok_X1_append im_X1_append se_X1_append ml5_139 np_X1_append rfl rfl hk3o rfl (Nat.le_of_ble_eq_true rfl) (Nat.le_of_ble_eq_true rfl) rfl (k_X1_append (d + 47) (T := T) (σ := σ) (a := x1) (k := 11) (x := σ.2.1 45 a) (y := 0) hk3o hk3 (by decide) (by omega) (by decide) hw (RP.cnt hrp hw ha (hx2) (by omega)) (by omega)) (fun r6 T8 σ7 gt9 hp => ?_)
  obtain ⟨rfl, w12, F13, f10⟩ := hp
  have fx14 : RDX σ7 a Sx nx jx (cx) (Nx + 1) := RDX.ap hfx hw ha (hx2) F13 f10
  replace ha : OB T8 a 5 := gt9.ob ha
  have rp15 : RP σ7 a (kp + 1) := RP.app hrp (hx2) F13 (by decide) (by decide) (by decide) (by decide) f10
  show Tn _ _ 14 T8 σ7 [(0, .ref a), (1, .int (iI k))] [] _
  refine tn_aload_n dX5_single_14 rfl 0 rfl ?_
  obtain ⟨x16, hx17, hk18⟩ : ∃ x : Nat, σ7.2.1 33 a = (x : Int) ∧ (T8 x).1 = 39 := wf_33 w12 ha
  have hk18o : OB T8 x16 9 := ⟨by omega, by rw [hk18]; rfl, by omega⟩
  refine tn_getR (ci := 5) (i := 0) (n := 33) (x := x16) dX5_single_15 rfl lay_5 (by decide) fl5_12 ha rfl rfl (hx17) ?_
  refine tn_callV (M := m_X5_single) (pc := 18) (ix := 93) (ci := 9) (M' := m_X9_next) (As := []) (rest := []) dX5_single_18 ok_X9_next im_X9_next se_X9_next ml5_93 np_X9_next rfl rfl hk18o rfl (Nat.le_of_ble_eq_true rfl) (Nat.le_of_ble_eq_true rfl) rfl (k_X9_next_f (d + 49) (T := T8) (σ := σ7) (a := x16) hk18o w12 (RP.tk rp15 w12 ha (hx17)) ((fx14).1.tk (hx17)) (by rw [(fx14).1.kd (hx17)]; omega)) (fun r20 T22 σ21 gt23 hp => ?_)
  obtain ⟨rfl, rfl, w29, F30, f24, f25, f26, f27⟩ := hp
  clear gt23
  have pc32 : GR Sx [51] jx (0) (bx) u0 [] jx (0) (bx) u0 1 [] := x51 hSb 
  have rd330 : GR Sx [51, 39] jx 0 (bx) u0 [51, 39] jx (0) (bx) u0 (0) ([]) := GR.nl
  have rd33 : GR Sx [51, 39] jx 0 (bx) u0 [39] jx (0) (bx) u0 (0 + 1) ([]) := GR.g0 (l := [51]) (ms := []) [39] rd330 pc32
  have pc34 : GR Sx [39] jx (0) (bx) u0 [2, 51, 159] (jx + 1) (0) (bx) u0 0 [] := x39 hSb 
  have rd35 : GR Sx [51, 39] jx 0 (bx) u0 [2, 51, 159] (jx + 1) (0) (bx) u0 (0 + 1 + 0) ([]) := GR.g0 (l := [39]) (ms := [2, 51, 159]) [] rd33 pc34
  have fx31 : RDX σ21 a Sx nx (jx + 1) (cx) (Nx + 1) := RDX.nx fx14 w12 ha (hx17) F30 f27
  have rp36 : RP σ21 a (kp + 1) := RP.next rp15 (hx17) F30 (by decide) (by decide) (by decide) f24 f25
  show Tn _ _ 21 T8 σ21 [(0, .ref a), (1, .int (iI k))] [] _
  refine tn_aload_n dX5_single_21 rfl 0 rfl ?_
  refine tn_iconst dX5_single_22 ?_
  refine tn_callV (M := m_X5_single) (pc := 23) (ix := 213) (ci := 5) (M' := m_X5_expression) (As := [.int (iI 1)]) (rest := []) dX5_single_23 ok_X5_expression im_X5_expression se_X5_expression ml5_213 np_X5_expression rfl rfl ha rfl (Nat.le_of_ble_eq_true rfl) (Nat.le_of_ble_eq_true rfl) rfl (k_X5_expression_f (d) (T := T8) (σ := σ21) (a := a) (dp := 1) (kp := kp + 1) (eo := 0) ha (by decide) w29 (by omega) fx31 (by omega) (by omega) rp36) (fun r37 T39 σ38 gt40 hp => ?_)
  obtain ⟨v44, rfl, w45, F46, f41, f42, f43⟩ := hp
  replace ha : OB T39 a 5 := gt40.ob ha
  have rp48 : RP σ38 a (kp - 4 * v44 + 1) := RP.up f43 (by omega)
  show Tn _ _ 26 T39 σ38 [(0, .ref a), (1, .int (iI k))] [.int (iI v44)] _
  refine tn_if_eq (tgt := 38) dX5_single_26 (by decide) ⟨by omega, by omega⟩ (fun h49 => ?_) (fun h49 => ?_)
  · refine tn_iconst dX5_single_38 ?_
    obtain ⟨pl52, g53, fx54⟩ := f42.2 (by omega)
    have g53g := g53 (bx) u0
    have rf55 : GRF Sx [51, 39] jx 0 (bx) u0 (pl52) := GR.fl (l := [2]) [51, 159] rd35 g53g
    have rb51 : YF σ38 a Sx bx [51, 39] jx := ⟨_, rf55, fx54⟩
    exact tn_zret (v := 0) rfl (by decide) dX5_single_39 ⟨_, rfl, w45, (((FrC.rfl.trans (FrC.sub F13 (by decide))).trans (FrC.sub (FrC.old F30 gt9) (by decide))).trans (FrC.sub (FrC.old F46 gt9) (by decide))), by omega, ⟨fun q => absurd q (by decide), fun _ => rb51⟩, (RP.up rp48 (by omega))⟩
  · refine tn_aload_n dX5_single_29 rfl 0 rfl ?_
    refine tn_bipush dX5_single_30 (by decide) ?_
    obtain ⟨i56, es57, m58, lo59, rr60, fx61⟩ := f42.1 (by omega)
    have rr60g := rr60 (bx) u0
    have rd62a : GR Sx [51, 39] jx 0 (bx) u0 [51, 159] i56 (0) (bx) u0 (0 + 1 + 0 + m58) ([] ++ es57) := GR.gg (l := [2]) (ms := []) [51, 159] rd35 rr60g
    have rd62 : GR Sx [51, 39] jx 0 (bx) u0 [51, 159] i56 (0) (bx) u0 (0 + 1 + 0 + m58) (es57) := rd62a
    refine tn_callV (M := m_X5_single) (pc := 32) (ix := 102) (ci := 5) (M' := m_X5_taken) (As := [.int (iI 59)]) (rest := []) dX5_single_32 ok_X5_taken im_X5_taken se_X5_taken ml5_102 np_X5_taken rfl rfl ha rfl (Nat.le_of_ble_eq_true rfl) (Nat.le_of_ble_eq_true rfl) rfl (k_X5_taken_f (d + 48) (T := T39) (σ := σ38) (a := a) (s := 59) (kp := kp - 4 * v44 + 1) ha (by decide) w45 (by omega) fx61 (by omega) rp48) (fun r63 T65 σ64 gt66 hp => ?_)
    obtain ⟨v70, rfl, rfl, w71, F72, f67, f68, f69⟩ := hp
    clear gt66
    have pc73 : GR Sx [51] i56 (0) (bx) u0 [] i56 (0) (bx) u0 1 [] := x51 hSb 
    have rd74 : GR Sx [51, 39] jx 0 (bx) u0 [159] i56 (0) (bx) u0 (0 + 1 + 0 + m58 + 1) (es57) := GR.g0 (l := [51]) (ms := []) [159] rd62 pc73
    have rp76 : RP σ64 a (kp - 4 * v44 - 4 * v70 + 1) := RP.up f69 (by omega)
    show Tn _ _ 35 T39 σ64 [(0, .ref a), (1, .int (iI k))] [.int (iI v70)] _
    refine tn_if_ne (tgt := 40) dX5_single_35 (by decide) ⟨by omega, by omega⟩ (fun h77 => ?_) (fun h77 => ?_)
    · refine tn_aload_n dX5_single_40 rfl 0 rfl ?_
      obtain ⟨x78, hx79, hk80⟩ : ∃ x : Nat, σ38.2.1 35 a = (x : Int) ∧ (T39 x).1 = 31 := wf_35 w45 ha
      have hk80o : OB T39 x78 1 := ⟨by omega, by rw [hk80]; rfl, by omega⟩
      refine tn_getR (ci := 5) (i := 2) (n := 35) (x := x78) dX5_single_41 rfl lay_5 (by decide) fl5_47 ha rfl rfl (rc_F F72 (Or.inl (by decide)) (by decide) (hx79)) ?_
      refine tn_iload_n dX5_single_44 rfl 1 rfl ?_
      refine tn_iconst dX5_single_45 ?_
      refine tn_iconst dX5_single_46 ?_
      have q86 : σ64.2.1 6 x78 = σ38.2.1 6 x78 := rc_F F72 (Or.inl (by decide)) (by decide) (rfl)
      refine tn_callV (M := m_X5_single) (pc := 47) (ix := 139) (ci := 1) (M' := m_X1_append) (As := [.int (iI k), .int (iI 0), .int (iI 0)]) (rest := []) dX5_single_47 ok_X1_append im_X1_append se_X1_append ml5_139 np_X1_append rfl rfl hk80o rfl (Nat.le_of_ble_eq_true rfl) (Nat.le_of_ble_eq_true rfl) rfl (k_X1_append (d + 47) (T := T39) (σ := σ64) (a := x78) (k := k) (x := 0) (y := 0) hk80o hk80 (by omega) (by decide) (by decide) w71 (RP.cnt rp76 w71 ha (rc_F F72 (Or.inl (by decide)) (by decide) (hx79)) (by omega)) (by omega)) (fun r82 T84 σ83 gt85 hp => ?_)
      obtain ⟨rfl, w89, F90, f87⟩ := hp
      obtain ⟨kd92, fx91⟩ := f68.1 (by omega)
      have pc93 : GR Sx [159] i56 (0) (bx) u0 [] (i56 + 1) (0) (bx) u0 0 [] := y59 hSb kd92
      have rd94 : GR Sx [51, 39] jx 0 (bx) u0 [] (i56 + 1) (0) (bx) u0 (0 + 1 + 0 + m58 + 1 + 0) (es57) := GR.g0 (l := [159]) (ms := []) [] rd74 pc93
      have fx95 : RDX σ83 a Sx nx (i56 + 1) (es57.foldl uC (cx)) (Nx + 1 + m58 + 1) := RDX.ap fx91 w71 ha (rc_F F72 (Or.inl (by decide)) (by decide) (hx79)) F90 f87
      replace ha : OB T84 a 5 := gt85.ob ha
      have rp96 : RP σ83 a (kp - 4 * v44 - 4 * v70 + 1 + 1) := RP.app rp76 (rc_F F72 (Or.inl (by decide)) (by decide) (hx79)) F90 (by decide) (by decide) (by decide) (by decide) f87
      have rp97 : RP σ83 a (kp - 4 * v44 - 4 * v70 + 2) := RP.up rp96 (by omega)
      show Tn _ _ 50 T84 σ83 [(0, .ref a), (1, .int (iI k))] [] _
      refine tn_aload_n dX5_single_50 rfl 0 rfl ?_
      obtain ⟨x98, hx99, hk100⟩ : ∃ x : Nat, σ83.2.1 35 a = (x : Int) ∧ (T84 x).1 = 31 := wf_35 w89 ha
      have hk100o : OB T84 x98 1 := ⟨by omega, by rw [hk100]; rfl, by omega⟩
      refine tn_getR (ci := 5) (i := 2) (n := 35) (x := x98) dX5_single_51 rfl lay_5 (by decide) fl5_47 ha rfl rfl (hx99) ?_
      refine tn_iconst dX5_single_54 ?_
      refine tn_aload_n dX5_single_55 rfl 0 rfl ?_
      refine tn_getI (ci := 5) (i := 17) (n := 50) (t := σ83.2.1 50 a) dX5_single_56 rfl lay_5 (by decide) fl5_216 ha rfl rfl (rfl) ?_
      have g102 : ((-2147483648 : Int) ≤ σ83.2.1 50 a ∧ σ83.2.1 50 a ≤ 2147483647) := wf_50 w89 ha
      refine tn_aload_n dX5_single_59 rfl 0 rfl ?_
      refine tn_getI (ci := 5) (i := 18) (n := 51) (t := σ83.2.1 51 a) dX5_single_60 rfl lay_5 (by decide) fl5_219 ha rfl rfl (rfl) ?_
      have g103 : ((-2147483648 : Int) ≤ σ83.2.1 51 a ∧ σ83.2.1 51 a ≤ 2147483647) := wf_51 w89 ha
      refine tn_callV (M := m_X5_single) (pc := 63) (ix := 143) (ci := 1) (M' := m_X1_lastOperand) (As := [.int (iI 0), .int (iI (σ83.2.1 50 a)), .int (iI (σ83.2.1 51 a))]) (rest := []) dX5_single_63 ok_X1_lastOperand im_X1_lastOperand se_X1_lastOperand ml5_143 np_X1_lastOperand rfl rfl hk100o rfl (Nat.le_of_ble_eq_true rfl) (Nat.le_of_ble_eq_true rfl) rfl (k_X1_lastOperand (d + 49) (T := T84) (σ := σ83) (a := x98) (i := 0) (k := σ83.2.1 50 a) (y := σ83.2.1 51 a) hk100o (by decide) (by omega) (by omega) w89 ) (fun r104 T106 σ105 gt107 hp => ?_)
      obtain ⟨rfl, rfl, w109, F110⟩ := hp
      clear gt107
      have fx111 : RDX σ105 a Sx nx (i56 + 1) (es57.foldl uC (cx)) (Nx + 1 + m58 + 1) := RDX.fc fx95 w89 ha F110 (by decide) (by decide)
      have rp112 : RP σ105 a (kp - 4 * v44 - 4 * v70 + 2) := RP.frc rp97 F110 (by decide) (by decide) (by decide) (by decide) (by decide)
      show Tn _ _ 66 T84 σ105 [(0, .ref a), (1, .int (iI k))] [] _
      refine tn_iconst dX5_single_66 ?_
      have fe115 := RDX.nq (M := Nx + (0 + 1 + 0 + m58 + 1 + 0)) (RDX.cq (c2 := (es57).foldl uC cx) fx111 rfl) (by omega)
      have fe115m : ((es57).foldl uC cx).m = σ.2.1 45 a := (fe115.e45).symm.trans (rc_F F110 (Or.inl (by decide)) (by decide) (rc_F F90 (Or.inl (by decide)) (by decide) (rc_F F72 (Or.inl (by decide)) (by decide) (rc_F F46 (Or.inl (by decide)) (by decide) (rc_F F30 (Or.inl (by decide)) (by decide) (rc_F F13 (Or.inl (by decide)) (by decide) (rfl)))))))
      have ra113 : YS σ105 a Sx nx bx [51, 39] jx cx (Nx) bx [] ((jx : Int) + 1) := ⟨(i56 + 1), es57, 0 + 1 + 0 + m58 + 1 + 0, (by omega), rd94, fe115, by rw [fe115m]; omega⟩
      exact tn_zret (v := 1) rfl (by decide) dX5_single_67 ⟨_, rfl, w109, ((((((FrC.rfl.trans (FrC.sub F13 (by decide))).trans (FrC.sub (FrC.old F30 gt9) (by decide))).trans (FrC.sub (FrC.old F46 gt9) (by decide))).trans (FrC.sub (FrC.old F72 (GT.trans gt9 gt40)) (by decide))).trans (FrC.sub (FrC.old F90 (GT.trans gt9 gt40)) (by decide))).trans (FrC.sub (FrC.old F110 (GT.trans (GT.trans gt9 gt40) gt85)) (by decide))), by omega, ⟨fun _ => ra113, fun q => absurd q (by decide)⟩, (RP.up rp112 (by omega))⟩
    · refine tn_iconst dX5_single_38 ?_
      obtain ⟨kd118, fx119, tk120⟩ := f68.2 (by omega)
      have pc121 : GRF Sx [159] i56 (0) (bx) u0 (tkS Sx i56).1 := z59 hSb kd118
      have rf122 : GRF Sx [51, 39] jx 0 (bx) u0 ((tkS Sx i56).1) := GR.fl (l := [159]) [] rd74 pc121
      have rb117 : YF σ64 a Sx bx [51, 39] jx := ⟨_, rf122, fx119⟩
      exact tn_zret (v := 0) rfl (by decide) dX5_single_39 ⟨_, rfl, w71, ((((FrC.rfl.trans (FrC.sub F13 (by decide))).trans (FrC.sub (FrC.old F30 gt9) (by decide))).trans (FrC.sub (FrC.old F46 gt9) (by decide))).trans (FrC.sub (FrC.old F72 (GT.trans gt9 gt40)) (by decide))), by omega, ⟨fun q => absurd q (by decide), fun _ => rb117⟩, (RP.up rp76 (by omega))⟩
