set_option maxHeartbeats 4000000 in
set_option maxRecDepth 20000 in
theorem l_X5_parameters_f_16 (d : Nat) {T : CT} {σ0 : MS} {a : Nat} {Sx : Int → Int} {nx : Nat} {jx : Nat} {cx : CS} {Nx : Int} {rp : Int} {kp : Int} {post : Option Value → CT → MS → Prop} (h_a : OB T a 5) (hw0 : WT T σ0) (hj : 1 ≤ (jx : Int)) (hrn : 1 ≤ cx.rn ∧ cx.rn ≤ 256) (hkp : kp ≤ 150) (hx_36 : ∀ (i1 : Int) (σ : MS) , (WT T σ) → (FrC T [7, 8, 43, 44, 84, 85, 86, 87, 517, 521] σ0 σ) → (0 ≤ i1 ∧ i1 ≤ 2147483647) → (True) → (RP σ a kp) → (PLX σ a Sx nx jx cx Nx rp) → Tn (d + 4) m_X5_parameters 36 T σ [(0, .ref a), (1, .int (iI i1))] [] post) (hx_67 : ∀ (i1 : Int) (σ : MS) , (WT T σ) → (FrC T [7, 8, 43, 44, 84, 85, 86, 87, 517, 521] σ0 σ) → (0 ≤ i1 ∧ i1 ≤ 2147483647) → (True) → (RP σ a kp) → (PS σ a Sx nx jx cx Nx rp) → Tn (d + 4) m_X5_parameters 67 T σ [(0, .ref a), (1, .int (iI i1))] [] post) (hx_82 : ∀ (i1 : Int) (σ : MS) , (WT T σ) → (FrC T [7, 8, 43, 44, 84, 85, 86, 87, 517, 521] σ0 σ) → (0 ≤ i1 ∧ i1 ≤ 2147483647) → (True) → (RP σ a kp) → ((1 : Int) ≤ 0) → Tn (d + 4) m_X5_parameters 82 T σ [(0, .ref a), (1, .int (iI i1))] [] post) : ∀ (n : Nat) (i1 : Int) (σ : MS) , (WT T σ) → (FrC T [7, 8, 43, 44, 84, 85, 86, 87, 517, 521] σ0 σ) → (0 ≤ i1 ∧ i1 ≤ 2147483647) → (PLJ σ a Sx nx jx cx Nx rp (i1)) → (RP σ a kp) → (2147483700 - i1).toNat = n → Tn (d + 4) m_X5_parameters 16 T σ [(0, .ref a), (1, .int (iI i1))] [] post := by
  intro n
  induction n using Nat.strongRecOn with
  | _ n ih =>
    intro i1 σ hw hF r_i1 hx hrp hm
    obtain ⟨jy, ey, loy, pry, hfy, hry⟩ := hx
    have hSb := hfy.1.sb
    have hjn := RDX.jn hfy hw h_a
    refine tn_iload_n dX5_parameters_16 rfl 1 rfl ?_
    refine tn_sipush dX5_parameters_17 (by decide) ?_
    refine tn_icmp_ge (tgt := 82) dX5_parameters_20 (by decide) ⟨by omega, by omega⟩ ⟨by decide, by decide⟩ (fun h1 => ?_) (fun h1 => ?_)
    · exact tn_sub [0, 1] rfl (hx_82 (i1) σ hw (FrC.rfl.trans (FrC.sub hF (by decide))) (by omega) True.intro (RP.up hrp (by omega)) (by omega))
    · refine tn_aload_n dX5_parameters_23 rfl 0 rfl ?_
      obtain ⟨x2, hx3, hk4⟩ : ∃ x : Nat, σ0.2.1 33 a = (x : Int) ∧ (T x).1 = 39 := wf_33 hw0 h_a
      have hk4o : OB T x2 9 := ⟨by omega, by rw [hk4]; rfl, by omega⟩
      refine tn_getR (ci := 5) (i := 0) (n := 33) (x := x2) dX5_parameters_24 rfl lay_5 (by decide) fl5_12 h_a rfl rfl (rc_F hF (Or.inl (by decide)) (by decide) (hx3)) ?_
      refine tn_getI (ci := 9) (i := 4) (n := 85) (t := σ.2.1 85 x2) dX5_parameters_27 rfl lay_9 (by decide) fl5_71 hk4o rfl rfl (rfl) ?_
      have g6 : ((-2147483648 : Int) ≤ σ.2.1 85 x2 ∧ σ.2.1 85 x2 ≤ 2147483647) := wf_85 hw hk4o
      have g6kd : σ.2.1 85 x2 = ckd (tkS Sx jy) := (rfl).symm.trans ((hfy).1.kd (rc_F hF (Or.inl (by decide)) (by decide) (hx3)))
      refine tn_sipush dX5_parameters_30 (by decide) ?_
      refine tn_icmp_eq (tgt := 41) dX5_parameters_33 (by decide) ⟨by omega, by omega⟩ ⟨by decide, by decide⟩ (fun h7 => ?_) (fun h7 => ?_)
      · refine tn_aload_n dX5_parameters_41 rfl 0 rfl ?_
        refine tn_iload_n dX5_parameters_42 rfl 1 rfl ?_
        refine tn_iconst dX5_parameters_43 ?_
        refine tn_iadd dX5_parameters_44 ?_
        refine tn_callV (M := m_X5_parameters) (pc := 45) (ix := 170) (ci := 5) (M' := m_X5_parameter) (As := [.int (iI (i1 + 1))]) (rest := []) dX5_parameters_45 ok_X5_parameter im_X5_parameter se_X5_parameter ml5_170 np_X5_parameter rfl rfl h_a rfl (Nat.le_of_ble_eq_true rfl) (Nat.le_of_ble_eq_true rfl) rfl (k_X5_parameter_f (d) (T := T) (σ := σ) (a := a) (c := i1 + 1) h_a (by omega) hw (by omega) hfy (by omega) (by rw [hry]; exact hrn)) (fun r8 T10 σ9 gt11 hp => ?_)
        obtain ⟨rfl, rfl, w14, F15, f12⟩ := hp
        clear gt11
        have rp16 : RP σ9 a (kp) := RP.frc hrp F15 (by decide) (by decide) (by decide) (by decide) (by decide)
        have fx17 : RDX σ9 a Sx nx jy ((ey ++ [(3, (tkS Sx jy).1, i1, (tkS Sx jy).2.2.2.2)]).foldl uC cx) Nx := RDX.cq f12 (by rw [show ((i1 + 1) - 1 : Int) = i1 by omega, fc_one])
        have fx17p := PR.one hSb pry (by omega)
        show Tn _ _ 48 T σ9 [(0, .ref a), (1, .int (iI i1))] [] _
        refine tn_aload_n dX5_parameters_48 rfl 0 rfl ?_
        refine tn_getR (ci := 5) (i := 0) (n := 33) (x := x2) dX5_parameters_49 rfl lay_5 (by decide) fl5_12 h_a rfl rfl (rc_F F15 (Or.inl (by decide)) (by decide) (rc_F hF (Or.inl (by decide)) (by decide) (hx3))) ?_
        have q22 : σ9.2.1 84 x2 = σ.2.1 84 x2 := rc_F F15 (Or.inl (by decide)) (by decide) (rfl)
        refine tn_callV (M := m_X5_parameters) (pc := 52) (ix := 93) (ci := 9) (M' := m_X9_next) (As := []) (rest := []) dX5_parameters_52 ok_X9_next im_X9_next se_X9_next ml5_93 np_X9_next rfl rfl hk4o rfl (Nat.le_of_ble_eq_true rfl) (Nat.le_of_ble_eq_true rfl) rfl (k_X9_next_f (d + 2) (T := T) (σ := σ9) (a := x2) hk4o w14 (RP.tk rp16 w14 h_a (rc_F F15 (Or.inl (by decide)) (by decide) (rc_F hF (Or.inl (by decide)) (by decide) (hx3)))) ((fx17).1.tk (rc_F F15 (Or.inl (by decide)) (by decide) (rc_F hF (Or.inl (by decide)) (by decide) (hx3)))) (by rw [(fx17).1.kd (rc_F F15 (Or.inl (by decide)) (by decide) (rc_F hF (Or.inl (by decide)) (by decide) (hx3)))]; omega)) (fun r18 T20 σ19 gt21 hp => ?_)
        obtain ⟨rfl, rfl, w28, F29, f23, f24, f25, f26⟩ := hp
        clear gt21
        have fx30 : RDX σ19 a Sx nx (jy + 1) ((ey ++ [(3, (tkS Sx jy).1, i1, (tkS Sx jy).2.2.2.2)]).foldl uC cx) (Nx) := RDX.nx fx17 w14 h_a (rc_F F15 (Or.inl (by decide)) (by decide) (rc_F hF (Or.inl (by decide)) (by decide) (hx3))) F29 f26
        have rp31 : RP σ19 a (kp - 4) := RP.next4 rp16 (rc_F F15 (Or.inl (by decide)) (by decide) (rc_F hF (Or.inl (by decide)) (by decide) (hx3))) F29 (by decide) (by decide) (by decide) f23 f25 (by rw [show σ9.2.1 85 x2 = σ.2.1 85 x2 from rc_F F15 (Or.inl (by decide)) (by decide) (rfl)]; omega)
        show Tn _ _ 55 T σ19 [(0, .ref a), (1, .int (iI i1))] [] _
        refine tn_aload_n dX5_parameters_55 rfl 0 rfl ?_
        refine tn_getR (ci := 5) (i := 0) (n := 33) (x := x2) dX5_parameters_56 rfl lay_5 (by decide) fl5_12 h_a rfl rfl (rc_F F29 (Or.inl (by decide)) (by decide) (rc_F F15 (Or.inl (by decide)) (by decide) (rc_F hF (Or.inl (by decide)) (by decide) (hx3)))) ?_
        refine tn_getI (ci := 9) (i := 4) (n := 85) (t := σ19.2.1 85 x2) dX5_parameters_59 rfl lay_9 (by decide) fl5_71 hk4o rfl rfl (rfl) ?_
        have g32 : ((-2147483648 : Int) ≤ σ19.2.1 85 x2 ∧ σ19.2.1 85 x2 ≤ 2147483647) := wf_85 w28 hk4o
        have g32kd : σ19.2.1 85 x2 = ckd (tkS Sx (jy + 1)) := (rfl).symm.trans ((fx30).1.kd (rc_F F29 (Or.inl (by decide)) (by decide) (rc_F F15 (Or.inl (by decide)) (by decide) (rc_F hF (Or.inl (by decide)) (by decide) (hx3)))))
        refine tn_bipush dX5_parameters_62 (by decide) ?_
        refine tn_icmp_eq (tgt := 69) dX5_parameters_64 (by decide) ⟨by omega, by omega⟩ ⟨by decide, by decide⟩ (fun h33 => ?_) (fun h33 => ?_)
        · refine tn_aload_n dX5_parameters_69 rfl 0 rfl ?_
          refine tn_getR (ci := 5) (i := 0) (n := 33) (x := x2) dX5_parameters_70 rfl lay_5 (by decide) fl5_12 h_a rfl rfl (rc_F F29 (Or.inl (by decide)) (by decide) (rc_F F15 (Or.inl (by decide)) (by decide) (rc_F hF (Or.inl (by decide)) (by decide) (hx3)))) ?_
          refine tn_callV (M := m_X5_parameters) (pc := 73) (ix := 93) (ci := 9) (M' := m_X9_next) (As := []) (rest := []) dX5_parameters_73 ok_X9_next im_X9_next se_X9_next ml5_93 np_X9_next rfl rfl hk4o rfl (Nat.le_of_ble_eq_true rfl) (Nat.le_of_ble_eq_true rfl) rfl (k_X9_next_f (d + 2) (T := T) (σ := σ19) (a := x2) hk4o w28 (RP.tk rp31 w28 h_a (rc_F F29 (Or.inl (by decide)) (by decide) (rc_F F15 (Or.inl (by decide)) (by decide) (rc_F hF (Or.inl (by decide)) (by decide) (hx3))))) ((fx30).1.tk (rc_F F29 (Or.inl (by decide)) (by decide) (rc_F F15 (Or.inl (by decide)) (by decide) (rc_F hF (Or.inl (by decide)) (by decide) (hx3))))) (by rw [(fx30).1.kd (rc_F F29 (Or.inl (by decide)) (by decide) (rc_F F15 (Or.inl (by decide)) (by decide) (rc_F hF (Or.inl (by decide)) (by decide) (hx3))))]; omega)) (fun r34 T36 σ35 gt37 hp => ?_)
          obtain ⟨rfl, rfl, w43, F44, f38, f39, f40, f41⟩ := hp
          clear gt37
          have fx45 : RDX σ35 a Sx nx ((jy + 1) + 1) ((ey ++ [(3, (tkS Sx jy).1, i1, (tkS Sx jy).2.2.2.2)]).foldl uC cx) (Nx) := RDX.nx fx30 w28 h_a (rc_F F29 (Or.inl (by decide)) (by decide) (rc_F F15 (Or.inl (by decide)) (by decide) (rc_F hF (Or.inl (by decide)) (by decide) (hx3)))) F44 f41
          have rp46 : RP σ35 a (kp - 4 - 4) := RP.next4 rp31 (rc_F F29 (Or.inl (by decide)) (by decide) (rc_F F15 (Or.inl (by decide)) (by decide) (rc_F hF (Or.inl (by decide)) (by decide) (hx3)))) F44 (by decide) (by decide) (by decide) f38 f40 (by rw [show σ19.2.1 85 x2 = σ19.2.1 85 x2 from rfl]; omega)
          have rp47 : RP σ35 a (kp - 8) := RP.up rp46 (by omega)
          show Tn _ _ 76 T σ35 [(0, .ref a), (1, .int (iI i1))] [] _
          refine tn_iinc (q0 := 1) (L' := [(1, .int (iI (i1 + 1))), (0, .ref a)]) dX5_parameters_76 rfl (by decide) rfl ?_
          refine tn_goto (tgt := 16) dX5_parameters_79 (by decide) ?_
          have hx48 : PLJ σ35 a Sx nx jx cx Nx rp (i1 + 1) := ⟨((jy + 1) + 1), ey ++ [(3, (tkS Sx jy).1, i1, (tkS Sx jy).2.2.2.2)], by omega, PR.comma hSb fx17p (by omega), fx45, by rw [← fc_one, uC3_rn]; exact hry⟩
          exact tn_sub [1, 0] rfl (ih _ (by omega) (i1 + 1) σ35 w43 ((((FrC.rfl.trans (FrC.sub hF (by decide))).trans (FrC.sub F15 (by decide))).trans (FrC.sub F29 (by decide))).trans (FrC.sub F44 (by decide))) (by omega) hx48 (RP.up rp47 (by omega)) rfl)
        · have hx49 : PS σ19 a Sx nx jx cx Nx rp := ⟨(jy + 1), (ey ++ [(3, (tkS Sx jy).1, i1, (tkS Sx jy).2.2.2.2)]) ++ [(7, 0, i1 + 1, 0)], i1 + 1, by omega, PR.done hSb fx17p (by omega), RDX.cq fx30 f7.symm, by rw [f7, ← fc_one, uC3_rn]; exact hry⟩
          exact tn_sub [0, 1] rfl (hx_67 (i1) σ19 w28 (((FrC.rfl.trans (FrC.sub hF (by decide))).trans (FrC.sub F15 (by decide))).trans (FrC.sub F29 (by decide))) (by omega) True.intro (RP.up rp31 (by omega)) hx49)
      · exact tn_sub [0, 1] rfl (hx_36 (i1) σ hw (FrC.rfl.trans (FrC.sub hF (by decide))) (by omega) True.intro (RP.up hrp (by omega)) ⟨jy, ey, i1, pry, hfy, by omega⟩)
set_option maxHeartbeats 4000000 in
set_option maxRecDepth 20000 in
theorem k_X5_parameters_f (d : Nat) {T : CT} {σ : MS} {a : Nat} {kp : Int} {Sx : Int → Int} {nx jx : Nat} {cx : CS} {Nx : Int} {rp : Int} (ha : OB T a 5) (hw : WT T σ) (hfx : RDX σ a Sx nx jx cx Nx) (hrn : 1 ≤ cx.rn ∧ cx.rn ≤ 256) (hj : 1 ≤ (jx : Int)) (hkp : kp ≤ 150) (hrp : RP σ a kp) : Tn (d + 4) m_X5_parameters 0 T σ [(0, .ref a)] [] (fun ro T2 σ2 => ∃ v : Int, ro = some (.int (iI v)) ∧ T = T2 ∧ WT T2 σ2 ∧ FrC T [7, 8, 43, 44, 84, 85, 86, 87, 517, 521] σ σ2 ∧ (v = 0 ∨ v = 1) ∧ (PQ σ2 a Sx nx jx cx Nx rp v) ∧ (RP σ2 a (kp))) := by
  have hSb := hfx.1.sb
  have hjn := RDX.jn hfx hw ha
  refine tn_aload_n dX5_parameters_0 rfl 0 rfl ?_
  obtain ⟨x1, hx2, hk3⟩ : ∃ x : Nat, σ.2.1 33 a = (x : Int) ∧ (T x).1 = 39 := wf_33 hw ha
  have hk3o : OB T x1 9 := ⟨by omega, by rw [hk3]; rfl, by omega⟩
  refine tn_getR (ci := 5) (i := 0) (n := 33) (x := x1) dX5_parameters_1 rfl lay_5 (by decide) fl5_12 ha rfl rfl (hx2) ?_
  refine tn_getI (ci := 9) (i := 4) (n := 85) (t := σ.2.1 85 x1) dX5_parameters_4 rfl lay_9 (by decide) fl5_71 hk3o rfl rfl (rfl) ?_
  have g5 : ((-2147483648 : Int) ≤ σ.2.1 85 x1 ∧ σ.2.1 85 x1 ≤ 2147483647) := wf_85 hw hk3o
  have g5kd : σ.2.1 85 x1 = ckd (tkS Sx jx) := (rfl).symm.trans ((hfx).1.kd (hx2))
  refine tn_bipush dX5_parameters_7 (by decide) ?_
  refine tn_icmp_ne (tgt := 14) dX5_parameters_9 (by decide) ⟨by omega, by omega⟩ ⟨by decide, by decide⟩ (fun h6 => ?_) (fun h6 => ?_)
  · refine tn_iconst dX5_parameters_14 ?_
    refine tn_istore_n (L' := [(1, .int (iI 0)), (0, .ref a)]) dX5_parameters_15 rfl (by decide) rfl ?_
    have hx7 : PLJ σ a Sx nx jx cx Nx rp (0) := ⟨jx, [], by omega, PR.some hSb (by omega), hfx, rfl⟩
    refine tn_sub [1, 0] rfl (l_X5_parameters_f_16 (d) (T := T) (σ0 := σ) (a := a) (kp := kp) (Sx := Sx) (nx := nx) (jx := jx) (cx := cx) (Nx := Nx) (rp := rp) ha hw hj hrn (by omega) (fun i18 σ9 w12 F13 r14 f15 f16 f17 => ?_) (fun i118 σ19 w22 F23 r24 f25 f26 f27 => ?_) (fun i128 σ29 w32 F33 r34 f35 f36 f37 => ?_) _ (0) σ hw FrC.rfl (by omega) hx7 hrp rfl)
    · obtain ⟨i38, es39, k40, pr41, fx42, hk43⟩ := f17
      show Tn _ _ 36 T σ9 [(0, .ref a), (1, .int (iI i18))] [] _
      refine tn_aload_n dX5_parameters_36 rfl 0 rfl ?_
      refine tn_callV (M := m_X5_parameters) (pc := 37) (ix := 90) (ci := 5) (M' := m_X5_refuse) (As := []) (rest := []) dX5_parameters_37 ok_X5_refuse im_X5_refuse se_X5_refuse ml5_90 np_X5_refuse rfl rfl ha rfl (Nat.le_of_ble_eq_true rfl) (Nat.le_of_ble_eq_true rfl) rfl (k_X5_refuse_f (d + 2) (T := T) (σ := σ9) (a := a) ha w12 (fx42).1.1) (fun r44 T46 σ45 gt47 hp => ?_)
      obtain ⟨v52, rfl, rfl, w53, F54, f48, f49, f50, f51⟩ := hp
      clear gt47
      have rp55 : RP σ45 a (kp) := RP.frc f16 F54 (by decide) (by decide) (by decide) (by decide) (by decide)
      show Tn _ _ 40 T σ45 [(0, .ref a), (1, .int (iI i18))] [.int (iI v52)] _
      exact tn_zret (v := v52) rfl (by omega) dX5_parameters_40 ⟨_, rfl, rfl, w53, ((FrC.rfl.trans (FrC.sub F13 (by decide))).trans (FrC.sub F54 (by decide))), by omega, ⟨fun q => absurd q (by omega), fun _ => ⟨_, PR.fail hSb pr41 hk43, f50⟩⟩, (RP.up rp55 (by omega))⟩
    · show Tn _ _ 67 T σ19 [(0, .ref a), (1, .int (iI i118))] [] _
      refine tn_iconst dX5_parameters_67 ?_
      exact tn_zret (v := 1) rfl (by decide) dX5_parameters_68 ⟨_, rfl, rfl, w22, (FrC.rfl.trans (FrC.sub F23 (by decide))), by omega, ⟨fun _ => f27, fun q => absurd q (by decide)⟩, (RP.up f26 (by omega))⟩
    · show Tn _ _ 82 T σ29 [(0, .ref a), (1, .int (iI i128))] [] _
      exact absurd True.intro (by omega)
  · refine tn_iconst dX5_parameters_12 ?_
    have hx56 : PS σ a Sx nx jx cx Nx rp := ⟨jx, [(7, 0, 0, 0)], 0, by omega, PR.none hSb (by omega), RDX.cq hfx (f7 (es := [])).symm, by rw [show ([(7, 0, 0, 0)] : List EW) = [] ++ [(7, 0, 0, 0)] from rfl, f7]; rfl⟩
    exact tn_zret (v := 1) rfl (by decide) dX5_parameters_13 ⟨_, rfl, rfl, hw, FrC.rfl, by omega, ⟨fun _ => hx56, fun q => absurd q (by decide)⟩, (RP.up hrp (by omega))⟩
