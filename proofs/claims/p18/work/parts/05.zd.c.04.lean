section
set_option maxHeartbeats 4000000 in
set_option maxRecDepth 20000 in
theorem k_X5_openRoutine_f (d : Nat) {T : CT} {σ : MS} {a : Nat} {k : Int} {Sx : Int → Int} {nx jx : Nat} {cx : CS} {wx : Int64} (ha : OB T a 5) (h_k : -2147483648 ≤ k ∧ k ≤ 2147483647) (hw : WT T σ) (hrt : RT σ a) (hf0 : RD0 σ a Sx nx jx cx) (hkw : KW k wx) (hpo : 5 * cx.rn ≤ (jx : Int)) : Tn (d + 3) m_X5_openRoutine 0 T σ [(0, .ref a), (1, .int (iI k))] [] (fun ro T2 σ2 => ro = none ∧ T = T2 ∧ WT T2 σ2 ∧ FrC T [6, 7, 8, 9, 10, 35, 38, 43, 44, 46, 47, 516, 517] σ σ2 ∧ (RP σ2 a 4) ∧ (RDX σ2 a Sx nx jx (uC cx (2, (tkS Sx jx).1, 0, wx)) 0)) := by
  have hSb := hf0.sb
  have e38 : σ.2.1 38 a = cx.rn := hf0.2.1.1.2.2.1
  have hjn := RD0.jn hf0 hw ha
  refine tn_aload_n dX5_openRoutine_0 rfl 0 rfl ?_
  refine tn_iload_n dX5_openRoutine_1 rfl 1 rfl ?_
  refine tn_callV (M := m_X5_openRoutine) (pc := 2) (ix := 109) (ci := 5) (M' := m_X5_routineOf) (As := [.int (iI k)]) (rest := []) dX5_openRoutine_2 ok_X5_routineOf im_X5_routineOf se_X5_routineOf ml5_109 np_X5_routineOf rfl rfl ha rfl (Nat.le_of_ble_eq_true rfl) (Nat.le_of_ble_eq_true rfl) rfl (k_X5_routineOf_f (d) (T := T) (σ := σ) (a := a) (k := k) ha (by omega) hw ) (fun r1 T3 σ2 gt4 hp => ?_)
  obtain ⟨v7, rfl, rfl, rfl, f5, f6⟩ := hp
  clear gt4
  show Tn _ _ 5 T σ [(0, .ref a), (1, .int (iI k))] [.int (iI v7)] _
  refine tn_iconst dX5_openRoutine_5 ?_
  refine tn_icmp_eq (tgt := 21) dX5_openRoutine_6 (by decide) ⟨by omega, by omega⟩ ⟨by decide, by decide⟩ (fun h8 => ?_) (fun h8 => ?_)
  · refine tn_aload_n dX5_openRoutine_21 rfl 0 rfl ?_
    refine tn_getI (ci := 5) (i := 5) (n := 38) (t := σ.2.1 38 a) dX5_openRoutine_22 rfl lay_5 (by decide) fl5_58 ha rfl rfl (rfl) ?_
    have g9 : ((0 : Int) ≤ σ.2.1 38 a ∧ σ.2.1 38 a ≤ 256) := wf_38 hw ha
    refine tn_bipush dX5_openRoutine_25 (by decide) ?_
    refine tn_icmp_lt (tgt := 42) dX5_openRoutine_27 (by decide) ⟨by omega, by omega⟩ ⟨by decide, by decide⟩ (fun h10 => ?_) (fun h10 => ?_)
    · obtain ⟨x11, hx12, hk13, hl14⟩ : ∃ x : Nat, σ.2.1 36 a = (x : Int) ∧ AR T x 16 256 256 := wf_36 hw ha
      have hk13i : IA T x11 := by unfold IA; omega
      have e3815 : σ.2.1 38 a = (cx).rn := (rfl).symm.trans (hf0).2.1.1.2.2.1
      have e3815c : (cx).rn = cx.rn := rfl
      refine tn_iconst dX5_openRoutine_42 ?_
      refine tn_aload_n dX5_openRoutine_43 rfl 0 rfl ?_
      refine tn_getI (ci := 5) (i := 5) (n := 38) (t := σ.2.1 38 a) dX5_openRoutine_44 rfl lay_5 (by decide) fl5_58 ha rfl rfl (rfl) ?_
      refine tn_aload_n dX5_openRoutine_47 rfl 0 rfl ?_
      obtain ⟨x16, hx17, hk18, hl19⟩ : ∃ x : Nat, σ.2.1 34 a = (x : Int) ∧ AR T x 4 7 7 := wf_34 hw ha
      have hk18i : (T x16).1 = 4 ∨ (T x16).1 = 5 := by omega
      refine tn_getR (ci := 5) (i := 1) (n := 34) (x := x16) dX5_openRoutine_48 rfl lay_5 (by decide) fl5_20 ha rfl rfl (hx17) ?_
      refine tn_alenX dX5_openRoutine_51 (by have q9 := hk18i; omega) ?_
      refine tn_iconst dX5_openRoutine_52 ?_
      refine tn_isub dX5_openRoutine_53 ?_
      refine tn_mmin (x := σ.2.1 38 a) (y := (((T x16).2 : Int)) - 1) dX5_openRoutine_54 mlm5_117 stM_min iniM cdM_min (by omega) (Nat.le_of_ble_eq_true rfl) ⟨by omega, by omega⟩ ⟨by omega, by omega⟩ (fun z20 g21 => ?_)
      refine tn_mmax (x := 0) (y := z20) dX5_openRoutine_57 mlm5_123 stM_max iniM cdM_max (by omega) (Nat.le_of_ble_eq_true rfl) ⟨by omega, by omega⟩ ⟨by omega, by omega⟩ (fun z22 g23 => ?_)
      refine tn_istore_n (L' := [(2, .int (iI z22)), (0, .ref a), (1, .int (iI k))]) dX5_openRoutine_60 rfl (by decide) rfl ?_
      refine tn_aload_n dX5_openRoutine_61 rfl 1 rfl ?_
      refine tn_aload_n dX5_openRoutine_62 rfl 1 rfl ?_
      refine tn_getR (ci := 5) (i := 1) (n := 34) (x := x16) dX5_openRoutine_63 rfl lay_5 (by decide) fl5_20 ha rfl rfl (hx17) ?_
      refine tn_iload_n dX5_openRoutine_66 rfl 0 rfl ?_
      obtain ⟨x24, hx25, hk26⟩ := (hw).2.2.2.1.1 x16 hk18 (z22) (by omega) (by omega)
      refine tn_aald (z := z22) (x := x24) dX5_openRoutine_67 hk18i (by omega) (by omega) (by omega) hx25 ?_
      have hk26o : OB T x24 1 := ⟨by omega, by rw [hk26]; rfl, by omega⟩
      refine tn_putV (ci := 5) (i := 2) (n := 35) (r := true) (v := (x24 : Int)) tyX5 tyX5_ok nmX5 dX5_openRoutine_68 rfl lay_5 (by decide) fl5_47 rfl (tyX5_ok 2 (by decide)) (vl_ref rfl).symm rfl rfl ha rfl rfl ?_
      refine tn_aload_n dX5_openRoutine_71 rfl 1 rfl ?_
      refine tn_getR (ci := 5) (i := 2) (n := 35) (x := x24) dX5_openRoutine_72 rfl lay_5 (by decide) fl5_47 ha rfl rfl (ra_eq) ?_
      refine tn_iload_n dX5_openRoutine_75 rfl 0 rfl ?_
      refine tn_callV (M := m_X5_openRoutine) (pc := 76) (ix := 126) (ci := 1) (M' := m_X1_empty) (As := [.int (iI z22)]) (rest := []) dX5_openRoutine_76 ok_X1_empty im_X1_empty se_X1_empty ml5_126 np_X1_empty rfl rfl hk26o rfl (Nat.le_of_ble_eq_true rfl) (Nat.le_of_ble_eq_true rfl) rfl (k_X1_empty_f (d) (T := T) (σ := (sA 35 a ((x24 : Int)) σ)) (a := x24) (r := z22) hk26o (by omega) (hw.put (by decide) (by decide) (fo_35 ⟨_, rfl, hk26⟩)) ) (fun r27 T29 σ28 gt30 hp => ?_)
      obtain ⟨rfl, rfl, w34, F35, f31, f32⟩ := hp
      clear gt30
      have fx36 : RD0 σ28 a Sx nx jx (cx) := RD0.fc (hf0.pt (by decide) (by decide)) (hw.put (by decide) (by decide) (fo_35 ⟨_, rfl, hk26⟩)) ha F35 (by decide) (by decide)
      show Tn _ _ 79 T σ28 [(2, .int (iI z22)), (0, .ref a), (1, .int (iI k))] [] _
      refine tn_aload_n dX5_openRoutine_79 rfl 1 rfl ?_
      refine tn_getR (ci := 5) (i := 3) (n := 36) (x := x11) dX5_openRoutine_80 rfl lay_5 (by decide) fl5_24 ha rfl rfl (rc_F F35 (Or.inl (by decide)) (by decide) (rc_o (by decide) (hx12))) ?_
      refine tn_aload_n dX5_openRoutine_83 rfl 1 rfl ?_
      refine tn_getI (ci := 5) (i := 5) (n := 38) (t := σ.2.1 38 a) dX5_openRoutine_84 rfl lay_5 (by decide) fl5_58 ha rfl rfl (rc_F F35 (Or.inl (by decide)) (by decide) (rc_o (by decide) (rfl))) ?_
      refine tn_iload_n dX5_openRoutine_87 rfl 2 rfl ?_
      refine tn_callSN (M := m_X5_openRoutine) (pc := 88) (ix := 129) (M' := m_X11_put) (As := [.ref x11, .int (iI (σ.2.1 38 a)), .int (iI k)]) (rest := []) dX5_openRoutine_88 ok_X11_put stt_X11_put nl5_129 np_X11_put rfl (Nat.le_of_ble_eq_true rfl) (Nat.le_of_ble_eq_true rfl) rfl (k_X11_put_16 (d + 1) (T := T) (σ := σ28) (x := x11) (i := σ.2.1 38 a) (y := k) hk13i (by omega) hk13 (by omega) (by omega) w34 ) (fun r37 T39 σ38 gt40 hp => ?_)
      obtain ⟨rfl, rfl, w43, F44, f41⟩ := hp
      clear gt40
      show Tn _ _ 91 T σ38 [(2, .int (iI z22)), (0, .ref a), (1, .int (iI k))] [] _
      refine tn_aload_n dX5_openRoutine_91 rfl 1 rfl ?_
      obtain ⟨x45, hx46, hk47, hl48⟩ : ∃ x : Nat, σ.2.1 37 a = (x : Int) ∧ AR T x 17 256 256 := wf_37 hw ha
      have hk47i : IA T x45 := by unfold IA; omega
      refine tn_getR (ci := 5) (i := 4) (n := 37) (x := x45) dX5_openRoutine_92 rfl lay_5 (by decide) fl5_28 ha rfl rfl (rc_F F44 (Or.inl (by decide)) (by decide) (rc_F F35 (Or.inl (by decide)) (by decide) (rc_o (by decide) (hx46)))) ?_
      refine tn_aload_n dX5_openRoutine_95 rfl 1 rfl ?_
      refine tn_getI (ci := 5) (i := 5) (n := 38) (t := σ.2.1 38 a) dX5_openRoutine_96 rfl lay_5 (by decide) fl5_58 ha rfl rfl (rc_F F44 (Or.inl (by decide)) (by decide) (rc_F F35 (Or.inl (by decide)) (by decide) (rc_o (by decide) (rfl)))) ?_
      refine tn_iconst dX5_openRoutine_99 ?_
      refine tn_callSN (M := m_X5_openRoutine) (pc := 100) (ix := 129) (M' := m_X11_put) (As := [.ref x45, .int (iI (σ.2.1 38 a)), .int (iI 0)]) (rest := []) dX5_openRoutine_100 ok_X11_put stt_X11_put nl5_129 np_X11_put rfl (Nat.le_of_ble_eq_true rfl) (Nat.le_of_ble_eq_true rfl) rfl (k_X11_put_17 (d + 1) (T := T) (σ := σ38) (x := x45) (i := σ.2.1 38 a) (y := 0) hk47i (by omega) hk47 (by omega) (by decide) w43 ) (fun r49 T51 σ50 gt52 hp => ?_)
      obtain ⟨rfl, rfl, w55, F56, f53⟩ := hp
      clear gt52
      show Tn _ _ 103 T σ50 [(2, .int (iI z22)), (0, .ref a), (1, .int (iI k))] [] _
      refine tn_aload_n dX5_openRoutine_103 rfl 1 rfl ?_
      refine tn_aload_n dX5_openRoutine_104 rfl 1 rfl ?_
      refine tn_getI (ci := 5) (i := 5) (n := 38) (t := σ.2.1 38 a) dX5_openRoutine_105 rfl lay_5 (by decide) fl5_58 ha rfl rfl (rc_F F56 (Or.inl (by decide)) (by decide) (rc_F F44 (Or.inl (by decide)) (by decide) (rc_F F35 (Or.inl (by decide)) (by decide) (rc_o (by decide) (rfl))))) ?_
      refine tn_iconst dX5_openRoutine_108 ?_
      refine tn_iadd dX5_openRoutine_109 ?_
      refine tn_sipush dX5_openRoutine_110 (by decide) ?_
      refine tn_mmin (x := (σ.2.1 38 a) + 1) (y := 256) dX5_openRoutine_113 mlm5_117 stM_min iniM cdM_min (by omega) (Nat.le_of_ble_eq_true rfl) ⟨by omega, by omega⟩ ⟨by omega, by omega⟩ (fun z57 g58 => ?_)
      refine tn_putV (ci := 5) (i := 5) (n := 38) (r := false) (v := z57) tyX5 tyX5_ok nmX5 dX5_openRoutine_116 rfl lay_5 (by decide) fl5_58 rfl (tyX5_ok 5 (by decide)) rfl rfl rfl ha rfl rfl ?_
      refine tn_aload_n dX5_openRoutine_119 rfl 1 rfl ?_
      refine tn_iconst dX5_openRoutine_120 ?_
      refine tn_putV (ci := 5) (i := 13) (n := 46) (r := false) (v := 0) tyX5 tyX5_ok nmX5 dX5_openRoutine_121 rfl lay_5 (by decide) fl5_133 rfl (tyX5_ok 13 (by decide)) rfl rfl rfl ha rfl rfl ?_
      refine tn_aload_n dX5_openRoutine_124 rfl 1 rfl ?_
      refine tn_iconst dX5_openRoutine_125 ?_
      refine tn_putV (ci := 5) (i := 14) (n := 47) (r := false) (v := 0) tyX5 tyX5_ok nmX5 dX5_openRoutine_126 rfl lay_5 (by decide) fl5_136 rfl (tyX5_ok 14 (by decide)) rfl rfl rfl ha rfl rfl ?_
      have w59n : x11 ≠ x45 := fun e => by have q9 := hk13; rw [e] at q9; have w9 := hk47; omega
      have q60 : (sA 47 a (0) (sA 46 a (0) (sA 38 a (z57) σ50))).2.1 38 a = z57 := rc_o (by decide) (rc_o (by decide) (ra_eq))
      have q61 : (sA 47 a (0) (sA 46 a (0) (sA 38 a (z57) σ50))).2.1 35 a = (x24 : Int) := rc_o (by decide) (rc_o (by decide) (rc_o (by decide) (rc_F F56 (Or.inl (by decide)) (by decide) (rc_F F44 (Or.inl (by decide)) (by decide) (rc_F F35 (Or.inl (by decide)) (by decide) (ra_eq))))))
      have w59o6 : σ28.2.1 (1000 + x11) = σ.2.1 (1000 + x11) := by rw [F35.2 x11 (by rw [hk13]; unfold HT; omega) (by rw [hk13]; decide), sA_k (by omega)]
      have w59o7 : σ28.2.1 (1000 + x45) = σ.2.1 (1000 + x45) := by rw [F35.2 x45 (by rw [hk47]; unfold HT; omega) (by rw [hk47]; decide), sA_k (by omega)]
      have w59a : ∀ x : Nat, σ.2.1 36 a = (x : Int) → ∀ i, (sA 47 a (0) (sA 46 a (0) (sA 38 a (z57) σ50))).2.1 (1000 + x) i = if i = (cx).rn then k else σ.2.1 (1000 + x) i := fun y hy i => by
          have e : y = x11 := by rw [show σ.2.1 36 = σ.2.1 36 from rfl] at hy; omega
          rw [e, sA_k (by omega), sA_k (by omega), sA_k (by omega), f53, if_pos ⟨by omega, by omega⟩, sA_k (by omega), f41, if_pos ⟨by omega, by omega⟩, sA_at, e3815, w59o6]
      have w59b : ∀ x : Nat, σ.2.1 37 a = (x : Int) → ∀ i, (sA 47 a (0) (sA 46 a (0) (sA 38 a (z57) σ50))).2.1 (1000 + x) i = if i = (cx).rn then 0 else σ.2.1 (1000 + x) i := fun y hy i => by
          have e : y = x45 := by rw [show σ.2.1 37 = σ.2.1 37 from rfl] at hy; omega
          rw [e, sA_k (by omega), sA_k (by omega), sA_k (by omega), f53, if_pos ⟨by omega, by omega⟩, sA_at, e3815, show σ38.2.1 (1000 + x45) = σ.2.1 (1000 + x45) by rw [f41, if_pos ⟨by omega, by omega⟩, sA_k (by omega), w59o7]]
      have w59r : RDX (sA 47 a (0) (sA 46 a (0) (sA 38 a (z57) σ50))) a Sx nx jx (rnC wx (cx)) 0 := RD0.op (d := x24) hf0 hw ha (show FrC T [6, 7, 8, 9, 10, 35, 38, 46, 47, 516, 517] σ (sA 47 a (0) (sA 46 a (0) (sA 38 a (z57) σ50))) from (((((((FrC.rfl.put (by decide) (by decide)).trans (FrC.sub F35 (by decide))).trans (FrC.sub F44 (by decide))).trans (FrC.sub F56 (by decide))).put (by decide) (by decide)).put (by decide) (by decide)).put (by decide) (by decide))) (by rw [q60]; omega) q61 ((show (sA 47 a (0) (sA 46 a (0) (sA 38 a (z57) σ50))).2.1 6 x24 = σ28.2.1 6 x24 from rc_o (by decide) (rc_o (by decide) (rc_o (by decide) (rc_F F56 (Or.inl (by decide)) (by decide) (rc_F F44 (Or.inl (by decide)) (by decide) (rfl)))))).trans f31) ((show (sA 47 a (0) (sA 46 a (0) (sA 38 a (z57) σ50))).2.1 7 x24 = σ28.2.1 7 x24 from rc_o (by decide) (rc_o (by decide) (rc_o (by decide) (rc_F F56 (Or.inl (by decide)) (by decide) (rc_F F44 (Or.inl (by decide)) (by decide) (rfl)))))).trans f32) hkw w59a w59b hpo
      have w59q := ROQ.fd f6 hf0.2.1 hw ha hkw
      exact tn_vret rfl dX5_openRoutine_129 ⟨rfl, rfl, (((w55.put (by decide) (by decide) (fo_38 (by omega))).put (by decide) (by decide) (fo_46 (by omega))).put (by decide) (by decide) (fo_47 (by omega))), (((((((FrC.rfl.put (by decide) (by decide)).trans (FrC.sub F35 (by decide))).trans (FrC.sub F44 (by decide))).trans (FrC.sub F56 (by decide))).put (by decide) (by decide)).put (by decide) (by decide)).put (by decide) (by decide)), (RP.new (RT.frc hrt (show FrC T [6, 7, 8, 9, 10, 35, 38, 43, 44, 46, 47, 516, 517] σ (sA 47 a (0) (sA 46 a (0) (sA 38 a (z57) σ50))) from (((((((FrC.rfl.put (by decide) (by decide)).trans (FrC.sub F35 (by decide))).trans (FrC.sub F44 (by decide))).trans (FrC.sub F56 (by decide))).put (by decide) (by decide)).put (by decide) (by decide)).put (by decide) (by decide))) (by decide) (by decide) (by decide)) (((w55.put (by decide) (by decide) (fo_38 (by omega))).put (by decide) (by decide) (fo_46 (by omega))).put (by decide) (by decide) (fo_47 (by omega))) ha (rc_o (by decide) (rc_o (by decide) (rc_o (by decide) (rc_F F56 (Or.inl (by decide)) (by decide) (rc_F F44 (Or.inl (by decide)) (by decide) (rc_F F35 (Or.inl (by decide)) (by decide) (ra_eq))))))) (by rw [show (sA 47 a (0) (sA 46 a (0) (sA 38 a (z57) σ50))).2.1 6 x24 = σ28.2.1 6 x24 from rc_o (by decide) (rc_o (by decide) (rc_o (by decide) (rc_F F56 (Or.inl (by decide)) (by decide) (rc_F F44 (Or.inl (by decide)) (by decide) (rfl)))))]; omega)), RDX.cq w59r (by rw [uC2c]; unfold ifN; rw [ifP_f (show ¬ 6 ≤ cx.rn by omega), ifP_f (fun q => absurd (w59q.mpr q) (by omega))])⟩
    · refine tn_aload_n dX5_openRoutine_30 rfl 0 rfl ?_
      refine tn_iconst dX5_openRoutine_31 ?_
      refine tn_aload_n dX5_openRoutine_32 rfl 0 rfl ?_
      obtain ⟨x62, hx63, hk64⟩ : ∃ x : Nat, σ.2.1 33 a = (x : Int) ∧ (T x).1 = 39 := wf_33 hw ha
      have hk64o : OB T x62 9 := ⟨by omega, by rw [hk64]; rfl, by omega⟩
      refine tn_getR (ci := 5) (i := 0) (n := 33) (x := x62) dX5_openRoutine_33 rfl lay_5 (by decide) fl5_12 ha rfl rfl (hx63) ?_
      refine tn_getI (ci := 9) (i := 6) (n := 87) (t := σ.2.1 87 x62) dX5_openRoutine_36 rfl lay_9 (by decide) fl5_74 hk64o rfl rfl (rfl) ?_
      have g66 : ((-2147483648 : Int) ≤ σ.2.1 87 x62 ∧ σ.2.1 87 x62 ≤ 2147483647) := wf_87 hw hk64o
      have g66pl : σ.2.1 87 x62 = (tkS Sx jx).1 := (rfl).symm.trans ((hf0).pl (hx63))
      refine tn_callV (M := m_X5_openRoutine) (pc := 39) (ix := 113) (ci := 5) (M' := m_X5_note) (As := [.int (iI 5), .int (iI (σ.2.1 87 x62))]) (rest := []) dX5_openRoutine_39 ok_X5_note im_X5_note se_X5_note ml5_113 np_X5_note rfl rfl ha rfl (Nat.le_of_ble_eq_true rfl) (Nat.le_of_ble_eq_true rfl) rfl (k_X5_note_f (d + 1) (T := T) (σ := σ) (a := a) (f := 5) (p := σ.2.1 87 x62) ha (by decide) (by omega) hw ) (fun r67 T69 σ68 gt70 hp => ?_)
      obtain ⟨rfl, rfl, w73, F74, f71⟩ := hp
      clear gt70
      have fx75 : RD0 σ68 a Sx nx jx (fpC (cntN 5 (σ.2.1 87 x62) (cx).fp) (cx)) := RD0.nt hf0 hw ha F74 f71
      show Tn _ _ 42 T σ68 [(0, .ref a), (1, .int (iI k))] [] _
      obtain ⟨x76, hx77, hk78, hl79⟩ : ∃ x : Nat, σ.2.1 36 a = (x : Int) ∧ AR T x 16 256 256 := wf_36 hw ha
      have hk78i : IA T x76 := by unfold IA; omega
      have e3880 : σ.2.1 38 a = (fpC (cntN 5 (σ.2.1 87 x62) (cx).fp) (cx)).rn := (rc_F F74 (Or.inl (by decide)) (by decide) (rfl)).symm.trans (fx75).2.1.1.2.2.1
      have e3880c : (fpC (cntN 5 (σ.2.1 87 x62) (cx).fp) (cx)).rn = cx.rn := rfl
      refine tn_iconst dX5_openRoutine_42 ?_
      refine tn_aload_n dX5_openRoutine_43 rfl 0 rfl ?_
      refine tn_getI (ci := 5) (i := 5) (n := 38) (t := σ.2.1 38 a) dX5_openRoutine_44 rfl lay_5 (by decide) fl5_58 ha rfl rfl (rc_F F74 (Or.inl (by decide)) (by decide) (rfl)) ?_
      refine tn_aload_n dX5_openRoutine_47 rfl 0 rfl ?_
      obtain ⟨x81, hx82, hk83, hl84⟩ : ∃ x : Nat, σ.2.1 34 a = (x : Int) ∧ AR T x 4 7 7 := wf_34 hw ha
      have hk83i : (T x81).1 = 4 ∨ (T x81).1 = 5 := by omega
      refine tn_getR (ci := 5) (i := 1) (n := 34) (x := x81) dX5_openRoutine_48 rfl lay_5 (by decide) fl5_20 ha rfl rfl (rc_F F74 (Or.inl (by decide)) (by decide) (hx82)) ?_
      refine tn_alenX dX5_openRoutine_51 (by have q9 := hk83i; omega) ?_
      refine tn_iconst dX5_openRoutine_52 ?_
      refine tn_isub dX5_openRoutine_53 ?_
      refine tn_mmin (x := σ.2.1 38 a) (y := (((T x81).2 : Int)) - 1) dX5_openRoutine_54 mlm5_117 stM_min iniM cdM_min (by omega) (Nat.le_of_ble_eq_true rfl) ⟨by omega, by omega⟩ ⟨by omega, by omega⟩ (fun z85 g86 => ?_)
      refine tn_mmax (x := 0) (y := z85) dX5_openRoutine_57 mlm5_123 stM_max iniM cdM_max (by omega) (Nat.le_of_ble_eq_true rfl) ⟨by omega, by omega⟩ ⟨by omega, by omega⟩ (fun z87 g88 => ?_)
      refine tn_istore_n (L' := [(2, .int (iI z87)), (0, .ref a), (1, .int (iI k))]) dX5_openRoutine_60 rfl (by decide) rfl ?_
      refine tn_aload_n dX5_openRoutine_61 rfl 1 rfl ?_
      refine tn_aload_n dX5_openRoutine_62 rfl 1 rfl ?_
      refine tn_getR (ci := 5) (i := 1) (n := 34) (x := x81) dX5_openRoutine_63 rfl lay_5 (by decide) fl5_20 ha rfl rfl (rc_F F74 (Or.inl (by decide)) (by decide) (hx82)) ?_
      refine tn_iload_n dX5_openRoutine_66 rfl 0 rfl ?_
      obtain ⟨x89, hx90, hk91⟩ := (w73).2.2.2.1.1 x81 hk83 (z87) (by omega) (by omega)
      refine tn_aald (z := z87) (x := x89) dX5_openRoutine_67 hk83i (by omega) (by omega) (by omega) hx90 ?_
      have hk91o : OB T x89 1 := ⟨by omega, by rw [hk91]; rfl, by omega⟩
      refine tn_putV (ci := 5) (i := 2) (n := 35) (r := true) (v := (x89 : Int)) tyX5 tyX5_ok nmX5 dX5_openRoutine_68 rfl lay_5 (by decide) fl5_47 rfl (tyX5_ok 2 (by decide)) (vl_ref rfl).symm rfl rfl ha rfl rfl ?_
      refine tn_aload_n dX5_openRoutine_71 rfl 1 rfl ?_
      refine tn_getR (ci := 5) (i := 2) (n := 35) (x := x89) dX5_openRoutine_72 rfl lay_5 (by decide) fl5_47 ha rfl rfl (ra_eq) ?_
      refine tn_iload_n dX5_openRoutine_75 rfl 0 rfl ?_
      refine tn_callV (M := m_X5_openRoutine) (pc := 76) (ix := 126) (ci := 1) (M' := m_X1_empty) (As := [.int (iI z87)]) (rest := []) dX5_openRoutine_76 ok_X1_empty im_X1_empty se_X1_empty ml5_126 np_X1_empty rfl rfl hk91o rfl (Nat.le_of_ble_eq_true rfl) (Nat.le_of_ble_eq_true rfl) rfl (k_X1_empty_f (d) (T := T) (σ := (sA 35 a ((x89 : Int)) σ68)) (a := x89) (r := z87) hk91o (by omega) (w73.put (by decide) (by decide) (fo_35 ⟨_, rfl, hk91⟩)) ) (fun r92 T94 σ93 gt95 hp => ?_)
      obtain ⟨rfl, rfl, w99, F100, f96, f97⟩ := hp
      clear gt95
      have fx101 : RD0 σ93 a Sx nx jx (fpC (cntN 5 (σ.2.1 87 x62) (cx).fp) (cx)) := RD0.fc (fx75.pt (by decide) (by decide)) (w73.put (by decide) (by decide) (fo_35 ⟨_, rfl, hk91⟩)) ha F100 (by decide) (by decide)
      show Tn _ _ 79 T σ93 [(2, .int (iI z87)), (0, .ref a), (1, .int (iI k))] [] _
      refine tn_aload_n dX5_openRoutine_79 rfl 1 rfl ?_
      refine tn_getR (ci := 5) (i := 3) (n := 36) (x := x76) dX5_openRoutine_80 rfl lay_5 (by decide) fl5_24 ha rfl rfl (rc_F F100 (Or.inl (by decide)) (by decide) (rc_o (by decide) (rc_F F74 (Or.inl (by decide)) (by decide) (hx77)))) ?_
      refine tn_aload_n dX5_openRoutine_83 rfl 1 rfl ?_
      refine tn_getI (ci := 5) (i := 5) (n := 38) (t := σ.2.1 38 a) dX5_openRoutine_84 rfl lay_5 (by decide) fl5_58 ha rfl rfl (rc_F F100 (Or.inl (by decide)) (by decide) (rc_o (by decide) (rc_F F74 (Or.inl (by decide)) (by decide) (rfl)))) ?_
      refine tn_iload_n dX5_openRoutine_87 rfl 2 rfl ?_
      refine tn_callSN (M := m_X5_openRoutine) (pc := 88) (ix := 129) (M' := m_X11_put) (As := [.ref x76, .int (iI (σ.2.1 38 a)), .int (iI k)]) (rest := []) dX5_openRoutine_88 ok_X11_put stt_X11_put nl5_129 np_X11_put rfl (Nat.le_of_ble_eq_true rfl) (Nat.le_of_ble_eq_true rfl) rfl (k_X11_put_16 (d + 1) (T := T) (σ := σ93) (x := x76) (i := σ.2.1 38 a) (y := k) hk78i (by omega) hk78 (by omega) (by omega) w99 ) (fun r102 T104 σ103 gt105 hp => ?_)
      obtain ⟨rfl, rfl, w108, F109, f106⟩ := hp
      clear gt105
      show Tn _ _ 91 T σ103 [(2, .int (iI z87)), (0, .ref a), (1, .int (iI k))] [] _
      refine tn_aload_n dX5_openRoutine_91 rfl 1 rfl ?_
      obtain ⟨x110, hx111, hk112, hl113⟩ : ∃ x : Nat, σ.2.1 37 a = (x : Int) ∧ AR T x 17 256 256 := wf_37 hw ha
      have hk112i : IA T x110 := by unfold IA; omega
      refine tn_getR (ci := 5) (i := 4) (n := 37) (x := x110) dX5_openRoutine_92 rfl lay_5 (by decide) fl5_28 ha rfl rfl (rc_F F109 (Or.inl (by decide)) (by decide) (rc_F F100 (Or.inl (by decide)) (by decide) (rc_o (by decide) (rc_F F74 (Or.inl (by decide)) (by decide) (hx111))))) ?_
      refine tn_aload_n dX5_openRoutine_95 rfl 1 rfl ?_
      refine tn_getI (ci := 5) (i := 5) (n := 38) (t := σ.2.1 38 a) dX5_openRoutine_96 rfl lay_5 (by decide) fl5_58 ha rfl rfl (rc_F F109 (Or.inl (by decide)) (by decide) (rc_F F100 (Or.inl (by decide)) (by decide) (rc_o (by decide) (rc_F F74 (Or.inl (by decide)) (by decide) (rfl))))) ?_
      refine tn_iconst dX5_openRoutine_99 ?_
      refine tn_callSN (M := m_X5_openRoutine) (pc := 100) (ix := 129) (M' := m_X11_put) (As := [.ref x110, .int (iI (σ.2.1 38 a)), .int (iI 0)]) (rest := []) dX5_openRoutine_100 ok_X11_put stt_X11_put nl5_129 np_X11_put rfl (Nat.le_of_ble_eq_true rfl) (Nat.le_of_ble_eq_true rfl) rfl (k_X11_put_17 (d + 1) (T := T) (σ := σ103) (x := x110) (i := σ.2.1 38 a) (y := 0) hk112i (by omega) hk112 (by omega) (by decide) w108 ) (fun r114 T116 σ115 gt117 hp => ?_)
      obtain ⟨rfl, rfl, w120, F121, f118⟩ := hp
      clear gt117
      show Tn _ _ 103 T σ115 [(2, .int (iI z87)), (0, .ref a), (1, .int (iI k))] [] _
      refine tn_aload_n dX5_openRoutine_103 rfl 1 rfl ?_
      refine tn_aload_n dX5_openRoutine_104 rfl 1 rfl ?_
      refine tn_getI (ci := 5) (i := 5) (n := 38) (t := σ.2.1 38 a) dX5_openRoutine_105 rfl lay_5 (by decide) fl5_58 ha rfl rfl (rc_F F121 (Or.inl (by decide)) (by decide) (rc_F F109 (Or.inl (by decide)) (by decide) (rc_F F100 (Or.inl (by decide)) (by decide) (rc_o (by decide) (rc_F F74 (Or.inl (by decide)) (by decide) (rfl)))))) ?_
      refine tn_iconst dX5_openRoutine_108 ?_
      refine tn_iadd dX5_openRoutine_109 ?_
      refine tn_sipush dX5_openRoutine_110 (by decide) ?_
      refine tn_mmin (x := (σ.2.1 38 a) + 1) (y := 256) dX5_openRoutine_113 mlm5_117 stM_min iniM cdM_min (by omega) (Nat.le_of_ble_eq_true rfl) ⟨by omega, by omega⟩ ⟨by omega, by omega⟩ (fun z122 g123 => ?_)
      refine tn_putV (ci := 5) (i := 5) (n := 38) (r := false) (v := z122) tyX5 tyX5_ok nmX5 dX5_openRoutine_116 rfl lay_5 (by decide) fl5_58 rfl (tyX5_ok 5 (by decide)) rfl rfl rfl ha rfl rfl ?_
      refine tn_aload_n dX5_openRoutine_119 rfl 1 rfl ?_
      refine tn_iconst dX5_openRoutine_120 ?_
      refine tn_putV (ci := 5) (i := 13) (n := 46) (r := false) (v := 0) tyX5 tyX5_ok nmX5 dX5_openRoutine_121 rfl lay_5 (by decide) fl5_133 rfl (tyX5_ok 13 (by decide)) rfl rfl rfl ha rfl rfl ?_
      refine tn_aload_n dX5_openRoutine_124 rfl 1 rfl ?_
      refine tn_iconst dX5_openRoutine_125 ?_
      refine tn_putV (ci := 5) (i := 14) (n := 47) (r := false) (v := 0) tyX5 tyX5_ok nmX5 dX5_openRoutine_126 rfl lay_5 (by decide) fl5_136 rfl (tyX5_ok 14 (by decide)) rfl rfl rfl ha rfl rfl ?_
      have w124n : x76 ≠ x110 := fun e => by have q9 := hk78; rw [e] at q9; have w9 := hk112; omega
      have q125 : (sA 47 a (0) (sA 46 a (0) (sA 38 a (z122) σ115))).2.1 38 a = z122 := rc_o (by decide) (rc_o (by decide) (ra_eq))
      have q126 : (sA 47 a (0) (sA 46 a (0) (sA 38 a (z122) σ115))).2.1 35 a = (x89 : Int) := rc_o (by decide) (rc_o (by decide) (rc_o (by decide) (rc_F F121 (Or.inl (by decide)) (by decide) (rc_F F109 (Or.inl (by decide)) (by decide) (rc_F F100 (Or.inl (by decide)) (by decide) (ra_eq))))))
      have w124o6 : σ93.2.1 (1000 + x76) = σ68.2.1 (1000 + x76) := by rw [F100.2 x76 (by rw [hk78]; unfold HT; omega) (by rw [hk78]; decide), sA_k (by omega)]
      have w124o7 : σ93.2.1 (1000 + x110) = σ68.2.1 (1000 + x110) := by rw [F100.2 x110 (by rw [hk112]; unfold HT; omega) (by rw [hk112]; decide), sA_k (by omega)]
      have w124a : ∀ x : Nat, σ68.2.1 36 a = (x : Int) → ∀ i, (sA 47 a (0) (sA 46 a (0) (sA 38 a (z122) σ115))).2.1 (1000 + x) i = if i = (fpC (cntN 5 (σ.2.1 87 x62) (cx).fp) (cx)).rn then k else σ68.2.1 (1000 + x) i := fun y hy i => by
          have e : y = x76 := by rw [show σ68.2.1 36 = σ.2.1 36 from (F74.1 36 (Or.inl (by decide)) (by decide))] at hy; omega
          rw [e, sA_k (by omega), sA_k (by omega), sA_k (by omega), f118, if_pos ⟨by omega, by omega⟩, sA_k (by omega), f106, if_pos ⟨by omega, by omega⟩, sA_at, e3880, w124o6]
      have w124b : ∀ x : Nat, σ68.2.1 37 a = (x : Int) → ∀ i, (sA 47 a (0) (sA 46 a (0) (sA 38 a (z122) σ115))).2.1 (1000 + x) i = if i = (fpC (cntN 5 (σ.2.1 87 x62) (cx).fp) (cx)).rn then 0 else σ68.2.1 (1000 + x) i := fun y hy i => by
          have e : y = x110 := by rw [show σ68.2.1 37 = σ.2.1 37 from (F74.1 37 (Or.inl (by decide)) (by decide))] at hy; omega
          rw [e, sA_k (by omega), sA_k (by omega), sA_k (by omega), f118, if_pos ⟨by omega, by omega⟩, sA_at, e3880, show σ103.2.1 (1000 + x110) = σ68.2.1 (1000 + x110) by rw [f106, if_pos ⟨by omega, by omega⟩, sA_k (by omega), w124o7]]
      have w124r : RDX (sA 47 a (0) (sA 46 a (0) (sA 38 a (z122) σ115))) a Sx nx jx (rnC wx (fpC (cntN 5 (σ.2.1 87 x62) (cx).fp) (cx))) 0 := RD0.op (d := x89) fx75 w73 ha (show FrC T [6, 7, 8, 9, 10, 35, 38, 46, 47, 516, 517] σ68 (sA 47 a (0) (sA 46 a (0) (sA 38 a (z122) σ115))) from (((((((FrC.rfl.put (by decide) (by decide)).trans (FrC.sub F100 (by decide))).trans (FrC.sub F109 (by decide))).trans (FrC.sub F121 (by decide))).put (by decide) (by decide)).put (by decide) (by decide)).put (by decide) (by decide))) (by rw [q125]; omega) q126 ((show (sA 47 a (0) (sA 46 a (0) (sA 38 a (z122) σ115))).2.1 6 x89 = σ93.2.1 6 x89 from rc_o (by decide) (rc_o (by decide) (rc_o (by decide) (rc_F F121 (Or.inl (by decide)) (by decide) (rc_F F109 (Or.inl (by decide)) (by decide) (rfl)))))).trans f96) ((show (sA 47 a (0) (sA 46 a (0) (sA 38 a (z122) σ115))).2.1 7 x89 = σ93.2.1 7 x89 from rc_o (by decide) (rc_o (by decide) (rc_o (by decide) (rc_F F121 (Or.inl (by decide)) (by decide) (rc_F F109 (Or.inl (by decide)) (by decide) (rfl)))))).trans f97) hkw w124a w124b hpo
      have w124q := ROQ.fd f6 hf0.2.1 hw ha hkw
      exact tn_vret rfl dX5_openRoutine_129 ⟨rfl, rfl, (((w120.put (by decide) (by decide) (fo_38 (by omega))).put (by decide) (by decide) (fo_46 (by omega))).put (by decide) (by decide) (fo_47 (by omega))), ((((((((FrC.rfl.trans (FrC.sub F74 (by decide))).put (by decide) (by decide)).trans (FrC.sub F100 (by decide))).trans (FrC.sub F109 (by decide))).trans (FrC.sub F121 (by decide))).put (by decide) (by decide)).put (by decide) (by decide)).put (by decide) (by decide)), (RP.new (RT.frc hrt (show FrC T [6, 7, 8, 9, 10, 35, 38, 43, 44, 46, 47, 516, 517] σ (sA 47 a (0) (sA 46 a (0) (sA 38 a (z122) σ115))) from ((((((((FrC.rfl.trans (FrC.sub F74 (by decide))).put (by decide) (by decide)).trans (FrC.sub F100 (by decide))).trans (FrC.sub F109 (by decide))).trans (FrC.sub F121 (by decide))).put (by decide) (by decide)).put (by decide) (by decide)).put (by decide) (by decide))) (by decide) (by decide) (by decide)) (((w120.put (by decide) (by decide) (fo_38 (by omega))).put (by decide) (by decide) (fo_46 (by omega))).put (by decide) (by decide) (fo_47 (by omega))) ha (rc_o (by decide) (rc_o (by decide) (rc_o (by decide) (rc_F F121 (Or.inl (by decide)) (by decide) (rc_F F109 (Or.inl (by decide)) (by decide) (rc_F F100 (Or.inl (by decide)) (by decide) (ra_eq))))))) (by rw [show (sA 47 a (0) (sA 46 a (0) (sA 38 a (z122) σ115))).2.1 6 x89 = σ93.2.1 6 x89 from rc_o (by decide) (rc_o (by decide) (rc_o (by decide) (rc_F F121 (Or.inl (by decide)) (by decide) (rc_F F109 (Or.inl (by decide)) (by decide) (rfl)))))]; omega)), RDX.cq w124r (by rw [uC2c]; unfold ifN; rw [ifP_t (show 6 ≤ cx.rn by omega), ifP_f (fun q => absurd (w124q.mpr q) (by omega)), g66pl])⟩
  · refine tn_aload_n dX5_openRoutine_9 rfl 0 rfl ?_
    refine tn_iconst dX5_openRoutine_10 ?_
    refine tn_aload_n dX5_openRoutine_11 rfl 0 rfl ?_
    obtain ⟨x127, hx128, hk129⟩ : ∃ x : Nat, σ.2.1 33 a = (x : Int) ∧ (T x).1 = 39 := wf_33 hw ha
    have hk129o : OB T x127 9 := ⟨by omega, by rw [hk129]; rfl, by omega⟩
    refine tn_getR (ci := 5) (i := 0) (n := 33) (x := x127) dX5_openRoutine_12 rfl lay_5 (by decide) fl5_12 ha rfl rfl (hx128) ?_
    refine tn_getI (ci := 9) (i := 6) (n := 87) (t := σ.2.1 87 x127) dX5_openRoutine_15 rfl lay_9 (by decide) fl5_74 hk129o rfl rfl (rfl) ?_
    have g131 : ((-2147483648 : Int) ≤ σ.2.1 87 x127 ∧ σ.2.1 87 x127 ≤ 2147483647) := wf_87 hw hk129o
    have g131pl : σ.2.1 87 x127 = (tkS Sx jx).1 := (rfl).symm.trans ((hf0).pl (hx128))
    refine tn_callV (M := m_X5_openRoutine) (pc := 18) (ix := 113) (ci := 5) (M' := m_X5_note) (As := [.int (iI 2), .int (iI (σ.2.1 87 x127))]) (rest := []) dX5_openRoutine_18 ok_X5_note im_X5_note se_X5_note ml5_113 np_X5_note rfl rfl ha rfl (Nat.le_of_ble_eq_true rfl) (Nat.le_of_ble_eq_true rfl) rfl (k_X5_note_f (d + 1) (T := T) (σ := σ) (a := a) (f := 2) (p := σ.2.1 87 x127) ha (by decide) (by omega) hw ) (fun r132 T134 σ133 gt135 hp => ?_)
    obtain ⟨rfl, rfl, w138, F139, f136⟩ := hp
    clear gt135
    have fx140 : RD0 σ133 a Sx nx jx (fpC (cntN 2 (σ.2.1 87 x127) (cx).fp) (cx)) := RD0.nt hf0 hw ha F139 f136
    show Tn _ _ 21 T σ133 [(0, .ref a), (1, .int (iI k))] [] _
    refine tn_aload_n dX5_openRoutine_21 rfl 0 rfl ?_
    refine tn_getI (ci := 5) (i := 5) (n := 38) (t := σ.2.1 38 a) dX5_openRoutine_22 rfl lay_5 (by decide) fl5_58 ha rfl rfl (rc_F F139 (Or.inl (by decide)) (by decide) (rfl)) ?_
    have g141 : ((0 : Int) ≤ σ.2.1 38 a ∧ σ.2.1 38 a ≤ 256) := wf_38 hw ha
    refine tn_bipush dX5_openRoutine_25 (by decide) ?_
    refine tn_icmp_lt (tgt := 42) dX5_openRoutine_27 (by decide) ⟨by omega, by omega⟩ ⟨by decide, by decide⟩ (fun h142 => ?_) (fun h142 => ?_)
    · obtain ⟨x143, hx144, hk145, hl146⟩ : ∃ x : Nat, σ.2.1 36 a = (x : Int) ∧ AR T x 16 256 256 := wf_36 hw ha
      have hk145i : IA T x143 := by unfold IA; omega
      have e38147 : σ.2.1 38 a = (fpC (cntN 2 (σ.2.1 87 x127) (cx).fp) (cx)).rn := (rc_F F139 (Or.inl (by decide)) (by decide) (rfl)).symm.trans (fx140).2.1.1.2.2.1
      have e38147c : (fpC (cntN 2 (σ.2.1 87 x127) (cx).fp) (cx)).rn = cx.rn := rfl
      refine tn_iconst dX5_openRoutine_42 ?_
      refine tn_aload_n dX5_openRoutine_43 rfl 0 rfl ?_
      refine tn_getI (ci := 5) (i := 5) (n := 38) (t := σ.2.1 38 a) dX5_openRoutine_44 rfl lay_5 (by decide) fl5_58 ha rfl rfl (rc_F F139 (Or.inl (by decide)) (by decide) (rfl)) ?_
      refine tn_aload_n dX5_openRoutine_47 rfl 0 rfl ?_
      obtain ⟨x148, hx149, hk150, hl151⟩ : ∃ x : Nat, σ.2.1 34 a = (x : Int) ∧ AR T x 4 7 7 := wf_34 hw ha
      have hk150i : (T x148).1 = 4 ∨ (T x148).1 = 5 := by omega
      refine tn_getR (ci := 5) (i := 1) (n := 34) (x := x148) dX5_openRoutine_48 rfl lay_5 (by decide) fl5_20 ha rfl rfl (rc_F F139 (Or.inl (by decide)) (by decide) (hx149)) ?_
      refine tn_alenX dX5_openRoutine_51 (by have q9 := hk150i; omega) ?_
      refine tn_iconst dX5_openRoutine_52 ?_
      refine tn_isub dX5_openRoutine_53 ?_
      refine tn_mmin (x := σ.2.1 38 a) (y := (((T x148).2 : Int)) - 1) dX5_openRoutine_54 mlm5_117 stM_min iniM cdM_min (by omega) (Nat.le_of_ble_eq_true rfl) ⟨by omega, by omega⟩ ⟨by omega, by omega⟩ (fun z152 g153 => ?_)
      refine tn_mmax (x := 0) (y := z152) dX5_openRoutine_57 mlm5_123 stM_max iniM cdM_max (by omega) (Nat.le_of_ble_eq_true rfl) ⟨by omega, by omega⟩ ⟨by omega, by omega⟩ (fun z154 g155 => ?_)
      refine tn_istore_n (L' := [(2, .int (iI z154)), (0, .ref a), (1, .int (iI k))]) dX5_openRoutine_60 rfl (by decide) rfl ?_
      refine tn_aload_n dX5_openRoutine_61 rfl 1 rfl ?_
      refine tn_aload_n dX5_openRoutine_62 rfl 1 rfl ?_
      refine tn_getR (ci := 5) (i := 1) (n := 34) (x := x148) dX5_openRoutine_63 rfl lay_5 (by decide) fl5_20 ha rfl rfl (rc_F F139 (Or.inl (by decide)) (by decide) (hx149)) ?_
      refine tn_iload_n dX5_openRoutine_66 rfl 0 rfl ?_
      obtain ⟨x156, hx157, hk158⟩ := (w138).2.2.2.1.1 x148 hk150 (z154) (by omega) (by omega)
      refine tn_aald (z := z154) (x := x156) dX5_openRoutine_67 hk150i (by omega) (by omega) (by omega) hx157 ?_
      have hk158o : OB T x156 1 := ⟨by omega, by rw [hk158]; rfl, by omega⟩
      refine tn_putV (ci := 5) (i := 2) (n := 35) (r := true) (v := (x156 : Int)) tyX5 tyX5_ok nmX5 dX5_openRoutine_68 rfl lay_5 (by decide) fl5_47 rfl (tyX5_ok 2 (by decide)) (vl_ref rfl).symm rfl rfl ha rfl rfl ?_
      refine tn_aload_n dX5_openRoutine_71 rfl 1 rfl ?_
      refine tn_getR (ci := 5) (i := 2) (n := 35) (x := x156) dX5_openRoutine_72 rfl lay_5 (by decide) fl5_47 ha rfl rfl (ra_eq) ?_
      refine tn_iload_n dX5_openRoutine_75 rfl 0 rfl ?_
      refine tn_callV (M := m_X5_openRoutine) (pc := 76) (ix := 126) (ci := 1) (M' := m_X1_empty) (As := [.int (iI z154)]) (rest := []) dX5_openRoutine_76 ok_X1_empty im_X1_empty se_X1_empty ml5_126 np_X1_empty rfl rfl hk158o rfl (Nat.le_of_ble_eq_true rfl) (Nat.le_of_ble_eq_true rfl) rfl (k_X1_empty_f (d) (T := T) (σ := (sA 35 a ((x156 : Int)) σ133)) (a := x156) (r := z154) hk158o (by omega) (w138.put (by decide) (by decide) (fo_35 ⟨_, rfl, hk158⟩)) ) (fun r159 T161 σ160 gt162 hp => ?_)
      obtain ⟨rfl, rfl, w166, F167, f163, f164⟩ := hp
      clear gt162
      have fx168 : RD0 σ160 a Sx nx jx (fpC (cntN 2 (σ.2.1 87 x127) (cx).fp) (cx)) := RD0.fc (fx140.pt (by decide) (by decide)) (w138.put (by decide) (by decide) (fo_35 ⟨_, rfl, hk158⟩)) ha F167 (by decide) (by decide)
      show Tn _ _ 79 T σ160 [(2, .int (iI z154)), (0, .ref a), (1, .int (iI k))] [] _
      refine tn_aload_n dX5_openRoutine_79 rfl 1 rfl ?_
      refine tn_getR (ci := 5) (i := 3) (n := 36) (x := x143) dX5_openRoutine_80 rfl lay_5 (by decide) fl5_24 ha rfl rfl (rc_F F167 (Or.inl (by decide)) (by decide) (rc_o (by decide) (rc_F F139 (Or.inl (by decide)) (by decide) (hx144)))) ?_
      refine tn_aload_n dX5_openRoutine_83 rfl 1 rfl ?_
      refine tn_getI (ci := 5) (i := 5) (n := 38) (t := σ.2.1 38 a) dX5_openRoutine_84 rfl lay_5 (by decide) fl5_58 ha rfl rfl (rc_F F167 (Or.inl (by decide)) (by decide) (rc_o (by decide) (rc_F F139 (Or.inl (by decide)) (by decide) (rfl)))) ?_
      refine tn_iload_n dX5_openRoutine_87 rfl 2 rfl ?_
      refine tn_callSN (M := m_X5_openRoutine) (pc := 88) (ix := 129) (M' := m_X11_put) (As := [.ref x143, .int (iI (σ.2.1 38 a)), .int (iI k)]) (rest := []) dX5_openRoutine_88 ok_X11_put stt_X11_put nl5_129 np_X11_put rfl (Nat.le_of_ble_eq_true rfl) (Nat.le_of_ble_eq_true rfl) rfl (k_X11_put_16 (d + 1) (T := T) (σ := σ160) (x := x143) (i := σ.2.1 38 a) (y := k) hk145i (by omega) hk145 (by omega) (by omega) w166 ) (fun r169 T171 σ170 gt172 hp => ?_)
      obtain ⟨rfl, rfl, w175, F176, f173⟩ := hp
      clear gt172
      show Tn _ _ 91 T σ170 [(2, .int (iI z154)), (0, .ref a), (1, .int (iI k))] [] _
      refine tn_aload_n dX5_openRoutine_91 rfl 1 rfl ?_
      obtain ⟨x177, hx178, hk179, hl180⟩ : ∃ x : Nat, σ.2.1 37 a = (x : Int) ∧ AR T x 17 256 256 := wf_37 hw ha
      have hk179i : IA T x177 := by unfold IA; omega
      refine tn_getR (ci := 5) (i := 4) (n := 37) (x := x177) dX5_openRoutine_92 rfl lay_5 (by decide) fl5_28 ha rfl rfl (rc_F F176 (Or.inl (by decide)) (by decide) (rc_F F167 (Or.inl (by decide)) (by decide) (rc_o (by decide) (rc_F F139 (Or.inl (by decide)) (by decide) (hx178))))) ?_
      refine tn_aload_n dX5_openRoutine_95 rfl 1 rfl ?_
      refine tn_getI (ci := 5) (i := 5) (n := 38) (t := σ.2.1 38 a) dX5_openRoutine_96 rfl lay_5 (by decide) fl5_58 ha rfl rfl (rc_F F176 (Or.inl (by decide)) (by decide) (rc_F F167 (Or.inl (by decide)) (by decide) (rc_o (by decide) (rc_F F139 (Or.inl (by decide)) (by decide) (rfl))))) ?_
      refine tn_iconst dX5_openRoutine_99 ?_
      refine tn_callSN (M := m_X5_openRoutine) (pc := 100) (ix := 129) (M' := m_X11_put) (As := [.ref x177, .int (iI (σ.2.1 38 a)), .int (iI 0)]) (rest := []) dX5_openRoutine_100 ok_X11_put stt_X11_put nl5_129 np_X11_put rfl (Nat.le_of_ble_eq_true rfl) (Nat.le_of_ble_eq_true rfl) rfl (k_X11_put_17 (d + 1) (T := T) (σ := σ170) (x := x177) (i := σ.2.1 38 a) (y := 0) hk179i (by omega) hk179 (by omega) (by decide) w175 ) (fun r181 T183 σ182 gt184 hp => ?_)
      obtain ⟨rfl, rfl, w187, F188, f185⟩ := hp
      clear gt184
      show Tn _ _ 103 T σ182 [(2, .int (iI z154)), (0, .ref a), (1, .int (iI k))] [] _
      refine tn_aload_n dX5_openRoutine_103 rfl 1 rfl ?_
      refine tn_aload_n dX5_openRoutine_104 rfl 1 rfl ?_
      refine tn_getI (ci := 5) (i := 5) (n := 38) (t := σ.2.1 38 a) dX5_openRoutine_105 rfl lay_5 (by decide) fl5_58 ha rfl rfl (rc_F F188 (Or.inl (by decide)) (by decide) (rc_F F176 (Or.inl (by decide)) (by decide) (rc_F F167 (Or.inl (by decide)) (by decide) (rc_o (by decide) (rc_F F139 (Or.inl (by decide)) (by decide) (rfl)))))) ?_
      refine tn_iconst dX5_openRoutine_108 ?_
      refine tn_iadd dX5_openRoutine_109 ?_
      refine tn_sipush dX5_openRoutine_110 (by decide) ?_
      refine tn_mmin (x := (σ.2.1 38 a) + 1) (y := 256) dX5_openRoutine_113 mlm5_117 stM_min iniM cdM_min (by omega) (Nat.le_of_ble_eq_true rfl) ⟨by omega, by omega⟩ ⟨by omega, by omega⟩ (fun z189 g190 => ?_)
      refine tn_putV (ci := 5) (i := 5) (n := 38) (r := false) (v := z189) tyX5 tyX5_ok nmX5 dX5_openRoutine_116 rfl lay_5 (by decide) fl5_58 rfl (tyX5_ok 5 (by decide)) rfl rfl rfl ha rfl rfl ?_
      refine tn_aload_n dX5_openRoutine_119 rfl 1 rfl ?_
      refine tn_iconst dX5_openRoutine_120 ?_
      refine tn_putV (ci := 5) (i := 13) (n := 46) (r := false) (v := 0) tyX5 tyX5_ok nmX5 dX5_openRoutine_121 rfl lay_5 (by decide) fl5_133 rfl (tyX5_ok 13 (by decide)) rfl rfl rfl ha rfl rfl ?_
      refine tn_aload_n dX5_openRoutine_124 rfl 1 rfl ?_
      refine tn_iconst dX5_openRoutine_125 ?_
      refine tn_putV (ci := 5) (i := 14) (n := 47) (r := false) (v := 0) tyX5 tyX5_ok nmX5 dX5_openRoutine_126 rfl lay_5 (by decide) fl5_136 rfl (tyX5_ok 14 (by decide)) rfl rfl rfl ha rfl rfl ?_
      have w191n : x143 ≠ x177 := fun e => by have q9 := hk145; rw [e] at q9; have w9 := hk179; omega
      have q192 : (sA 47 a (0) (sA 46 a (0) (sA 38 a (z189) σ182))).2.1 38 a = z189 := rc_o (by decide) (rc_o (by decide) (ra_eq))
      have q193 : (sA 47 a (0) (sA 46 a (0) (sA 38 a (z189) σ182))).2.1 35 a = (x156 : Int) := rc_o (by decide) (rc_o (by decide) (rc_o (by decide) (rc_F F188 (Or.inl (by decide)) (by decide) (rc_F F176 (Or.inl (by decide)) (by decide) (rc_F F167 (Or.inl (by decide)) (by decide) (ra_eq))))))
      have w191o6 : σ160.2.1 (1000 + x143) = σ133.2.1 (1000 + x143) := by rw [F167.2 x143 (by rw [hk145]; unfold HT; omega) (by rw [hk145]; decide), sA_k (by omega)]
      have w191o7 : σ160.2.1 (1000 + x177) = σ133.2.1 (1000 + x177) := by rw [F167.2 x177 (by rw [hk179]; unfold HT; omega) (by rw [hk179]; decide), sA_k (by omega)]
      have w191a : ∀ x : Nat, σ133.2.1 36 a = (x : Int) → ∀ i, (sA 47 a (0) (sA 46 a (0) (sA 38 a (z189) σ182))).2.1 (1000 + x) i = if i = (fpC (cntN 2 (σ.2.1 87 x127) (cx).fp) (cx)).rn then k else σ133.2.1 (1000 + x) i := fun y hy i => by
          have e : y = x143 := by rw [show σ133.2.1 36 = σ.2.1 36 from (F139.1 36 (Or.inl (by decide)) (by decide))] at hy; omega
          rw [e, sA_k (by omega), sA_k (by omega), sA_k (by omega), f185, if_pos ⟨by omega, by omega⟩, sA_k (by omega), f173, if_pos ⟨by omega, by omega⟩, sA_at, e38147, w191o6]
      have w191b : ∀ x : Nat, σ133.2.1 37 a = (x : Int) → ∀ i, (sA 47 a (0) (sA 46 a (0) (sA 38 a (z189) σ182))).2.1 (1000 + x) i = if i = (fpC (cntN 2 (σ.2.1 87 x127) (cx).fp) (cx)).rn then 0 else σ133.2.1 (1000 + x) i := fun y hy i => by
          have e : y = x177 := by rw [show σ133.2.1 37 = σ.2.1 37 from (F139.1 37 (Or.inl (by decide)) (by decide))] at hy; omega
          rw [e, sA_k (by omega), sA_k (by omega), sA_k (by omega), f185, if_pos ⟨by omega, by omega⟩, sA_at, e38147, show σ170.2.1 (1000 + x177) = σ133.2.1 (1000 + x177) by rw [f173, if_pos ⟨by omega, by omega⟩, sA_k (by omega), w191o7]]
      have w191r : RDX (sA 47 a (0) (sA 46 a (0) (sA 38 a (z189) σ182))) a Sx nx jx (rnC wx (fpC (cntN 2 (σ.2.1 87 x127) (cx).fp) (cx))) 0 := RD0.op (d := x156) fx140 w138 ha (show FrC T [6, 7, 8, 9, 10, 35, 38, 46, 47, 516, 517] σ133 (sA 47 a (0) (sA 46 a (0) (sA 38 a (z189) σ182))) from (((((((FrC.rfl.put (by decide) (by decide)).trans (FrC.sub F167 (by decide))).trans (FrC.sub F176 (by decide))).trans (FrC.sub F188 (by decide))).put (by decide) (by decide)).put (by decide) (by decide)).put (by decide) (by decide))) (by rw [q192]; omega) q193 ((show (sA 47 a (0) (sA 46 a (0) (sA 38 a (z189) σ182))).2.1 6 x156 = σ160.2.1 6 x156 from rc_o (by decide) (rc_o (by decide) (rc_o (by decide) (rc_F F188 (Or.inl (by decide)) (by decide) (rc_F F176 (Or.inl (by decide)) (by decide) (rfl)))))).trans f163) ((show (sA 47 a (0) (sA 46 a (0) (sA 38 a (z189) σ182))).2.1 7 x156 = σ160.2.1 7 x156 from rc_o (by decide) (rc_o (by decide) (rc_o (by decide) (rc_F F188 (Or.inl (by decide)) (by decide) (rc_F F176 (Or.inl (by decide)) (by decide) (rfl)))))).trans f164) hkw w191a w191b hpo
      have w191q := ROQ.fd f6 hf0.2.1 hw ha hkw
      exact tn_vret rfl dX5_openRoutine_129 ⟨rfl, rfl, (((w187.put (by decide) (by decide) (fo_38 (by omega))).put (by decide) (by decide) (fo_46 (by omega))).put (by decide) (by decide) (fo_47 (by omega))), ((((((((FrC.rfl.trans (FrC.sub F139 (by decide))).put (by decide) (by decide)).trans (FrC.sub F167 (by decide))).trans (FrC.sub F176 (by decide))).trans (FrC.sub F188 (by decide))).put (by decide) (by decide)).put (by decide) (by decide)).put (by decide) (by decide)), (RP.new (RT.frc hrt (show FrC T [6, 7, 8, 9, 10, 35, 38, 43, 44, 46, 47, 516, 517] σ (sA 47 a (0) (sA 46 a (0) (sA 38 a (z189) σ182))) from ((((((((FrC.rfl.trans (FrC.sub F139 (by decide))).put (by decide) (by decide)).trans (FrC.sub F167 (by decide))).trans (FrC.sub F176 (by decide))).trans (FrC.sub F188 (by decide))).put (by decide) (by decide)).put (by decide) (by decide)).put (by decide) (by decide))) (by decide) (by decide) (by decide)) (((w187.put (by decide) (by decide) (fo_38 (by omega))).put (by decide) (by decide) (fo_46 (by omega))).put (by decide) (by decide) (fo_47 (by omega))) ha (rc_o (by decide) (rc_o (by decide) (rc_o (by decide) (rc_F F188 (Or.inl (by decide)) (by decide) (rc_F F176 (Or.inl (by decide)) (by decide) (rc_F F167 (Or.inl (by decide)) (by decide) (ra_eq))))))) (by rw [show (sA 47 a (0) (sA 46 a (0) (sA 38 a (z189) σ182))).2.1 6 x156 = σ160.2.1 6 x156 from rc_o (by decide) (rc_o (by decide) (rc_o (by decide) (rc_F F188 (Or.inl (by decide)) (by decide) (rc_F F176 (Or.inl (by decide)) (by decide) (rfl)))))]; omega)), RDX.cq w191r (by rw [uC2c]; unfold ifN; rw [ifP_f (show ¬ 6 ≤ cx.rn by omega), ifP_t (w191q.mp (by omega)), g131pl])⟩
    · refine tn_aload_n dX5_openRoutine_30 rfl 0 rfl ?_
      refine tn_iconst dX5_openRoutine_31 ?_
      refine tn_aload_n dX5_openRoutine_32 rfl 0 rfl ?_
      refine tn_getR (ci := 5) (i := 0) (n := 33) (x := x127) dX5_openRoutine_33 rfl lay_5 (by decide) fl5_12 ha rfl rfl (rc_F F139 (Or.inl (by decide)) (by decide) (hx128)) ?_
      refine tn_getI (ci := 9) (i := 6) (n := 87) (t := σ.2.1 87 x127) dX5_openRoutine_36 rfl lay_9 (by decide) fl5_74 hk129o rfl rfl (rc_F F139 (Or.inl (by decide)) (by decide) (rfl)) ?_
      refine tn_callV (M := m_X5_openRoutine) (pc := 39) (ix := 113) (ci := 5) (M' := m_X5_note) (As := [.int (iI 5), .int (iI (σ.2.1 87 x127))]) (rest := []) dX5_openRoutine_39 ok_X5_note im_X5_note se_X5_note ml5_113 np_X5_note rfl rfl ha rfl (Nat.le_of_ble_eq_true rfl) (Nat.le_of_ble_eq_true rfl) rfl (k_X5_note_f (d + 1) (T := T) (σ := σ133) (a := a) (f := 5) (p := σ.2.1 87 x127) ha (by decide) (by omega) w138 ) (fun r194 T196 σ195 gt197 hp => ?_)
      obtain ⟨rfl, rfl, w200, F201, f198⟩ := hp
      clear gt197
      have fx202 : RD0 σ195 a Sx nx jx (fpC (cntN 5 (σ.2.1 87 x127) (fpC (cntN 2 (σ.2.1 87 x127) (cx).fp) (cx)).fp) (fpC (cntN 2 (σ.2.1 87 x127) (cx).fp) (cx))) := RD0.nt fx140 w138 ha F201 f198
      show Tn _ _ 42 T σ195 [(0, .ref a), (1, .int (iI k))] [] _
      obtain ⟨x203, hx204, hk205, hl206⟩ : ∃ x : Nat, σ.2.1 36 a = (x : Int) ∧ AR T x 16 256 256 := wf_36 hw ha
      have hk205i : IA T x203 := by unfold IA; omega
      have e38207 : σ.2.1 38 a = (fpC (cntN 5 (σ.2.1 87 x127) (fpC (cntN 2 (σ.2.1 87 x127) (cx).fp) (cx)).fp) (fpC (cntN 2 (σ.2.1 87 x127) (cx).fp) (cx))).rn := (rc_F F201 (Or.inl (by decide)) (by decide) (rc_F F139 (Or.inl (by decide)) (by decide) (rfl))).symm.trans (fx202).2.1.1.2.2.1
      have e38207c : (fpC (cntN 5 (σ.2.1 87 x127) (fpC (cntN 2 (σ.2.1 87 x127) (cx).fp) (cx)).fp) (fpC (cntN 2 (σ.2.1 87 x127) (cx).fp) (cx))).rn = cx.rn := rfl
      refine tn_iconst dX5_openRoutine_42 ?_
      refine tn_aload_n dX5_openRoutine_43 rfl 0 rfl ?_
      refine tn_getI (ci := 5) (i := 5) (n := 38) (t := σ.2.1 38 a) dX5_openRoutine_44 rfl lay_5 (by decide) fl5_58 ha rfl rfl (rc_F F201 (Or.inl (by decide)) (by decide) (rc_F F139 (Or.inl (by decide)) (by decide) (rfl))) ?_
      refine tn_aload_n dX5_openRoutine_47 rfl 0 rfl ?_
      obtain ⟨x208, hx209, hk210, hl211⟩ : ∃ x : Nat, σ.2.1 34 a = (x : Int) ∧ AR T x 4 7 7 := wf_34 hw ha
      have hk210i : (T x208).1 = 4 ∨ (T x208).1 = 5 := by omega
      refine tn_getR (ci := 5) (i := 1) (n := 34) (x := x208) dX5_openRoutine_48 rfl lay_5 (by decide) fl5_20 ha rfl rfl (rc_F F201 (Or.inl (by decide)) (by decide) (rc_F F139 (Or.inl (by decide)) (by decide) (hx209))) ?_
      refine tn_alenX dX5_openRoutine_51 (by have q9 := hk210i; omega) ?_
      refine tn_iconst dX5_openRoutine_52 ?_
      refine tn_isub dX5_openRoutine_53 ?_
      refine tn_mmin (x := σ.2.1 38 a) (y := (((T x208).2 : Int)) - 1) dX5_openRoutine_54 mlm5_117 stM_min iniM cdM_min (by omega) (Nat.le_of_ble_eq_true rfl) ⟨by omega, by omega⟩ ⟨by omega, by omega⟩ (fun z212 g213 => ?_)
      refine tn_mmax (x := 0) (y := z212) dX5_openRoutine_57 mlm5_123 stM_max iniM cdM_max (by omega) (Nat.le_of_ble_eq_true rfl) ⟨by omega, by omega⟩ ⟨by omega, by omega⟩ (fun z214 g215 => ?_)
      refine tn_istore_n (L' := [(2, .int (iI z214)), (0, .ref a), (1, .int (iI k))]) dX5_openRoutine_60 rfl (by decide) rfl ?_
      refine tn_aload_n dX5_openRoutine_61 rfl 1 rfl ?_
      refine tn_aload_n dX5_openRoutine_62 rfl 1 rfl ?_
      refine tn_getR (ci := 5) (i := 1) (n := 34) (x := x208) dX5_openRoutine_63 rfl lay_5 (by decide) fl5_20 ha rfl rfl (rc_F F201 (Or.inl (by decide)) (by decide) (rc_F F139 (Or.inl (by decide)) (by decide) (hx209))) ?_
      refine tn_iload_n dX5_openRoutine_66 rfl 0 rfl ?_
      obtain ⟨x216, hx217, hk218⟩ := (w200).2.2.2.1.1 x208 hk210 (z214) (by omega) (by omega)
      refine tn_aald (z := z214) (x := x216) dX5_openRoutine_67 hk210i (by omega) (by omega) (by omega) hx217 ?_
      have hk218o : OB T x216 1 := ⟨by omega, by rw [hk218]; rfl, by omega⟩
      refine tn_putV (ci := 5) (i := 2) (n := 35) (r := true) (v := (x216 : Int)) tyX5 tyX5_ok nmX5 dX5_openRoutine_68 rfl lay_5 (by decide) fl5_47 rfl (tyX5_ok 2 (by decide)) (vl_ref rfl).symm rfl rfl ha rfl rfl ?_
      refine tn_aload_n dX5_openRoutine_71 rfl 1 rfl ?_
      refine tn_getR (ci := 5) (i := 2) (n := 35) (x := x216) dX5_openRoutine_72 rfl lay_5 (by decide) fl5_47 ha rfl rfl (ra_eq) ?_
      refine tn_iload_n dX5_openRoutine_75 rfl 0 rfl ?_
      refine tn_callV (M := m_X5_openRoutine) (pc := 76) (ix := 126) (ci := 1) (M' := m_X1_empty) (As := [.int (iI z214)]) (rest := []) dX5_openRoutine_76 ok_X1_empty im_X1_empty se_X1_empty ml5_126 np_X1_empty rfl rfl hk218o rfl (Nat.le_of_ble_eq_true rfl) (Nat.le_of_ble_eq_true rfl) rfl (k_X1_empty_f (d) (T := T) (σ := (sA 35 a ((x216 : Int)) σ195)) (a := x216) (r := z214) hk218o (by omega) (w200.put (by decide) (by decide) (fo_35 ⟨_, rfl, hk218⟩)) ) (fun r219 T221 σ220 gt222 hp => ?_)
      obtain ⟨rfl, rfl, w226, F227, f223, f224⟩ := hp
      clear gt222
      have fx228 : RD0 σ220 a Sx nx jx (fpC (cntN 5 (σ.2.1 87 x127) (fpC (cntN 2 (σ.2.1 87 x127) (cx).fp) (cx)).fp) (fpC (cntN 2 (σ.2.1 87 x127) (cx).fp) (cx))) := RD0.fc (fx202.pt (by decide) (by decide)) (w200.put (by decide) (by decide) (fo_35 ⟨_, rfl, hk218⟩)) ha F227 (by decide) (by decide)
      show Tn _ _ 79 T σ220 [(2, .int (iI z214)), (0, .ref a), (1, .int (iI k))] [] _
      refine tn_aload_n dX5_openRoutine_79 rfl 1 rfl ?_
      refine tn_getR (ci := 5) (i := 3) (n := 36) (x := x203) dX5_openRoutine_80 rfl lay_5 (by decide) fl5_24 ha rfl rfl (rc_F F227 (Or.inl (by decide)) (by decide) (rc_o (by decide) (rc_F F201 (Or.inl (by decide)) (by decide) (rc_F F139 (Or.inl (by decide)) (by decide) (hx204))))) ?_
      refine tn_aload_n dX5_openRoutine_83 rfl 1 rfl ?_
      refine tn_getI (ci := 5) (i := 5) (n := 38) (t := σ.2.1 38 a) dX5_openRoutine_84 rfl lay_5 (by decide) fl5_58 ha rfl rfl (rc_F F227 (Or.inl (by decide)) (by decide) (rc_o (by decide) (rc_F F201 (Or.inl (by decide)) (by decide) (rc_F F139 (Or.inl (by decide)) (by decide) (rfl))))) ?_
      refine tn_iload_n dX5_openRoutine_87 rfl 2 rfl ?_
      refine tn_callSN (M := m_X5_openRoutine) (pc := 88) (ix := 129) (M' := m_X11_put) (As := [.ref x203, .int (iI (σ.2.1 38 a)), .int (iI k)]) (rest := []) dX5_openRoutine_88 ok_X11_put stt_X11_put nl5_129 np_X11_put rfl (Nat.le_of_ble_eq_true rfl) (Nat.le_of_ble_eq_true rfl) rfl (k_X11_put_16 (d + 1) (T := T) (σ := σ220) (x := x203) (i := σ.2.1 38 a) (y := k) hk205i (by omega) hk205 (by omega) (by omega) w226 ) (fun r229 T231 σ230 gt232 hp => ?_)
      obtain ⟨rfl, rfl, w235, F236, f233⟩ := hp
      clear gt232
      show Tn _ _ 91 T σ230 [(2, .int (iI z214)), (0, .ref a), (1, .int (iI k))] [] _
      refine tn_aload_n dX5_openRoutine_91 rfl 1 rfl ?_
      obtain ⟨x237, hx238, hk239, hl240⟩ : ∃ x : Nat, σ.2.1 37 a = (x : Int) ∧ AR T x 17 256 256 := wf_37 hw ha
      have hk239i : IA T x237 := by unfold IA; omega
      refine tn_getR (ci := 5) (i := 4) (n := 37) (x := x237) dX5_openRoutine_92 rfl lay_5 (by decide) fl5_28 ha rfl rfl (rc_F F236 (Or.inl (by decide)) (by decide) (rc_F F227 (Or.inl (by decide)) (by decide) (rc_o (by decide) (rc_F F201 (Or.inl (by decide)) (by decide) (rc_F F139 (Or.inl (by decide)) (by decide) (hx238)))))) ?_
      refine tn_aload_n dX5_openRoutine_95 rfl 1 rfl ?_
      refine tn_getI (ci := 5) (i := 5) (n := 38) (t := σ.2.1 38 a) dX5_openRoutine_96 rfl lay_5 (by decide) fl5_58 ha rfl rfl (rc_F F236 (Or.inl (by decide)) (by decide) (rc_F F227 (Or.inl (by decide)) (by decide) (rc_o (by decide) (rc_F F201 (Or.inl (by decide)) (by decide) (rc_F F139 (Or.inl (by decide)) (by decide) (rfl)))))) ?_
      refine tn_iconst dX5_openRoutine_99 ?_
      refine tn_callSN (M := m_X5_openRoutine) (pc := 100) (ix := 129) (M' := m_X11_put) (As := [.ref x237, .int (iI (σ.2.1 38 a)), .int (iI 0)]) (rest := []) dX5_openRoutine_100 ok_X11_put stt_X11_put nl5_129 np_X11_put rfl (Nat.le_of_ble_eq_true rfl) (Nat.le_of_ble_eq_true rfl) rfl (k_X11_put_17 (d + 1) (T := T) (σ := σ230) (x := x237) (i := σ.2.1 38 a) (y := 0) hk239i (by omega) hk239 (by omega) (by decide) w235 ) (fun r241 T243 σ242 gt244 hp => ?_)
      obtain ⟨rfl, rfl, w247, F248, f245⟩ := hp
      clear gt244
      show Tn _ _ 103 T σ242 [(2, .int (iI z214)), (0, .ref a), (1, .int (iI k))] [] _
      refine tn_aload_n dX5_openRoutine_103 rfl 1 rfl ?_
      refine tn_aload_n dX5_openRoutine_104 rfl 1 rfl ?_
      refine tn_getI (ci := 5) (i := 5) (n := 38) (t := σ.2.1 38 a) dX5_openRoutine_105 rfl lay_5 (by decide) fl5_58 ha rfl rfl (rc_F F248 (Or.inl (by decide)) (by decide) (rc_F F236 (Or.inl (by decide)) (by decide) (rc_F F227 (Or.inl (by decide)) (by decide) (rc_o (by decide) (rc_F F201 (Or.inl (by decide)) (by decide) (rc_F F139 (Or.inl (by decide)) (by decide) (rfl))))))) ?_
      refine tn_iconst dX5_openRoutine_108 ?_
      refine tn_iadd dX5_openRoutine_109 ?_
      refine tn_sipush dX5_openRoutine_110 (by decide) ?_
      refine tn_mmin (x := (σ.2.1 38 a) + 1) (y := 256) dX5_openRoutine_113 mlm5_117 stM_min iniM cdM_min (by omega) (Nat.le_of_ble_eq_true rfl) ⟨by omega, by omega⟩ ⟨by omega, by omega⟩ (fun z249 g250 => ?_)
      refine tn_putV (ci := 5) (i := 5) (n := 38) (r := false) (v := z249) tyX5 tyX5_ok nmX5 dX5_openRoutine_116 rfl lay_5 (by decide) fl5_58 rfl (tyX5_ok 5 (by decide)) rfl rfl rfl ha rfl rfl ?_
      refine tn_aload_n dX5_openRoutine_119 rfl 1 rfl ?_
      refine tn_iconst dX5_openRoutine_120 ?_
      refine tn_putV (ci := 5) (i := 13) (n := 46) (r := false) (v := 0) tyX5 tyX5_ok nmX5 dX5_openRoutine_121 rfl lay_5 (by decide) fl5_133 rfl (tyX5_ok 13 (by decide)) rfl rfl rfl ha rfl rfl ?_
      refine tn_aload_n dX5_openRoutine_124 rfl 1 rfl ?_
      refine tn_iconst dX5_openRoutine_125 ?_
      refine tn_putV (ci := 5) (i := 14) (n := 47) (r := false) (v := 0) tyX5 tyX5_ok nmX5 dX5_openRoutine_126 rfl lay_5 (by decide) fl5_136 rfl (tyX5_ok 14 (by decide)) rfl rfl rfl ha rfl rfl ?_
      have w251n : x203 ≠ x237 := fun e => by have q9 := hk205; rw [e] at q9; have w9 := hk239; omega
      have q252 : (sA 47 a (0) (sA 46 a (0) (sA 38 a (z249) σ242))).2.1 38 a = z249 := rc_o (by decide) (rc_o (by decide) (ra_eq))
      have q253 : (sA 47 a (0) (sA 46 a (0) (sA 38 a (z249) σ242))).2.1 35 a = (x216 : Int) := rc_o (by decide) (rc_o (by decide) (rc_o (by decide) (rc_F F248 (Or.inl (by decide)) (by decide) (rc_F F236 (Or.inl (by decide)) (by decide) (rc_F F227 (Or.inl (by decide)) (by decide) (ra_eq))))))
      have w251o6 : σ220.2.1 (1000 + x203) = σ195.2.1 (1000 + x203) := by rw [F227.2 x203 (by rw [hk205]; unfold HT; omega) (by rw [hk205]; decide), sA_k (by omega)]
      have w251o7 : σ220.2.1 (1000 + x237) = σ195.2.1 (1000 + x237) := by rw [F227.2 x237 (by rw [hk239]; unfold HT; omega) (by rw [hk239]; decide), sA_k (by omega)]
      have w251a : ∀ x : Nat, σ195.2.1 36 a = (x : Int) → ∀ i, (sA 47 a (0) (sA 46 a (0) (sA 38 a (z249) σ242))).2.1 (1000 + x) i = if i = (fpC (cntN 5 (σ.2.1 87 x127) (fpC (cntN 2 (σ.2.1 87 x127) (cx).fp) (cx)).fp) (fpC (cntN 2 (σ.2.1 87 x127) (cx).fp) (cx))).rn then k else σ195.2.1 (1000 + x) i := fun y hy i => by
          have e : y = x203 := by rw [show σ195.2.1 36 = σ.2.1 36 from ((F201.1 36 (Or.inl (by decide)) (by decide)).trans (F139.1 36 (Or.inl (by decide)) (by decide)))] at hy; omega
          rw [e, sA_k (by omega), sA_k (by omega), sA_k (by omega), f245, if_pos ⟨by omega, by omega⟩, sA_k (by omega), f233, if_pos ⟨by omega, by omega⟩, sA_at, e38207, w251o6]
      have w251b : ∀ x : Nat, σ195.2.1 37 a = (x : Int) → ∀ i, (sA 47 a (0) (sA 46 a (0) (sA 38 a (z249) σ242))).2.1 (1000 + x) i = if i = (fpC (cntN 5 (σ.2.1 87 x127) (fpC (cntN 2 (σ.2.1 87 x127) (cx).fp) (cx)).fp) (fpC (cntN 2 (σ.2.1 87 x127) (cx).fp) (cx))).rn then 0 else σ195.2.1 (1000 + x) i := fun y hy i => by
          have e : y = x237 := by rw [show σ195.2.1 37 = σ.2.1 37 from ((F201.1 37 (Or.inl (by decide)) (by decide)).trans (F139.1 37 (Or.inl (by decide)) (by decide)))] at hy; omega
          rw [e, sA_k (by omega), sA_k (by omega), sA_k (by omega), f245, if_pos ⟨by omega, by omega⟩, sA_at, e38207, show σ230.2.1 (1000 + x237) = σ195.2.1 (1000 + x237) by rw [f233, if_pos ⟨by omega, by omega⟩, sA_k (by omega), w251o7]]
      have w251r : RDX (sA 47 a (0) (sA 46 a (0) (sA 38 a (z249) σ242))) a Sx nx jx (rnC wx (fpC (cntN 5 (σ.2.1 87 x127) (fpC (cntN 2 (σ.2.1 87 x127) (cx).fp) (cx)).fp) (fpC (cntN 2 (σ.2.1 87 x127) (cx).fp) (cx)))) 0 := RD0.op (d := x216) fx202 w200 ha (show FrC T [6, 7, 8, 9, 10, 35, 38, 46, 47, 516, 517] σ195 (sA 47 a (0) (sA 46 a (0) (sA 38 a (z249) σ242))) from (((((((FrC.rfl.put (by decide) (by decide)).trans (FrC.sub F227 (by decide))).trans (FrC.sub F236 (by decide))).trans (FrC.sub F248 (by decide))).put (by decide) (by decide)).put (by decide) (by decide)).put (by decide) (by decide))) (by rw [q252]; omega) q253 ((show (sA 47 a (0) (sA 46 a (0) (sA 38 a (z249) σ242))).2.1 6 x216 = σ220.2.1 6 x216 from rc_o (by decide) (rc_o (by decide) (rc_o (by decide) (rc_F F248 (Or.inl (by decide)) (by decide) (rc_F F236 (Or.inl (by decide)) (by decide) (rfl)))))).trans f223) ((show (sA 47 a (0) (sA 46 a (0) (sA 38 a (z249) σ242))).2.1 7 x216 = σ220.2.1 7 x216 from rc_o (by decide) (rc_o (by decide) (rc_o (by decide) (rc_F F248 (Or.inl (by decide)) (by decide) (rc_F F236 (Or.inl (by decide)) (by decide) (rfl)))))).trans f224) hkw w251a w251b hpo
      have w251q := ROQ.fd f6 hf0.2.1 hw ha hkw
      exact tn_vret rfl dX5_openRoutine_129 ⟨rfl, rfl, (((w247.put (by decide) (by decide) (fo_38 (by omega))).put (by decide) (by decide) (fo_46 (by omega))).put (by decide) (by decide) (fo_47 (by omega))), (((((((((FrC.rfl.trans (FrC.sub F139 (by decide))).trans (FrC.sub F201 (by decide))).put (by decide) (by decide)).trans (FrC.sub F227 (by decide))).trans (FrC.sub F236 (by decide))).trans (FrC.sub F248 (by decide))).put (by decide) (by decide)).put (by decide) (by decide)).put (by decide) (by decide)), (RP.new (RT.frc hrt (show FrC T [6, 7, 8, 9, 10, 35, 38, 43, 44, 46, 47, 516, 517] σ (sA 47 a (0) (sA 46 a (0) (sA 38 a (z249) σ242))) from (((((((((FrC.rfl.trans (FrC.sub F139 (by decide))).trans (FrC.sub F201 (by decide))).put (by decide) (by decide)).trans (FrC.sub F227 (by decide))).trans (FrC.sub F236 (by decide))).trans (FrC.sub F248 (by decide))).put (by decide) (by decide)).put (by decide) (by decide)).put (by decide) (by decide))) (by decide) (by decide) (by decide)) (((w247.put (by decide) (by decide) (fo_38 (by omega))).put (by decide) (by decide) (fo_46 (by omega))).put (by decide) (by decide) (fo_47 (by omega))) ha (rc_o (by decide) (rc_o (by decide) (rc_o (by decide) (rc_F F248 (Or.inl (by decide)) (by decide) (rc_F F236 (Or.inl (by decide)) (by decide) (rc_F F227 (Or.inl (by decide)) (by decide) (ra_eq))))))) (by rw [show (sA 47 a (0) (sA 46 a (0) (sA 38 a (z249) σ242))).2.1 6 x216 = σ220.2.1 6 x216 from rc_o (by decide) (rc_o (by decide) (rc_o (by decide) (rc_F F248 (Or.inl (by decide)) (by decide) (rc_F F236 (Or.inl (by decide)) (by decide) (rfl)))))]; omega)), RDX.cq w251r (by rw [uC2c]; unfold ifN; rw [ifP_t (show 6 ≤ cx.rn by omega), ifP_t (w251q.mp (by omega)), g131pl])⟩
end
section
set_option maxHeartbeats 4000000 in
set_option maxRecDepth 20000 in
theorem l_X5_closeRoutine_f_59 (d : Nat) {T : CT} {σ0 : MS} {a : Nat} {Sx : Int → Int} {nx : Nat} {jx : Nat} {cy : CS} {Ny : Int} {kp : Int} {post : Option Value → CT → MS → Prop} (h_a : OB T a 5) (hw0 : WT T σ0) (hkp : kp ≤ 150) (hx_88 : ∀ (i2 : Int) (σ : MS) , (WT T σ) → (FrC T [] σ0 σ) → (0 ≤ i2 ∧ i2 ≤ 2147483647) → (RDX σ a Sx nx jx cy Ny) → (RP σ a kp) → Tn (d + 4) m_X5_closeRoutine 88 T σ [(0, .ref a), (2, .int (iI i2))] [] post) : ∀ (n : Nat) (i2 : Int) (σ : MS) , (WT T σ) → (FrC T [] σ0 σ) → (0 ≤ i2 ∧ i2 ≤ 2147483647) → (RDX σ a Sx nx jx cy Ny) → (RP σ a kp) → (2147483700 - i2).toNat = n → Tn (d + 4) m_X5_closeRoutine 59 T σ [(0, .ref a), (2, .int (iI i2))] [] post := by
  intro n
  induction n using Nat.strongRecOn with
  | _ n ih =>
    intro i2 σ hw hF r_i2 hcy hrp hm
    refine tn_iload_n dX5_closeRoutine_59 rfl 1 rfl ?_
    refine tn_aload_n dX5_closeRoutine_60 rfl 0 rfl ?_
    obtain ⟨x1, hx2, hk3⟩ : ∃ x : Nat, σ0.2.1 35 a = (x : Int) ∧ (T x).1 = 31 := wf_35 hw0 h_a
    have hk3o : OB T x1 1 := ⟨by omega, by rw [hk3]; rfl, by omega⟩
    refine tn_getR (ci := 5) (i := 2) (n := 35) (x := x1) dX5_closeRoutine_61 rfl lay_5 (by decide) fl5_47 h_a rfl rfl (rc_F hF (Or.inl (by decide)) (by decide) (hx2)) ?_
    refine tn_getI (ci := 1) (i := 2) (n := 7) (t := σ0.2.1 7 x1) dX5_closeRoutine_64 rfl lay_1 (by decide) fl5_152 hk3o rfl rfl (rc_F hF (Or.inl (by decide)) (by decide) (rfl)) ?_
    have g5 : ((0 : Int) ≤ σ0.2.1 7 x1 ∧ σ0.2.1 7 x1 ≤ 12) := wf_7 hw0 hk3o
    refine tn_icmp_ge (tgt := 88) dX5_closeRoutine_67 (by decide) ⟨by omega, by omega⟩ ⟨by omega, by omega⟩ (fun h6 => ?_) (fun h6 => ?_)
    · exact tn_sub [0, 1] rfl (hx_88 (i2) σ hw (FrC.rfl.trans (FrC.sub hF (by decide))) (by omega) hcy (RP.up hrp (by omega)))
    · refine tn_aload_n dX5_closeRoutine_70 rfl 0 rfl ?_
      refine tn_getR (ci := 5) (i := 2) (n := 35) (x := x1) dX5_closeRoutine_71 rfl lay_5 (by decide) fl5_47 h_a rfl rfl (rc_F hF (Or.inl (by decide)) (by decide) (hx2)) ?_
      obtain ⟨x7, hx8, hk9, hl10⟩ : ∃ x : Nat, σ0.2.1 15 x1 = (x : Int) ∧ AR T x 1 144 144 := wf_15 hw0 hk3o
      have hk9i : IA T x7 := by unfold IA; omega
      refine tn_getR (ci := 1) (i := 10) (n := 15) (x := x7) dX5_closeRoutine_74 rfl lay_1 (by decide) fl5_155 hk3o rfl rfl (rc_F hF (Or.inl (by decide)) (by decide) (hx8)) ?_
      refine tn_iload_n dX5_closeRoutine_77 rfl 1 rfl ?_
      refine tn_iload_n dX5_closeRoutine_78 rfl 1 rfl ?_
      refine tn_callSN (M := m_X5_closeRoutine) (pc := 79) (ix := 129) (M' := m_X11_put) (As := [.ref x7, .int (iI i2), .int (iI i2)]) (rest := []) dX5_closeRoutine_79 ok_X11_put stt_X11_put nl5_129 np_X11_put rfl (Nat.le_of_ble_eq_true rfl) (Nat.le_of_ble_eq_true rfl) rfl (k_X11_put (d + 2) (T := T) (σ := σ) (x := x7) (i := i2) (y := i2) hk9i (by omega) (by omega) (by omega) hw (nh_k hk9 (by unfold HT; omega)) (vok_1 (by have q9 := hk9; omega) (by omega))) (fun r11 T13 σ12 gt14 hp => ?_)
      obtain ⟨rfl, rfl, w16, F17⟩ := hp
      clear gt14
      have fx18 : RDX σ12 a Sx nx jx (cy) (Ny) := RDX.fc hcy hw h_a F17 (by decide) (by decide)
      have rp19 : RP σ12 a (kp) := RP.frc hrp F17 (by decide) (by decide) (by decide) (by decide) (by decide)
      show Tn _ _ 82 T σ12 [(0, .ref a), (2, .int (iI i2))] [] _
      refine tn_iinc (q0 := 1) (L' := [(2, .int (iI (i2 + 1))), (0, .ref a)]) dX5_closeRoutine_82 rfl (by decide) rfl ?_
      refine tn_goto (tgt := 59) dX5_closeRoutine_85 (by decide) ?_
      exact tn_sub [1, 0] rfl (ih _ (by omega) (i2 + 1) σ12 w16 ((FrC.rfl.trans (FrC.sub hF (by decide))).trans (FrC.sub F17 (by decide))) (by omega) fx18 (RP.up rp19 (by omega)) rfl)
set_option maxHeartbeats 4000000 in
set_option maxRecDepth 20000 in
theorem l_X5_closeRoutine_f_90 (d : Nat) {T : CT} {σ0 : MS} {a : Nat} {Sx : Int → Int} {nx : Nat} {jx : Nat} {cy : CS} {Ny : Int} {kp : Int} {post : Option Value → CT → MS → Prop} (h_a : OB T a 5) (hw0 : WT T σ0) (hkp : kp ≤ 150) (hx_118 : ∀ (i2 : Int) (σ : MS) , (WT T σ) → (FrC T [] σ0 σ) → (0 ≤ i2 ∧ i2 ≤ 2147483647) → (RDX σ a Sx nx jx cy Ny) → (RP σ a kp) → Tn (d + 4) m_X5_closeRoutine 118 T σ [(0, .ref a), (2, .int (iI i2))] [] post) : ∀ (n : Nat) (i2 : Int) (σ : MS) , (WT T σ) → (FrC T [] σ0 σ) → (0 ≤ i2 ∧ i2 ≤ 2147483647) → (RDX σ a Sx nx jx cy Ny) → (RP σ a kp) → (2147483700 - i2).toNat = n → Tn (d + 4) m_X5_closeRoutine 90 T σ [(0, .ref a), (2, .int (iI i2))] [] post := by
  intro n
  induction n using Nat.strongRecOn with
  | _ n ih =>
    intro i2 σ hw hF r_i2 hcy hrp hm
    refine tn_iload_n dX5_closeRoutine_90 rfl 1 rfl ?_
    refine tn_aload_n dX5_closeRoutine_91 rfl 0 rfl ?_
    obtain ⟨x1, hx2, hk3⟩ : ∃ x : Nat, σ0.2.1 35 a = (x : Int) ∧ (T x).1 = 31 := wf_35 hw0 h_a
    have hk3o : OB T x1 1 := ⟨by omega, by rw [hk3]; rfl, by omega⟩
    refine tn_getR (ci := 5) (i := 2) (n := 35) (x := x1) dX5_closeRoutine_92 rfl lay_5 (by decide) fl5_47 h_a rfl rfl (rc_F hF (Or.inl (by decide)) (by decide) (hx2)) ?_
    refine tn_getI (ci := 1) (i := 1) (n := 6) (t := σ0.2.1 6 x1) dX5_closeRoutine_95 rfl lay_1 (by decide) fl5_146 hk3o rfl rfl (rc_F hF (Or.inl (by decide)) (by decide) (rfl)) ?_
    have g5 : ((0 : Int) ≤ σ0.2.1 6 x1 ∧ σ0.2.1 6 x1 ≤ 5000) ∧ ((T x1).1 = 50 → σ0.2.1 6 x1 ≤ 200) := wf_6 hw0 hk3o
    have g5x := g5.2
    replace g5 := g5.1
    clear g5x
    refine tn_icmp_ge (tgt := 118) dX5_closeRoutine_98 (by decide) ⟨by omega, by omega⟩ ⟨by omega, by omega⟩ (fun h6 => ?_) (fun h6 => ?_)
    · exact tn_sub [0, 1] rfl (hx_118 (i2) σ hw (FrC.rfl.trans (FrC.sub hF (by decide))) (by omega) hcy (RP.up hrp (by omega)))
    · refine tn_iload_n dX5_closeRoutine_101 rfl 1 rfl ?_
      refine tn_bipush dX5_closeRoutine_102 (by decide) ?_
      refine tn_icmp_ge (tgt := 118) dX5_closeRoutine_104 (by decide) ⟨by omega, by omega⟩ ⟨by decide, by decide⟩ (fun h7 => ?_) (fun h7 => ?_)
      · exact tn_sub [0, 1] rfl (hx_118 (i2) σ hw (FrC.rfl.trans (FrC.sub hF (by decide))) (by omega) hcy (RP.up hrp (by omega)))
      · refine tn_aload_n dX5_closeRoutine_107 rfl 0 rfl ?_
        refine tn_iload_n dX5_closeRoutine_108 rfl 1 rfl ?_
        refine tn_callV (M := m_X5_closeRoutine) (pc := 109) (ix := 158) (ci := 5) (M' := m_X5_numberNew) (As := [.int (iI i2)]) (rest := []) dX5_closeRoutine_109 ok_X5_numberNew im_X5_numberNew se_X5_numberNew ml5_158 np_X5_numberNew rfl rfl h_a rfl (Nat.le_of_ble_eq_true rfl) (Nat.le_of_ble_eq_true rfl) rfl (k_X5_numberNew (d) (T := T) (σ := σ) (a := a) (k := i2) h_a (by omega) hw ) (fun r8 T10 σ9 gt11 hp => ?_)
        obtain ⟨rfl, rfl, w13, F14⟩ := hp
        clear gt11
        have fx15 : RDX σ9 a Sx nx jx (cy) (Ny) := RDX.fc hcy hw h_a F14 (by decide) (by decide)
        have rp16 : RP σ9 a (kp) := RP.frc hrp F14 (by decide) (by decide) (by decide) (by decide) (by decide)
        show Tn _ _ 112 T σ9 [(0, .ref a), (2, .int (iI i2))] [] _
        refine tn_iinc (q0 := 1) (L' := [(2, .int (iI (i2 + 1))), (0, .ref a)]) dX5_closeRoutine_112 rfl (by decide) rfl ?_
        refine tn_goto (tgt := 90) dX5_closeRoutine_115 (by decide) ?_
        exact tn_sub [1, 0] rfl (ih _ (by omega) (i2 + 1) σ9 w13 ((FrC.rfl.trans (FrC.sub hF (by decide))).trans (FrC.sub F14 (by decide))) (by omega) fx15 (RP.up rp16 (by omega)) rfl)
set_option maxHeartbeats 4000000 in
set_option maxRecDepth 20000 in
theorem k_X5_closeRoutine_f (d : Nat) {T : CT} {σ : MS} {a : Nat} {w : Int} {kp : Int} {Sx : Int → Int} {nx jx : Nat} {cx : CS} {Nx : Int} (ha : OB T a 5) (h_w : -2147483648 ≤ w ∧ w ≤ 2147483647) (hw : WT T σ) (hfx : RDX σ a Sx nx jx cx Nx) (hkp : kp ≤ 140) (hrp : RP σ a kp) : Tn (d + 4) m_X5_closeRoutine 0 T σ [(0, .ref a), (1, .int (iI w))] [] (fun ro T2 σ2 => ro = none ∧ WT T2 σ2 ∧ FrC T [5, 6, 43, 44] σ σ2 ∧ (RDX σ2 a Sx nx jx (uC cx (0, w, Nx + 1, 0)) (Nx + 1)) ∧ (RP σ2 a (kp + 1))) := by
  have hSb := hfx.1.sb
  refine tn_aload_n dX5_closeRoutine_0 rfl 0 rfl ?_
  obtain ⟨x1, hx2, hk3⟩ : ∃ x : Nat, σ.2.1 35 a = (x : Int) ∧ (T x).1 = 31 := wf_35 hw ha
  have hk3o : OB T x1 1 := ⟨by omega, by rw [hk3]; rfl, by omega⟩
  refine tn_getR (ci := 5) (i := 2) (n := 35) (x := x1) dX5_closeRoutine_1 rfl lay_5 (by decide) fl5_47 ha rfl rfl (hx2) ?_
  refine tn_bipush dX5_closeRoutine_4 (by decide) ?_
  refine tn_iconst dX5_closeRoutine_6 ?_
  refine tn_iconst dX5_closeRoutine_7 ?_
  refine tn_callV (M := m_X5_closeRoutine) (pc := 8) (ix := 139) (ci := 1) (M' := m_X1_append) (As := [.int (iI 7), .int (iI 0), .int (iI 0)]) (rest := []) dX5_closeRoutine_8 ok_X1_append im_X1_append se_X1_append ml5_139 np_X1_append rfl rfl hk3o rfl (Nat.le_of_ble_eq_true rfl) (Nat.le_of_ble_eq_true rfl) rfl (k_X1_append (d) (T := T) (σ := σ) (a := x1) (k := 7) (x := 0) (y := 0) hk3o hk3 (by decide) (by decide) (by decide) hw (RP.cnt hrp hw ha (hx2) (by omega)) (by omega)) (fun r5 T7 σ6 gt8 hp => ?_)
  obtain ⟨rfl, w11, F12, f9⟩ := hp
  have fx13 : RDX σ6 a Sx nx jx (cx) (Nx + 1) := RDX.ap hfx hw ha (hx2) F12 f9
  replace ha : OB T7 a 5 := gt8.ob ha
  have rp14 : RP σ6 a (kp + 1) := RP.app hrp (hx2) F12 (by decide) (by decide) (by decide) (by decide) f9
  show Tn _ _ 11 T7 σ6 [(0, .ref a), (1, .int (iI w))] [] _
  refine tn_aload_n dX5_closeRoutine_11 rfl 0 rfl ?_
  obtain ⟨x15, hx16, hk17⟩ : ∃ x : Nat, σ6.2.1 35 a = (x : Int) ∧ (T7 x).1 = 31 := wf_35 w11 ha
  have hk17o : OB T7 x15 1 := ⟨by omega, by rw [hk17]; rfl, by omega⟩
  refine tn_getR (ci := 5) (i := 2) (n := 35) (x := x15) dX5_closeRoutine_12 rfl lay_5 (by decide) fl5_47 ha rfl rfl (hx16) ?_
  refine tn_iconst dX5_closeRoutine_15 ?_
  refine tn_iconst dX5_closeRoutine_16 ?_
  refine tn_iconst dX5_closeRoutine_17 ?_
  refine tn_callV (M := m_X5_closeRoutine) (pc := 18) (ix := 143) (ci := 1) (M' := m_X1_lastOperand) (As := [.int (iI 0), .int (iI 1), .int (iI 0)]) (rest := []) dX5_closeRoutine_18 ok_X1_lastOperand im_X1_lastOperand se_X1_lastOperand ml5_143 np_X1_lastOperand rfl rfl hk17o rfl (Nat.le_of_ble_eq_true rfl) (Nat.le_of_ble_eq_true rfl) rfl (k_X1_lastOperand (d + 2) (T := T7) (σ := σ6) (a := x15) (i := 0) (k := 1) (y := 0) hk17o (by decide) (by decide) (by decide) w11 ) (fun r19 T21 σ20 gt22 hp => ?_)
  obtain ⟨rfl, rfl, w24, F25⟩ := hp
  clear gt22
  have fx26 : RDX σ20 a Sx nx jx (cx) (Nx + 1) := RDX.fc fx13 w11 ha F25 (by decide) (by decide)
  have rp27 : RP σ20 a (kp + 1) := RP.frc rp14 F25 (by decide) (by decide) (by decide) (by decide) (by decide)
  show Tn _ _ 21 T7 σ20 [(0, .ref a), (1, .int (iI w))] [] _
  refine tn_aload_n dX5_closeRoutine_21 rfl 0 rfl ?_
  refine tn_getR (ci := 5) (i := 2) (n := 35) (x := x15) dX5_closeRoutine_22 rfl lay_5 (by decide) fl5_47 ha rfl rfl (rc_F F25 (Or.inl (by decide)) (by decide) (hx16)) ?_
  refine tn_getI (ci := 1) (i := 1) (n := 6) (t := σ6.2.1 6 x15) dX5_closeRoutine_25 rfl lay_1 (by decide) fl5_146 hk17o rfl rfl (rc_F F25 (Or.inl (by decide)) (by decide) (rfl)) ?_
  have g28 : ((0 : Int) ≤ σ6.2.1 6 x15 ∧ σ6.2.1 6 x15 ≤ 5000) ∧ ((T7 x15).1 = 50 → σ6.2.1 6 x15 ≤ 200) := wf_6 w11 hk17o
  have g28x := g28.2
  replace g28 := g28.1
  clear g28x
  have n629 : σ6.2.1 6 x15 = Nx + 1 := (rc_F F25 (Or.inl (by decide)) (by decide) (rfl)).symm.trans ((fx26).2.2 x15 (rc_F F25 (Or.inl (by decide)) (by decide) (hx16)))
  refine tn_bipush dX5_closeRoutine_28 (by decide) ?_
  refine tn_icmp_le (tgt := 39) dX5_closeRoutine_30 (by decide) ⟨by omega, by omega⟩ ⟨by decide, by decide⟩ (fun h30 => ?_) (fun h30 => ?_)
  · refine tn_aload_n dX5_closeRoutine_39 rfl 0 rfl ?_
    refine tn_getR (ci := 5) (i := 2) (n := 35) (x := x15) dX5_closeRoutine_40 rfl lay_5 (by decide) fl5_47 ha rfl rfl (rc_F F25 (Or.inl (by decide)) (by decide) (hx16)) ?_
    obtain ⟨x31, hx32, hk33, hl34⟩ : ∃ x : Nat, σ6.2.1 14 x15 = (x : Int) ∧ AR T7 x 11 12 12 := wf_14 w11 hk17o
    have hk33i : IA T7 x31 := by unfold IA; omega
    refine tn_getR (ci := 1) (i := 9) (n := 14) (x := x31) dX5_closeRoutine_43 rfl lay_1 (by decide) fl5_149 hk17o rfl rfl (rc_F F25 (Or.inl (by decide)) (by decide) (hx32)) ?_
    refine tn_iconst dX5_closeRoutine_46 ?_
    refine tn_aload_n dX5_closeRoutine_47 rfl 0 rfl ?_
    refine tn_getR (ci := 5) (i := 2) (n := 35) (x := x15) dX5_closeRoutine_48 rfl lay_5 (by decide) fl5_47 ha rfl rfl (rc_F F25 (Or.inl (by decide)) (by decide) (hx16)) ?_
    refine tn_getI (ci := 1) (i := 2) (n := 7) (t := σ6.2.1 7 x15) dX5_closeRoutine_51 rfl lay_1 (by decide) fl5_152 hk17o rfl rfl (rc_F F25 (Or.inl (by decide)) (by decide) (rfl)) ?_
    have g35 : ((0 : Int) ≤ σ6.2.1 7 x15 ∧ σ6.2.1 7 x15 ≤ 12) := wf_7 w11 hk17o
    refine tn_callSN (M := m_X5_closeRoutine) (pc := 54) (ix := 129) (M' := m_X11_put) (As := [.ref x31, .int (iI 0), .int (iI (σ6.2.1 7 x15))]) (rest := []) dX5_closeRoutine_54 ok_X11_put stt_X11_put nl5_129 np_X11_put rfl (Nat.le_of_ble_eq_true rfl) (Nat.le_of_ble_eq_true rfl) rfl (k_X11_put (d + 2) (T := T7) (σ := σ20) (x := x31) (i := 0) (y := σ6.2.1 7 x15) hk33i (by omega) (by decide) (by omega) w24 (nh_k hk33 (by unfold HT; omega)) (by rw [hk33]; exact vok_11 (by omega))) (fun r36 T38 σ37 gt39 hp => ?_)
    obtain ⟨rfl, rfl, w41, F42⟩ := hp
    clear gt39
    have fx43 : RDX σ37 a Sx nx jx (cx) (Nx + 1) := RDX.fc fx26 w24 ha F42 (by decide) (by decide)
    have rp44 : RP σ37 a (kp + 1) := RP.frc rp27 F42 (by decide) (by decide) (by decide) (by decide) (by decide)
    show Tn _ _ 57 T7 σ37 [(0, .ref a), (1, .int (iI w))] [] _
    refine tn_iconst dX5_closeRoutine_57 ?_
    refine tn_istore_n (L' := [(2, .int (iI 0)), (0, .ref a), (1, .int (iI w))]) dX5_closeRoutine_58 rfl (by decide) rfl ?_
    refine tn_sub [1, 0] rfl (l_X5_closeRoutine_f_59 (d) (T := T7) (σ0 := σ37) (a := a) (kp := kp + 1) (Sx := Sx) (nx := nx) (jx := jx) (cy := cx) (Ny := Nx + 1) ha w41 (by omega) (fun i245 σ46 w49 F50 r51 f52 f53 => ?_) _ (0) σ37 w41 FrC.rfl (by omega) fx43 rp44 rfl)
    show Tn _ _ 88 T7 σ46 [(0, .ref a), (2, .int (iI i245))] [] _
    refine tn_iconst dX5_closeRoutine_88 ?_
    refine tn_istore_n (L' := [(2, .int (iI 0)), (0, .ref a)]) dX5_closeRoutine_89 rfl (by decide) rfl ?_
    refine tn_sub [1, 0] rfl (l_X5_closeRoutine_f_90 (d) (T := T7) (σ0 := σ46) (a := a) (kp := kp + 1) (Sx := Sx) (nx := nx) (jx := jx) (cy := cx) (Ny := Nx + 1) ha w49 (by omega) (fun i254 σ55 w58 F59 r60 f61 f62 => ?_) _ (0) σ46 w49 FrC.rfl (by omega) f52 f53 rfl)
    show Tn _ _ 118 T7 σ55 [(0, .ref a), (2, .int (iI i254))] [] _
    exact tn_vret rfl dX5_closeRoutine_118 ⟨rfl, w58, (((((FrC.rfl.trans (FrC.sub F12 (by decide))).trans (FrC.sub (FrC.old F25 gt8) (by decide))).trans (FrC.sub (FrC.old F42 gt8) (by decide))).trans (FrC.sub (FrC.old F50 gt8) (by decide))).trans (FrC.sub (FrC.old F59 gt8) (by decide))), RDX.cq (RDX.nq f61 (by omega)) (uC0n (by omega)).symm, (RP.up f62 (by omega))⟩
  · refine tn_aload_n dX5_closeRoutine_33 rfl 0 rfl ?_
    refine tn_iconst dX5_closeRoutine_34 ?_
    refine tn_iload_n dX5_closeRoutine_35 rfl 1 rfl ?_
    refine tn_callV (M := m_X5_closeRoutine) (pc := 36) (ix := 113) (ci := 5) (M' := m_X5_note) (As := [.int (iI 5), .int (iI w)]) (rest := []) dX5_closeRoutine_36 ok_X5_note im_X5_note se_X5_note ml5_113 np_X5_note rfl rfl ha rfl (Nat.le_of_ble_eq_true rfl) (Nat.le_of_ble_eq_true rfl) rfl (k_X5_note_f (d + 2) (T := T7) (σ := σ20) (a := a) (f := 5) (p := w) ha (by decide) (by omega) w24 ) (fun r63 T65 σ64 gt66 hp => ?_)
    obtain ⟨rfl, rfl, w69, F70, f67⟩ := hp
    clear gt66
    have fx71 : RDX σ64 a Sx nx jx (fpC (cntN 5 (w) (cx).fp) (cx)) (Nx + 1) := RDX.nt fx26 w24 ha F70 f67
    have rp72 : RP σ64 a (kp + 1) := RP.frc rp27 F70 (by decide) (by decide) (by decide) (by decide) (by decide)
    show Tn _ _ 39 T7 σ64 [(0, .ref a), (1, .int (iI w))] [] _
    refine tn_aload_n dX5_closeRoutine_39 rfl 0 rfl ?_
    refine tn_getR (ci := 5) (i := 2) (n := 35) (x := x15) dX5_closeRoutine_40 rfl lay_5 (by decide) fl5_47 ha rfl rfl (rc_F F70 (Or.inl (by decide)) (by decide) (rc_F F25 (Or.inl (by decide)) (by decide) (hx16))) ?_
    obtain ⟨x73, hx74, hk75, hl76⟩ : ∃ x : Nat, σ6.2.1 14 x15 = (x : Int) ∧ AR T7 x 11 12 12 := wf_14 w11 hk17o
    have hk75i : IA T7 x73 := by unfold IA; omega
    refine tn_getR (ci := 1) (i := 9) (n := 14) (x := x73) dX5_closeRoutine_43 rfl lay_1 (by decide) fl5_149 hk17o rfl rfl (rc_F F70 (Or.inl (by decide)) (by decide) (rc_F F25 (Or.inl (by decide)) (by decide) (hx74))) ?_
    refine tn_iconst dX5_closeRoutine_46 ?_
    refine tn_aload_n dX5_closeRoutine_47 rfl 0 rfl ?_
    refine tn_getR (ci := 5) (i := 2) (n := 35) (x := x15) dX5_closeRoutine_48 rfl lay_5 (by decide) fl5_47 ha rfl rfl (rc_F F70 (Or.inl (by decide)) (by decide) (rc_F F25 (Or.inl (by decide)) (by decide) (hx16))) ?_
    refine tn_getI (ci := 1) (i := 2) (n := 7) (t := σ6.2.1 7 x15) dX5_closeRoutine_51 rfl lay_1 (by decide) fl5_152 hk17o rfl rfl (rc_F F70 (Or.inl (by decide)) (by decide) (rc_F F25 (Or.inl (by decide)) (by decide) (rfl))) ?_
    have g77 : ((0 : Int) ≤ σ6.2.1 7 x15 ∧ σ6.2.1 7 x15 ≤ 12) := wf_7 w11 hk17o
    refine tn_callSN (M := m_X5_closeRoutine) (pc := 54) (ix := 129) (M' := m_X11_put) (As := [.ref x73, .int (iI 0), .int (iI (σ6.2.1 7 x15))]) (rest := []) dX5_closeRoutine_54 ok_X11_put stt_X11_put nl5_129 np_X11_put rfl (Nat.le_of_ble_eq_true rfl) (Nat.le_of_ble_eq_true rfl) rfl (k_X11_put (d + 2) (T := T7) (σ := σ64) (x := x73) (i := 0) (y := σ6.2.1 7 x15) hk75i (by omega) (by decide) (by omega) w69 (nh_k hk75 (by unfold HT; omega)) (by rw [hk75]; exact vok_11 (by omega))) (fun r78 T80 σ79 gt81 hp => ?_)
    obtain ⟨rfl, rfl, w83, F84⟩ := hp
    clear gt81
    have fx85 : RDX σ79 a Sx nx jx (fpC (cntN 5 (w) (cx).fp) (cx)) (Nx + 1) := RDX.fc fx71 w69 ha F84 (by decide) (by decide)
    have rp86 : RP σ79 a (kp + 1) := RP.frc rp72 F84 (by decide) (by decide) (by decide) (by decide) (by decide)
    show Tn _ _ 57 T7 σ79 [(0, .ref a), (1, .int (iI w))] [] _
    refine tn_iconst dX5_closeRoutine_57 ?_
    refine tn_istore_n (L' := [(2, .int (iI 0)), (0, .ref a), (1, .int (iI w))]) dX5_closeRoutine_58 rfl (by decide) rfl ?_
    refine tn_sub [1, 0] rfl (l_X5_closeRoutine_f_59 (d) (T := T7) (σ0 := σ79) (a := a) (kp := kp + 1) (Sx := Sx) (nx := nx) (jx := jx) (cy := fpC (cntN 5 (w) (cx).fp) (cx)) (Ny := Nx + 1) ha w83 (by omega) (fun i287 σ88 w91 F92 r93 f94 f95 => ?_) _ (0) σ79 w83 FrC.rfl (by omega) fx85 rp86 rfl)
    show Tn _ _ 88 T7 σ88 [(0, .ref a), (2, .int (iI i287))] [] _
    refine tn_iconst dX5_closeRoutine_88 ?_
    refine tn_istore_n (L' := [(2, .int (iI 0)), (0, .ref a)]) dX5_closeRoutine_89 rfl (by decide) rfl ?_
    refine tn_sub [1, 0] rfl (l_X5_closeRoutine_f_90 (d) (T := T7) (σ0 := σ88) (a := a) (kp := kp + 1) (Sx := Sx) (nx := nx) (jx := jx) (cy := fpC (cntN 5 (w) (cx).fp) (cx)) (Ny := Nx + 1) ha w91 (by omega) (fun i296 σ97 w100 F101 r102 f103 f104 => ?_) _ (0) σ88 w91 FrC.rfl (by omega) f94 f95 rfl)
    show Tn _ _ 118 T7 σ97 [(0, .ref a), (2, .int (iI i296))] [] _
    exact tn_vret rfl dX5_closeRoutine_118 ⟨rfl, w100, ((((((FrC.rfl.trans (FrC.sub F12 (by decide))).trans (FrC.sub (FrC.old F25 gt8) (by decide))).trans (FrC.sub (FrC.old F70 gt8) (by decide))).trans (FrC.sub (FrC.old F84 gt8) (by decide))).trans (FrC.sub (FrC.old F92 gt8) (by decide))).trans (FrC.sub (FrC.old F101 gt8) (by decide))), RDX.cq (RDX.nq f103 (by omega)) (uC0o (by omega)).symm, (RP.up f104 (by omega))⟩
end
section
set_option maxHeartbeats 4000000 in
set_option maxRecDepth 20000 in
theorem k_X5_atom_f (d : Nat) {T : CT} {σ : MS} {a : Nat} {dp : Int} {kp : Int} {lv : Nat} {Sx : Int → Int} {nx jx : Nat} {cx : CS} {Nx : Int} {eo : Int} (ha : OB T a 5) (h_dp : -2147483648 ≤ dp ∧ dp ≤ 2147483647) (hw : WT T σ) (hex : ∀ (d : Nat) {T : CT} {σ : MS} {a : Nat} {dp : Int} {kp : Int} {Sx : Int → Int} {nx jx : Nat} {cx : CS} {Nx : Int} {eo : Int} (ha : OB T a 5) (h_dp : -2147483648 ≤ dp ∧ dp ≤ 2147483647) (hw : WT T σ) (hdp : 1 ≤ dp ∧ dp ≤ 9) (hlv : 9 ≤ dp + (lv : Int)) (hfx : RDX σ a Sx nx jx cx Nx) (heo : eo = dp - 1) (hkp : kp ≤ 150) (hrp : RP σ a kp), Tn (d + 5 * lv + 10) m_X5_expression 0 T σ [(0, .ref a), (1, .int (iI dp))] [] (fun ro T2 σ2 => ∃ v : Int, ro = some (.int (iI v)) ∧ WT T2 σ2 ∧ FrC T [5, 6, 7, 43, 44, 47, 50, 51, 84, 85, 86, 87, 521] σ σ2 ∧ (v = 0 ∨ v = 1) ∧ (XQ σ2 a Sx nx (eo) [2] jx cx Nx v) ∧ (RP σ2 a (kp - 4 * v)))) (hdp : 1 ≤ dp ∧ dp ≤ 8) (hlv : 8 ≤ dp + (lv : Int)) (hfx : RDX σ a Sx nx jx cx Nx) (heo : eo = dp) (hkp : kp ≤ 150) (hrp : RP σ a kp) : Tn (d + 5 * lv + 11) m_X5_atom 0 T σ [(0, .ref a), (1, .int (iI dp))] [] (fun ro T2 σ2 => ∃ v : Int, ro = some (.int (iI v)) ∧ WT T2 σ2 ∧ FrC T [5, 6, 7, 43, 44, 47, 50, 51, 84, 85, 86, 87, 521] σ σ2 ∧ (v = 0 ∨ v = 1) ∧ (XQ σ2 a Sx nx (eo) [1] jx cx Nx v) ∧ (RP σ2 a (kp - 4 * v))) := by
  have hSb := hfx.1.sb
  refine tn_aload_n dX5_atom_0 rfl 0 rfl ?_
  obtain ⟨x1, hx2, hk3⟩ : ∃ x : Nat, σ.2.1 33 a = (x : Int) ∧ (T x).1 = 39 := wf_33 hw ha
  have hk3o : OB T x1 9 := ⟨by omega, by rw [hk3]; rfl, by omega⟩
  refine tn_getR (ci := 5) (i := 0) (n := 33) (x := x1) dX5_atom_1 rfl lay_5 (by decide) fl5_12 ha rfl rfl (hx2) ?_
  refine tn_getI (ci := 9) (i := 4) (n := 85) (t := σ.2.1 85 x1) dX5_atom_4 rfl lay_9 (by decide) fl5_71 hk3o rfl rfl (rfl) ?_
  have g5 : ((-2147483648 : Int) ≤ σ.2.1 85 x1 ∧ σ.2.1 85 x1 ≤ 2147483647) := wf_85 hw hk3o
  have g5kd : σ.2.1 85 x1 = ckd (tkS Sx jx) := (rfl).symm.trans ((hfx).1.kd (hx2))
  refine tn_bipush dX5_atom_7 (by decide) ?_
  refine tn_icmp_ne (tgt := 44) dX5_atom_9 (by decide) ⟨by omega, by omega⟩ ⟨by decide, by decide⟩ (fun h6 => ?_) (fun h6 => ?_)
  · refine tn_aload_n dX5_atom_44 rfl 0 rfl ?_
    refine tn_getR (ci := 5) (i := 0) (n := 33) (x := x1) dX5_atom_45 rfl lay_5 (by decide) fl5_12 ha rfl rfl (hx2) ?_
    refine tn_getI (ci := 9) (i := 4) (n := 85) (t := σ.2.1 85 x1) dX5_atom_48 rfl lay_9 (by decide) fl5_71 hk3o rfl rfl (rfl) ?_
    refine tn_sipush dX5_atom_51 (by decide) ?_
    refine tn_icmp_ne (tgt := 76) dX5_atom_54 (by decide) ⟨by omega, by omega⟩ ⟨by decide, by decide⟩ (fun h7 => ?_) (fun h7 => ?_)
    · refine tn_aload_n dX5_atom_76 rfl 0 rfl ?_
      refine tn_getR (ci := 5) (i := 0) (n := 33) (x := x1) dX5_atom_77 rfl lay_5 (by decide) fl5_12 ha rfl rfl (hx2) ?_
      refine tn_getI (ci := 9) (i := 4) (n := 85) (t := σ.2.1 85 x1) dX5_atom_80 rfl lay_9 (by decide) fl5_71 hk3o rfl rfl (rfl) ?_
      refine tn_sipush dX5_atom_83 (by decide) ?_
      refine tn_icmp_ne (tgt := 105) dX5_atom_86 (by decide) ⟨by omega, by omega⟩ ⟨by decide, by decide⟩ (fun h8 => ?_) (fun h8 => ?_)
      · refine tn_aload_n dX5_atom_105 rfl 0 rfl ?_
        refine tn_callV (M := m_X5_atom) (pc := 106) (ix := 90) (ci := 5) (M' := m_X5_refuse) (As := []) (rest := []) dX5_atom_106 ok_X5_refuse im_X5_refuse se_X5_refuse ml5_90 np_X5_refuse rfl rfl ha rfl (Nat.le_of_ble_eq_true rfl) (Nat.le_of_ble_eq_true rfl) rfl (k_X5_refuse_f (d + 5 * lv + 9) (T := T) (σ := σ) (a := a) ha hw (hfx).1.1) (fun r9 T11 σ10 gt12 hp => ?_)
        obtain ⟨v17, rfl, rfl, w18, F19, f13, f14, f15, f16⟩ := hp
        clear gt12
        have pc20 : EXF Sx (eo) [1] jx (tkS Sx jx).1 := fun _ _ => x1f hSb (by omega) (by omega) (by omega)
        have rf210 : EXR Sx (eo) [1] jx (eo) [1] jx (0) ([]) := EXR.nl
        have rf21 : EXF Sx (eo) [1] jx ((tkS Sx jx).1) := EXR.fl (l := [1]) [] rf210 pc20
        have rp22 : RP σ10 a (kp) := RP.frc hrp F19 (by decide) (by decide) (by decide) (by decide) (by decide)
        show Tn _ _ 109 T σ10 [(0, .ref a), (1, .int (iI dp))] [.int (iI v17)] _
        have rb24 : XFc σ10 a Sx (eo) [1] jx := ⟨_, rf21, f15⟩
        exact tn_zret (v := v17) rfl (by omega) dX5_atom_109 ⟨_, rfl, w18, (FrC.rfl.trans (FrC.sub F19 (by decide))), by omega, ⟨fun q => absurd q (by omega), fun _ => rb24⟩, (RP.up rp22 (by omega))⟩
      · refine tn_aload_n dX5_atom_89 rfl 0 rfl ?_
        refine tn_iconst dX5_atom_90 ?_
        refine tn_putV (ci := 5) (i := 17) (n := 50) (r := false) (v := 2) tyX5 tyX5_ok nmX5 dX5_atom_91 rfl lay_5 (by decide) fl5_216 rfl (tyX5_ok 17 (by decide)) rfl rfl rfl ha rfl rfl ?_
        refine tn_aload_n dX5_atom_94 rfl 0 rfl ?_
        refine tn_aload_n dX5_atom_95 rfl 0 rfl ?_
        refine tn_callV (M := m_X5_atom) (pc := 96) (ix := 176) (ci := 5) (M' := m_X5_register) (As := []) (rest := [.ref a]) dX5_atom_96 ok_X5_register im_X5_register se_X5_register ml5_176 np_X5_register rfl rfl ha rfl (Nat.le_of_ble_eq_true rfl) (Nat.le_of_ble_eq_true rfl) rfl (k_X5_register_f (d + 5 * lv + 8) (T := T) (σ := (sA 50 a (2) σ)) (a := a) ha (hw.put (by decide) (by decide) (fo_50 (by omega))) (hfx.pt (by decide) (by decide)) (by omega)) (fun r25 T27 σ26 gt28 hp => ?_)
        obtain ⟨v31, rfl, rfl, w32, F33, f29, f30⟩ := hp
        clear gt28
        have rp34 : RP σ26 a (kp) := RP.frc (hrp.put (by decide)) F33 (by decide) (by decide) (by decide) (by decide) (by decide)
        show Tn _ _ 99 T σ26 [(0, .ref a), (1, .int (iI dp))] [.int (iI v31), .ref a] _
        refine tn_putV (ci := 5) (i := 18) (n := 51) (r := false) (v := v31) tyX5 tyX5_ok nmX5 dX5_atom_99 rfl lay_5 (by decide) fl5_219 rfl (tyX5_ok 18 (by decide)) rfl rfl rfl ha rfl rfl ?_
        refine tn_goto (tgt := 110) dX5_atom_102 (by decide) ?_
        refine tn_aload_n dX5_atom_110 rfl 0 rfl ?_
        refine tn_getR (ci := 5) (i := 0) (n := 33) (x := x1) dX5_atom_111 rfl lay_5 (by decide) fl5_12 ha rfl rfl (rc_o (by decide) (rc_F F33 (Or.inl (by decide)) (by decide) (rc_o (by decide) (hx2)))) ?_
        have q39 : (sA 51 a (v31) σ26).2.1 84 x1 = σ.2.1 84 x1 := rc_o (by decide) (rc_F F33 (Or.inl (by decide)) (by decide) (rc_o (by decide) (rfl)))
        refine tn_callV (M := m_X5_atom) (pc := 114) (ix := 93) (ci := 9) (M' := m_X9_next) (As := []) (rest := []) dX5_atom_114 ok_X9_next im_X9_next se_X9_next ml5_93 np_X9_next rfl rfl hk3o rfl (Nat.le_of_ble_eq_true rfl) (Nat.le_of_ble_eq_true rfl) rfl (k_X9_next_f (d + 5 * lv + 9) (T := T) (σ := (sA 51 a (v31) σ26)) (a := x1) hk3o (w32.put (by decide) (by decide) (fo_51 (by omega))) (RP.tk (rp34.put (by decide)) (w32.put (by decide) (by decide) (fo_51 (by omega))) ha (rc_o (by decide) (rc_F F33 (Or.inl (by decide)) (by decide) (rc_o (by decide) (hx2))))) (((f30.pt (by decide) (by decide))).1.tk (rc_o (by decide) (rc_F F33 (Or.inl (by decide)) (by decide) (rc_o (by decide) (hx2))))) (by rw [((f30.pt (by decide) (by decide))).1.kd (rc_o (by decide) (rc_F F33 (Or.inl (by decide)) (by decide) (rc_o (by decide) (hx2))))]; omega)) (fun r35 T37 σ36 gt38 hp => ?_)
        obtain ⟨rfl, rfl, w45, F46, f40, f41, f42, f43⟩ := hp
        clear gt38
        have pc48 : EXR Sx (eo) [1] jx (eo) [] (jx + 1) 0 [(4, (tkS Sx jx).1, 0, (tkS Sx jx).2.2.2.2)] := fun _ _ => x1w hSb (by omega)
        have rd490 : EXR Sx (eo) [1] jx (eo) [1] jx (0) ([]) := EXR.nl
        have rd49a : EXR Sx (eo) [1] jx (eo) [] (jx + 1) (0 + 0) ([] ++ [(4, (tkS Sx jx).1, 0, (tkS Sx jx).2.2.2.2)]) := EXR.gg (l := [1]) (ms := []) [] rd490 pc48
        have rd49 : EXR Sx (eo) [1] jx (eo) [] (jx + 1) (0 + 0) ([(4, (tkS Sx jx).1, 0, (tkS Sx jx).2.2.2.2)]) := rd49a
        have fx47 : RDX σ36 a Sx nx (jx + 1) (uC (cx) (4, (tkS Sx jx).1, 0, (tkS Sx jx).2.2.2.2)) (Nx) := RDX.nx (f30.pt (by decide) (by decide)) (w32.put (by decide) (by decide) (fo_51 (by omega))) ha (rc_o (by decide) (rc_F F33 (Or.inl (by decide)) (by decide) (rc_o (by decide) (hx2)))) F46 f43
        have rp50 : RP σ36 a (kp - 4) := RP.next4 (rp34.put (by decide)) (rc_o (by decide) (rc_F F33 (Or.inl (by decide)) (by decide) (rc_o (by decide) (hx2)))) F46 (by decide) (by decide) (by decide) f40 f42 (by rw [show (sA 51 a (v31) σ26).2.1 85 x1 = σ.2.1 85 x1 from rc_o (by decide) (rc_F F33 (Or.inl (by decide)) (by decide) (rc_o (by decide) (rfl)))]; omega)
        show Tn _ _ 117 T σ36 [(0, .ref a), (1, .int (iI dp))] [] _
        refine tn_iconst dX5_atom_117 ?_
        have ra51 : XS σ36 a Sx nx (eo) [1] jx cx Nx (eo) [] ((jx : Int) + 1) := ⟨(jx + 1), [(4, (tkS Sx jx).1, 0, (tkS Sx jx).2.2.2.2)], 0 + 0, (by omega), rd49, RDX.nq (RDX.cq fx47 (by simp only [List.foldl_append, List.foldl_cons, List.foldl_nil])) (by omega)⟩
        exact tn_zret (v := 1) rfl (by decide) dX5_atom_118 ⟨_, rfl, w45, ((((FrC.rfl.put (by decide) (by decide)).trans (FrC.sub F33 (by decide))).put (by decide) (by decide)).trans (FrC.sub F46 (by decide))), by omega, ⟨fun _ => ra51, fun q => absurd q (by decide)⟩, (RP.up rp50 (by omega))⟩
    · refine tn_aload_n dX5_atom_57 rfl 0 rfl ?_
      refine tn_iconst dX5_atom_58 ?_
      refine tn_putV (ci := 5) (i := 17) (n := 50) (r := false) (v := 1) tyX5 tyX5_ok nmX5 dX5_atom_59 rfl lay_5 (by decide) fl5_216 rfl (tyX5_ok 17 (by decide)) rfl rfl rfl ha rfl rfl ?_
      refine tn_aload_n dX5_atom_62 rfl 0 rfl ?_
      refine tn_aload_n dX5_atom_63 rfl 0 rfl ?_
      refine tn_getR (ci := 5) (i := 0) (n := 33) (x := x1) dX5_atom_64 rfl lay_5 (by decide) fl5_12 ha rfl rfl (rc_o (by decide) (hx2)) ?_
      refine tn_getI (ci := 9) (i := 5) (n := 86) (t := σ.2.1 86 x1) dX5_atom_67 rfl lay_9 (by decide) fl5_96 hk3o rfl rfl (rc_o (by decide) (rfl)) ?_
      have g53 : ((-2147483648 : Int) ≤ σ.2.1 86 x1 ∧ σ.2.1 86 x1 ≤ 2147483647) := wf_86 hw hk3o
      have g53ky : NKY (tkS Sx jx) (σ.2.1 86 x1) := by rw [← show (sA 50 a (1) σ).2.1 86 x1 = σ.2.1 86 x1 from rc_o (by decide) (rfl)]; exact ((hfx.pt (by decide) (by decide))).1.ky (rc_o (by decide) (hx2))
      refine tn_putV (ci := 5) (i := 18) (n := 51) (r := false) (v := σ.2.1 86 x1) tyX5 tyX5_ok nmX5 dX5_atom_70 rfl lay_5 (by decide) fl5_219 rfl (tyX5_ok 18 (by decide)) rfl rfl rfl ha rfl rfl ?_
      refine tn_goto (tgt := 110) dX5_atom_73 (by decide) ?_
      refine tn_aload_n dX5_atom_110 rfl 0 rfl ?_
      refine tn_getR (ci := 5) (i := 0) (n := 33) (x := x1) dX5_atom_111 rfl lay_5 (by decide) fl5_12 ha rfl rfl (rc_o (by decide) (rc_o (by decide) (hx2))) ?_
      have q58 : (sA 51 a (σ.2.1 86 x1) (sA 50 a (1) σ)).2.1 84 x1 = σ.2.1 84 x1 := rc_o (by decide) (rc_o (by decide) (rfl))
      refine tn_callV (M := m_X5_atom) (pc := 114) (ix := 93) (ci := 9) (M' := m_X9_next) (As := []) (rest := []) dX5_atom_114 ok_X9_next im_X9_next se_X9_next ml5_93 np_X9_next rfl rfl hk3o rfl (Nat.le_of_ble_eq_true rfl) (Nat.le_of_ble_eq_true rfl) rfl (k_X9_next_f (d + 5 * lv + 9) (T := T) (σ := (sA 51 a (σ.2.1 86 x1) (sA 50 a (1) σ))) (a := x1) hk3o ((hw.put (by decide) (by decide) (fo_50 (by omega))).put (by decide) (by decide) (fo_51 (by omega))) (RP.tk ((hrp.put (by decide)).put (by decide)) ((hw.put (by decide) (by decide) (fo_50 (by omega))).put (by decide) (by decide) (fo_51 (by omega))) ha (rc_o (by decide) (rc_o (by decide) (hx2)))) ((((hfx.pt (by decide) (by decide)).pt (by decide) (by decide))).1.tk (rc_o (by decide) (rc_o (by decide) (hx2)))) (by rw [(((hfx.pt (by decide) (by decide)).pt (by decide) (by decide))).1.kd (rc_o (by decide) (rc_o (by decide) (hx2)))]; omega)) (fun r54 T56 σ55 gt57 hp => ?_)
      obtain ⟨rfl, rfl, w64, F65, f59, f60, f61, f62⟩ := hp
      clear gt57
      have pc67 : EXR Sx (eo) [1] jx (eo) [] (jx + 1) 0 [] := fun _ _ => x1d hSb (by omega)
      have rd680 : EXR Sx (eo) [1] jx (eo) [1] jx (0) ([]) := EXR.nl
      have rd68 : EXR Sx (eo) [1] jx (eo) [] (jx + 1) (0 + 0) ([]) := EXR.g0 (l := [1]) (ms := []) [] rd680 pc67
      have fx66 : RDX σ55 a Sx nx (jx + 1) (cx) (Nx) := RDX.nx ((hfx.pt (by decide) (by decide)).pt (by decide) (by decide)) ((hw.put (by decide) (by decide) (fo_50 (by omega))).put (by decide) (by decide) (fo_51 (by omega))) ha (rc_o (by decide) (rc_o (by decide) (hx2))) F65 f62
      have rp69 : RP σ55 a (kp - 4) := RP.next4 ((hrp.put (by decide)).put (by decide)) (rc_o (by decide) (rc_o (by decide) (hx2))) F65 (by decide) (by decide) (by decide) f59 f61 (by rw [show (sA 51 a (σ.2.1 86 x1) (sA 50 a (1) σ)).2.1 85 x1 = σ.2.1 85 x1 from rc_o (by decide) (rc_o (by decide) (rfl))]; omega)
      show Tn _ _ 117 T σ55 [(0, .ref a), (1, .int (iI dp))] [] _
      refine tn_iconst dX5_atom_117 ?_
      have ra70 : XS σ55 a Sx nx (eo) [1] jx cx Nx (eo) [] ((jx : Int) + 1) := ⟨(jx + 1), [], 0 + 0, (by omega), rd68, RDX.nq (RDX.cq fx66 rfl) (by omega)⟩
      exact tn_zret (v := 1) rfl (by decide) dX5_atom_118 ⟨_, rfl, w64, (((FrC.rfl.put (by decide) (by decide)).put (by decide) (by decide)).trans (FrC.sub F65 (by decide))), by omega, ⟨fun _ => ra70, fun q => absurd q (by decide)⟩, (RP.up rp69 (by omega))⟩
  · refine tn_aload_n dX5_atom_12 rfl 0 rfl ?_
    refine tn_getR (ci := 5) (i := 0) (n := 33) (x := x1) dX5_atom_13 rfl lay_5 (by decide) fl5_12 ha rfl rfl (hx2) ?_
    refine tn_callV (M := m_X5_atom) (pc := 16) (ix := 93) (ci := 9) (M' := m_X9_next) (As := []) (rest := []) dX5_atom_16 ok_X9_next im_X9_next se_X9_next ml5_93 np_X9_next rfl rfl hk3o rfl (Nat.le_of_ble_eq_true rfl) (Nat.le_of_ble_eq_true rfl) rfl (k_X9_next_f (d + 5 * lv + 9) (T := T) (σ := σ) (a := x1) hk3o hw (RP.tk hrp hw ha (hx2)) ((hfx).1.tk (hx2)) (by rw [(hfx).1.kd (hx2)]; omega)) (fun r72 T74 σ73 gt75 hp => ?_)
    obtain ⟨rfl, rfl, w81, F82, f76, f77, f78, f79⟩ := hp
    clear gt75
    have pc84 : EXR Sx (eo) [1] jx (eo) [2, 141] (jx + 1) 0 [] := fun _ _ => x1p hSb (by omega)
    have rd850 : EXR Sx (eo) [1] jx (eo) [1] jx (0) ([]) := EXR.nl
    have rd85 : EXR Sx (eo) [1] jx (eo) [2, 141] (jx + 1) (0 + 0) ([]) := EXR.g0 (l := [1]) (ms := [2, 141]) [] rd850 pc84
    have fx83 : RDX σ73 a Sx nx (jx + 1) (cx) (Nx) := RDX.nx hfx hw ha (hx2) F82 f79
    have rp86 : RP σ73 a (kp - 4) := RP.next4 hrp (hx2) F82 (by decide) (by decide) (by decide) f76 f78 (by rw [show σ.2.1 85 x1 = σ.2.1 85 x1 from rfl]; omega)
    show Tn _ _ 19 T σ73 [(0, .ref a), (1, .int (iI dp))] [] _
    refine tn_aload_n dX5_atom_19 rfl 0 rfl ?_
    refine tn_iload_n dX5_atom_20 rfl 1 rfl ?_
    refine tn_iconst dX5_atom_21 ?_
    refine tn_iadd dX5_atom_22 ?_
    refine tn_callV (M := m_X5_atom) (pc := 23) (ix := 213) (ci := 5) (M' := m_X5_expression) (As := [.int (iI (dp + 1))]) (rest := []) dX5_atom_23 ok_X5_expression im_X5_expression se_X5_expression ml5_213 np_X5_expression rfl rfl ha rfl (Nat.le_of_ble_eq_true rfl) (Nat.le_of_ble_eq_true rfl) rfl (hex (d) (T := T) (σ := σ73) (a := a) (dp := dp + 1) (kp := kp - 4) (eo := eo) ha (by omega) w81 (by omega) (by omega) fx83 (by omega) (by omega) rp86) (fun r87 T89 σ88 gt90 hp => ?_)
    obtain ⟨v94, rfl, w95, F96, f91, f92, f93⟩ := hp
    replace ha : OB T89 a 5 := gt90.ob ha
    have rp98 : RP σ88 a (kp - 4 * v94 - 4) := RP.up f93 (by omega)
    show Tn _ _ 26 T89 σ88 [(0, .ref a), (1, .int (iI dp))] [.int (iI v94)] _
    refine tn_if_eq (tgt := 42) dX5_atom_26 (by decide) ⟨by omega, by omega⟩ (fun h99 => ?_) (fun h99 => ?_)
    · refine tn_iconst dX5_atom_42 ?_
      obtain ⟨pl102, g103, fx104⟩ := f92.2 (by omega)
      have rf105 : EXF Sx (eo) [1] jx (pl102) := EXR.fl (l := [2]) [141] rd85 g103
      have rb101 : XFc σ88 a Sx (eo) [1] jx := ⟨_, rf105, fx104⟩
      exact tn_zret (v := 0) rfl (by decide) dX5_atom_43 ⟨_, rfl, w95, ((FrC.rfl.trans (FrC.sub F82 (by decide))).trans (FrC.sub F96 (by decide))), by omega, ⟨fun q => absurd q (by decide), fun _ => rb101⟩, (RP.up rp98 (by omega))⟩
    · refine tn_aload_n dX5_atom_29 rfl 0 rfl ?_
      refine tn_bipush dX5_atom_30 (by decide) ?_
      obtain ⟨i106, es107, m108, lo109, rr110, fx111⟩ := f92.1 (by omega)
      have rd112a : EXR Sx (eo) [1] jx (eo) [141] i106 (0 + 0 + m108) ([] ++ es107) := EXR.gg (l := [2]) (ms := []) [141] rd85 rr110
      have rd112 : EXR Sx (eo) [1] jx (eo) [141] i106 (0 + 0 + m108) (es107) := rd112a
      refine tn_callV (M := m_X5_atom) (pc := 32) (ix := 102) (ci := 5) (M' := m_X5_taken) (As := [.int (iI 41)]) (rest := []) dX5_atom_32 ok_X5_taken im_X5_taken se_X5_taken ml5_102 np_X5_taken rfl rfl ha rfl (Nat.le_of_ble_eq_true rfl) (Nat.le_of_ble_eq_true rfl) rfl (k_X5_taken_f (d + 5 * lv + 8) (T := T89) (σ := σ88) (a := a) (s := 41) (kp := kp - 4 * v94 - 4) ha (by decide) w95 (by omega) fx111 (by omega) rp98) (fun r113 T115 σ114 gt116 hp => ?_)
      obtain ⟨v120, rfl, rfl, w121, F122, f117, f118, f119⟩ := hp
      clear gt116
      have rp124 : RP σ114 a (kp - 4 * v94 - 4 * v120 - 4) := RP.up f119 (by omega)
      show Tn _ _ 35 T89 σ114 [(0, .ref a), (1, .int (iI dp))] [.int (iI v120)] _
      refine tn_if_eq (tgt := 42) dX5_atom_35 (by decide) ⟨by omega, by omega⟩ (fun h125 => ?_) (fun h125 => ?_)
      · refine tn_iconst dX5_atom_42 ?_
        obtain ⟨kd128, fx129, tk130⟩ := f118.2 (by omega)
        have pc131 : EXF Sx (eo) [141] i106 (tkS Sx i106).1 := fun _ _ => z41 hSb kd128
        have rf132 : EXF Sx (eo) [1] jx ((tkS Sx i106).1) := EXR.fl (l := [141]) [] rd112 pc131
        have rb127 : XFc σ114 a Sx (eo) [1] jx := ⟨_, rf132, fx129⟩
        exact tn_zret (v := 0) rfl (by decide) dX5_atom_43 ⟨_, rfl, w121, (((FrC.rfl.trans (FrC.sub F82 (by decide))).trans (FrC.sub F96 (by decide))).trans (FrC.sub (FrC.old F122 gt90) (by decide))), by omega, ⟨fun q => absurd q (by decide), fun _ => rb127⟩, (RP.up rp124 (by omega))⟩
      · refine tn_iconst dX5_atom_38 ?_
        refine tn_goto (tgt := 43) dX5_atom_39 (by decide) ?_
        obtain ⟨kd136, fx135⟩ := f118.1 (by omega)
        have pc137 : EXR Sx (eo) [141] i106 (eo) [] (i106 + 1) 0 [] := fun _ _ => y41 hSb kd136
        have rd138 : EXR Sx (eo) [1] jx (eo) [] (i106 + 1) (0 + 0 + m108 + 0) (es107) := EXR.g0 (l := [141]) (ms := []) [] rd112 pc137
        have ra133 : XS σ114 a Sx nx (eo) [1] jx cx Nx (eo) [] ((jx : Int) + 1) := ⟨(i106 + 1), es107, 0 + 0 + m108 + 0, (by omega), rd138, RDX.nq (RDX.cq fx135 rfl) (by omega)⟩
        exact tn_zret (v := 1) rfl (by decide) dX5_atom_43 ⟨_, rfl, w121, (((FrC.rfl.trans (FrC.sub F82 (by decide))).trans (FrC.sub F96 (by decide))).trans (FrC.sub (FrC.old F122 gt90) (by decide))), by omega, ⟨fun _ => ra133, fun q => absurd q (by decide)⟩, (RP.up rp124 (by omega))⟩
end
section
set_option maxHeartbeats 4000000 in
set_option maxRecDepth 20000 in
theorem k_X5_factor_f (d : Nat) {T : CT} {σ : MS} {a : Nat} {dp : Int} {kp : Int} {lv : Nat} {Sx : Int → Int} {nx jx : Nat} {cx : CS} {Nx : Int} {eo : Int} (ha : OB T a 5) (h_dp : -2147483648 ≤ dp ∧ dp ≤ 2147483647) (hw : WT T σ) (hex : ∀ (d : Nat) {T : CT} {σ : MS} {a : Nat} {dp : Int} {kp : Int} {Sx : Int → Int} {nx jx : Nat} {cx : CS} {Nx : Int} {eo : Int} (ha : OB T a 5) (h_dp : -2147483648 ≤ dp ∧ dp ≤ 2147483647) (hw : WT T σ) (hdp : 1 ≤ dp ∧ dp ≤ 9) (hlv : 9 ≤ dp + (lv : Int)) (hfx : RDX σ a Sx nx jx cx Nx) (heo : eo = dp - 1) (hkp : kp ≤ 150) (hrp : RP σ a kp), Tn (d + 5 * lv + 10) m_X5_expression 0 T σ [(0, .ref a), (1, .int (iI dp))] [] (fun ro T2 σ2 => ∃ v : Int, ro = some (.int (iI v)) ∧ WT T2 σ2 ∧ FrC T [5, 6, 7, 43, 44, 47, 50, 51, 84, 85, 86, 87, 521] σ σ2 ∧ (v = 0 ∨ v = 1) ∧ (XQ σ2 a Sx nx (eo) [2] jx cx Nx v) ∧ (RP σ2 a (kp - 4 * v)))) (hdp : 1 ≤ dp ∧ dp ≤ 8) (hlv : 8 ≤ dp + (lv : Int)) (hfx : RDX σ a Sx nx jx cx Nx) (heo : eo = dp) (hkp : kp ≤ 150) (hrp : RP σ a kp) : Tn (d + 5 * lv + 12) m_X5_factor 0 T σ [(0, .ref a), (1, .int (iI dp))] [] (fun ro T2 σ2 => ∃ v : Int, ro = some (.int (iI v)) ∧ WT T2 σ2 ∧ FrC T [5, 6, 7, 43, 44, 47, 50, 51, 84, 85, 86, 87, 521] σ σ2 ∧ (v = 0 ∨ v = 1) ∧ (XQ σ2 a Sx nx (eo) [0] jx cx Nx v) ∧ (RP σ2 a (kp - 4 * v))) := by
  have hSb := hfx.1.sb
  refine tn_aload_n dX5_factor_0 rfl 0 rfl ?_
  obtain ⟨x1, hx2, hk3⟩ : ∃ x : Nat, σ.2.1 33 a = (x : Int) ∧ (T x).1 = 39 := wf_33 hw ha
  have hk3o : OB T x1 9 := ⟨by omega, by rw [hk3]; rfl, by omega⟩
  refine tn_getR (ci := 5) (i := 0) (n := 33) (x := x1) dX5_factor_1 rfl lay_5 (by decide) fl5_12 ha rfl rfl (hx2) ?_
  refine tn_getI (ci := 9) (i := 4) (n := 85) (t := σ.2.1 85 x1) dX5_factor_4 rfl lay_9 (by decide) fl5_71 hk3o rfl rfl (rfl) ?_
  have g5 : ((-2147483648 : Int) ≤ σ.2.1 85 x1 ∧ σ.2.1 85 x1 ≤ 2147483647) := wf_85 hw hk3o
  have g5kd : σ.2.1 85 x1 = ckd (tkS Sx jx) := (rfl).symm.trans ((hfx).1.kd (hx2))
  refine tn_bipush dX5_factor_7 (by decide) ?_
  refine tn_icmp_eq (tgt := 18) dX5_factor_9 (by decide) ⟨by omega, by omega⟩ ⟨by decide, by decide⟩ (fun h6 => ?_) (fun h6 => ?_)
  · refine tn_aload_n dX5_factor_18 rfl 0 rfl ?_
    refine tn_getR (ci := 5) (i := 0) (n := 33) (x := x1) dX5_factor_19 rfl lay_5 (by decide) fl5_12 ha rfl rfl (hx2) ?_
    refine tn_callV (M := m_X5_factor) (pc := 22) (ix := 93) (ci := 9) (M' := m_X9_next) (As := []) (rest := []) dX5_factor_22 ok_X9_next im_X9_next se_X9_next ml5_93 np_X9_next rfl rfl hk3o rfl (Nat.le_of_ble_eq_true rfl) (Nat.le_of_ble_eq_true rfl) rfl (k_X9_next_f (d + 5 * lv + 10) (T := T) (σ := σ) (a := x1) hk3o hw (RP.tk hrp hw ha (hx2)) ((hfx).1.tk (hx2)) (by rw [(hfx).1.kd (hx2)]; omega)) (fun r7 T9 σ8 gt10 hp => ?_)
    obtain ⟨rfl, rfl, w16, F17, f11, f12, f13, f14⟩ := hp
    clear gt10
    have pc19 : EXR Sx (eo) [0] jx (eo) [1, 51] (jx + 1) 0 [] := fun _ _ => x0m hSb (by omega)
    have rd200 : EXR Sx (eo) [0] jx (eo) [0] jx (0) ([]) := EXR.nl
    have rd20 : EXR Sx (eo) [0] jx (eo) [1, 51] (jx + 1) (0 + 0) ([]) := EXR.g0 (l := [0]) (ms := [1, 51]) [] rd200 pc19
    have fx18 : RDX σ8 a Sx nx (jx + 1) (cx) (Nx) := RDX.nx hfx hw ha (hx2) F17 f14
    have rp21 : RP σ8 a (kp - 4) := RP.next4 hrp (hx2) F17 (by decide) (by decide) (by decide) f11 f13 (by rw [show σ.2.1 85 x1 = σ.2.1 85 x1 from rfl]; omega)
    show Tn _ _ 25 T σ8 [(0, .ref a), (1, .int (iI dp))] [] _
    refine tn_aload_n dX5_factor_25 rfl 0 rfl ?_
    refine tn_iload_n dX5_factor_26 rfl 1 rfl ?_
    refine tn_callV (M := m_X5_factor) (pc := 27) (ix := 253) (ci := 5) (M' := m_X5_atom) (As := [.int (iI dp)]) (rest := []) dX5_factor_27 ok_X5_atom im_X5_atom se_X5_atom ml5_253 np_X5_atom rfl rfl ha rfl (Nat.le_of_ble_eq_true rfl) (Nat.le_of_ble_eq_true rfl) rfl (k_X5_atom_f (d) (T := T) (σ := σ8) (a := a) (dp := dp) (kp := kp - 4) (lv := lv) (eo := eo) ha (by omega) w16 hex (by omega) (by omega) fx18 (by omega) (by omega) rp21) (fun r22 T24 σ23 gt25 hp => ?_)
    obtain ⟨v29, rfl, w30, F31, f26, f27, f28⟩ := hp
    replace ha : OB T24 a 5 := gt25.ob ha
    have rp33 : RP σ23 a (kp - 4 * v29 - 4) := RP.up f28 (by omega)
    show Tn _ _ 30 T24 σ23 [(0, .ref a), (1, .int (iI dp))] [.int (iI v29)] _
    refine tn_if_ne (tgt := 35) dX5_factor_30 (by decide) ⟨by omega, by omega⟩ (fun h34 => ?_) (fun h34 => ?_)
    · refine tn_aload_n dX5_factor_35 rfl 0 rfl ?_
      refine tn_iconst dX5_factor_36 ?_
      refine tn_iconst dX5_factor_37 ?_
      refine tn_iconst dX5_factor_38 ?_
      obtain ⟨i35, es36, m37, lo38, rr39, fx40⟩ := f27.1 (by omega)
      have rd41a : EXR Sx (eo) [0] jx (eo) [51] i35 (0 + 0 + m37) ([] ++ es36) := EXR.gg (l := [1]) (ms := []) [51] rd20 rr39
      have rd41 : EXR Sx (eo) [0] jx (eo) [51] i35 (0 + 0 + m37) (es36) := rd41a
      refine tn_callV (M := m_X5_factor) (pc := 39) (ix := 244) (ci := 5) (M' := m_X5_join) (As := [.int (iI 2), .int (iI 1), .int (iI 0)]) (rest := []) dX5_factor_39 ok_X5_join im_X5_join se_X5_join ml5_244 np_X5_join rfl rfl ha rfl (Nat.le_of_ble_eq_true rfl) (Nat.le_of_ble_eq_true rfl) rfl (k_X5_join_f (d + 5 * lv + 7) (T := T24) (σ := σ23) (a := a) (k := 2) (e := 1) (l := 0) (kp := kp - 4 * v29 - 4) ha (by decide) (by decide) (by decide) w30 (by omega) fx40 (by omega) rp33) (fun r42 T44 σ43 gt45 hp => ?_)
      obtain ⟨rfl, w49, F50, f46, f47⟩ := hp
      replace ha : OB T44 a 5 := gt45.ob ha
      have rp52 : RP σ43 a (kp - 4 * v29 - 3) := RP.up f47 (by omega)
      show Tn _ _ 42 T44 σ43 [(0, .ref a), (1, .int (iI dp))] [] _
      refine tn_iconst dX5_factor_42 ?_
      have pc55 : EXR Sx (eo) [51] i35 (eo) [] i35 1 [] := fun _ _ => x51 hSb 
      have rd56 : EXR Sx (eo) [0] jx (eo) [] i35 (0 + 0 + m37 + 1) (es36) := EXR.g0 (l := [51]) (ms := []) [] rd41 pc55
      have ra53 : XS σ43 a Sx nx (eo) [0] jx cx Nx (eo) [] ((jx : Int) + 1) := ⟨i35, es36, 0 + 0 + m37 + 1, (by omega), rd56, RDX.nq (RDX.cq f46 rfl) (by omega)⟩
      exact tn_zret (v := 1) rfl (by decide) dX5_factor_43 ⟨_, rfl, w49, (((FrC.rfl.trans (FrC.sub F17 (by decide))).trans (FrC.sub F31 (by decide))).trans (FrC.sub (FrC.old F50 gt25) (by decide))), by omega, ⟨fun _ => ra53, fun q => absurd q (by decide)⟩, (RP.up rp52 (by omega))⟩
    · refine tn_iconst dX5_factor_33 ?_
      obtain ⟨pl59, g60, fx61⟩ := f27.2 (by omega)
      have rf62 : EXF Sx (eo) [0] jx (pl59) := EXR.fl (l := [1]) [51] rd20 g60
      have rb58 : XFc σ23 a Sx (eo) [0] jx := ⟨_, rf62, fx61⟩
      exact tn_zret (v := 0) rfl (by decide) dX5_factor_34 ⟨_, rfl, w30, ((FrC.rfl.trans (FrC.sub F17 (by decide))).trans (FrC.sub F31 (by decide))), by omega, ⟨fun q => absurd q (by decide), fun _ => rb58⟩, (RP.up rp33 (by omega))⟩
  · refine tn_aload_n dX5_factor_12 rfl 0 rfl ?_
    refine tn_iload_n dX5_factor_13 rfl 1 rfl ?_
    have pc63 : EXR Sx (eo) [0] jx (eo) [1] jx 0 [] := fun _ _ => x0n hSb (by omega)
    have rd640 : EXR Sx (eo) [0] jx (eo) [0] jx (0) ([]) := EXR.nl
    have rd64 : EXR Sx (eo) [0] jx (eo) [1] jx (0 + 0) ([]) := EXR.g0 (l := [0]) (ms := [1]) [] rd640 pc63
    refine tn_callV (M := m_X5_factor) (pc := 14) (ix := 253) (ci := 5) (M' := m_X5_atom) (As := [.int (iI dp)]) (rest := []) dX5_factor_14 ok_X5_atom im_X5_atom se_X5_atom ml5_253 np_X5_atom rfl rfl ha rfl (Nat.le_of_ble_eq_true rfl) (Nat.le_of_ble_eq_true rfl) rfl (k_X5_atom_f (d) (T := T) (σ := σ) (a := a) (dp := dp) (kp := kp) (lv := lv) (eo := eo) ha (by omega) hw hex (by omega) (by omega) hfx (by omega) (by omega) hrp) (fun r65 T67 σ66 gt68 hp => ?_)
    obtain ⟨v72, rfl, w73, F74, f69, f70, f71⟩ := hp
    replace ha : OB T67 a 5 := gt68.ob ha
    show Tn _ _ 17 T67 σ66 [(0, .ref a), (1, .int (iI dp))] [.int (iI v72)] _
    have ra76 : v72 = 1 → XS σ66 a Sx nx (eo) [0] jx cx Nx (eo) [] ((jx : Int) + 1) := fun hv => by
      obtain ⟨i78, es79, m80, lo81, rr82, fx83⟩ := f70.1 hv
      have rd84a : EXR Sx (eo) [0] jx (eo) [] i78 (0 + 0 + m80) ([] ++ es79) := EXR.gg (l := [1]) (ms := []) [] rd64 rr82
      have rd84 : EXR Sx (eo) [0] jx (eo) [] i78 (0 + 0 + m80) (es79) := rd84a
      exact ⟨i78, es79, 0 + 0 + m80, (by omega), rd84, RDX.nq (RDX.cq fx83 rfl) (by omega)⟩
    have rb77 : v72 = 0 → XFc σ66 a Sx (eo) [0] jx := fun hv => by
      obtain ⟨pl85, g86, fx87⟩ := f70.2 hv
      have rf88 : EXF Sx (eo) [0] jx (pl85) := EXR.fl (l := [1]) [] rd64 g86
      exact ⟨_, rf88, fx87⟩
    exact tn_zret (v := v72) rfl (by omega) dX5_factor_17 ⟨_, rfl, w73, (FrC.rfl.trans (FrC.sub F74 (by decide))), by omega, ⟨ra76, rb77⟩, (RP.up f71 (by omega))⟩
end
section
set_option maxHeartbeats 4000000 in
set_option maxRecDepth 20000 in
theorem l_X5_term_f_12 (d : Nat) {T0 : CT} {σ0 : MS} {a : Nat} {c1 : Int} {Sx : Int → Int} {nx : Nat} {jx : Nat} {cx : CS} {Nx : Int} {eo : Int} {kp : Int} {lv : Nat} {post : Option Value → CT → MS → Prop} (r_c1 : 1 ≤ c1 ∧ c1 ≤ 8) (hw0 : WT T0 σ0) (hlv : 8 ≤ c1 + (lv : Int)) (heo : eo = c1) (hkp : kp ≤ 150) (hex : ∀ (d : Nat) {T : CT} {σ : MS} {a : Nat} {dp : Int} {kp : Int} {Sx : Int → Int} {nx jx : Nat} {cx : CS} {Nx : Int} {eo : Int} (ha : OB T a 5) (h_dp : -2147483648 ≤ dp ∧ dp ≤ 2147483647) (hw : WT T σ) (hdp : 1 ≤ dp ∧ dp ≤ 9) (hlv : 9 ≤ dp + (lv : Int)) (hfx : RDX σ a Sx nx jx cx Nx) (heo : eo = dp - 1) (hkp : kp ≤ 150) (hrp : RP σ a kp), Tn (d + 5 * lv + 10) m_X5_expression 0 T σ [(0, .ref a), (1, .int (iI dp))] [] (fun ro T2 σ2 => ∃ v : Int, ro = some (.int (iI v)) ∧ WT T2 σ2 ∧ FrC T [5, 6, 7, 43, 44, 47, 50, 51, 84, 85, 86, 87, 521] σ σ2 ∧ (v = 0 ∨ v = 1) ∧ (XQ σ2 a Sx nx (eo) [2] jx cx Nx v) ∧ (RP σ2 a (kp - 4 * v)))) (hx_57 : ∀ (T : CT) (i2 : Int) (σ : MS) , (GT T0 T) → (WT T σ) → (FrC T0 [5, 6, 7, 43, 44, 47, 50, 51, 84, 85, 86, 87, 521] σ0 σ) → (OB T a 5) → (0 ≤ i2 ∧ i2 ≤ 2147483647) → (True) → (RP σ a kp) → (XFc σ a Sx (eo) [4] jx) → Tn (d + 5 * lv + 13) m_X5_term 57 T σ [(0, .ref a), (1, .int (iI c1)), (2, .int (iI i2))] [] post) (hx_73 : ∀ (T : CT) (i2 : Int) (σ : MS) , (GT T0 T) → (WT T σ) → (FrC T0 [5, 6, 7, 43, 44, 47, 50, 51, 84, 85, 86, 87, 521] σ0 σ) → (OB T a 5) → (0 ≤ i2 ∧ i2 ≤ 2147483647) → (True) → (RP σ a kp) → (XS σ a Sx nx (eo) [4] jx cx Nx (eo) [] ((jx : Int) + 1)) → Tn (d + 5 * lv + 13) m_X5_term 73 T σ [(0, .ref a), (1, .int (iI c1)), (2, .int (iI i2))] [] post) : ∀ (n : Nat) (T : CT) (i2 : Int) (σ : MS) , (GT T0 T) → (WT T σ) → (FrC T0 [5, 6, 7, 43, 44, 47, 50, 51, 84, 85, 86, 87, 521] σ0 σ) → (OB T a 5) → (0 ≤ i2 ∧ i2 ≤ 2147483647) → (XS σ a Sx nx (eo) [4] jx cx Nx (eo) [9] ((jx : Int) + 1 + i2)) → (RP σ a kp) → (2147483700 - i2).toNat = n → Tn (d + 5 * lv + 13) m_X5_term 12 T σ [(0, .ref a), (1, .int (iI c1)), (2, .int (iI i2))] [] post := by
  intro n
  induction n using Nat.strongRecOn with
  | _ n ih =>
    intro T i2 σ hG hw hF h_a r_i2 hx hrp hm
    obtain ⟨jy, ey, my, loy, rdy, hfy⟩ := hx
    have hSb := hfy.1.sb
    have hjn := RDX.jn hfy hw h_a
    refine tn_iload_n dX5_term_12 rfl 2 rfl ?_
    refine tn_sipush dX5_term_13 (by decide) ?_
    refine tn_icmp_ge (tgt := 73) dX5_term_16 (by decide) ⟨by omega, by omega⟩ ⟨by decide, by decide⟩ (fun h1 => ?_) (fun h1 => ?_)
    · exact tn_sub [0, 1, 2] rfl (hx_73 T (i2) σ hG hw (FrC.rfl.trans (FrC.sub hF (by decide))) h_a (by omega) True.intro (RP.up hrp (by omega)) (False.elim (by omega)))
    · refine tn_aload_n dX5_term_19 rfl 0 rfl ?_
      obtain ⟨x2, hx3, hk4⟩ : ∃ x : Nat, σ.2.1 33 a = (x : Int) ∧ (T x).1 = 39 := wf_33 hw h_a
      have hk4o : OB T x2 9 := ⟨by omega, by rw [hk4]; rfl, by omega⟩
      refine tn_getR (ci := 5) (i := 0) (n := 33) (x := x2) dX5_term_20 rfl lay_5 (by decide) fl5_12 h_a rfl rfl (hx3) ?_
      refine tn_getI (ci := 9) (i := 4) (n := 85) (t := σ.2.1 85 x2) dX5_term_23 rfl lay_9 (by decide) fl5_71 hk4o rfl rfl (rfl) ?_
      have g6 : ((-2147483648 : Int) ≤ σ.2.1 85 x2 ∧ σ.2.1 85 x2 ≤ 2147483647) := wf_85 hw hk4o
      have g6kd : σ.2.1 85 x2 = ckd (tkS Sx jy) := (rfl).symm.trans ((hfy).1.kd (hx3))
      refine tn_bipush dX5_term_26 (by decide) ?_
      refine tn_icmp_ne (tgt := 73) dX5_term_28 (by decide) ⟨by omega, by omega⟩ ⟨by decide, by decide⟩ (fun h7 => ?_) (fun h7 => ?_)
      · have pc8 : EXR Sx (eo) [9] jy (eo) [] jy 0 [] := fun _ _ => x9n hSb (by omega)
        have rd9 : EXR Sx (eo) [4] jx (eo) [] jy (my + 0) (ey) := EXR.g0 (l := [9]) (ms := []) [] rdy pc8
        have hx10 : XS σ a Sx nx (eo) [4] jx cx Nx (eo) [] ((jx : Int) + 1) := ⟨jy, ey, my + 0, (by omega), rd9, RDX.nq (RDX.cq hfy rfl) (by omega)⟩
        exact tn_sub [0, 1, 2] rfl (hx_73 T (i2) σ hG hw (FrC.rfl.trans (FrC.sub hF (by decide))) h_a (by omega) True.intro (RP.up hrp (by omega)) hx10)
      · refine tn_aload_n dX5_term_31 rfl 0 rfl ?_
        refine tn_getI (ci := 5) (i := 17) (n := 50) (t := σ.2.1 50 a) dX5_term_32 rfl lay_5 (by decide) fl5_216 h_a rfl rfl (rfl) ?_
        have g11 : ((-2147483648 : Int) ≤ σ.2.1 50 a ∧ σ.2.1 50 a ≤ 2147483647) := wf_50 hw h_a
        refine tn_istore_n (L' := [(3, .int (iI (σ.2.1 50 a))), (0, .ref a), (1, .int (iI c1)), (2, .int (iI i2))]) dX5_term_35 rfl (by decide) rfl ?_
        refine tn_aload_n dX5_term_36 rfl 1 rfl ?_
        refine tn_getI (ci := 5) (i := 18) (n := 51) (t := σ.2.1 51 a) dX5_term_37 rfl lay_5 (by decide) fl5_219 h_a rfl rfl (rfl) ?_
        have g12 : ((-2147483648 : Int) ≤ σ.2.1 51 a ∧ σ.2.1 51 a ≤ 2147483647) := wf_51 hw h_a
        refine tn_istore (L' := [(4, .int (iI (σ.2.1 51 a))), (3, .int (iI (σ.2.1 50 a))), (0, .ref a), (1, .int (iI c1)), (2, .int (iI i2))]) dX5_term_40 (by decide) rfl ?_
        refine tn_aload_n dX5_term_42 rfl 2 rfl ?_
        refine tn_getR (ci := 5) (i := 0) (n := 33) (x := x2) dX5_term_43 rfl lay_5 (by decide) fl5_12 h_a rfl rfl (hx3) ?_
        refine tn_callV (M := m_X5_term) (pc := 46) (ix := 93) (ci := 9) (M' := m_X9_next) (As := []) (rest := []) dX5_term_46 ok_X9_next im_X9_next se_X9_next ml5_93 np_X9_next rfl rfl hk4o rfl (Nat.le_of_ble_eq_true rfl) (Nat.le_of_ble_eq_true rfl) rfl (k_X9_next_f (d + 5 * lv + 11) (T := T) (σ := σ) (a := x2) hk4o hw (RP.tk hrp hw h_a (hx3)) ((hfy).1.tk (hx3)) (by rw [(hfy).1.kd (hx3)]; omega)) (fun r13 T15 σ14 gt16 hp => ?_)
        obtain ⟨rfl, rfl, w22, F23, f17, f18, f19, f20⟩ := hp
        clear gt16
        have pc25 : EXR Sx (eo) [9] jy (eo) [0, 51, 9] (jy + 1) 0 [] := fun _ _ => x9y hSb (by omega)
        have rd26 : EXR Sx (eo) [4] jx (eo) [0, 51, 9] (jy + 1) (my + 0) (ey) := EXR.g0 (l := [9]) (ms := [0, 51, 9]) [] rdy pc25
        have fx24 : RDX σ14 a Sx nx (jy + 1) (ey.foldl uC cx) (Nx + my) := RDX.nx hfy hw h_a (hx3) F23 f20
        have rp27 : RP σ14 a (kp - 4) := RP.next4 hrp (hx3) F23 (by decide) (by decide) (by decide) f17 f19 (by rw [show σ.2.1 85 x2 = σ.2.1 85 x2 from rfl]; omega)
        show Tn _ _ 49 T σ14 [(4, .int (iI (σ.2.1 51 a))), (3, .int (iI (σ.2.1 50 a))), (0, .ref a), (1, .int (iI c1)), (2, .int (iI i2))] [] _
        refine tn_aload_n dX5_term_49 rfl 2 rfl ?_
        refine tn_iload_n dX5_term_50 rfl 3 rfl ?_
        refine tn_callV (M := m_X5_term) (pc := 51) (ix := 250) (ci := 5) (M' := m_X5_factor) (As := [.int (iI c1)]) (rest := []) dX5_term_51 ok_X5_factor im_X5_factor se_X5_factor ml5_250 np_X5_factor rfl rfl h_a rfl (Nat.le_of_ble_eq_true rfl) (Nat.le_of_ble_eq_true rfl) rfl (k_X5_factor_f (d) (T := T) (σ := σ14) (a := a) (dp := c1) (kp := kp - 4) (lv := lv) (eo := eo) h_a (by omega) w22 hex (by omega) (by omega) fx24 (by omega) (by omega) rp27) (fun r28 T30 σ29 gt31 hp => ?_)
        obtain ⟨v35, rfl, w36, F37, f32, f33, f34⟩ := hp
        replace h_a : OB T30 a 5 := gt31.ob h_a
        have rp39 : RP σ29 a (kp - 4 * v35 - 4) := RP.up f34 (by omega)
        show Tn _ _ 54 T30 σ29 [(4, .int (iI (σ.2.1 51 a))), (3, .int (iI (σ.2.1 50 a))), (0, .ref a), (1, .int (iI c1)), (2, .int (iI i2))] [.int (iI v35)] _
        refine tn_if_ne (tgt := 59) dX5_term_54 (by decide) ⟨by omega, by omega⟩ (fun h40 => ?_) (fun h40 => ?_)
        · refine tn_aload_n dX5_term_59 rfl 2 rfl ?_
          refine tn_iconst dX5_term_60 ?_
          refine tn_iload_n dX5_term_61 rfl 1 rfl ?_
          refine tn_iload dX5_term_62 0 rfl ?_
          obtain ⟨i41, es42, m43, lo44, rr45, fx46⟩ := f33.1 (by omega)
          have rd47 : EXR Sx (eo) [4] jx (eo) [51, 9] i41 (my + 0 + m43) (ey ++ es42) := EXR.gg (l := [0]) (ms := []) [51, 9] rd26 rr45
          refine tn_callV (M := m_X5_term) (pc := 64) (ix := 244) (ci := 5) (M' := m_X5_join) (As := [.int (iI 3), .int (iI (σ.2.1 50 a)), .int (iI (σ.2.1 51 a))]) (rest := []) dX5_term_64 ok_X5_join im_X5_join se_X5_join ml5_244 np_X5_join rfl rfl h_a rfl (Nat.le_of_ble_eq_true rfl) (Nat.le_of_ble_eq_true rfl) rfl (k_X5_join_f (d + 5 * lv + 8) (T := T30) (σ := σ29) (a := a) (k := 3) (e := σ.2.1 50 a) (l := σ.2.1 51 a) (kp := kp - 4 * v35 - 4) h_a (by decide) (by omega) (by omega) w36 (by omega) fx46 (by omega) rp39) (fun r48 T50 σ49 gt51 hp => ?_)
          obtain ⟨rfl, w55, F56, f52, f53⟩ := hp
          replace h_a : OB T50 a 5 := gt51.ob h_a
          have rp58 : RP σ49 a (kp - 4 * v35 - 3) := RP.up f53 (by omega)
          show Tn _ _ 67 T50 σ49 [(4, .int (iI (σ.2.1 51 a))), (3, .int (iI (σ.2.1 50 a))), (0, .ref a), (1, .int (iI c1)), (2, .int (iI i2))] [] _
          refine tn_iinc (q0 := 4) (L' := [(2, .int (iI (i2 + 1))), (4, .int (iI (σ.2.1 51 a))), (3, .int (iI (σ.2.1 50 a))), (0, .ref a), (1, .int (iI c1))]) dX5_term_67 rfl (by decide) rfl ?_
          refine tn_goto (tgt := 12) dX5_term_70 (by decide) ?_
          have pc59 : EXR Sx (eo) [51] i41 (eo) [] i41 1 [] := fun _ _ => x51 hSb 
          have rd60 : EXR Sx (eo) [4] jx (eo) [9] i41 (my + 0 + m43 + 1) (ey ++ es42) := EXR.g0 (l := [51]) (ms := []) [9] rd47 pc59
          have hx61 : XS σ49 a Sx nx (eo) [4] jx cx Nx (eo) [9] ((jx : Int) + 1 + (i2 + 1)) := ⟨i41, ey ++ es42, my + 0 + m43 + 1, (by omega), rd60, RDX.nq (RDX.cq f52 (by simp only [List.foldl_append, List.foldl_cons, List.foldl_nil])) (by omega)⟩
          exact tn_sub [3, 4, 0] rfl (ih _ (by omega) T50 (i2 + 1) σ49 (GT.trans (GT.trans hG gt31) gt51) w55 ((((FrC.rfl.trans (FrC.sub hF (by decide))).trans (FrC.sub (FrC.old F23 hG) (by decide))).trans (FrC.sub (FrC.old F37 hG) (by decide))).trans (FrC.sub (FrC.old F56 (GT.trans hG gt31)) (by decide))) h_a (by omega) hx61 (RP.up rp58 (by omega)) rfl)
        · obtain ⟨pl62, g63, fx64⟩ := f33.2 (by omega)
          have rf65 : EXF Sx (eo) [4] jx (pl62) := EXR.fl (l := [0]) [51, 9] rd26 g63
          exact tn_sub [2, 3, 4] rfl (hx_57 T30 (i2) σ29 (GT.trans hG gt31) w36 (((FrC.rfl.trans (FrC.sub hF (by decide))).trans (FrC.sub (FrC.old F23 hG) (by decide))).trans (FrC.sub (FrC.old F37 hG) (by decide))) h_a (by omega) True.intro (RP.up rp39 (by omega)) ⟨_, rf65, fx64⟩)
set_option maxHeartbeats 4000000 in
set_option maxRecDepth 20000 in
theorem k_X5_term_f (d : Nat) {T : CT} {σ : MS} {a : Nat} {dp : Int} {kp : Int} {lv : Nat} {Sx : Int → Int} {nx jx : Nat} {cx : CS} {Nx : Int} {eo : Int} (ha : OB T a 5) (h_dp : -2147483648 ≤ dp ∧ dp ≤ 2147483647) (hw : WT T σ) (hex : ∀ (d : Nat) {T : CT} {σ : MS} {a : Nat} {dp : Int} {kp : Int} {Sx : Int → Int} {nx jx : Nat} {cx : CS} {Nx : Int} {eo : Int} (ha : OB T a 5) (h_dp : -2147483648 ≤ dp ∧ dp ≤ 2147483647) (hw : WT T σ) (hdp : 1 ≤ dp ∧ dp ≤ 9) (hlv : 9 ≤ dp + (lv : Int)) (hfx : RDX σ a Sx nx jx cx Nx) (heo : eo = dp - 1) (hkp : kp ≤ 150) (hrp : RP σ a kp), Tn (d + 5 * lv + 10) m_X5_expression 0 T σ [(0, .ref a), (1, .int (iI dp))] [] (fun ro T2 σ2 => ∃ v : Int, ro = some (.int (iI v)) ∧ WT T2 σ2 ∧ FrC T [5, 6, 7, 43, 44, 47, 50, 51, 84, 85, 86, 87, 521] σ σ2 ∧ (v = 0 ∨ v = 1) ∧ (XQ σ2 a Sx nx (eo) [2] jx cx Nx v) ∧ (RP σ2 a (kp - 4 * v)))) (hdp : 1 ≤ dp ∧ dp ≤ 8) (hlv : 8 ≤ dp + (lv : Int)) (hfx : RDX σ a Sx nx jx cx Nx) (heo : eo = dp) (hkp : kp ≤ 150) (hrp : RP σ a kp) : Tn (d + 5 * lv + 13) m_X5_term 0 T σ [(0, .ref a), (1, .int (iI dp))] [] (fun ro T2 σ2 => ∃ v : Int, ro = some (.int (iI v)) ∧ WT T2 σ2 ∧ FrC T [5, 6, 7, 43, 44, 47, 50, 51, 84, 85, 86, 87, 521] σ σ2 ∧ (v = 0 ∨ v = 1) ∧ (XQ σ2 a Sx nx (eo) [4] jx cx Nx v) ∧ (RP σ2 a (kp - 4 * v))) := by
  have hSb := hfx.1.sb
  refine tn_aload_n dX5_term_0 rfl 0 rfl ?_
  refine tn_iload_n dX5_term_1 rfl 1 rfl ?_
  have pc1 : EXR Sx (eo) [4] jx (eo) [0, 9] jx 0 [] := fun _ _ => x4 hSb 
  have rd20 : EXR Sx (eo) [4] jx (eo) [4] jx (0) ([]) := EXR.nl
  have rd2 : EXR Sx (eo) [4] jx (eo) [0, 9] jx (0 + 0) ([]) := EXR.g0 (l := [4]) (ms := [0, 9]) [] rd20 pc1
  refine tn_callV (M := m_X5_term) (pc := 2) (ix := 250) (ci := 5) (M' := m_X5_factor) (As := [.int (iI dp)]) (rest := []) dX5_term_2 ok_X5_factor im_X5_factor se_X5_factor ml5_250 np_X5_factor rfl rfl ha rfl (Nat.le_of_ble_eq_true rfl) (Nat.le_of_ble_eq_true rfl) rfl (k_X5_factor_f (d) (T := T) (σ := σ) (a := a) (dp := dp) (kp := kp) (lv := lv) (eo := eo) ha (by omega) hw hex (by omega) (by omega) hfx (by omega) (by omega) hrp) (fun r3 T5 σ4 gt6 hp => ?_)
  obtain ⟨v10, rfl, w11, F12, f7, f8, f9⟩ := hp
  replace ha : OB T5 a 5 := gt6.ob ha
  show Tn _ _ 5 T5 σ4 [(0, .ref a), (1, .int (iI dp))] [.int (iI v10)] _
  refine tn_if_ne (tgt := 10) dX5_term_5 (by decide) ⟨by omega, by omega⟩ (fun h14 => ?_) (fun h14 => ?_)
  · refine tn_iconst dX5_term_10 ?_
    refine tn_istore_n (L' := [(2, .int (iI 0)), (0, .ref a), (1, .int (iI dp))]) dX5_term_11 rfl (by decide) rfl ?_
    obtain ⟨i15, es16, m17, lo18, rr19, fx20⟩ := f8.1 (by omega)
    have rd21a : EXR Sx (eo) [4] jx (eo) [9] i15 (0 + 0 + m17) ([] ++ es16) := EXR.gg (l := [0]) (ms := []) [9] rd2 rr19
    have rd21 : EXR Sx (eo) [4] jx (eo) [9] i15 (0 + 0 + m17) (es16) := rd21a
    have hx22 : XS σ4 a Sx nx (eo) [4] jx cx Nx (eo) [9] ((jx : Int) + 1 + (0)) := ⟨i15, es16, 0 + 0 + m17, (by omega), rd21, RDX.nq (RDX.cq fx20 rfl) (by omega)⟩
    refine tn_sub [1, 2, 0] rfl (l_X5_term_f_12 (d) (σ0 := σ4) (T0 := T5) (a := a) (c1 := dp) (kp := kp - 4 * v10) (lv := lv) (Sx := Sx) (nx := nx) (jx := jx) (cx := cx) (Nx := Nx) (eo := eo) (by omega) w11 (by omega) heo (by omega) hex (fun T25 i223 σ24 gt26 w27 F28 q29 r30 f31 f32 f33 => ?_) (fun T36 i234 σ35 gt37 w38 F39 q40 r41 f42 f43 f44 => ?_) _ T5 (0) σ4 GT.rfl w11 FrC.rfl ha (by omega) hx22 f9 rfl)
    · show Tn _ _ 57 T25 σ24 [(0, .ref a), (1, .int (iI dp)), (2, .int (iI i223))] [] _
      refine tn_iconst dX5_term_57 ?_
      exact tn_zret (v := 0) rfl (by decide) dX5_term_58 ⟨_, rfl, w27, ((FrC.rfl.trans (FrC.sub F12 (by decide))).trans (FrC.sub (FrC.old F28 gt6) (by decide))), by omega, ⟨fun q => absurd q (by decide), fun _ => f33⟩, (RP.up f32 (by omega))⟩
    · show Tn _ _ 73 T36 σ35 [(0, .ref a), (1, .int (iI dp)), (2, .int (iI i234))] [] _
      refine tn_iconst dX5_term_73 ?_
      exact tn_zret (v := 1) rfl (by decide) dX5_term_74 ⟨_, rfl, w38, ((FrC.rfl.trans (FrC.sub F12 (by decide))).trans (FrC.sub (FrC.old F39 gt6) (by decide))), by omega, ⟨fun _ => f44, fun q => absurd q (by decide)⟩, (RP.up f43 (by omega))⟩
  · refine tn_iconst dX5_term_8 ?_
    obtain ⟨pl47, g48, fx49⟩ := f8.2 (by omega)
    have rf50 : EXF Sx (eo) [4] jx (pl47) := EXR.fl (l := [0]) [9] rd2 g48
    have rb46 : XFc σ4 a Sx (eo) [4] jx := ⟨_, rf50, fx49⟩
    exact tn_zret (v := 0) rfl (by decide) dX5_term_9 ⟨_, rfl, w11, (FrC.rfl.trans (FrC.sub F12 (by decide))), by omega, ⟨fun q => absurd q (by decide), fun _ => rb46⟩, (RP.up f9 (by omega))⟩
end
section
set_option maxHeartbeats 4000000 in
set_option maxRecDepth 20000 in
theorem l_X5_sum_f_12 (d : Nat) {T0 : CT} {σ0 : MS} {a : Nat} {c1 : Int} {Sx : Int → Int} {nx : Nat} {jx : Nat} {cx : CS} {Nx : Int} {eo : Int} {kp : Int} {lv : Nat} {post : Option Value → CT → MS → Prop} (r_c1 : 1 ≤ c1 ∧ c1 ≤ 8) (hw0 : WT T0 σ0) (hlv : 8 ≤ c1 + (lv : Int)) (heo : eo = c1) (hkp : kp ≤ 150) (hex : ∀ (d : Nat) {T : CT} {σ : MS} {a : Nat} {dp : Int} {kp : Int} {Sx : Int → Int} {nx jx : Nat} {cx : CS} {Nx : Int} {eo : Int} (ha : OB T a 5) (h_dp : -2147483648 ≤ dp ∧ dp ≤ 2147483647) (hw : WT T σ) (hdp : 1 ≤ dp ∧ dp ≤ 9) (hlv : 9 ≤ dp + (lv : Int)) (hfx : RDX σ a Sx nx jx cx Nx) (heo : eo = dp - 1) (hkp : kp ≤ 150) (hrp : RP σ a kp), Tn (d + 5 * lv + 10) m_X5_expression 0 T σ [(0, .ref a), (1, .int (iI dp))] [] (fun ro T2 σ2 => ∃ v : Int, ro = some (.int (iI v)) ∧ WT T2 σ2 ∧ FrC T [5, 6, 7, 43, 44, 47, 50, 51, 84, 85, 86, 87, 521] σ σ2 ∧ (v = 0 ∨ v = 1) ∧ (XQ σ2 a Sx nx (eo) [2] jx cx Nx v) ∧ (RP σ2 a (kp - 4 * v)))) (hx_88 : ∀ (T : CT) (i2 : Int) (σ : MS) , (GT T0 T) → (WT T σ) → (FrC T0 [5, 6, 7, 43, 44, 47, 50, 51, 84, 85, 86, 87, 521] σ0 σ) → (OB T a 5) → (0 ≤ i2 ∧ i2 ≤ 2147483647) → (True) → (RP σ a kp) → (XFc σ a Sx (eo) [3] jx) → Tn (d + 5 * lv + 14) m_X5_sum 88 T σ [(0, .ref a), (1, .int (iI c1)), (2, .int (iI i2))] [] post) (hx_105 : ∀ (T : CT) (i2 : Int) (σ : MS) , (GT T0 T) → (WT T σ) → (FrC T0 [5, 6, 7, 43, 44, 47, 50, 51, 84, 85, 86, 87, 521] σ0 σ) → (OB T a 5) → (0 ≤ i2 ∧ i2 ≤ 2147483647) → (True) → (RP σ a kp) → (XS σ a Sx nx (eo) [3] jx cx Nx (eo) [] ((jx : Int) + 1)) → Tn (d + 5 * lv + 14) m_X5_sum 105 T σ [(0, .ref a), (1, .int (iI c1)), (2, .int (iI i2))] [] post) : ∀ (n : Nat) (T : CT) (i2 : Int) (σ : MS) , (GT T0 T) → (WT T σ) → (FrC T0 [5, 6, 7, 43, 44, 47, 50, 51, 84, 85, 86, 87, 521] σ0 σ) → (OB T a 5) → (0 ≤ i2 ∧ i2 ≤ 2147483647) → (XS σ a Sx nx (eo) [3] jx cx Nx (eo) [8] ((jx : Int) + 1 + i2)) → (RP σ a kp) → (2147483700 - i2).toNat = n → Tn (d + 5 * lv + 14) m_X5_sum 12 T σ [(0, .ref a), (1, .int (iI c1)), (2, .int (iI i2))] [] post := by
  intro n
  induction n using Nat.strongRecOn with
  | _ n ih =>
    intro T i2 σ hG hw hF h_a r_i2 hx hrp hm
    obtain ⟨jy, ey, my, loy, rdy, hfy⟩ := hx
    have hSb := hfy.1.sb
    have hjn := RDX.jn hfy hw h_a
    refine tn_iload_n dX5_sum_12 rfl 2 rfl ?_
    refine tn_sipush dX5_sum_13 (by decide) ?_
    refine tn_icmp_ge (tgt := 105) dX5_sum_16 (by decide) ⟨by omega, by omega⟩ ⟨by decide, by decide⟩ (fun h1 => ?_) (fun h1 => ?_)
    · exact tn_sub [0, 1, 2] rfl (hx_105 T (i2) σ hG hw (FrC.rfl.trans (FrC.sub hF (by decide))) h_a (by omega) True.intro (RP.up hrp (by omega)) (False.elim (by omega)))
    · refine tn_aload_n dX5_sum_19 rfl 0 rfl ?_
      obtain ⟨x2, hx3, hk4⟩ : ∃ x : Nat, σ.2.1 33 a = (x : Int) ∧ (T x).1 = 39 := wf_33 hw h_a
      have hk4o : OB T x2 9 := ⟨by omega, by rw [hk4]; rfl, by omega⟩
      refine tn_getR (ci := 5) (i := 0) (n := 33) (x := x2) dX5_sum_20 rfl lay_5 (by decide) fl5_12 h_a rfl rfl (hx3) ?_
      refine tn_getI (ci := 9) (i := 4) (n := 85) (t := σ.2.1 85 x2) dX5_sum_23 rfl lay_9 (by decide) fl5_71 hk4o rfl rfl (rfl) ?_
      have g6 : ((-2147483648 : Int) ≤ σ.2.1 85 x2 ∧ σ.2.1 85 x2 ≤ 2147483647) := wf_85 hw hk4o
      have g6kd : σ.2.1 85 x2 = ckd (tkS Sx jy) := (rfl).symm.trans ((hfy).1.kd (hx3))
      refine tn_bipush dX5_sum_26 (by decide) ?_
      refine tn_icmp_eq (tgt := 43) dX5_sum_28 (by decide) ⟨by omega, by omega⟩ ⟨by decide, by decide⟩ (fun h7 => ?_) (fun h7 => ?_)
      · refine tn_aload_n dX5_sum_43 rfl 0 rfl ?_
        refine tn_getR (ci := 5) (i := 0) (n := 33) (x := x2) dX5_sum_44 rfl lay_5 (by decide) fl5_12 h_a rfl rfl (hx3) ?_
        refine tn_getI (ci := 9) (i := 4) (n := 85) (t := σ.2.1 85 x2) dX5_sum_47 rfl lay_9 (by decide) fl5_71 hk4o rfl rfl (rfl) ?_
        refine tn_bipush dX5_sum_50 (by decide) ?_
        refine tn_icmp_ne (tgt := 59) dX5_sum_52 (by decide) ⟨by omega, by omega⟩ ⟨by decide, by decide⟩ (fun h8 => absurd h8 (by omega)) (fun h8 => ?_)
        refine tn_iconst dX5_sum_55 ?_
        refine tn_goto (tgt := 60) dX5_sum_56 (by decide) ?_
        refine tn_istore_n (L' := [(3, .int (iI 1)), (0, .ref a), (1, .int (iI c1)), (2, .int (iI i2))]) dX5_sum_60 rfl (by decide) rfl ?_
        refine tn_aload_n dX5_sum_61 rfl 1 rfl ?_
        refine tn_getI (ci := 5) (i := 17) (n := 50) (t := σ.2.1 50 a) dX5_sum_62 rfl lay_5 (by decide) fl5_216 h_a rfl rfl (rfl) ?_
        have g9 : ((-2147483648 : Int) ≤ σ.2.1 50 a ∧ σ.2.1 50 a ≤ 2147483647) := wf_50 hw h_a
        refine tn_istore (L' := [(4, .int (iI (σ.2.1 50 a))), (3, .int (iI 1)), (0, .ref a), (1, .int (iI c1)), (2, .int (iI i2))]) dX5_sum_65 (by decide) rfl ?_
        refine tn_aload_n dX5_sum_67 rfl 2 rfl ?_
        refine tn_getI (ci := 5) (i := 18) (n := 51) (t := σ.2.1 51 a) dX5_sum_68 rfl lay_5 (by decide) fl5_219 h_a rfl rfl (rfl) ?_
        have g10 : ((-2147483648 : Int) ≤ σ.2.1 51 a ∧ σ.2.1 51 a ≤ 2147483647) := wf_51 hw h_a
        refine tn_istore (L' := [(5, .int (iI (σ.2.1 51 a))), (4, .int (iI (σ.2.1 50 a))), (3, .int (iI 1)), (0, .ref a), (1, .int (iI c1)), (2, .int (iI i2))]) dX5_sum_71 (by decide) rfl ?_
        refine tn_aload_n dX5_sum_73 rfl 3 rfl ?_
        refine tn_getR (ci := 5) (i := 0) (n := 33) (x := x2) dX5_sum_74 rfl lay_5 (by decide) fl5_12 h_a rfl rfl (hx3) ?_
        refine tn_callV (M := m_X5_sum) (pc := 77) (ix := 93) (ci := 9) (M' := m_X9_next) (As := []) (rest := []) dX5_sum_77 ok_X9_next im_X9_next se_X9_next ml5_93 np_X9_next rfl rfl hk4o rfl (Nat.le_of_ble_eq_true rfl) (Nat.le_of_ble_eq_true rfl) rfl (k_X9_next_f (d + 5 * lv + 12) (T := T) (σ := σ) (a := x2) hk4o hw (RP.tk hrp hw h_a (hx3)) ((hfy).1.tk (hx3)) (by rw [(hfy).1.kd (hx3)]; omega)) (fun r11 T13 σ12 gt14 hp => ?_)
        obtain ⟨rfl, rfl, w20, F21, f15, f16, f17, f18⟩ := hp
        clear gt14
        have pc23 : EXR Sx (eo) [8] jy (eo) [4, 51, 8] (jy + 1) 0 [] := fun _ _ => x8p hSb (by omega)
        have rd24 : EXR Sx (eo) [3] jx (eo) [4, 51, 8] (jy + 1) (my + 0) (ey) := EXR.g0 (l := [8]) (ms := [4, 51, 8]) [] rdy pc23
        have fx22 : RDX σ12 a Sx nx (jy + 1) (ey.foldl uC cx) (Nx + my) := RDX.nx hfy hw h_a (hx3) F21 f18
        have rp25 : RP σ12 a (kp - 4) := RP.next4 hrp (hx3) F21 (by decide) (by decide) (by decide) f15 f17 (by rw [show σ.2.1 85 x2 = σ.2.1 85 x2 from rfl]; omega)
        show Tn _ _ 80 T σ12 [(5, .int (iI (σ.2.1 51 a))), (4, .int (iI (σ.2.1 50 a))), (3, .int (iI 1)), (0, .ref a), (1, .int (iI c1)), (2, .int (iI i2))] [] _
        refine tn_aload_n dX5_sum_80 rfl 3 rfl ?_
        refine tn_iload_n dX5_sum_81 rfl 4 rfl ?_
        refine tn_callV (M := m_X5_sum) (pc := 82) (ix := 247) (ci := 5) (M' := m_X5_term) (As := [.int (iI c1)]) (rest := []) dX5_sum_82 ok_X5_term im_X5_term se_X5_term ml5_247 np_X5_term rfl rfl h_a rfl (Nat.le_of_ble_eq_true rfl) (Nat.le_of_ble_eq_true rfl) rfl (k_X5_term_f (d) (T := T) (σ := σ12) (a := a) (dp := c1) (kp := kp - 4) (lv := lv) (eo := eo) h_a (by omega) w20 hex (by omega) (by omega) fx22 (by omega) (by omega) rp25) (fun r26 T28 σ27 gt29 hp => ?_)
        obtain ⟨v33, rfl, w34, F35, f30, f31, f32⟩ := hp
        replace h_a : OB T28 a 5 := gt29.ob h_a
        have rp37 : RP σ27 a (kp - 4 * v33 - 4) := RP.up f32 (by omega)
        show Tn _ _ 85 T28 σ27 [(5, .int (iI (σ.2.1 51 a))), (4, .int (iI (σ.2.1 50 a))), (3, .int (iI 1)), (0, .ref a), (1, .int (iI c1)), (2, .int (iI i2))] [.int (iI v33)] _
        refine tn_if_ne (tgt := 90) dX5_sum_85 (by decide) ⟨by omega, by omega⟩ (fun h38 => ?_) (fun h38 => ?_)
        · refine tn_aload_n dX5_sum_90 rfl 3 rfl ?_
          refine tn_iload_n dX5_sum_91 rfl 2 rfl ?_
          refine tn_iload dX5_sum_92 1 rfl ?_
          refine tn_iload dX5_sum_94 0 rfl ?_
          obtain ⟨i39, es40, m41, lo42, rr43, fx44⟩ := f31.1 (by omega)
          have rd45 : EXR Sx (eo) [3] jx (eo) [51, 8] i39 (my + 0 + m41) (ey ++ es40) := EXR.gg (l := [4]) (ms := []) [51, 8] rd24 rr43
          refine tn_callV (M := m_X5_sum) (pc := 96) (ix := 244) (ci := 5) (M' := m_X5_join) (As := [.int (iI 1), .int (iI (σ.2.1 50 a)), .int (iI (σ.2.1 51 a))]) (rest := []) dX5_sum_96 ok_X5_join im_X5_join se_X5_join ml5_244 np_X5_join rfl rfl h_a rfl (Nat.le_of_ble_eq_true rfl) (Nat.le_of_ble_eq_true rfl) rfl (k_X5_join_f (d + 5 * lv + 9) (T := T28) (σ := σ27) (a := a) (k := 1) (e := σ.2.1 50 a) (l := σ.2.1 51 a) (kp := kp - 4 * v33 - 4) h_a (by decide) (by omega) (by omega) w34 (by omega) fx44 (by omega) rp37) (fun r46 T48 σ47 gt49 hp => ?_)
          obtain ⟨rfl, w53, F54, f50, f51⟩ := hp
          replace h_a : OB T48 a 5 := gt49.ob h_a
          have rp56 : RP σ47 a (kp - 4 * v33 - 3) := RP.up f51 (by omega)
          show Tn _ _ 99 T48 σ47 [(5, .int (iI (σ.2.1 51 a))), (4, .int (iI (σ.2.1 50 a))), (3, .int (iI 1)), (0, .ref a), (1, .int (iI c1)), (2, .int (iI i2))] [] _
          refine tn_iinc (q0 := 5) (L' := [(2, .int (iI (i2 + 1))), (5, .int (iI (σ.2.1 51 a))), (4, .int (iI (σ.2.1 50 a))), (3, .int (iI 1)), (0, .ref a), (1, .int (iI c1))]) dX5_sum_99 rfl (by decide) rfl ?_
          refine tn_goto (tgt := 12) dX5_sum_102 (by decide) ?_
          have pc57 : EXR Sx (eo) [51] i39 (eo) [] i39 1 [] := fun _ _ => x51 hSb 
          have rd58 : EXR Sx (eo) [3] jx (eo) [8] i39 (my + 0 + m41 + 1) (ey ++ es40) := EXR.g0 (l := [51]) (ms := []) [8] rd45 pc57
          have hx59 : XS σ47 a Sx nx (eo) [3] jx cx Nx (eo) [8] ((jx : Int) + 1 + (i2 + 1)) := ⟨i39, ey ++ es40, my + 0 + m41 + 1, (by omega), rd58, RDX.nq (RDX.cq f50 (by simp only [List.foldl_append, List.foldl_cons, List.foldl_nil])) (by omega)⟩
          exact tn_sub [4, 5, 0] rfl (ih _ (by omega) T48 (i2 + 1) σ47 (GT.trans (GT.trans hG gt29) gt49) w53 ((((FrC.rfl.trans (FrC.sub hF (by decide))).trans (FrC.sub (FrC.old F21 hG) (by decide))).trans (FrC.sub (FrC.old F35 hG) (by decide))).trans (FrC.sub (FrC.old F54 (GT.trans hG gt29)) (by decide))) h_a (by omega) hx59 (RP.up rp56 (by omega)) rfl)
        · obtain ⟨pl60, g61, fx62⟩ := f31.2 (by omega)
          have rf63 : EXF Sx (eo) [3] jx (pl60) := EXR.fl (l := [4]) [51, 8] rd24 g61
          exact tn_sub [3, 4, 5] rfl (hx_88 T28 (i2) σ27 (GT.trans hG gt29) w34 (((FrC.rfl.trans (FrC.sub hF (by decide))).trans (FrC.sub (FrC.old F21 hG) (by decide))).trans (FrC.sub (FrC.old F35 hG) (by decide))) h_a (by omega) True.intro (RP.up rp37 (by omega)) ⟨_, rf63, fx62⟩)
      · refine tn_aload_n dX5_sum_31 rfl 0 rfl ?_
        refine tn_getR (ci := 5) (i := 0) (n := 33) (x := x2) dX5_sum_32 rfl lay_5 (by decide) fl5_12 h_a rfl rfl (hx3) ?_
        refine tn_getI (ci := 9) (i := 4) (n := 85) (t := σ.2.1 85 x2) dX5_sum_35 rfl lay_9 (by decide) fl5_71 hk4o rfl rfl (rfl) ?_
        refine tn_bipush dX5_sum_38 (by decide) ?_
        refine tn_icmp_ne (tgt := 105) dX5_sum_40 (by decide) ⟨by omega, by omega⟩ ⟨by decide, by decide⟩ (fun h64 => ?_) (fun h64 => ?_)
        · have pc65 : EXR Sx (eo) [8] jy (eo) [] jy 0 [] := fun _ _ => x8n hSb (by omega) (by omega)
          have rd66 : EXR Sx (eo) [3] jx (eo) [] jy (my + 0) (ey) := EXR.g0 (l := [8]) (ms := []) [] rdy pc65
          have hx67 : XS σ a Sx nx (eo) [3] jx cx Nx (eo) [] ((jx : Int) + 1) := ⟨jy, ey, my + 0, (by omega), rd66, RDX.nq (RDX.cq hfy rfl) (by omega)⟩
          exact tn_sub [0, 1, 2] rfl (hx_105 T (i2) σ hG hw (FrC.rfl.trans (FrC.sub hF (by decide))) h_a (by omega) True.intro (RP.up hrp (by omega)) hx67)
        · refine tn_aload_n dX5_sum_43 rfl 0 rfl ?_
          refine tn_getR (ci := 5) (i := 0) (n := 33) (x := x2) dX5_sum_44 rfl lay_5 (by decide) fl5_12 h_a rfl rfl (hx3) ?_
          refine tn_getI (ci := 9) (i := 4) (n := 85) (t := σ.2.1 85 x2) dX5_sum_47 rfl lay_9 (by decide) fl5_71 hk4o rfl rfl (rfl) ?_
          refine tn_bipush dX5_sum_50 (by decide) ?_
          refine tn_icmp_ne (tgt := 59) dX5_sum_52 (by decide) ⟨by omega, by omega⟩ ⟨by decide, by decide⟩ (fun h68 => ?_) (fun h68 => absurd h68 (by omega))
          refine tn_iconst dX5_sum_59 ?_
          refine tn_istore_n (L' := [(3, .int (iI 2)), (0, .ref a), (1, .int (iI c1)), (2, .int (iI i2))]) dX5_sum_60 rfl (by decide) rfl ?_
          refine tn_aload_n dX5_sum_61 rfl 1 rfl ?_
          refine tn_getI (ci := 5) (i := 17) (n := 50) (t := σ.2.1 50 a) dX5_sum_62 rfl lay_5 (by decide) fl5_216 h_a rfl rfl (rfl) ?_
          have g69 : ((-2147483648 : Int) ≤ σ.2.1 50 a ∧ σ.2.1 50 a ≤ 2147483647) := wf_50 hw h_a
          refine tn_istore (L' := [(4, .int (iI (σ.2.1 50 a))), (3, .int (iI 2)), (0, .ref a), (1, .int (iI c1)), (2, .int (iI i2))]) dX5_sum_65 (by decide) rfl ?_
          refine tn_aload_n dX5_sum_67 rfl 2 rfl ?_
          refine tn_getI (ci := 5) (i := 18) (n := 51) (t := σ.2.1 51 a) dX5_sum_68 rfl lay_5 (by decide) fl5_219 h_a rfl rfl (rfl) ?_
          have g70 : ((-2147483648 : Int) ≤ σ.2.1 51 a ∧ σ.2.1 51 a ≤ 2147483647) := wf_51 hw h_a
          refine tn_istore (L' := [(5, .int (iI (σ.2.1 51 a))), (4, .int (iI (σ.2.1 50 a))), (3, .int (iI 2)), (0, .ref a), (1, .int (iI c1)), (2, .int (iI i2))]) dX5_sum_71 (by decide) rfl ?_
          refine tn_aload_n dX5_sum_73 rfl 3 rfl ?_
          refine tn_getR (ci := 5) (i := 0) (n := 33) (x := x2) dX5_sum_74 rfl lay_5 (by decide) fl5_12 h_a rfl rfl (hx3) ?_
          refine tn_callV (M := m_X5_sum) (pc := 77) (ix := 93) (ci := 9) (M' := m_X9_next) (As := []) (rest := []) dX5_sum_77 ok_X9_next im_X9_next se_X9_next ml5_93 np_X9_next rfl rfl hk4o rfl (Nat.le_of_ble_eq_true rfl) (Nat.le_of_ble_eq_true rfl) rfl (k_X9_next_f (d + 5 * lv + 12) (T := T) (σ := σ) (a := x2) hk4o hw (RP.tk hrp hw h_a (hx3)) ((hfy).1.tk (hx3)) (by rw [(hfy).1.kd (hx3)]; omega)) (fun r71 T73 σ72 gt74 hp => ?_)
          obtain ⟨rfl, rfl, w80, F81, f75, f76, f77, f78⟩ := hp
          clear gt74
          have pc83 : EXR Sx (eo) [8] jy (eo) [4, 51, 8] (jy + 1) 0 [] := fun _ _ => x8m hSb (by omega)
          have rd84 : EXR Sx (eo) [3] jx (eo) [4, 51, 8] (jy + 1) (my + 0) (ey) := EXR.g0 (l := [8]) (ms := [4, 51, 8]) [] rdy pc83
          have fx82 : RDX σ72 a Sx nx (jy + 1) (ey.foldl uC cx) (Nx + my) := RDX.nx hfy hw h_a (hx3) F81 f78
          have rp85 : RP σ72 a (kp - 4) := RP.next4 hrp (hx3) F81 (by decide) (by decide) (by decide) f75 f77 (by rw [show σ.2.1 85 x2 = σ.2.1 85 x2 from rfl]; omega)
          show Tn _ _ 80 T σ72 [(5, .int (iI (σ.2.1 51 a))), (4, .int (iI (σ.2.1 50 a))), (3, .int (iI 2)), (0, .ref a), (1, .int (iI c1)), (2, .int (iI i2))] [] _
          refine tn_aload_n dX5_sum_80 rfl 3 rfl ?_
          refine tn_iload_n dX5_sum_81 rfl 4 rfl ?_
          refine tn_callV (M := m_X5_sum) (pc := 82) (ix := 247) (ci := 5) (M' := m_X5_term) (As := [.int (iI c1)]) (rest := []) dX5_sum_82 ok_X5_term im_X5_term se_X5_term ml5_247 np_X5_term rfl rfl h_a rfl (Nat.le_of_ble_eq_true rfl) (Nat.le_of_ble_eq_true rfl) rfl (k_X5_term_f (d) (T := T) (σ := σ72) (a := a) (dp := c1) (kp := kp - 4) (lv := lv) (eo := eo) h_a (by omega) w80 hex (by omega) (by omega) fx82 (by omega) (by omega) rp85) (fun r86 T88 σ87 gt89 hp => ?_)
          obtain ⟨v93, rfl, w94, F95, f90, f91, f92⟩ := hp
          replace h_a : OB T88 a 5 := gt89.ob h_a
          have rp97 : RP σ87 a (kp - 4 * v93 - 4) := RP.up f92 (by omega)
          show Tn _ _ 85 T88 σ87 [(5, .int (iI (σ.2.1 51 a))), (4, .int (iI (σ.2.1 50 a))), (3, .int (iI 2)), (0, .ref a), (1, .int (iI c1)), (2, .int (iI i2))] [.int (iI v93)] _
          refine tn_if_ne (tgt := 90) dX5_sum_85 (by decide) ⟨by omega, by omega⟩ (fun h98 => ?_) (fun h98 => ?_)
          · refine tn_aload_n dX5_sum_90 rfl 3 rfl ?_
            refine tn_iload_n dX5_sum_91 rfl 2 rfl ?_
            refine tn_iload dX5_sum_92 1 rfl ?_
            refine tn_iload dX5_sum_94 0 rfl ?_
            obtain ⟨i99, es100, m101, lo102, rr103, fx104⟩ := f91.1 (by omega)
            have rd105 : EXR Sx (eo) [3] jx (eo) [51, 8] i99 (my + 0 + m101) (ey ++ es100) := EXR.gg (l := [4]) (ms := []) [51, 8] rd84 rr103
            refine tn_callV (M := m_X5_sum) (pc := 96) (ix := 244) (ci := 5) (M' := m_X5_join) (As := [.int (iI 2), .int (iI (σ.2.1 50 a)), .int (iI (σ.2.1 51 a))]) (rest := []) dX5_sum_96 ok_X5_join im_X5_join se_X5_join ml5_244 np_X5_join rfl rfl h_a rfl (Nat.le_of_ble_eq_true rfl) (Nat.le_of_ble_eq_true rfl) rfl (k_X5_join_f (d + 5 * lv + 9) (T := T88) (σ := σ87) (a := a) (k := 2) (e := σ.2.1 50 a) (l := σ.2.1 51 a) (kp := kp - 4 * v93 - 4) h_a (by decide) (by omega) (by omega) w94 (by omega) fx104 (by omega) rp97) (fun r106 T108 σ107 gt109 hp => ?_)
            obtain ⟨rfl, w113, F114, f110, f111⟩ := hp
            replace h_a : OB T108 a 5 := gt109.ob h_a
            have rp116 : RP σ107 a (kp - 4 * v93 - 3) := RP.up f111 (by omega)
            show Tn _ _ 99 T108 σ107 [(5, .int (iI (σ.2.1 51 a))), (4, .int (iI (σ.2.1 50 a))), (3, .int (iI 2)), (0, .ref a), (1, .int (iI c1)), (2, .int (iI i2))] [] _
            refine tn_iinc (q0 := 5) (L' := [(2, .int (iI (i2 + 1))), (5, .int (iI (σ.2.1 51 a))), (4, .int (iI (σ.2.1 50 a))), (3, .int (iI 2)), (0, .ref a), (1, .int (iI c1))]) dX5_sum_99 rfl (by decide) rfl ?_
            refine tn_goto (tgt := 12) dX5_sum_102 (by decide) ?_
            have pc117 : EXR Sx (eo) [51] i99 (eo) [] i99 1 [] := fun _ _ => x51 hSb 
            have rd118 : EXR Sx (eo) [3] jx (eo) [8] i99 (my + 0 + m101 + 1) (ey ++ es100) := EXR.g0 (l := [51]) (ms := []) [8] rd105 pc117
            have hx119 : XS σ107 a Sx nx (eo) [3] jx cx Nx (eo) [8] ((jx : Int) + 1 + (i2 + 1)) := ⟨i99, ey ++ es100, my + 0 + m101 + 1, (by omega), rd118, RDX.nq (RDX.cq f110 (by simp only [List.foldl_append, List.foldl_cons, List.foldl_nil])) (by omega)⟩
            exact tn_sub [4, 5, 0] rfl (ih _ (by omega) T108 (i2 + 1) σ107 (GT.trans (GT.trans hG gt89) gt109) w113 ((((FrC.rfl.trans (FrC.sub hF (by decide))).trans (FrC.sub (FrC.old F81 hG) (by decide))).trans (FrC.sub (FrC.old F95 hG) (by decide))).trans (FrC.sub (FrC.old F114 (GT.trans hG gt89)) (by decide))) h_a (by omega) hx119 (RP.up rp116 (by omega)) rfl)
          · obtain ⟨pl120, g121, fx122⟩ := f91.2 (by omega)
            have rf123 : EXF Sx (eo) [3] jx (pl120) := EXR.fl (l := [4]) [51, 8] rd84 g121
            exact tn_sub [3, 4, 5] rfl (hx_88 T88 (i2) σ87 (GT.trans hG gt89) w94 (((FrC.rfl.trans (FrC.sub hF (by decide))).trans (FrC.sub (FrC.old F81 hG) (by decide))).trans (FrC.sub (FrC.old F95 hG) (by decide))) h_a (by omega) True.intro (RP.up rp97 (by omega)) ⟨_, rf123, fx122⟩)
set_option maxHeartbeats 4000000 in
set_option maxRecDepth 20000 in
theorem k_X5_sum_f (d : Nat) {T : CT} {σ : MS} {a : Nat} {dp : Int} {kp : Int} {lv : Nat} {Sx : Int → Int} {nx jx : Nat} {cx : CS} {Nx : Int} {eo : Int} (ha : OB T a 5) (h_dp : -2147483648 ≤ dp ∧ dp ≤ 2147483647) (hw : WT T σ) (hex : ∀ (d : Nat) {T : CT} {σ : MS} {a : Nat} {dp : Int} {kp : Int} {Sx : Int → Int} {nx jx : Nat} {cx : CS} {Nx : Int} {eo : Int} (ha : OB T a 5) (h_dp : -2147483648 ≤ dp ∧ dp ≤ 2147483647) (hw : WT T σ) (hdp : 1 ≤ dp ∧ dp ≤ 9) (hlv : 9 ≤ dp + (lv : Int)) (hfx : RDX σ a Sx nx jx cx Nx) (heo : eo = dp - 1) (hkp : kp ≤ 150) (hrp : RP σ a kp), Tn (d + 5 * lv + 10) m_X5_expression 0 T σ [(0, .ref a), (1, .int (iI dp))] [] (fun ro T2 σ2 => ∃ v : Int, ro = some (.int (iI v)) ∧ WT T2 σ2 ∧ FrC T [5, 6, 7, 43, 44, 47, 50, 51, 84, 85, 86, 87, 521] σ σ2 ∧ (v = 0 ∨ v = 1) ∧ (XQ σ2 a Sx nx (eo) [2] jx cx Nx v) ∧ (RP σ2 a (kp - 4 * v)))) (hdp : 1 ≤ dp ∧ dp ≤ 8) (hlv : 8 ≤ dp + (lv : Int)) (hfx : RDX σ a Sx nx jx cx Nx) (heo : eo = dp) (hkp : kp ≤ 150) (hrp : RP σ a kp) : Tn (d + 5 * lv + 14) m_X5_sum 0 T σ [(0, .ref a), (1, .int (iI dp))] [] (fun ro T2 σ2 => ∃ v : Int, ro = some (.int (iI v)) ∧ WT T2 σ2 ∧ FrC T [5, 6, 7, 43, 44, 47, 50, 51, 84, 85, 86, 87, 521] σ σ2 ∧ (v = 0 ∨ v = 1) ∧ (XQ σ2 a Sx nx (eo) [3] jx cx Nx v) ∧ (RP σ2 a (kp - 4 * v))) := by
  have hSb := hfx.1.sb
  refine tn_aload_n dX5_sum_0 rfl 0 rfl ?_
  refine tn_iload_n dX5_sum_1 rfl 1 rfl ?_
  have pc1 : EXR Sx (eo) [3] jx (eo) [4, 8] jx 0 [] := fun _ _ => x3 hSb 
  have rd20 : EXR Sx (eo) [3] jx (eo) [3] jx (0) ([]) := EXR.nl
  have rd2 : EXR Sx (eo) [3] jx (eo) [4, 8] jx (0 + 0) ([]) := EXR.g0 (l := [3]) (ms := [4, 8]) [] rd20 pc1
  refine tn_callV (M := m_X5_sum) (pc := 2) (ix := 247) (ci := 5) (M' := m_X5_term) (As := [.int (iI dp)]) (rest := []) dX5_sum_2 ok_X5_term im_X5_term se_X5_term ml5_247 np_X5_term rfl rfl ha rfl (Nat.le_of_ble_eq_true rfl) (Nat.le_of_ble_eq_true rfl) rfl (k_X5_term_f (d) (T := T) (σ := σ) (a := a) (dp := dp) (kp := kp) (lv := lv) (eo := eo) ha (by omega) hw hex (by omega) (by omega) hfx (by omega) (by omega) hrp) (fun r3 T5 σ4 gt6 hp => ?_)
  obtain ⟨v10, rfl, w11, F12, f7, f8, f9⟩ := hp
  replace ha : OB T5 a 5 := gt6.ob ha
  show Tn _ _ 5 T5 σ4 [(0, .ref a), (1, .int (iI dp))] [.int (iI v10)] _
  refine tn_if_ne (tgt := 10) dX5_sum_5 (by decide) ⟨by omega, by omega⟩ (fun h14 => ?_) (fun h14 => ?_)
  · refine tn_iconst dX5_sum_10 ?_
    refine tn_istore_n (L' := [(2, .int (iI 0)), (0, .ref a), (1, .int (iI dp))]) dX5_sum_11 rfl (by decide) rfl ?_
    obtain ⟨i15, es16, m17, lo18, rr19, fx20⟩ := f8.1 (by omega)
    have rd21a : EXR Sx (eo) [3] jx (eo) [8] i15 (0 + 0 + m17) ([] ++ es16) := EXR.gg (l := [4]) (ms := []) [8] rd2 rr19
    have rd21 : EXR Sx (eo) [3] jx (eo) [8] i15 (0 + 0 + m17) (es16) := rd21a
    have hx22 : XS σ4 a Sx nx (eo) [3] jx cx Nx (eo) [8] ((jx : Int) + 1 + (0)) := ⟨i15, es16, 0 + 0 + m17, (by omega), rd21, RDX.nq (RDX.cq fx20 rfl) (by omega)⟩
    refine tn_sub [1, 2, 0] rfl (l_X5_sum_f_12 (d) (σ0 := σ4) (T0 := T5) (a := a) (c1 := dp) (kp := kp - 4 * v10) (lv := lv) (Sx := Sx) (nx := nx) (jx := jx) (cx := cx) (Nx := Nx) (eo := eo) (by omega) w11 (by omega) heo (by omega) hex (fun T25 i223 σ24 gt26 w27 F28 q29 r30 f31 f32 f33 => ?_) (fun T36 i234 σ35 gt37 w38 F39 q40 r41 f42 f43 f44 => ?_) _ T5 (0) σ4 GT.rfl w11 FrC.rfl ha (by omega) hx22 f9 rfl)
    · show Tn _ _ 88 T25 σ24 [(0, .ref a), (1, .int (iI dp)), (2, .int (iI i223))] [] _
      refine tn_iconst dX5_sum_88 ?_
      exact tn_zret (v := 0) rfl (by decide) dX5_sum_89 ⟨_, rfl, w27, ((FrC.rfl.trans (FrC.sub F12 (by decide))).trans (FrC.sub (FrC.old F28 gt6) (by decide))), by omega, ⟨fun q => absurd q (by decide), fun _ => f33⟩, (RP.up f32 (by omega))⟩
    · show Tn _ _ 105 T36 σ35 [(0, .ref a), (1, .int (iI dp)), (2, .int (iI i234))] [] _
      refine tn_iconst dX5_sum_105 ?_
      exact tn_zret (v := 1) rfl (by decide) dX5_sum_106 ⟨_, rfl, w38, ((FrC.rfl.trans (FrC.sub F12 (by decide))).trans (FrC.sub (FrC.old F39 gt6) (by decide))), by omega, ⟨fun _ => f44, fun q => absurd q (by decide)⟩, (RP.up f43 (by omega))⟩
  · refine tn_iconst dX5_sum_8 ?_
    obtain ⟨pl47, g48, fx49⟩ := f8.2 (by omega)
    have rf50 : EXF Sx (eo) [3] jx (pl47) := EXR.fl (l := [4]) [8] rd2 g48
    have rb46 : XFc σ4 a Sx (eo) [3] jx := ⟨_, rf50, fx49⟩
    exact tn_zret (v := 0) rfl (by decide) dX5_sum_9 ⟨_, rfl, w11, (FrC.rfl.trans (FrC.sub F12 (by decide))), by omega, ⟨fun q => absurd q (by decide), fun _ => rb46⟩, (RP.up f9 (by omega))⟩
end
section
set_option maxHeartbeats 4000000 in
set_option maxRecDepth 20000 in
theorem k_X5_expression_f0 (d : Nat) {T : CT} {σ : MS} {a : Nat} {dp : Int} {kp : Int} {Sx : Int → Int} {nx jx : Nat} {cx : CS} {Nx : Int} {eo : Int} (ha : OB T a 5) (h_dp : -2147483648 ≤ dp ∧ dp ≤ 2147483647) (hw : WT T σ) (h9 : 9 = dp) (hfx : RDX σ a Sx nx jx cx Nx) (heo : eo = dp - 1) (hkp : kp ≤ 150) (hrp : RP σ a kp) : Tn (d + 10) m_X5_expression 0 T σ [(0, .ref a), (1, .int (iI dp))] [] (fun ro T2 σ2 => ∃ v : Int, ro = some (.int (iI v)) ∧ WT T2 σ2 ∧ FrC T [5, 6, 7, 43, 44, 47, 50, 51, 84, 85, 86, 87, 521] σ σ2 ∧ (v = 0 ∨ v = 1) ∧ (XQ σ2 a Sx nx (eo) [2] jx cx Nx v) ∧ (RP σ2 a (kp - 4 * v))) := by
  have hSb := hfx.1.sb
  refine tn_iload_n dX5_expression_0 rfl 1 rfl ?_
  refine tn_bipush dX5_expression_1 (by decide) ?_
  refine tn_icmp_le (tgt := 11) dX5_expression_3 (by decide) ⟨by omega, by omega⟩ ⟨by decide, by decide⟩ (fun h1 => absurd h1 (by omega)) (fun h1 => ?_)
  refine tn_aload_n dX5_expression_6 rfl 0 rfl ?_
  refine tn_callV (M := m_X5_expression) (pc := 7) (ix := 90) (ci := 5) (M' := m_X5_refuse) (As := []) (rest := []) dX5_expression_7 ok_X5_refuse im_X5_refuse se_X5_refuse ml5_90 np_X5_refuse rfl rfl ha rfl (Nat.le_of_ble_eq_true rfl) (Nat.le_of_ble_eq_true rfl) rfl (k_X5_refuse_f (d + 8) (T := T) (σ := σ) (a := a) ha hw (hfx).1.1) (fun r2 T4 σ3 gt5 hp => ?_)
  obtain ⟨v10, rfl, rfl, w11, F12, f6, f7, f8, f9⟩ := hp
  clear gt5
  have pc13 : EXF Sx (eo) [2] jx (tkS Sx jx).1 := fun _ _ => x2f hSb (by omega)
  have rf140 : EXR Sx (eo) [2] jx (eo) [2] jx (0) ([]) := EXR.nl
  have rf14 : EXF Sx (eo) [2] jx ((tkS Sx jx).1) := EXR.fl (l := [2]) [] rf140 pc13
  have rp15 : RP σ3 a (kp) := RP.frc hrp F12 (by decide) (by decide) (by decide) (by decide) (by decide)
  show Tn _ _ 10 T σ3 [(0, .ref a), (1, .int (iI dp))] [.int (iI v10)] _
  have rb17 : XFc σ3 a Sx (eo) [2] jx := ⟨_, rf14, f8⟩
  exact tn_zret (v := v10) rfl (by omega) dX5_expression_10 ⟨_, rfl, w11, (FrC.rfl.trans (FrC.sub F12 (by decide))), by omega, ⟨fun q => absurd q (by omega), fun _ => rb17⟩, (RP.up rp15 (by omega))⟩
end
section
set_option maxHeartbeats 4000000 in
set_option maxRecDepth 20000 in
theorem k_X5_expression_f1 (d : Nat) {T : CT} {σ : MS} {a : Nat} {dp : Int} {kp : Int} {lv : Nat} {Sx : Int → Int} {nx jx : Nat} {cx : CS} {Nx : Int} {eo : Int} (ha : OB T a 5) (h_dp : -2147483648 ≤ dp ∧ dp ≤ 2147483647) (hw : WT T σ) (hex : ∀ (d : Nat) {T : CT} {σ : MS} {a : Nat} {dp : Int} {kp : Int} {Sx : Int → Int} {nx jx : Nat} {cx : CS} {Nx : Int} {eo : Int} (ha : OB T a 5) (h_dp : -2147483648 ≤ dp ∧ dp ≤ 2147483647) (hw : WT T σ) (hdp : 1 ≤ dp ∧ dp ≤ 9) (hlv : 9 ≤ dp + (lv : Int)) (hfx : RDX σ a Sx nx jx cx Nx) (heo : eo = dp - 1) (hkp : kp ≤ 150) (hrp : RP σ a kp), Tn (d + 5 * lv + 10) m_X5_expression 0 T σ [(0, .ref a), (1, .int (iI dp))] [] (fun ro T2 σ2 => ∃ v : Int, ro = some (.int (iI v)) ∧ WT T2 σ2 ∧ FrC T [5, 6, 7, 43, 44, 47, 50, 51, 84, 85, 86, 87, 521] σ σ2 ∧ (v = 0 ∨ v = 1) ∧ (XQ σ2 a Sx nx (eo) [2] jx cx Nx v) ∧ (RP σ2 a (kp - 4 * v)))) (hdp : 1 ≤ dp ∧ dp ≤ 8) (hlv : 9 ≤ dp + ((lv : Int) + 1)) (hfx : RDX σ a Sx nx jx cx Nx) (heo : eo = dp - 1) (hkp : kp ≤ 150) (hrp : RP σ a kp) : Tn (d + 5 * lv + 15) m_X5_expression 0 T σ [(0, .ref a), (1, .int (iI dp))] [] (fun ro T2 σ2 => ∃ v : Int, ro = some (.int (iI v)) ∧ WT T2 σ2 ∧ FrC T [5, 6, 7, 43, 44, 47, 50, 51, 84, 85, 86, 87, 521] σ σ2 ∧ (v = 0 ∨ v = 1) ∧ (XQ σ2 a Sx nx (eo) [2] jx cx Nx v) ∧ (RP σ2 a (kp - 4 * v))) := by
  have hSb := hfx.1.sb
  refine tn_iload_n dX5_expression_0 rfl 1 rfl ?_
  refine tn_bipush dX5_expression_1 (by decide) ?_
  refine tn_icmp_le (tgt := 11) dX5_expression_3 (by decide) ⟨by omega, by omega⟩ ⟨by decide, by decide⟩ (fun h1 => ?_) (fun h1 => absurd h1 (by omega))
  refine tn_aload_n dX5_expression_11 rfl 0 rfl ?_
  refine tn_iload_n dX5_expression_12 rfl 1 rfl ?_
  have pc2 : EXR Sx (eo) [2] jx (eo + 1) [3, 6] jx 0 [] := fun _ _ => x2 hSb (by omega)
  have rd30 : EXR Sx (eo) [2] jx (eo) [2] jx (0) ([]) := EXR.nl
  have rd3 : EXR Sx (eo) [2] jx (eo + 1) [3, 6] jx (0 + 0) ([]) := EXR.g0 (l := [2]) (ms := [3, 6]) [] rd30 pc2
  refine tn_callV (M := m_X5_expression) (pc := 13) (ix := 241) (ci := 5) (M' := m_X5_sum) (As := [.int (iI dp)]) (rest := []) dX5_expression_13 ok_X5_sum im_X5_sum se_X5_sum ml5_241 np_X5_sum rfl rfl ha rfl (Nat.le_of_ble_eq_true rfl) (Nat.le_of_ble_eq_true rfl) rfl (k_X5_sum_f (d) (T := T) (σ := σ) (a := a) (dp := dp) (kp := kp) (lv := lv) (eo := eo + 1) ha (by omega) hw hex (by omega) (by omega) hfx (by omega) (by omega) hrp) (fun r4 T6 σ5 gt7 hp => ?_)
  obtain ⟨v11, rfl, w12, F13, f8, f9, f10⟩ := hp
  replace ha : OB T6 a 5 := gt7.ob ha
  show Tn _ _ 16 T6 σ5 [(0, .ref a), (1, .int (iI dp))] [.int (iI v11)] _
  refine tn_if_ne (tgt := 21) dX5_expression_16 (by decide) ⟨by omega, by omega⟩ (fun h15 => ?_) (fun h15 => ?_)
  · refine tn_aload_n dX5_expression_21 rfl 0 rfl ?_
    obtain ⟨x16, hx17, hk18⟩ : ∃ x : Nat, σ5.2.1 33 a = (x : Int) ∧ (T6 x).1 = 39 := wf_33 w12 ha
    have hk18o : OB T6 x16 9 := ⟨by omega, by rw [hk18]; rfl, by omega⟩
    refine tn_getR (ci := 5) (i := 0) (n := 33) (x := x16) dX5_expression_22 rfl lay_5 (by decide) fl5_12 ha rfl rfl (hx17) ?_
    refine tn_getI (ci := 9) (i := 4) (n := 85) (t := σ5.2.1 85 x16) dX5_expression_25 rfl lay_9 (by decide) fl5_71 hk18o rfl rfl (rfl) ?_
    have g20 : ((-2147483648 : Int) ≤ σ5.2.1 85 x16 ∧ σ5.2.1 85 x16 ≤ 2147483647) := wf_85 w12 hk18o
    obtain ⟨i21, es22, m23, lo24, rr25, fx26⟩ := f9.1 (by omega)
    have rd27a : EXR Sx (eo) [2] jx (eo + 1) [6] i21 (0 + 0 + m23) ([] ++ es22) := EXR.gg (l := [3]) (ms := []) [6] rd3 rr25
    have rd27 : EXR Sx (eo) [2] jx (eo + 1) [6] i21 (0 + 0 + m23) (es22) := rd27a
    have g20kd : σ5.2.1 85 x16 = ckd (tkS Sx i21) := (rfl).symm.trans ((fx26).1.kd (hx17))
    refine tn_bipush dX5_expression_28 (by decide) ?_
    refine tn_icmp_eq (tgt := 47) dX5_expression_30 (by decide) ⟨by omega, by omega⟩ ⟨by decide, by decide⟩ (fun h28 => ?_) (fun h28 => ?_)
    · refine tn_aload_n dX5_expression_47 rfl 0 rfl ?_
      refine tn_getR (ci := 5) (i := 0) (n := 33) (x := x16) dX5_expression_48 rfl lay_5 (by decide) fl5_12 ha rfl rfl (hx17) ?_
      refine tn_getI (ci := 9) (i := 4) (n := 85) (t := σ5.2.1 85 x16) dX5_expression_51 rfl lay_9 (by decide) fl5_71 hk18o rfl rfl (rfl) ?_
      refine tn_bipush dX5_expression_54 (by decide) ?_
      refine tn_icmp_ne (tgt := 63) dX5_expression_56 (by decide) ⟨by omega, by omega⟩ ⟨by decide, by decide⟩ (fun h29 => absurd h29 (by omega)) (fun h29 => ?_)
      refine tn_iconst dX5_expression_59 ?_
      refine tn_goto (tgt := 64) dX5_expression_60 (by decide) ?_
      refine tn_istore_n (L' := [(2, .int (iI 4)), (0, .ref a), (1, .int (iI dp))]) dX5_expression_64 rfl (by decide) rfl ?_
      refine tn_aload_n dX5_expression_65 rfl 1 rfl ?_
      refine tn_getI (ci := 5) (i := 17) (n := 50) (t := σ5.2.1 50 a) dX5_expression_66 rfl lay_5 (by decide) fl5_216 ha rfl rfl (rfl) ?_
      have g30 : ((-2147483648 : Int) ≤ σ5.2.1 50 a ∧ σ5.2.1 50 a ≤ 2147483647) := wf_50 w12 ha
      refine tn_istore_n (L' := [(3, .int (iI (σ5.2.1 50 a))), (2, .int (iI 4)), (0, .ref a), (1, .int (iI dp))]) dX5_expression_69 rfl (by decide) rfl ?_
      refine tn_aload_n dX5_expression_70 rfl 2 rfl ?_
      refine tn_getI (ci := 5) (i := 18) (n := 51) (t := σ5.2.1 51 a) dX5_expression_71 rfl lay_5 (by decide) fl5_219 ha rfl rfl (rfl) ?_
      have g31 : ((-2147483648 : Int) ≤ σ5.2.1 51 a ∧ σ5.2.1 51 a ≤ 2147483647) := wf_51 w12 ha
      refine tn_istore (L' := [(4, .int (iI (σ5.2.1 51 a))), (3, .int (iI (σ5.2.1 50 a))), (2, .int (iI 4)), (0, .ref a), (1, .int (iI dp))]) dX5_expression_74 (by decide) rfl ?_
      refine tn_aload_n dX5_expression_76 rfl 3 rfl ?_
      refine tn_getR (ci := 5) (i := 0) (n := 33) (x := x16) dX5_expression_77 rfl lay_5 (by decide) fl5_12 ha rfl rfl (hx17) ?_
      refine tn_callV (M := m_X5_expression) (pc := 80) (ix := 93) (ci := 9) (M' := m_X9_next) (As := []) (rest := []) dX5_expression_80 ok_X9_next im_X9_next se_X9_next ml5_93 np_X9_next rfl rfl hk18o rfl (Nat.le_of_ble_eq_true rfl) (Nat.le_of_ble_eq_true rfl) rfl (k_X9_next_f (d + 5 * lv + 13) (T := T6) (σ := σ5) (a := x16) hk18o w12 (RP.tk f10 w12 ha (hx17)) ((fx26).1.tk (hx17)) (by rw [(fx26).1.kd (hx17)]; omega)) (fun r32 T34 σ33 gt35 hp => ?_)
      obtain ⟨rfl, rfl, w41, F42, f36, f37, f38, f39⟩ := hp
      clear gt35
      have pc44 : EXR Sx (eo + 1) [6] i21 (eo + 1) [3, 51, 7] (i21 + 1) 0 [] := fun _ _ => x6e hSb (by omega)
      have rd45 : EXR Sx (eo) [2] jx (eo + 1) [3, 51, 7] (i21 + 1) (0 + 0 + m23 + 0) (es22) := EXR.g0 (l := [6]) (ms := [3, 51, 7]) [] rd27 pc44
      have fx43 : RDX σ33 a Sx nx (i21 + 1) (es22.foldl uC (cx)) (Nx + m23) := RDX.nx fx26 w12 ha (hx17) F42 f39
      have rp46 : RP σ33 a (kp - 4 * v11 - 4) := RP.next4 f10 (hx17) F42 (by decide) (by decide) (by decide) f36 f38 (by rw [show σ5.2.1 85 x16 = σ5.2.1 85 x16 from rfl]; omega)
      show Tn _ _ 83 T6 σ33 [(4, .int (iI (σ5.2.1 51 a))), (3, .int (iI (σ5.2.1 50 a))), (2, .int (iI 4)), (0, .ref a), (1, .int (iI dp))] [] _
      refine tn_aload_n dX5_expression_83 rfl 3 rfl ?_
      refine tn_iload_n dX5_expression_84 rfl 4 rfl ?_
      refine tn_callV (M := m_X5_expression) (pc := 85) (ix := 241) (ci := 5) (M' := m_X5_sum) (As := [.int (iI dp)]) (rest := []) dX5_expression_85 ok_X5_sum im_X5_sum se_X5_sum ml5_241 np_X5_sum rfl rfl ha rfl (Nat.le_of_ble_eq_true rfl) (Nat.le_of_ble_eq_true rfl) rfl (k_X5_sum_f (d) (T := T6) (σ := σ33) (a := a) (dp := dp) (kp := kp - 4 * v11 - 4) (lv := lv) (eo := eo + 1) ha (by omega) w41 hex (by omega) (by omega) fx43 (by omega) (by omega) rp46) (fun r47 T49 σ48 gt50 hp => ?_)
      obtain ⟨v54, rfl, w55, F56, f51, f52, f53⟩ := hp
      replace ha : OB T49 a 5 := gt50.ob ha
      have rp58 : RP σ48 a (kp - 4 * v11 - 4 * v54 - 4) := RP.up f53 (by omega)
      show Tn _ _ 88 T49 σ48 [(4, .int (iI (σ5.2.1 51 a))), (3, .int (iI (σ5.2.1 50 a))), (2, .int (iI 4)), (0, .ref a), (1, .int (iI dp))] [.int (iI v54)] _
      refine tn_if_ne (tgt := 93) dX5_expression_88 (by decide) ⟨by omega, by omega⟩ (fun h59 => ?_) (fun h59 => ?_)
      · refine tn_aload_n dX5_expression_93 rfl 3 rfl ?_
        refine tn_iload_n dX5_expression_94 rfl 2 rfl ?_
        refine tn_iload_n dX5_expression_95 rfl 1 rfl ?_
        refine tn_iload dX5_expression_96 0 rfl ?_
        obtain ⟨i60, es61, m62, lo63, rr64, fx65⟩ := f52.1 (by omega)
        have rd66 : EXR Sx (eo) [2] jx (eo + 1) [51, 7] i60 (0 + 0 + m23 + 0 + m62) (es22 ++ es61) := EXR.gg (l := [3]) (ms := []) [51, 7] rd45 rr64
        refine tn_callV (M := m_X5_expression) (pc := 98) (ix := 244) (ci := 5) (M' := m_X5_join) (As := [.int (iI 4), .int (iI (σ5.2.1 50 a)), .int (iI (σ5.2.1 51 a))]) (rest := []) dX5_expression_98 ok_X5_join im_X5_join se_X5_join ml5_244 np_X5_join rfl rfl ha rfl (Nat.le_of_ble_eq_true rfl) (Nat.le_of_ble_eq_true rfl) rfl (k_X5_join_f (d + 5 * lv + 10) (T := T49) (σ := σ48) (a := a) (k := 4) (e := σ5.2.1 50 a) (l := σ5.2.1 51 a) (kp := kp - 4 * v11 - 4 * v54 - 4) ha (by decide) (by omega) (by omega) w55 (by omega) fx65 (by omega) rp58) (fun r67 T69 σ68 gt70 hp => ?_)
        obtain ⟨rfl, w74, F75, f71, f72⟩ := hp
        replace ha : OB T69 a 5 := gt70.ob ha
        have rp77 : RP σ68 a (kp - 4 * v11 - 4 * v54 - 3) := RP.up f72 (by omega)
        show Tn _ _ 101 T69 σ68 [(4, .int (iI (σ5.2.1 51 a))), (3, .int (iI (σ5.2.1 50 a))), (2, .int (iI 4)), (0, .ref a), (1, .int (iI dp))] [] _
        refine tn_iconst dX5_expression_101 ?_
        have pc80 : EXR Sx (eo + 1) [51] i60 (eo + 1) [] i60 1 [] := fun _ _ => x51 hSb 
        have rd81 : EXR Sx (eo) [2] jx (eo + 1) [7] i60 (0 + 0 + m23 + 0 + m62 + 1) (es22 ++ es61) := EXR.g0 (l := [51]) (ms := []) [7] rd66 pc80
        have pc82 : EXR Sx (eo + 1) [7] i60 (eo) [] i60 0 [] := fun b9 u9 => by have q9 := x7 (S := Sx) (j := i60) (e := eo + 1) (b := b9) (u := u9) hSb; rw [show eo + 1 - 1 = eo by omega] at q9; exact q9
        have rd83 : EXR Sx (eo) [2] jx (eo) [] i60 (0 + 0 + m23 + 0 + m62 + 1 + 0) (es22 ++ es61) := EXR.g0 (l := [7]) (ms := []) [] rd81 pc82
        have ra78 : XS σ68 a Sx nx (eo) [2] jx cx Nx (eo) [] ((jx : Int) + 1) := ⟨i60, es22 ++ es61, 0 + 0 + m23 + 0 + m62 + 1 + 0, (by omega), rd83, RDX.nq (RDX.cq f71 (by simp only [List.foldl_append, List.foldl_cons, List.foldl_nil])) (by omega)⟩
        exact tn_zret (v := 1) rfl (by decide) dX5_expression_102 ⟨_, rfl, w74, ((((FrC.rfl.trans (FrC.sub F13 (by decide))).trans (FrC.sub (FrC.old F42 gt7) (by decide))).trans (FrC.sub (FrC.old F56 gt7) (by decide))).trans (FrC.sub (FrC.old F75 (GT.trans gt7 gt50)) (by decide))), by omega, ⟨fun _ => ra78, fun q => absurd q (by decide)⟩, (RP.up rp77 (by omega))⟩
      · refine tn_iconst dX5_expression_91 ?_
        obtain ⟨pl86, g87, fx88⟩ := f52.2 (by omega)
        have rf89 : EXF Sx (eo) [2] jx (pl86) := EXR.fl (l := [3]) [51, 7] rd45 g87
        have rb85 : XFc σ48 a Sx (eo) [2] jx := ⟨_, rf89, fx88⟩
        exact tn_zret (v := 0) rfl (by decide) dX5_expression_92 ⟨_, rfl, w55, (((FrC.rfl.trans (FrC.sub F13 (by decide))).trans (FrC.sub (FrC.old F42 gt7) (by decide))).trans (FrC.sub (FrC.old F56 gt7) (by decide))), by omega, ⟨fun q => absurd q (by decide), fun _ => rb85⟩, (RP.up rp58 (by omega))⟩
    · refine tn_aload_n dX5_expression_33 rfl 0 rfl ?_
      refine tn_getR (ci := 5) (i := 0) (n := 33) (x := x16) dX5_expression_34 rfl lay_5 (by decide) fl5_12 ha rfl rfl (hx17) ?_
      refine tn_getI (ci := 9) (i := 4) (n := 85) (t := σ5.2.1 85 x16) dX5_expression_37 rfl lay_9 (by decide) fl5_71 hk18o rfl rfl (rfl) ?_
      refine tn_bipush dX5_expression_40 (by decide) ?_
      refine tn_icmp_eq (tgt := 47) dX5_expression_42 (by decide) ⟨by omega, by omega⟩ ⟨by decide, by decide⟩ (fun h90 => ?_) (fun h90 => ?_)
      · refine tn_aload_n dX5_expression_47 rfl 0 rfl ?_
        refine tn_getR (ci := 5) (i := 0) (n := 33) (x := x16) dX5_expression_48 rfl lay_5 (by decide) fl5_12 ha rfl rfl (hx17) ?_
        refine tn_getI (ci := 9) (i := 4) (n := 85) (t := σ5.2.1 85 x16) dX5_expression_51 rfl lay_9 (by decide) fl5_71 hk18o rfl rfl (rfl) ?_
        refine tn_bipush dX5_expression_54 (by decide) ?_
        refine tn_icmp_ne (tgt := 63) dX5_expression_56 (by decide) ⟨by omega, by omega⟩ ⟨by decide, by decide⟩ (fun h91 => ?_) (fun h91 => absurd h91 (by omega))
        refine tn_iconst dX5_expression_63 ?_
        refine tn_istore_n (L' := [(2, .int (iI 5)), (0, .ref a), (1, .int (iI dp))]) dX5_expression_64 rfl (by decide) rfl ?_
        refine tn_aload_n dX5_expression_65 rfl 1 rfl ?_
        refine tn_getI (ci := 5) (i := 17) (n := 50) (t := σ5.2.1 50 a) dX5_expression_66 rfl lay_5 (by decide) fl5_216 ha rfl rfl (rfl) ?_
        have g92 : ((-2147483648 : Int) ≤ σ5.2.1 50 a ∧ σ5.2.1 50 a ≤ 2147483647) := wf_50 w12 ha
        refine tn_istore_n (L' := [(3, .int (iI (σ5.2.1 50 a))), (2, .int (iI 5)), (0, .ref a), (1, .int (iI dp))]) dX5_expression_69 rfl (by decide) rfl ?_
        refine tn_aload_n dX5_expression_70 rfl 2 rfl ?_
        refine tn_getI (ci := 5) (i := 18) (n := 51) (t := σ5.2.1 51 a) dX5_expression_71 rfl lay_5 (by decide) fl5_219 ha rfl rfl (rfl) ?_
        have g93 : ((-2147483648 : Int) ≤ σ5.2.1 51 a ∧ σ5.2.1 51 a ≤ 2147483647) := wf_51 w12 ha
        refine tn_istore (L' := [(4, .int (iI (σ5.2.1 51 a))), (3, .int (iI (σ5.2.1 50 a))), (2, .int (iI 5)), (0, .ref a), (1, .int (iI dp))]) dX5_expression_74 (by decide) rfl ?_
        refine tn_aload_n dX5_expression_76 rfl 3 rfl ?_
        refine tn_getR (ci := 5) (i := 0) (n := 33) (x := x16) dX5_expression_77 rfl lay_5 (by decide) fl5_12 ha rfl rfl (hx17) ?_
        refine tn_callV (M := m_X5_expression) (pc := 80) (ix := 93) (ci := 9) (M' := m_X9_next) (As := []) (rest := []) dX5_expression_80 ok_X9_next im_X9_next se_X9_next ml5_93 np_X9_next rfl rfl hk18o rfl (Nat.le_of_ble_eq_true rfl) (Nat.le_of_ble_eq_true rfl) rfl (k_X9_next_f (d + 5 * lv + 13) (T := T6) (σ := σ5) (a := x16) hk18o w12 (RP.tk f10 w12 ha (hx17)) ((fx26).1.tk (hx17)) (by rw [(fx26).1.kd (hx17)]; omega)) (fun r94 T96 σ95 gt97 hp => ?_)
        obtain ⟨rfl, rfl, w103, F104, f98, f99, f100, f101⟩ := hp
        clear gt97
        have pc106 : EXR Sx (eo + 1) [6] i21 (eo + 1) [3, 51, 7] (i21 + 1) 0 [] := fun _ _ => x6l hSb (by omega)
        have rd107 : EXR Sx (eo) [2] jx (eo + 1) [3, 51, 7] (i21 + 1) (0 + 0 + m23 + 0) (es22) := EXR.g0 (l := [6]) (ms := [3, 51, 7]) [] rd27 pc106
        have fx105 : RDX σ95 a Sx nx (i21 + 1) (es22.foldl uC (cx)) (Nx + m23) := RDX.nx fx26 w12 ha (hx17) F104 f101
        have rp108 : RP σ95 a (kp - 4 * v11 - 4) := RP.next4 f10 (hx17) F104 (by decide) (by decide) (by decide) f98 f100 (by rw [show σ5.2.1 85 x16 = σ5.2.1 85 x16 from rfl]; omega)
        show Tn _ _ 83 T6 σ95 [(4, .int (iI (σ5.2.1 51 a))), (3, .int (iI (σ5.2.1 50 a))), (2, .int (iI 5)), (0, .ref a), (1, .int (iI dp))] [] _
        refine tn_aload_n dX5_expression_83 rfl 3 rfl ?_
        refine tn_iload_n dX5_expression_84 rfl 4 rfl ?_
        refine tn_callV (M := m_X5_expression) (pc := 85) (ix := 241) (ci := 5) (M' := m_X5_sum) (As := [.int (iI dp)]) (rest := []) dX5_expression_85 ok_X5_sum im_X5_sum se_X5_sum ml5_241 np_X5_sum rfl rfl ha rfl (Nat.le_of_ble_eq_true rfl) (Nat.le_of_ble_eq_true rfl) rfl (k_X5_sum_f (d) (T := T6) (σ := σ95) (a := a) (dp := dp) (kp := kp - 4 * v11 - 4) (lv := lv) (eo := eo + 1) ha (by omega) w103 hex (by omega) (by omega) fx105 (by omega) (by omega) rp108) (fun r109 T111 σ110 gt112 hp => ?_)
        obtain ⟨v116, rfl, w117, F118, f113, f114, f115⟩ := hp
        replace ha : OB T111 a 5 := gt112.ob ha
        have rp120 : RP σ110 a (kp - 4 * v11 - 4 * v116 - 4) := RP.up f115 (by omega)
        show Tn _ _ 88 T111 σ110 [(4, .int (iI (σ5.2.1 51 a))), (3, .int (iI (σ5.2.1 50 a))), (2, .int (iI 5)), (0, .ref a), (1, .int (iI dp))] [.int (iI v116)] _
        refine tn_if_ne (tgt := 93) dX5_expression_88 (by decide) ⟨by omega, by omega⟩ (fun h121 => ?_) (fun h121 => ?_)
        · refine tn_aload_n dX5_expression_93 rfl 3 rfl ?_
          refine tn_iload_n dX5_expression_94 rfl 2 rfl ?_
          refine tn_iload_n dX5_expression_95 rfl 1 rfl ?_
          refine tn_iload dX5_expression_96 0 rfl ?_
          obtain ⟨i122, es123, m124, lo125, rr126, fx127⟩ := f114.1 (by omega)
          have rd128 : EXR Sx (eo) [2] jx (eo + 1) [51, 7] i122 (0 + 0 + m23 + 0 + m124) (es22 ++ es123) := EXR.gg (l := [3]) (ms := []) [51, 7] rd107 rr126
          refine tn_callV (M := m_X5_expression) (pc := 98) (ix := 244) (ci := 5) (M' := m_X5_join) (As := [.int (iI 5), .int (iI (σ5.2.1 50 a)), .int (iI (σ5.2.1 51 a))]) (rest := []) dX5_expression_98 ok_X5_join im_X5_join se_X5_join ml5_244 np_X5_join rfl rfl ha rfl (Nat.le_of_ble_eq_true rfl) (Nat.le_of_ble_eq_true rfl) rfl (k_X5_join_f (d + 5 * lv + 10) (T := T111) (σ := σ110) (a := a) (k := 5) (e := σ5.2.1 50 a) (l := σ5.2.1 51 a) (kp := kp - 4 * v11 - 4 * v116 - 4) ha (by decide) (by omega) (by omega) w117 (by omega) fx127 (by omega) rp120) (fun r129 T131 σ130 gt132 hp => ?_)
          obtain ⟨rfl, w136, F137, f133, f134⟩ := hp
          replace ha : OB T131 a 5 := gt132.ob ha
          have rp139 : RP σ130 a (kp - 4 * v11 - 4 * v116 - 3) := RP.up f134 (by omega)
          show Tn _ _ 101 T131 σ130 [(4, .int (iI (σ5.2.1 51 a))), (3, .int (iI (σ5.2.1 50 a))), (2, .int (iI 5)), (0, .ref a), (1, .int (iI dp))] [] _
          refine tn_iconst dX5_expression_101 ?_
          have pc142 : EXR Sx (eo + 1) [51] i122 (eo + 1) [] i122 1 [] := fun _ _ => x51 hSb 
          have rd143 : EXR Sx (eo) [2] jx (eo + 1) [7] i122 (0 + 0 + m23 + 0 + m124 + 1) (es22 ++ es123) := EXR.g0 (l := [51]) (ms := []) [7] rd128 pc142
          have pc144 : EXR Sx (eo + 1) [7] i122 (eo) [] i122 0 [] := fun b9 u9 => by have q9 := x7 (S := Sx) (j := i122) (e := eo + 1) (b := b9) (u := u9) hSb; rw [show eo + 1 - 1 = eo by omega] at q9; exact q9
          have rd145 : EXR Sx (eo) [2] jx (eo) [] i122 (0 + 0 + m23 + 0 + m124 + 1 + 0) (es22 ++ es123) := EXR.g0 (l := [7]) (ms := []) [] rd143 pc144
          have ra140 : XS σ130 a Sx nx (eo) [2] jx cx Nx (eo) [] ((jx : Int) + 1) := ⟨i122, es22 ++ es123, 0 + 0 + m23 + 0 + m124 + 1 + 0, (by omega), rd145, RDX.nq (RDX.cq f133 (by simp only [List.foldl_append, List.foldl_cons, List.foldl_nil])) (by omega)⟩
          exact tn_zret (v := 1) rfl (by decide) dX5_expression_102 ⟨_, rfl, w136, ((((FrC.rfl.trans (FrC.sub F13 (by decide))).trans (FrC.sub (FrC.old F104 gt7) (by decide))).trans (FrC.sub (FrC.old F118 gt7) (by decide))).trans (FrC.sub (FrC.old F137 (GT.trans gt7 gt112)) (by decide))), by omega, ⟨fun _ => ra140, fun q => absurd q (by decide)⟩, (RP.up rp139 (by omega))⟩
        · refine tn_iconst dX5_expression_91 ?_
          obtain ⟨pl148, g149, fx150⟩ := f114.2 (by omega)
          have rf151 : EXF Sx (eo) [2] jx (pl148) := EXR.fl (l := [3]) [51, 7] rd107 g149
          have rb147 : XFc σ110 a Sx (eo) [2] jx := ⟨_, rf151, fx150⟩
          exact tn_zret (v := 0) rfl (by decide) dX5_expression_92 ⟨_, rfl, w117, (((FrC.rfl.trans (FrC.sub F13 (by decide))).trans (FrC.sub (FrC.old F104 gt7) (by decide))).trans (FrC.sub (FrC.old F118 gt7) (by decide))), by omega, ⟨fun q => absurd q (by decide), fun _ => rb147⟩, (RP.up rp120 (by omega))⟩
      · refine tn_iconst dX5_expression_45 ?_
        have pc154 : EXR Sx (eo + 1) [6] i21 (eo + 1) [7] i21 0 [] := fun _ _ => x6n hSb (by omega) (by omega)
        have rd155 : EXR Sx (eo) [2] jx (eo + 1) [7] i21 (0 + 0 + m23 + 0) (es22) := EXR.g0 (l := [6]) (ms := [7]) [] rd27 pc154
        have pc156 : EXR Sx (eo + 1) [7] i21 (eo) [] i21 0 [] := fun b9 u9 => by have q9 := x7 (S := Sx) (j := i21) (e := eo + 1) (b := b9) (u := u9) hSb; rw [show eo + 1 - 1 = eo by omega] at q9; exact q9
        have rd157 : EXR Sx (eo) [2] jx (eo) [] i21 (0 + 0 + m23 + 0 + 0) (es22) := EXR.g0 (l := [7]) (ms := []) [] rd155 pc156
        have ra152 : XS σ5 a Sx nx (eo) [2] jx cx Nx (eo) [] ((jx : Int) + 1) := ⟨i21, es22, 0 + 0 + m23 + 0 + 0, (by omega), rd157, RDX.nq (RDX.cq fx26 rfl) (by omega)⟩
        exact tn_zret (v := 1) rfl (by decide) dX5_expression_46 ⟨_, rfl, w12, (FrC.rfl.trans (FrC.sub F13 (by decide))), by omega, ⟨fun _ => ra152, fun q => absurd q (by decide)⟩, (RP.up f10 (by omega))⟩
  · refine tn_iconst dX5_expression_19 ?_
    obtain ⟨pl160, g161, fx162⟩ := f9.2 (by omega)
    have rf163 : EXF Sx (eo) [2] jx (pl160) := EXR.fl (l := [3]) [6] rd3 g161
    have rb159 : XFc σ5 a Sx (eo) [2] jx := ⟨_, rf163, fx162⟩
    exact tn_zret (v := 0) rfl (by decide) dX5_expression_20 ⟨_, rfl, w12, (FrC.rfl.trans (FrC.sub F13 (by decide))), by omega, ⟨fun q => absurd q (by decide), fun _ => rb159⟩, (RP.up f10 (by omega))⟩
end
section
theorem lvf_X5_expression : ∀ (lv : Nat), ∀ (d : Nat) {T : CT} {σ : MS} {a : Nat} {dp : Int} {kp : Int} {Sx : Int → Int} {nx jx : Nat} {cx : CS} {Nx : Int} {eo : Int} (ha : OB T a 5) (h_dp : -2147483648 ≤ dp ∧ dp ≤ 2147483647) (hw : WT T σ) (hdp : 1 ≤ dp ∧ dp ≤ 9) (hlv : 9 ≤ dp + (lv : Int)) (hfx : RDX σ a Sx nx jx cx Nx) (heo : eo = dp - 1) (hkp : kp ≤ 150) (hrp : RP σ a kp), Tn (d + 5 * lv + 10) m_X5_expression 0 T σ [(0, .ref a), (1, .int (iI dp))] [] (fun ro T2 σ2 => ∃ v : Int, ro = some (.int (iI v)) ∧ WT T2 σ2 ∧ FrC T [5, 6, 7, 43, 44, 47, 50, 51, 84, 85, 86, 87, 521] σ σ2 ∧ (v = 0 ∨ v = 1) ∧ (XQ σ2 a Sx nx (eo) [2] jx cx Nx v) ∧ (RP σ2 a (kp - 4 * v))) := by
  intro lv
  induction lv with
  | zero =>
    intro d T σ a dp kp Sx nx jx cx Nx eo ha h_dp hw hdp hlv hfx heo hkp hrp
    exact k_X5_expression_f0 d ha h_dp hw (by omega) hfx heo hkp hrp
  | succ lv ih =>
    intro d T σ a dp kp Sx nx jx cx Nx eo ha h_dp hw hdp hlv hfx heo hkp hrp
    have e : d + 5 * (lv + 1) + 10 = d + 5 * lv + 15 := by omega
    by_cases h9 : dp = 9
    · have e2 : d + 5 * (lv + 1) + 10 = (d + 5 * (lv + 1)) + 10 := rfl
      exact k_X5_expression_f0 (d + 5 * (lv + 1)) ha h_dp hw (by omega) hfx heo hkp hrp
    · rw [e]
      exact k_X5_expression_f1 d (lv := lv) ha h_dp hw ih (by omega) (by omega) hfx heo hkp hrp
theorem k_X5_expression_f : ∀ (d : Nat) {T : CT} {σ : MS} {a : Nat} {dp : Int} {kp : Int} {Sx : Int → Int} {nx jx : Nat} {cx : CS} {Nx : Int} {eo : Int} (ha : OB T a 5) (h_dp : -2147483648 ≤ dp ∧ dp ≤ 2147483647) (hw : WT T σ) (hdp : 1 ≤ dp ∧ dp ≤ 9) (hfx : RDX σ a Sx nx jx cx Nx) (heo : eo = dp - 1) (hkp : kp ≤ 150) (hrp : RP σ a kp), Tn (d + 50) m_X5_expression 0 T σ [(0, .ref a), (1, .int (iI dp))] [] (fun ro T2 σ2 => ∃ v : Int, ro = some (.int (iI v)) ∧ WT T2 σ2 ∧ FrC T [5, 6, 7, 43, 44, 47, 50, 51, 84, 85, 86, 87, 521] σ σ2 ∧ (v = 0 ∨ v = 1) ∧ (XQ σ2 a Sx nx (eo) [2] jx cx Nx v) ∧ (RP σ2 a (kp - 4 * v))) := by
  intro d T σ a dp kp Sx nx jx cx Nx eo ha h_dp hw hdp hfx heo hkp hrp
  have e : d + 50 = d + 5 * 8 + 10 := by omega
  rw [e]
  exact lvf_X5_expression 8 d ha h_dp hw (by omega) (by omega) hfx heo hkp hrp
end
section
set_option maxHeartbeats 4000000 in
set_option maxRecDepth 20000 in
theorem k_X9_nextIs_f (d : Nat) {T : CT} {σ : MS} {a : Nat} {s : Int} {Sx : Int → Int} {nx jx : Nat} (ha : OB T a 9) (h_s : -2147483648 ≤ s ∧ s ≤ 2147483647) (hw : WT T σ) (hq : TKT σ a Sx nx jx) (hne : σ.2.1 85 a ≠ 263 ∧ σ.2.1 85 a ≠ 264) : Tn (d + 2) m_X9_nextIs 0 T σ [(0, .ref a), (1, .int (iI s))] [] (fun ro T2 σ2 => ∃ v : Int, ro = some (.int (iI v)) ∧ T = T2 ∧ σ = σ2 ∧ (v = 0 ∨ v = 1) ∧ ((v = 1 → ckd (tkS Sx (jx + 1)) = s) ∧ (v = 0 → ckd (tkS Sx (jx + 1)) ≠ s))) := by
  have hj9 : jx ≠ nx := fun e => by
    have w9 := hq.2.2.2.2
    rw [← e] at w9
    have z9 := hq.2.1.1
    omega
  have hj8 := hq.1
  refine tn_aload_n dX9_nextIs_0 rfl 0 rfl ?_
  refine tn_getI (ci := 9) (i := 4) (n := 85) (t := σ.2.1 85 a) dX9_nextIs_1 rfl lay_9 (by decide) fl9_30 ha rfl rfl (rfl) ?_
  have g1 : ((-2147483648 : Int) ≤ σ.2.1 85 a ∧ σ.2.1 85 a ≤ 2147483647) := wf_85 hw ha
  refine tn_sipush dX9_nextIs_4 (by decide) ?_
  refine tn_icmp_eq (tgt := 41) dX9_nextIs_7 (by decide) ⟨by omega, by omega⟩ ⟨by decide, by decide⟩ (fun h2 => ?_) (fun h2 => ?_)
  · refine tn_iconst dX9_nextIs_41 ?_
    exact tn_zret (v := 0) rfl (by decide) dX9_nextIs_42 ⟨_, rfl, rfl, rfl, by omega, False.elim (by omega)⟩
  · refine tn_aload_n dX9_nextIs_10 rfl 0 rfl ?_
    refine tn_getI (ci := 9) (i := 4) (n := 85) (t := σ.2.1 85 a) dX9_nextIs_11 rfl lay_9 (by decide) fl9_30 ha rfl rfl (rfl) ?_
    refine tn_sipush dX9_nextIs_14 (by decide) ?_
    refine tn_icmp_eq (tgt := 41) dX9_nextIs_17 (by decide) ⟨by omega, by omega⟩ ⟨by decide, by decide⟩ (fun h3 => ?_) (fun h3 => ?_)
    · refine tn_iconst dX9_nextIs_41 ?_
      exact tn_zret (v := 0) rfl (by decide) dX9_nextIs_42 ⟨_, rfl, rfl, rfl, by omega, False.elim (by omega)⟩
    · refine tn_aload_n dX9_nextIs_20 rfl 0 rfl ?_
      obtain ⟨x4, hx5, hk6, hl7⟩ : ∃ x : Nat, σ.2.1 81 a = (x : Int) ∧ AR T x 12 1201 1201 := wf_81 hw ha
      have hk6i : IA T x4 := by unfold IA; omega
      refine tn_getR (ci := 9) (i := 0) (n := 81) (x := x4) dX9_nextIs_21 rfl lay_9 (by decide) fl9_9 ha rfl rfl (hx5) ?_
      refine tn_aload_n dX9_nextIs_24 rfl 0 rfl ?_
      refine tn_getI (ci := 9) (i := 3) (n := 84) (t := σ.2.1 84 a) dX9_nextIs_25 rfl lay_9 (by decide) fl9_45 ha rfl rfl (rfl) ?_
      have g8 : ((-1 : Int) ≤ σ.2.1 84 a ∧ σ.2.1 84 a ≤ 1200) := wf_84 hw ha
      refine tn_iconst dX9_nextIs_28 ?_
      refine tn_iadd dX9_nextIs_29 ?_
      refine tn_callSN (M := m_X9_nextIs) (pc := 30) (ix := 73) (M' := m_X11_at) (As := [.ref x4, .int (iI ((σ.2.1 84 a) + 1))]) (rest := []) dX9_nextIs_30 ok_X11_at stt_X11_at nl9_73 np_X11_at rfl (Nat.le_of_ble_eq_true rfl) (Nat.le_of_ble_eq_true rfl) rfl (k_X11_at (d) (T := T) (σ := σ) (x := x4) (i := (σ.2.1 84 a) + 1) hk6i (by omega) (by omega) hw ) (fun r9 T11 σ10 gt12 hp => ?_)
      obtain ⟨v16, rfl, rfl, rfl, f13, f14, f15⟩ := hp
      clear gt12
      show Tn _ _ 33 T σ [(0, .ref a), (1, .int (iI s))] [.int (iI v16)] _
      refine tn_iload_n dX9_nextIs_33 rfl 1 rfl ?_
      refine tn_icmp_ne (tgt := 41) dX9_nextIs_34 (by decide) ⟨by omega, by omega⟩ ⟨by omega, by omega⟩ (fun h17 => ?_) (fun h17 => ?_)
      · refine tn_iconst dX9_nextIs_41 ?_
        obtain ⟨x18, hx19, hk20, hl21⟩ : ∃ x : Nat, σ.2.1 82 a = (x : Int) ∧ AR T x 22 1201 1201 := wf_82 hw ha
        have hk20i : IA T x18 := by unfold IA; omega
        obtain ⟨x22, hx23, hk24, hl25⟩ : ∃ x : Nat, σ.2.1 83 a = (x : Int) ∧ AR T x 23 1201 1201 := wf_83 hw ha
        have hk24i : IA T x22 := by unfold IA; omega
        have w26j : jx + 1 ≤ nx := by omega
        have w26 := (hq.2.2.1 x4 x18 x22 hx5 hx19 hx23 (jx + 1) w26j).1
        have w26i : σ.2.1 84 a + 1 = ((jx + 1 : Nat) : Int) := by omega
        have w26v := f15; unfold ATV at w26v; rw [if_pos ⟨by omega, by omega⟩, w26i, w26] at w26v
        exact tn_zret (v := 0) rfl (by decide) dX9_nextIs_42 ⟨_, rfl, rfl, rfl, by omega, ⟨fun q => absurd q (by decide), fun _ => by omega⟩⟩
      · refine tn_iconst dX9_nextIs_37 ?_
        refine tn_goto (tgt := 42) dX9_nextIs_38 (by decide) ?_
        obtain ⟨x27, hx28, hk29, hl30⟩ : ∃ x : Nat, σ.2.1 82 a = (x : Int) ∧ AR T x 22 1201 1201 := wf_82 hw ha
        have hk29i : IA T x27 := by unfold IA; omega
        obtain ⟨x31, hx32, hk33, hl34⟩ : ∃ x : Nat, σ.2.1 83 a = (x : Int) ∧ AR T x 23 1201 1201 := wf_83 hw ha
        have hk33i : IA T x31 := by unfold IA; omega
        have w35j : jx + 1 ≤ nx := by omega
        have w35 := (hq.2.2.1 x4 x27 x31 hx5 hx28 hx32 (jx + 1) w35j).1
        have w35i : σ.2.1 84 a + 1 = ((jx + 1 : Nat) : Int) := by omega
        have w35v := f15; unfold ATV at w35v; rw [if_pos ⟨by omega, by omega⟩, w35i, w35] at w35v
        exact tn_zret (v := 1) rfl (by decide) dX9_nextIs_42 ⟨_, rfl, rfl, rfl, by omega, ⟨fun _ => by omega, fun q => absurd q (by decide)⟩⟩
end
section
set_option maxHeartbeats 4000000 in
set_option maxRecDepth 20000 in
theorem k_X5_setting_f (d : Nat) {T : CT} {σ : MS} {a : Nat} {r : Int} {kp : Int} {Sx : Int → Int} {nx jx : Nat} {cx : CS} {Nx : Int} {bx : Int} (ha : OB T a 5) (h_r : -2147483648 ≤ r ∧ r ≤ 2147483647) (hw : WT T σ) (hfx : RDX σ a Sx nx jx cx Nx) (hns : ¬ (ckd (tkS Sx jx) = 256 ∧ ckd (tkS Sx (jx + 1)) = 40)) (hkp : kp ≤ 150) (hrp : RP σ a kp) : Tn (d + 51) m_X5_setting 0 T σ [(0, .ref a), (1, .int (iI r))] [] (fun ro T2 σ2 => ∃ v : Int, ro = some (.int (iI v)) ∧ WT T2 σ2 ∧ FrC T [5, 6, 7, 43, 44, 47, 50, 51, 84, 85, 86, 87, 521] σ σ2 ∧ (v = 0 ∨ v = 1) ∧ (YQ σ2 a Sx nx bx [25] jx cx (Nx - 1) 2 v) ∧ (RP σ2 a (kp - 7 * v))) := by
  have hSb := hfx.1.sb
  have e45 := hfx.e45
  have hpo9 := hfx.po
  unfold PO at hpo9
  refine tn_aload_n dX5_setting_0 rfl 0 rfl ?_
  refine tn_iconst dX5_setting_1 ?_
  have pc1 : GR Sx [25] jx (0) (bx) u0 [2, 52, 159] jx (0) (bx) u0 0 [] := x25s hSb hns
  have rd20 : GR Sx [25] jx 0 (bx) u0 [25] jx (0) (bx) u0 (0) ([]) := GR.nl
  have rd2 : GR Sx [25] jx 0 (bx) u0 [2, 52, 159] jx (0) (bx) u0 (0 + 0) ([]) := GR.g0 (l := [25]) (ms := [2, 52, 159]) [] rd20 pc1
  refine tn_callV (M := m_X5_setting) (pc := 2) (ix := 213) (ci := 5) (M' := m_X5_expression) (As := [.int (iI 1)]) (rest := []) dX5_setting_2 ok_X5_expression im_X5_expression se_X5_expression ml5_213 np_X5_expression rfl rfl ha rfl (Nat.le_of_ble_eq_true rfl) (Nat.le_of_ble_eq_true rfl) rfl (k_X5_expression_f (d) (T := T) (σ := σ) (a := a) (dp := 1) (kp := kp) (eo := 0) ha (by decide) hw (by omega) hfx (by omega) (by omega) hrp) (fun r3 T5 σ4 gt6 hp => ?_)
  obtain ⟨v10, rfl, w11, F12, f7, f8, f9⟩ := hp
  replace ha : OB T5 a 5 := gt6.ob ha
  show Tn _ _ 5 T5 σ4 [(0, .ref a), (1, .int (iI r))] [.int (iI v10)] _
  refine tn_if_eq (tgt := 17) dX5_setting_5 (by decide) ⟨by omega, by omega⟩ (fun h14 => ?_) (fun h14 => ?_)
  · refine tn_iconst dX5_setting_17 ?_
    obtain ⟨pl17, g18, fx19⟩ := f8.2 (by omega)
    have g18g := g18 (bx) u0
    have rf20 : GRF Sx [25] jx 0 (bx) u0 (pl17) := GR.fl (l := [2]) [52, 159] rd2 g18g
    have rb16 : YF σ4 a Sx bx [25] jx := ⟨_, rf20, fx19⟩
    exact tn_zret (v := 0) rfl (by decide) dX5_setting_18 ⟨_, rfl, w11, (FrC.rfl.trans (FrC.sub F12 (by decide))), by omega, ⟨fun q => absurd q (by decide), fun _ => rb16⟩, (RP.up f9 (by omega))⟩
  · refine tn_aload_n dX5_setting_8 rfl 0 rfl ?_
    refine tn_bipush dX5_setting_9 (by decide) ?_
    obtain ⟨i21, es22, m23, lo24, rr25, fx26⟩ := f8.1 (by omega)
    have rr25g := rr25 (bx) u0
    have rd27a : GR Sx [25] jx 0 (bx) u0 [52, 159] i21 (0) (bx) u0 (0 + 0 + m23) ([] ++ es22) := GR.gg (l := [2]) (ms := []) [52, 159] rd2 rr25g
    have rd27 : GR Sx [25] jx 0 (bx) u0 [52, 159] i21 (0) (bx) u0 (0 + 0 + m23) (es22) := rd27a
    refine tn_callV (M := m_X5_setting) (pc := 11) (ix := 102) (ci := 5) (M' := m_X5_taken) (As := [.int (iI 59)]) (rest := []) dX5_setting_11 ok_X5_taken im_X5_taken se_X5_taken ml5_102 np_X5_taken rfl rfl ha rfl (Nat.le_of_ble_eq_true rfl) (Nat.le_of_ble_eq_true rfl) rfl (k_X5_taken_f (d + 48) (T := T5) (σ := σ4) (a := a) (s := 59) (kp := kp - 4 * v10) ha (by decide) w11 (by omega) fx26 (by omega) f9) (fun r28 T30 σ29 gt31 hp => ?_)
    obtain ⟨v35, rfl, rfl, w36, F37, f32, f33, f34⟩ := hp
    clear gt31
    have pc38 : GR Sx [52] i21 (0) (bx) u0 [] i21 (0) (bx) u0 2 [] := x52 hSb 
    have rd39 : GR Sx [25] jx 0 (bx) u0 [159] i21 (0) (bx) u0 (0 + 0 + m23 + 2) (es22) := GR.g0 (l := [52]) (ms := []) [159] rd27 pc38
    show Tn _ _ 14 T5 σ29 [(0, .ref a), (1, .int (iI r))] [.int (iI v35)] _
    refine tn_if_ne (tgt := 19) dX5_setting_14 (by decide) ⟨by omega, by omega⟩ (fun h41 => ?_) (fun h41 => ?_)
    · refine tn_aload_n dX5_setting_19 rfl 0 rfl ?_
      obtain ⟨x42, hx43, hk44⟩ : ∃ x : Nat, σ4.2.1 35 a = (x : Int) ∧ (T5 x).1 = 31 := wf_35 w11 ha
      have hk44o : OB T5 x42 1 := ⟨by omega, by rw [hk44]; rfl, by omega⟩
      refine tn_getR (ci := 5) (i := 2) (n := 35) (x := x42) dX5_setting_20 rfl lay_5 (by decide) fl5_47 ha rfl rfl (rc_F F37 (Or.inl (by decide)) (by decide) (hx43)) ?_
      refine tn_iconst dX5_setting_23 ?_
      refine tn_iload_n dX5_setting_24 rfl 1 rfl ?_
      refine tn_iconst dX5_setting_25 ?_
      have q50 : σ29.2.1 6 x42 = σ4.2.1 6 x42 := rc_F F37 (Or.inl (by decide)) (by decide) (rfl)
      refine tn_callV (M := m_X5_setting) (pc := 26) (ix := 139) (ci := 1) (M' := m_X1_append) (As := [.int (iI 0), .int (iI r), .int (iI 0)]) (rest := []) dX5_setting_26 ok_X1_append im_X1_append se_X1_append ml5_139 np_X1_append rfl rfl hk44o rfl (Nat.le_of_ble_eq_true rfl) (Nat.le_of_ble_eq_true rfl) rfl (k_X1_append (d + 47) (T := T5) (σ := σ29) (a := x42) (k := 0) (x := r) (y := 0) hk44o hk44 (by decide) (by omega) (by decide) w36 (RP.cnt f34 w36 ha (rc_F F37 (Or.inl (by decide)) (by decide) (hx43)) (by omega)) (by omega)) (fun r46 T48 σ47 gt49 hp => ?_)
      obtain ⟨rfl, w53, F54, f51⟩ := hp
      obtain ⟨kd56, fx55⟩ := f33.1 (by omega)
      have pc57 : GR Sx [159] i21 (0) (bx) u0 [] (i21 + 1) (0) (bx) u0 0 [] := y59 hSb kd56
      have rd58 : GR Sx [25] jx 0 (bx) u0 [] (i21 + 1) (0) (bx) u0 (0 + 0 + m23 + 2 + 0) (es22) := GR.g0 (l := [159]) (ms := []) [] rd39 pc57
      have fx59 : RDX σ47 a Sx nx (i21 + 1) (es22.foldl uC (cx)) (Nx + m23 + 1) := RDX.ap fx55 w36 ha (rc_F F37 (Or.inl (by decide)) (by decide) (hx43)) F54 f51
      replace ha : OB T48 a 5 := gt49.ob ha
      have rp60 : RP σ47 a (kp - 4 * v10 - 4 * v35 + 1) := RP.app f34 (rc_F F37 (Or.inl (by decide)) (by decide) (hx43)) F54 (by decide) (by decide) (by decide) (by decide) f51
      show Tn _ _ 29 T48 σ47 [(0, .ref a), (1, .int (iI r))] [] _
      refine tn_aload_n dX5_setting_29 rfl 0 rfl ?_
      obtain ⟨x61, hx62, hk63⟩ : ∃ x : Nat, σ47.2.1 35 a = (x : Int) ∧ (T48 x).1 = 31 := wf_35 w53 ha
      have hk63o : OB T48 x61 1 := ⟨by omega, by rw [hk63]; rfl, by omega⟩
      refine tn_getR (ci := 5) (i := 2) (n := 35) (x := x61) dX5_setting_30 rfl lay_5 (by decide) fl5_47 ha rfl rfl (hx62) ?_
      refine tn_iconst dX5_setting_33 ?_
      refine tn_aload_n dX5_setting_34 rfl 0 rfl ?_
      refine tn_getI (ci := 5) (i := 17) (n := 50) (t := σ47.2.1 50 a) dX5_setting_35 rfl lay_5 (by decide) fl5_216 ha rfl rfl (rfl) ?_
      have g65 : ((-2147483648 : Int) ≤ σ47.2.1 50 a ∧ σ47.2.1 50 a ≤ 2147483647) := wf_50 w53 ha
      refine tn_aload_n dX5_setting_38 rfl 0 rfl ?_
      refine tn_getI (ci := 5) (i := 18) (n := 51) (t := σ47.2.1 51 a) dX5_setting_39 rfl lay_5 (by decide) fl5_219 ha rfl rfl (rfl) ?_
      have g66 : ((-2147483648 : Int) ≤ σ47.2.1 51 a ∧ σ47.2.1 51 a ≤ 2147483647) := wf_51 w53 ha
      refine tn_callV (M := m_X5_setting) (pc := 42) (ix := 143) (ci := 1) (M' := m_X1_lastOperand) (As := [.int (iI 0), .int (iI (σ47.2.1 50 a)), .int (iI (σ47.2.1 51 a))]) (rest := []) dX5_setting_42 ok_X1_lastOperand im_X1_lastOperand se_X1_lastOperand ml5_143 np_X1_lastOperand rfl rfl hk63o rfl (Nat.le_of_ble_eq_true rfl) (Nat.le_of_ble_eq_true rfl) rfl (k_X1_lastOperand (d + 49) (T := T48) (σ := σ47) (a := x61) (i := 0) (k := σ47.2.1 50 a) (y := σ47.2.1 51 a) hk63o (by decide) (by omega) (by omega) w53 ) (fun r67 T69 σ68 gt70 hp => ?_)
      obtain ⟨rfl, rfl, w72, F73⟩ := hp
      clear gt70
      have fx74 : RDX σ68 a Sx nx (i21 + 1) (es22.foldl uC (cx)) (Nx + m23 + 1) := RDX.fc fx59 w53 ha F73 (by decide) (by decide)
      have rp75 : RP σ68 a (kp - 4 * v10 - 4 * v35 + 1) := RP.frc rp60 F73 (by decide) (by decide) (by decide) (by decide) (by decide)
      show Tn _ _ 45 T48 σ68 [(0, .ref a), (1, .int (iI r))] [] _
      refine tn_iconst dX5_setting_45 ?_
      have fe78 := RDX.nq (M := (Nx - 1) + (0 + 0 + m23 + 2 + 0)) (RDX.cq (c2 := (es22).foldl uC cx) fx74 rfl) (by omega)
      have fe78m : ((es22).foldl uC cx).m = σ.2.1 45 a := (fe78.e45).symm.trans (rc_F F73 (Or.inl (by decide)) (by decide) (rc_F F54 (Or.inl (by decide)) (by decide) (rc_F F37 (Or.inl (by decide)) (by decide) (rc_F F12 (Or.inl (by decide)) (by decide) (rfl)))))
      have ra76 : YS σ68 a Sx nx bx [25] jx cx (Nx - 1) bx [] ((jx : Int) + 2) := ⟨(i21 + 1), es22, 0 + 0 + m23 + 2 + 0, (by omega), rd58, fe78, by rw [fe78m]; omega⟩
      exact tn_zret (v := 1) rfl (by decide) dX5_setting_46 ⟨_, rfl, w72, ((((FrC.rfl.trans (FrC.sub F12 (by decide))).trans (FrC.sub (FrC.old F37 gt6) (by decide))).trans (FrC.sub (FrC.old F54 gt6) (by decide))).trans (FrC.sub (FrC.old F73 (GT.trans gt6 gt49)) (by decide))), by omega, ⟨fun _ => ra76, fun q => absurd q (by decide)⟩, (RP.up rp75 (by omega))⟩
    · refine tn_iconst dX5_setting_17 ?_
      obtain ⟨kd81, fx82, tk83⟩ := f33.2 (by omega)
      have pc84 : GRF Sx [159] i21 (0) (bx) u0 (tkS Sx i21).1 := z59 hSb kd81
      have rf85 : GRF Sx [25] jx 0 (bx) u0 ((tkS Sx i21).1) := GR.fl (l := [159]) [] rd39 pc84
      have rb80 : YF σ29 a Sx bx [25] jx := ⟨_, rf85, fx82⟩
      exact tn_zret (v := 0) rfl (by decide) dX5_setting_18 ⟨_, rfl, w36, ((FrC.rfl.trans (FrC.sub F12 (by decide))).trans (FrC.sub (FrC.old F37 gt6) (by decide))), by omega, ⟨fun q => absurd q (by decide), fun _ => rb80⟩, (RP.up f34 (by omega))⟩
end
