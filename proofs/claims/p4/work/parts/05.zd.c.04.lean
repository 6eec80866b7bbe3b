set_option maxHeartbeats 4000000 in
set_option maxRecDepth 20000 in
theorem k_X5_openRoutine_f (d : Nat) {T : CT} {σ : MS} {a : Nat} {k : Int} {Sx : Int → Int} {nx jx : Nat} {cx : CS} {wx : Int64} (ha : OB T a 5) (h_k : -2147483648 ≤ k ∧ k ≤ 2147483647) (hw : WT T σ) (hrt : RT σ a) (hf0 : RD0 σ a Sx nx jx cx) (hkw : KW k wx) (hpo : 5 * cx.rn ≤ (jx : Int)) : Tn (d + 3) m_X5_openRoutine 0 T σ [(0, .ref a), (1, .int (iI k))] [] (fun ro T2 σ2 => ro = none ∧ T = T2 ∧ WT T2 σ2 ∧ FrC T [6, 7, 8, 9, 10, 35, 38, 43, 44, 46, 47, 516, 517] σ σ2 ∧ (RP σ2 a 4) ∧ (RDX σ2 a Sx nx jx (uC cx (2, (tkS Sx jx).1, 0, wx)) 0)) := by
  have hSb := hf0.sb
  have e38 : σ.2.1 38 a = cx.rn := hf0.2.1.1.2.2.1
  have hjn := RD0.jn hf0 hw ha
  refine tn_aload_n dX5_openRoutine_0 rfl 0 rfl ?_
  refine tn_iload_n dX5_openRoutine_1 rfl 1 rfl ?_
  refine tn_callV (M := m_X5_openRoutine) (pc := 2) (ix := 109) (ci := 5) (M' := m_X5_routineOf) (As := [.int (iI k)]) (rest := []) dX5_openRoutine_2 ok_X5_routineOf im_X5_routineOf se_X5_routineOf ml5_109 np_X5_routineOf rfl rfl ha rfl (Nat.le_of_ble_eq_true rfl) (Nat.le_of_ble_eq_true rfl) rfl (k_X5_routineOf_f (d) (T := T) (σ := σ) (a := a) (k := k) ha (by omega) hw ) (fun r1 T3 σ2 gt4 hp => ?_)
  obtain ⟨v7, rfl, rfl, rfl, f5, f6⟩ := hp
  clear gt4
  show Tn _ _ 5 T σ [(0, .ref a), (1, .int (iI k))] [.int (iI v7)] _
  refine tn_iconst dX5_openRoutine_5 ?_
  refine tn_icmp_eq (tgt := 21) dX5_openRoutine_6 (by decide) ⟨by omega, by omega⟩ ⟨by decide, by decide⟩ (fun h8 => ?_) (fun h8 => ?_)
  · refine tn_aload_n dX5_openRoutine_21 rfl 0 rfl ?_
    refine tn_getI (ci := 5) (i := 5) (n := 38) (t := σ.2.1 38 a) dX5_openRoutine_22 rfl lay_5 (by decide) fl5_58 ha rfl rfl (rfl) ?_
    have g9 : ((0 : Int) ≤ σ.2.1 38 a ∧ σ.2.1 38 a ≤ 256) := wf_38 hw ha
    refine tn_bipush dX5_openRoutine_25 (by decide) ?_
    refine tn_icmp_lt (tgt := 42) dX5_openRoutine_27 (by decide) ⟨by omega, by omega⟩ ⟨by decide, by decide⟩ (fun h10 => ?_) (fun h10 => ?_)
    · obtain ⟨x11, hx12, hk13, hl14⟩ : ∃ x : Nat, σ.2.1 36 a = (x : Int) ∧ AR T x 16 256 256 := wf_36 hw ha
      have hk13i : IA T x11 := by unfold IA; omega
      have e3815 : σ.2.1 38 a = (cx).rn := (rfl).symm.trans (hf0).2.1.1.2.2.1
      have e3815c : (cx).rn = cx.rn := rfl
      refine tn_iconst dX5_openRoutine_42 ?_
      refine tn_aload_n dX5_openRoutine_43 rfl 0 rfl ?_
      refine tn_getI (ci := 5) (i := 5) (n := 38) (t := σ.2.1 38 a) dX5_openRoutine_44 rfl lay_5 (by decide) fl5_58 ha rfl rfl (rfl) ?_
      refine tn_aload_n dX5_openRoutine_47 rfl 0 rfl ?_
      obtain ⟨x16, hx17, hk18, hl19⟩ : ∃ x : Nat, σ.2.1 34 a = (x : Int) ∧ AR T x 4 7 7 := wf_34 hw ha
      have hk18i : (T x16).1 = 4 ∨ (T x16).1 = 5 := by omega
      refine tn_getR (ci := 5) (i := 1) (n := 34) (x := x16) dX5_openRoutine_48 rfl lay_5 (by decide) fl5_20 ha rfl rfl (hx17) ?_
      refine tn_alenX dX5_openRoutine_51 (by have q9 := hk18i; omega) ?_
      refine tn_iconst dX5_openRoutine_52 ?_
      refine tn_isub dX5_openRoutine_53 ?_
      refine tn_mmin (x := σ.2.1 38 a) (y := (((T x16).2 : Int)) - 1) dX5_openRoutine_54 mlm5_117 stM_min iniM cdM_min (by omega) (Nat.le_of_ble_eq_true rfl) ⟨by omega, by omega⟩ ⟨by omega, by omega⟩ (fun z20 g21 => ?_)
      refine tn_mmax (x := 0) (y := z20) dX5_openRoutine_57 mlm5_123 stM_max iniM cdM_max (by omega) (Nat.le_of_ble_eq_true rfl) ⟨by omega, by omega⟩ ⟨by omega, by omega⟩ (fun z22 g23 => ?_)
      refine tn_istore_n (L' := [(2, .int (iI z22)), (0, .ref a), (1, .int (iI k))]) dX5_openRoutine_60 rfl (by decide) rfl ?_
      refine tn_aload_n dX5_openRoutine_61 rfl 1 rfl ?_
      refine tn_aload_n dX5_openRoutine_62 rfl 1 rfl ?_
      refine tn_getR (ci := 5) (i := 1) (n := 34) (x := x16) dX5_openRoutine_63 rfl lay_5 (by decide) fl5_20 ha rfl rfl (hx17) ?_
      refine tn_iload_n dX5_openRoutine_66 rfl 0 rfl ?_
      obtain ⟨x24, hx25, hk26⟩ := (hw).2.2.2.1.1 x16 hk18 (z22) (by omega) (by omega)
      refine tn_aald (z := z22) (x := x24) dX5_openRoutine_67 hk18i (by omega) (by omega) (by omega) hx25 ?_
      have hk26o : OB T x24 1 := ⟨by omega, by rw [hk26]; rfl, by omega⟩
      refine tn_putV (ci := 5) (i := 2) (n := 35) (r := true) (v := (x24 : Int)) tyX5 tyX5_ok nmX5 dX5_openRoutine_68 rfl lay_5 (by decide) fl5_47 rfl (tyX5_ok 2 (by decide)) (vl_ref rfl).symm rfl rfl ha rfl rfl ?_
      refine tn_aload_n dX5_openRoutine_71 rfl 1 rfl ?_
      refine tn_getR (ci := 5) (i := 2) (n := 35) (x := x24) dX5_openRoutine_72 rfl lay_5 (by decide) fl5_47 ha rfl rfl (ra_eq) ?_
      refine tn_iload_n dX5_openRoutine_75 rfl 0 rfl ?_
      refine tn_callV (M := m_X5_openRoutine) (pc := 76) (ix := 126) (ci := 1) (M' := m_X1_empty) (As := [.int (iI z22)]) (rest := []) dX5_openRoutine_76 ok_X1_empty im_X1_empty se_X1_empty ml5_126 np_X1_empty rfl rfl hk26o rfl (Nat.le_of_ble_eq_true rfl) (Nat.le_of_ble_eq_true rfl) rfl (k_X1_empty_f (d) (T := T) (σ := (sA 35 a ((x24 : Int)) σ)) (a := x24) (r := z22) hk26o (by omega) (hw.put (by decide) (by decide) (fo_35 ⟨_, rfl, hk26⟩)) ) (fun r27 T29 σ28 gt30 hp => ?_)
      obtain ⟨rfl, rfl, w34, F35, f31, f32⟩ := hp
      clear gt30
      have fx36 : RD0 σ28 a Sx nx jx (cx) := RD0.fc (hf0.pt (by decide) (by decide)) (hw.put (by decide) (by decide) (fo_35 ⟨_, rfl, hk26⟩)) ha F35 (by decide) (by decide)
      show Tn _ _ 79 T σ28 [(2, .int (iI z22)), (0, .ref a), (1, .int (iI k))] [] _
      refine tn_aload_n dX5_openRoutine_79 rfl 1 rfl ?_
      refine tn_getR (ci := 5) (i := 3) (n := 36) (x := x11) dX5_openRoutine_80 rfl lay_5 (by decide) fl5_24 ha rfl rfl (rc_F F35 (Or.inl (by decide)) (by decide) (rc_o (by decide) (hx12))) ?_
      refine tn_aload_n dX5_openRoutine_83 rfl 1 rfl ?_
      refine tn_getI (ci := 5) (i := 5) (n := 38) (t := σ.2.1 38 a) dX5_openRoutine_84 rfl lay_5 (by decide) fl5_58 ha rfl rfl (rc_F F35 (Or.inl (by decide)) (by decide) (rc_o (by decide) (rfl))) ?_
      refine tn_iload_n dX5_openRoutine_87 rfl 2 rfl ?_
      refine tn_callSN (M := m_X5_openRoutine) (pc := 88) (ix := 129) (M' := m_X11_put) (As := [.ref x11, .int (iI (σ.2.1 38 a)), .int (iI k)]) (rest := []) dX5_openRoutine_88 ok_X11_put stt_X11_put nl5_129 np_X11_put rfl (Nat.le_of_ble_eq_true rfl) (Nat.le_of_ble_eq_true rfl) rfl (k_X11_put_16 (d + 1) (T := T) (σ := σ28) (x := x11) (i := σ.2.1 38 a) (y := k) hk13i (by omega) hk13 (by omega) (by omega) w34 ) (fun r37 T39 σ38 gt40 hp => ?_)
      obtain ⟨rfl, rfl, w43, F44, f41⟩ := hp
      clear gt40
      show Tn _ _ 91 T σ38 [(2, .int (iI z22)), (0, .ref a), (1, .int (iI k))] [] _
      refine tn_aload_n dX5_openRoutine_91 rfl 1 rfl ?_
      obtain ⟨x45, hx46, hk47, hl48⟩ : ∃ x : Nat, σ.2.1 37 a = (x : Int) ∧ AR T x 17 256 256 := wf_37 hw ha
      have hk47i : IA T x45 := by unfold IA; omega
      refine tn_getR (ci := 5) (i := 4) (n := 37) (x := x45) dX5_openRoutine_92 rfl lay_5 (by decide) fl5_28 ha rfl rfl (rc_F F44 (Or.inl (by decide)) (by decide) (rc_F F35 (Or.inl (by decide)) (by decide) (rc_o (by decide) (hx46)))) ?_
      refine tn_aload_n dX5_openRoutine_95 rfl 1 rfl ?_
      refine tn_getI (ci := 5) (i := 5) (n := 38) (t := σ.2.1 38 a) dX5_openRoutine_96 rfl lay_5 (by decide) fl5_58 ha rfl rfl (rc_F F44 (Or.inl (by decide)) (by decide) (rc_F F35 (Or.inl (by decide)) (by decide) (rc_o (by decide) (rfl)))) ?_
      refine tn_iconst dX5_openRoutine_99 ?_
      refine tn_callSN (M := m_X5_openRoutine) (pc := 100) (ix := 129) (M' := m_X11_put) (As := [.ref x45, .int (iI (σ.2.1 38 a)), .int (iI 0)]) (rest := []) dX5_openRoutine_100 ok_X11_put stt_X11_put nl5_129 np_X11_put rfl (Nat.le_of_ble_eq_true rfl) (Nat.le_of_ble_eq_true rfl) rfl (k_X11_put_17 (d + 1) (T := T) (σ := σ38) (x := x45) (i := σ.2.1 38 a) (y := 0) hk47i (by omega) hk47 (by omega) (by decide) w43 ) (fun r49 T51 σ50 gt52 hp => ?_)
      obtain ⟨rfl, rfl, w55, F56, f53⟩ := hp
      clear gt52
      show Tn _ _ 103 T σ50 [(2, .int (iI z22)), (0, .ref a), (1, .int (iI k))] [] _
      refine tn_aload_n dX5_openRoutine_103 rfl 1 rfl ?_
      refine tn_aload_n dX5_openRoutine_104 rfl 1 rfl ?_
      refine tn_getI (ci := 5) (i := 5) (n := 38) (t := σ.2.1 38 a) dX5_openRoutine_105 rfl lay_5 (by decide) fl5_58 ha rfl rfl (rc_F F56 (Or.inl (by decide)) (by decide) (rc_F F44 (Or.inl (by decide)) (by decide) (rc_F F35 (Or.inl (by decide)) (by decide) (rc_o (by decide) (rfl))))) ?_
      refine tn_iconst dX5_openRoutine_108 ?_
      refine tn_iadd dX5_openRoutine_109 ?_
      refine tn_sipush dX5_openRoutine_110 (by decide) ?_
      refine tn_mmin (x := (σ.2.1 38 a) + 1) (y := 256) dX5_openRoutine_113 mlm5_117 stM_min iniM cdM_min (by omega) (Nat.le_of_ble_eq_true rfl) ⟨by omega, by omega⟩ ⟨by omega, by omega⟩ (fun z57 g58 => ?_)
      refine tn_putV (ci := 5) (i := 5) (n := 38) (r := false) (v := z57) tyX5 tyX5_ok nmX5 dX5_openRoutine_116 rfl lay_5 (by decide) fl5_58 rfl (tyX5_ok 5 (by decide)) rfl rfl rfl ha rfl rfl ?_
      refine tn_aload_n dX5_openRoutine_119 rfl 1 rfl ?_
      refine tn_iconst dX5_openRoutine_120 ?_
      refine tn_putV (ci := 5) (i := 13) (n := 46) (r := false) (v := 0) tyX5 tyX5_ok nmX5 dX5_openRoutine_121 rfl lay_5 (by decide) fl5_133 rfl (tyX5_ok 13 (by decide)) rfl rfl rfl ha rfl rfl ?_
      refine tn_aload_n dX5_openRoutine_124 rfl 1 rfl ?_
      refine tn_iconst dX5_openRoutine_125 ?_
      refine tn_putV (ci := 5) (i := 14) (n := 47) (r := false) (v := 0) tyX5 tyX5_ok nmX5 dX5_openRoutine_126 rfl lay_5 (by decide) fl5_136 rfl (tyX5_ok 14 (by decide)) rfl rfl rfl ha rfl rfl ?_
      have w59n : x11 ≠ x45 := fun e => by have q9 := hk13; rw [e] at q9; have w9 := hk47; omega
      have q60 : (sA 47 a (0) (sA 46 a (0) (sA 38 a (z57) σ50))).2.1 38 a = z57 := rc_o (by decide) (rc_o (by decide) (ra_eq))
      have q61 : (sA 47 a (0) (sA 46 a (0) (sA 38 a (z57) σ50))).2.1 35 a = (x24 : Int) := rc_o (by decide) (rc_o (by decide) (rc_o (by decide) (rc_F F56 (Or.inl (by decide)) (by decide) (rc_F F44 (Or.inl (by decide)) (by decide) (rc_F F35 (Or.inl (by decide)) (by decide) (ra_eq))))))
      have w59o6 : σ28.2.1 (1000 + x11) = σ.2.1 (1000 + x11) := by rw [F35.2 x11 (by rw [hk13]; unfold HT; omega) (by rw [hk13]; decide), sA_k (by omega)]
      have w59o7 : σ28.2.1 (1000 + x45) = σ.2.1 (1000 + x45) := by rw [F35.2 x45 (by rw [hk47]; unfold HT; omega) (by rw [hk47]; decide), sA_k (by omega)]
      have w59a : ∀ x : Nat, σ.2.1 36 a = (x : Int) → ∀ i, (sA 47 a (0) (sA 46 a (0) (sA 38 a (z57) σ50))).2.1 (1000 + x) i = if i = (cx).rn then k else σ.2.1 (1000 + x) i := fun y hy i => by
          have e : y = x11 := by rw [show σ.2.1 36 = σ.2.1 36 from rfl] at hy; omega
          rw [e, sA_k (by omega), sA_k (by omega), sA_k (by omega), f53, if_pos ⟨by omega, by omega⟩, sA_k (by omega), f41, if_pos ⟨by omega, by omega⟩, sA_at, e3815, w59o6]
      have w59b : ∀ x : Nat, σ.2.1 37 a = (x : Int) → ∀ i, (sA 47 a (0) (sA 46 a (0) (sA 38 a (z57) σ50))).2.1 (1000 + x) i = if i = (cx).rn then 0 else σ.2.1 (1000 + x) i := fun y hy i => by
          have e : y = x45 := by rw [show σ.2.1 37 = σ.2.1 37 from rfl] at hy; omega
          rw [e, sA_k (by omega), sA_k (by omega), sA_k (by omega), f53, if_pos ⟨by omega, by omega⟩, sA_at, e3815, show σ38.2.1 (1000 + x45) = σ.2.1 (1000 + x45) by rw [f41, if_pos ⟨by omega, by omega⟩, sA_k (by omega), w59o7]]
      have w59r : RDX (sA 47 a (0) (sA 46 a (0) (sA 38 a (z57) σ50))) a Sx nx jx (rnC wx (cx)) 0 := RD0.op (d := x24) hf0 hw ha (show FrC T [6, 7, 8, 9, 10, 35, 38, 46, 47, 516, 517] σ (sA 47 a (0) (sA 46 a (0) (sA 38 a (z57) σ50))) from (((((((FrC.rfl.put (by decide) (by decide)).trans (FrC.sub F35 (by decide))).trans (FrC.sub F44 (by decide))).trans (FrC.sub F56 (by decide))).put (by decide) (by decide)).put (by decide) (by decide)).put (by decide) (by decide))) (by rw [q60]; omega) q61 ((show (sA 47 a (0) (sA 46 a (0) (sA 38 a (z57) σ50))).2.1 6 x24 = σ28.2.1 6 x24 from rc_o (by decide) (rc_o (by decide) (rc_o (by decide) (rc_F F56 (Or.inl (by decide)) (by decide) (rc_F F44 (Or.inl (by decide)) (by decide) (rfl)))))).trans f31) ((show (sA 47 a (0) (sA 46 a (0) (sA 38 a (z57) σ50))).2.1 7 x24 = σ28.2.1 7 x24 from rc_o (by decide) (rc_o (by decide) (rc_o (by decide) (rc_F F56 (Or.inl (by decide)) (by decide) (rc_F F44 (Or.inl (by decide)) (by decide) (rfl)))))).trans f32) hkw w59a w59b hpo
      have w59q := ROQ.fd f6 hf0.2.1 hw ha hkw
      exact tn_vret rfl dX5_openRoutine_129 ⟨rfl, rfl, (((w55.put (by decide) (by decide) (fo_38 (by omega))).put (by decide) (by decide) (fo_46 (by omega))).put (by decide) (by decide) (fo_47 (by omega))), (((((((FrC.rfl.put (by decide) (by decide)).trans (FrC.sub F35 (by decide))).trans (FrC.sub F44 (by decide))).trans (FrC.sub F56 (by decide))).put (by decide) (by decide)).put (by decide) (by decide)).put (by decide) (by decide)), (RP.new (RT.frc hrt (show FrC T [6, 7, 8, 9, 10, 35, 38, 43, 44, 46, 47, 516, 517] σ (sA 47 a (0) (sA 46 a (0) (sA 38 a (z57) σ50))) from (((((((FrC.rfl.put (by decide) (by decide)).trans (FrC.sub F35 (by decide))).trans (FrC.sub F44 (by decide))).trans (FrC.sub F56 (by decide))).put (by decide) (by decide)).put (by decide) (by decide)).put (by decide) (by decide))) (by decide) (by decide) (by decide)) (((w55.put (by decide) (by decide) (fo_38 (by omega))).put (by decide) (by decide) (fo_46 (by omega))).put (by decide) (by decide) (fo_47 (by omega))) ha (rc_o (by decide) (rc_o (by decide) (rc_o (by decide) (rc_F F56 (Or.inl (by decide)) (by decide) (rc_F F44 (Or.inl (by decide)) (by decide) (rc_F F35 (Or.inl (by decide)) (by decide) (ra_eq))))))) (by rw [show (sA 47 a (0) (sA 46 a (0) (sA 38 a (z57) σ50))).2.1 6 x24 = σ28.2.1 6 x24 from rc_o (by decide) (rc_o (by decide) (rc_o (by decide) (rc_F F56 (Or.inl (by decide)) (by decide) (rc_F F44 (Or.inl (by decide)) (by decide) (rfl)))))]; omega)), RDX.cq w59r (by rw [uC2c]; unfold ifN; rw [ifP_f (show ¬ 6 ≤ cx.rn by omega), ifP_f (fun q => absurd (w59q.mpr q) (by omega))])⟩
    · refine tn_aload_n dX5_openRoutine_30 rfl 0 rfl ?_
      refine tn_iconst dX5_openRoutine_31 ?_
      refine tn_aload_n dX5_openRoutine_32 rfl 0 rfl ?_
      obtain ⟨x62, hx63, hk64⟩ : ∃ x : Nat, σ.2.1 33 a = (x : Int) ∧ (T x).1 = 39 := wf_33 hw ha
      have hk64o : OB T x62 9 := ⟨by omega, by rw [hk64]; rfl, by omega⟩
      refine tn_getR (ci := 5) (i := 0) (n := 33) (x := x62) dX5_openRoutine_33 rfl lay_5 (by decide) fl5_12 ha rfl rfl (hx63) ?_
      refine tn_getI (ci := 9) (i := 6) (n := 87) (t := σ.2.1 87 x62) dX5_openRoutine_36 rfl lay_9 (by decide) fl5_74 hk64o rfl rfl (rfl) ?_
      have g66 : ((-2147483648 : Int) ≤ σ.2.1 87 x62 ∧ σ.2.1 87 x62 ≤ 2147483647) := wf_87 hw hk64o
      have g66pl : σ.2.1 87 x62 = (tkS Sx jx).1 := (rfl).symm.trans ((hf0).pl (hx63))
      refine tn_callV (M := m_X5_openRoutine) (pc := 39) (ix := 113) (ci := 5) (M' := m_X5_note) (As := [.int (iI 5), .int (iI (σ.2.1 87 x62))]) (rest := []) dX5_openRoutine_39 ok_X5_note im_X5_note se_X5_note ml5_113 np_X5_note rfl rfl ha rfl (Nat.le_of_ble_eq_true rfl) (Nat.le_of_ble_eq_true rfl) rfl (k_X5_note_f (d + 1) (T := T) (σ := σ) (a := a) (f := 5) (p := σ.2.1 87 x62) ha (by decide) (by omega) hw ) (fun r67 T69 σ68 gt70 hp => ?_)
      obtain ⟨rfl, rfl, w73, F74, f71⟩ := hp
      clear gt70
      have fx75 : RD0 σ68 a Sx nx jx (fpC (cntN 5 (σ.2.1 87 x62) (cx).fp) (cx)) := RD0.nt hf0 hw ha F74 f71
      show Tn _ _ 42 T σ68 [(0, .ref a), (1, .int (iI k))] [] _
      obtain ⟨x76, hx77, hk78, hl79⟩ : ∃ x : Nat, σ.2.1 36 a = (x : Int) ∧ AR T x 16 256 256 := wf_36 hw ha
      have hk78i : IA T x76 := by unfold IA; omega
      have e3880 : σ.2.1 38 a = (fpC (cntN 5 (σ.2.1 87 x62) (cx).fp) (cx)).rn := (rc_F F74 (Or.inl (by decide)) (by decide) (rfl)).symm.trans (fx75).2.1.1.2.2.1
      have e3880c : (fpC (cntN 5 (σ.2.1 87 x62) (cx).fp) (cx)).rn = cx.rn := rfl
      refine tn_iconst dX5_openRoutine_42 ?_
      refine tn_aload_n dX5_openRoutine_43 rfl 0 rfl ?_
      refine tn_getI (ci := 5) (i := 5) (n := 38) (t := σ.2.1 38 a) dX5_openRoutine_44 rfl lay_5 (by decide) fl5_58 ha rfl rfl (rc_F F74 (Or.inl (by decide)) (by decide) (rfl)) ?_
      refine tn_aload_n dX5_openRoutine_47 rfl 0 rfl ?_
      obtain ⟨x81, hx82, hk83, hl84⟩ : ∃ x : Nat, σ.2.1 34 a = (x : Int) ∧ AR T x 4 7 7 := wf_34 hw ha
      have hk83i : (T x81).1 = 4 ∨ (T x81).1 = 5 := by omega
      refine tn_getR (ci := 5) (i := 1) (n := 34) (x := x81) dX5_openRoutine_48 rfl lay_5 (by decide) fl5_20 ha rfl rfl (rc_F F74 (Or.inl (by decide)) (by decide) (hx82)) ?_
      refine tn_alenX dX5_openRoutine_51 (by have q9 := hk83i; omega) ?_
      refine tn_iconst dX5_openRoutine_52 ?_
      refine tn_isub dX5_openRoutine_53 ?_
      refine tn_mmin (x := σ.2.1 38 a) (y := (((T x81).2 : Int)) - 1) dX5_openRoutine_54 mlm5_117 stM_min iniM cdM_min (by omega) (Nat.le_of_ble_eq_true rfl) ⟨by omega, by omega⟩ ⟨by omega, by omega⟩ (fun z85 g86 => ?_)
      refine tn_mmax (x := 0) (y := z85) dX5_openRoutine_57 mlm5_123 stM_max iniM cdM_max (by omega) (Nat.le_of_ble_eq_true rfl) ⟨by omega, by omega⟩ ⟨by omega, by omega⟩ (fun z87 g88 => ?_)
      refine tn_istore_n (L' := [(2, .int (iI z87)), (0, .ref a), (1, .int (iI k))]) dX5_openRoutine_60 rfl (by decide) rfl ?_
      refine tn_aload_n dX5_openRoutine_61 rfl 1 rfl ?_
      refine tn_aload_n dX5_openRoutine_62 rfl 1 rfl ?_
      refine tn_getR (ci := 5) (i := 1) (n := 34) (x := x81) dX5_openRoutine_63 rfl lay_5 (by decide) fl5_20 ha rfl rfl (rc_F F74 (Or.inl (by decide)) (by decide) (hx82)) ?_
      refine tn_iload_n dX5_openRoutine_66 rfl 0 rfl ?_
      obtain ⟨x89, hx90, hk91⟩ := (w73).2.2.2.1.1 x81 hk83 (z87) (by omega) (by omega)
      refine tn_aald (z := z87) (x := x89) dX5_openRoutine_67 hk83i (by omega) (by omega) (by omega) hx90 ?_
      have hk91o : OB T x89 1 := ⟨by omega, by rw [hk91]; rfl, by omega⟩
      refine tn_putV (ci := 5) (i := 2) (n := 35) (r := true) (v := (x89 : Int)) tyX5 tyX5_ok nmX5 dX5_openRoutine_68 rfl lay_5 (by decide) fl5_47 rfl (tyX5_ok 2 (by decide)) (vl_ref rfl).symm rfl rfl ha rfl rfl ?_
      refine tn_aload_n dX5_openRoutine_71 rfl 1 rfl ?_
      refine tn_getR (ci := 5) (i := 2) (n := 35) (x := x89) dX5_openRoutine_72 rfl lay_5 (by decide) fl5_47 ha rfl rfl (ra_eq) ?_
      refine tn_iload_n dX5_openRoutine_75 rfl 0 rfl ?_
      refine tn_callV (M := m_X5_openRoutine) (pc := 76) (ix := 126) (ci := 1) (M' := m_X1_empty) (As := [.int (iI z87)]) (rest := []) dX5_openRoutine_76 ok_X1_empty im_X1_empty se_X1_empty ml5_126 np_X1_empty rfl rfl hk91o rfl (Nat.le_of_ble_eq_true rfl) (Nat.le_of_ble_eq_true rfl) rfl (k_X1_empty_f (d) (T := T) (σ := (sA 35 a ((x89 : Int)) σ68)) (a := x89) (r := z87) hk91o (by omega) (w73.put (by decide) (by decide) (fo_35 ⟨_, rfl, hk91⟩)) ) (fun r92 T94 σ93 gt95 hp => ?_)
      obtain ⟨rfl, rfl, w99, F100, f96, f97⟩ := hp
      clear gt95
      have fx101 : RD0 σ93 a Sx nx jx (fpC (cntN 5 (σ.2.1 87 x62) (cx).fp) (cx)) := RD0.fc (fx75.pt (by decide) (by decide)) (w73.put (by decide) (by decide) (fo_35 ⟨_, rfl, hk91⟩)) ha F100 (by decide) (by decide)
      show Tn _ _ 79 T σ93 [(2, .int (iI z87)), (0, .ref a), (1, .int (iI k))] [] _
      refine tn_aload_n dX5_openRoutine_79 rfl 1 rfl ?_
      refine tn_getR (ci := 5) (i := 3) (n := 36) (x := x76) dX5_openRoutine_80 rfl lay_5 (by decide) fl5_24 ha rfl rfl (rc_F F100 (Or.inl (by decide)) (by decide) (rc_o (by decide) (rc_F F74 (Or.inl (by decide)) (by decide) (hx77)))) ?_
      refine tn_aload_n dX5_openRoutine_83 rfl 1 rfl ?_
      refine tn_getI (ci := 5) (i := 5) (n := 38) (t := σ.2.1 38 a) dX5_openRoutine_84 rfl lay_5 (by decide) fl5_58 ha rfl rfl (rc_F F100 (Or.inl (by decide)) (by decide) (rc_o (by decide) (rc_F F74 (Or.inl (by decide)) (by decide) (rfl)))) ?_
      refine tn_iload_n dX5_openRoutine_87 rfl 2 rfl ?_
      refine tn_callSN (M := m_X5_openRoutine) (pc := 88) (ix := 129) (M' := m_X11_put) (As := [.ref x76, .int (iI (σ.2.1 38 a)), .int (iI k)]) (rest := []) dX5_openRoutine_88 ok_X11_put stt_X11_put nl5_129 np_X11_put rfl (Nat.le_of_ble_eq_true rfl) (Nat.le_of_ble_eq_true rfl) rfl (k_X11_put_16 (d + 1) (T := T) (σ := σ93) (x := x76) (i := σ.2.1 38 a) (y := k) hk78i (by omega) hk78 (by omega) (by omega) w99 ) (fun r102 T104 σ103 gt105 hp => ?_)
      obtain ⟨rfl, rfl, w108, F109, f106⟩ := hp
      clear gt105
      show Tn _ _ 91 T σ103 [(2, .int (iI z87)), (0, .ref a), (1, .int (iI k))] [] _
      refine tn_aload_n dX5_openRoutine_91 rfl 1 rfl ?_
      obtain ⟨x110, hx111, hk112, hl113⟩ : ∃ x : Nat, σ.2.1 37 a = (x : Int) ∧ AR T x 17 256 256 := wf_37 hw ha
      have hk112i : IA T x110 := by unfold IA; omega
      refine tn_getR (ci := 5) (i := 4) (n := 37) (x := x110) dX5_openRoutine_92 rfl lay_5 (by decide) fl5_28 ha rfl rfl (rc_F F109 (Or.inl (by decide)) (by decide) (rc_F F100 (Or.inl (by decide)) (by decide) (rc_o (by decide) (rc_F F74 (Or.inl (by decide)) (by decide) (hx111))))) ?_
      refine tn_aload_n dX5_openRoutine_95 rfl 1 rfl ?_
      refine tn_getI (ci := 5) (i := 5) (n := 38) (t := σ.2.1 38 a) dX5_openRoutine_96 rfl lay_5 (by decide) fl5_58 ha rfl rfl (rc_F F109 (Or.inl (by decide)) (by decide) (rc_F F100 (Or.inl (by decide)) (by decide) (rc_o (by decide) (rc_F F74 (Or.inl (by decide)) (by decide) (rfl))))) ?_
      refine tn_iconst dX5_openRoutine_99 ?_
      refine tn_callSN (M := m_X5_openRoutine) (pc := 100) (ix := 129) (M' := m_X11_put) (As := [.ref x110, .int (iI (σ.2.1 38 a)), .int (iI 0)]) (rest := []) dX5_openRoutine_100 ok_X11_put stt_X11_put nl5_129 np_X11_put rfl (Nat.le_of_ble_eq_true rfl) (Nat.le_of_ble_eq_true rfl) rfl (k_X11_put_17 (d + 1) (T := T) (σ := σ103) (x := x110) (i := σ.2.1 38 a) (y := 0) hk112i (by omega) hk112 (by omega) (by decide) w108 ) (fun r114 T116 σ115 gt117 hp => ?_)
      obtain ⟨rfl, rfl, w120, F121, f118⟩ := hp
      clear gt117
      show Tn _ _ 103 T σ115 [(2, .int (iI z87)), (0, .ref a), (1, .int (iI k))] [] _
      refine tn_aload_n dX5_openRoutine_103 rfl 1 rfl ?_
      refine tn_aload_n dX5_openRoutine_104 rfl 1 rfl ?_
      refine tn_getI (ci := 5) (i := 5) (n := 38) (t := σ.2.1 38 a) dX5_openRoutine_105 rfl lay_5 (by decide) fl5_58 ha rfl rfl (rc_F F121 (Or.inl (by decide)) (by decide) (rc_F F109 (Or.inl (by decide)) (by decide) (rc_F F100 (Or.inl (by decide)) (by decide) (rc_o (by decide) (rc_F F74 (Or.inl (by decide)) (by decide) (rfl)))))) ?_
      refine tn_iconst dX5_openRoutine_108 ?_
      refine tn_iadd dX5_openRoutine_109 ?_
      refine tn_sipush dX5_openRoutine_110 (by decide) ?_
      refine tn_mmin (x := (σ.2.1 38 a) + 1) (y := 256) dX5_openRoutine_113 mlm5_117 stM_min iniM cdM_min (by omega) (Nat.le_of_ble_eq_true rfl) ⟨by omega, by omega⟩ ⟨by omega, by omega⟩ (fun z122 g123 => ?_)
      refine tn_putV (ci := 5) (i := 5) (n := 38) (r := false) (v := z122) tyX5 tyX5_ok nmX5 dX5_openRoutine_116 rfl lay_5 (by decide) fl5_58 rfl (tyX5_ok 5 (by decide)) rfl rfl rfl ha rfl rfl ?_
      refine tn_aload_n dX5_openRoutine_119 rfl 1 rfl ?_
      refine tn_iconst dX5_openRoutine_120 ?_
      refine tn_putV (ci := 5) (i := 13) (n := 46) (r := false) (v := 0) tyX5 tyX5_ok nmX5 dX5_openRoutine_121 rfl lay_5 (by decide) fl5_133 rfl (tyX5_ok 13 (by decide)) rfl rfl rfl ha rfl rfl ?_
      refine tn_aload_n dX5_openRoutine_124 rfl 1 rfl ?_
      refine tn_iconst dX5_openRoutine_125 ?_
      refine tn_putV (ci := 5) (i := 14) (n := 47) (r := false) (v := 0) tyX5 tyX5_ok nmX5 dX5_openRoutine_126 rfl lay_5 (by decide) fl5_136 rfl (tyX5_ok 14 (by decide)) rfl rfl rfl ha rfl rfl ?_
      have w124n : x76 ≠ x110 := fun e => by have q9 := hk78; rw [e] at q9; have w9 := hk112; omega
      have q125 : (sA 47 a (0) (sA 46 a (0) (sA 38 a (z122) σ115))).2.1 38 a = z122 := rc_o (by decide) (rc_o (by decide) (ra_eq))
      have q126 : (sA 47 a (0) (sA 46 a (0) (sA 38 a (z122) σ115))).2.1 35 a = (x89 : Int) := rc_o (by decide) (rc_o (by decide) (rc_o (by decide) (rc_F F121 (Or.inl (by decide)) (by decide) (rc_F F109 (Or.inl (by decide)) (by decide) (rc_F F100 (Or.inl (by decide)) (by decide) (ra_eq))))))
      have w124o6 : σ93.2.1 (1000 + x76) = σ68.2.1 (1000 + x76) := by rw [F100.2 x76 (by rw [hk78]; unfold HT; omega) (by rw [hk78]; decide), sA_k (by omega)]
      have w124o7 : σ93.2.1 (1000 + x110) = σ68.2.1 (1000 + x110) := by rw [F100.2 x110 (by rw [hk112]; unfold HT; omega) (by rw [hk112]; decide), sA_k (by omega)]
      have w124a : ∀ x : Nat, σ68.2.1 36 a = (x : Int) → ∀ i, (sA 47 a (0) (sA 46 a (0) (sA 38 a (z122) σ115))).2.1 (1000 + x) i = if i = (fpC (cntN 5 (σ.2.1 87 x62) (cx).fp) (cx)).rn then k else σ68.2.1 (1000 + x) i := fun y hy i => by
          have e : y = x76 := by rw [show σ68.2.1 36 = σ.2.1 36 from (F74.1 36 (Or.inl (by decide)) (by decide))] at hy; omega
          rw [e, sA_k (by omega), sA_k (by omega), sA_k (by omega), f118, if_pos ⟨by omega, by omega⟩, sA_k (by omega), f106, if_pos ⟨by omega, by omega⟩, sA_at, e3880, w124o6]
      have w124b : ∀ x : Nat, σ68.2.1 37 a = (x : Int) → ∀ i, (sA 47 a (0) (sA 46 a (0) (sA 38 a (z122) σ115))).2.1 (1000 + x) i = if i = (fpC (cntN 5 (σ.2.1 87 x62) (cx).fp) (cx)).rn then 0 else σ68.2.1 (1000 + x) i := fun y hy i => by
          have e : y = x110 := by rw [show σ68.2.1 37 = σ.2.1 37 from (F74.1 37 (Or.inl (by decide)) (by decide))] at hy; omega
          rw [e, sA_k (by omega), sA_k (by omega), sA_k (by omega), f118, if_pos ⟨by omega, by omega⟩, sA_at, e3880, show σ103.2.1 (1000 + x110) = σ68.2.1 (1000 + x110) by rw [f106, if_pos ⟨by omega, by omega⟩, sA_k (by omega), w124o7]]
      have w124r : RDX (sA 47 a (0) (sA 46 a (0) (sA 38 a (z122) σ115))) a Sx nx jx (rnC wx (fpC (cntN 5 (σ.2.1 87 x62) (cx).fp) (cx))) 0 := RD0.op (d := x89) fx75 w73 ha (show FrC T [6, 7, 8, 9, 10, 35, 38, 46, 47, 516, 517] σ68 (sA 47 a (0) (sA 46 a (0) (sA 38 a (z122) σ115))) from (((((((FrC.rfl.put (by decide) (by decide)).trans (FrC.sub F100 (by decide))).trans (FrC.sub F109 (by decide))).trans (FrC.sub F121 (by decide))).put (by decide) (by decide)).put (by decide) (by decide)).put (by decide) (by decide))) (by rw [q125]; omega) q126 ((show (sA 47 a (0) (sA 46 a (0) (sA 38 a (z122) σ115))).2.1 6 x89 = σ93.2.1 6 x89 from rc_o (by decide) (rc_o (by decide) (rc_o (by decide) (rc_F F121 (Or.inl (by decide)) (by decide) (rc_F F109 (Or.inl (by decide)) (by decide) (rfl)))))).trans f96) ((show (sA 47 a (0) (sA 46 a (0) (sA 38 a (z122) σ115))).2.1 7 x89 = σ93.2.1 7 x89 from rc_o (by decide) (rc_o (by decide) (rc_o (by decide) (rc_F F121 (Or.inl (by decide)) (by decide) (rc_F F109 (Or.inl (by decide)) (by decide) (rfl)))))).trans f97) hkw w124a w124b hpo
      have w124q := ROQ.fd f6 hf0.2.1 hw ha hkw
      exact tn_vret rfl dX5_openRoutine_129 ⟨rfl, rfl, (((w120.put (by decide) (by decide) (fo_38 (by omega))).put (by decide) (by decide) (fo_46 (by omega))).put (by decide) (by decide) (fo_47 (by omega))), ((((((((FrC.rfl.trans (FrC.sub F74 (by decide))).put (by decide) (by decide)).trans (FrC.sub F100 (by decide))).trans (FrC.sub F109 (by decide))).trans (FrC.sub F121 (by decide))).put (by decide) (by decide)).put (by decide) (by decide)).put (by decide) (by decide)), (RP.new (RT.frc hrt (show FrC T [6, 7, 8, 9, 10, 35, 38, 43, 44, 46, 47, 516, 517] σ (sA 47 a (0) (sA 46 a (0) (sA 38 a (z122) σ115))) from ((((((((FrC.rfl.trans (FrC.sub F74 (by decide))).put (by decide) (by decide)).trans (FrC.sub F100 (by decide))).trans (FrC.sub F109 (by decide))).trans (FrC.sub F121 (by decide))).put (by decide) (by decide)).put (by decide) (by decide)).put (by decide) (by decide))) (by decide) (by decide) (by decide)) (((w120.put (by decide) (by decide) (fo_38 (by omega))).put (by decide) (by decide) (fo_46 (by omega))).put (by decide) (by decide) (fo_47 (by omega))) ha (rc_o (by decide) (rc_o (by decide) (rc_o (by decide) (rc_F F121 (Or.inl (by decide)) (by decide) (rc_F F109 (Or.inl (by decide)) (by decide) (rc_F F100 (Or.inl (by decide)) (by decide) (ra_eq))))))) (by rw [show (sA 47 a (0) (sA 46 a (0) (sA 38 a (z122) σ115))).2.1 6 x89 = σ93.2.1 6 x89 from rc_o (by decide) (rc_o (by decide) (rc_o (by decide) (rc_F F121 (Or.inl (by decide)) (by decide) (rc_F F109 (Or.inl (by decide)) (by decide) (rfl)))))]; omega)), RDX.cq w124r (by rw [uC2c]; unfold ifN; rw [ifP_t (show 6 ≤ cx.rn by omega), ifP_f (fun q => absurd (w124q.mpr q) (by omega)), g66pl])⟩
  · refine tn_aload_n dX5_openRoutine_9 rfl 0 rfl ?_
    refine tn_iconst dX5_openRoutine_10 ?_
    refine tn_aload_n dX5_openRoutine_11 rfl 0 rfl ?_
    obtain ⟨x127, hx128, hk129⟩ : ∃ x : Nat, σ.2.1 33 a = (x : Int) ∧ (T x).1 = 39 := wf_33 hw ha
    have hk129o : OB T x127 9 := ⟨by omega, by rw [hk129]; rfl, by omega⟩
    refine tn_getR (ci := 5) (i := 0) (n := 33) (x := x127) dX5_openRoutine_12 rfl lay_5 (by decide) fl5_12 ha rfl rfl (hx128) ?_
    refine tn_getI (ci := 9) (i := 6) (n := 87) (t := σ.2.1 87 x127) dX5_openRoutine_15 rfl lay_9 (by decide) fl5_74 hk129o rfl rfl (rfl) ?_
    have g131 : ((-2147483648 : Int) ≤ σ.2.1 87 x127 ∧ σ.2.1 87 x127 ≤ 2147483647) := wf_87 hw hk129o
    have g131pl : σ.2.1 87 x127 = (tkS Sx jx).1 := (rfl).symm.trans ((hf0).pl (hx128))
    refine tn_callV (M := m_X5_openRoutine) (pc := 18) (ix := 113) (ci := 5) (M' := m_X5_note) (As := [.int (iI 2), .int (iI (σ.2.1 87 x127))]) (rest := []) dX5_openRoutine_18 ok_X5_note im_X5_note se_X5_note ml5_113 np_X5_note rfl rfl ha rfl (Nat.le_of_ble_eq_true rfl) (Nat.le_of_ble_eq_true rfl) rfl (k_X5_note_f (d + 1) (T := T) (σ := σ) (a := a) (f := 2) (p := σ.2.1 87 x127) ha (by decide) (by omega) hw ) (fun r132 T134 σ133 gt135 hp => ?_)
    obtain ⟨rfl, rfl, w138, F139, f136⟩ := hp
    clear gt135
    have fx140 : RD0 σ133 a Sx nx jx (fpC (cntN 2 (σ.2.1 87 x127) (cx).fp) (cx)) := RD0.nt hf0 hw ha F139 f136
    show Tn _ _ 21 T σ133 [(0, .ref a), (1, .int (iI k))] [] _
    refine tn_aload_n dX5_openRoutine_21 rfl 0 rfl ?_
    refine tn_getI (ci := 5) (i := 5) (n := 38) (t := σ.2.1 38 a) dX5_openRoutine_22 rfl lay_5 (by decide) fl5_58 ha rfl rfl (rc_F F139 (Or.inl (by decide)) (by decide) (rfl)) ?_
    have g141 : ((0 : Int) ≤ σ.2.1 38 a ∧ σ.2.1 38 a ≤ 256) := wf_38 hw ha
    refine tn_bipush dX5_openRoutine_25 (by decide) ?_
    refine tn_icmp_lt (tgt := 42) dX5_openRoutine_27 (by decide) ⟨by omega, by omega⟩ ⟨by decide, by decide⟩ (fun h142 => ?_) (fun h142 => ?_)
    · obtain ⟨x143, hx144, hk145, hl146⟩ : ∃ x : Nat, σ.2.1 36 a = (x : Int) ∧ AR T x 16 256 256 := wf_36 hw ha
      have hk145i : IA T x143 := by unfold IA; omega
      have e38147 : σ.2.1 38 a = (fpC (cntN 2 (σ.2.1 87 x127) (cx).fp) (cx)).rn := (rc_F F139 (Or.inl (by decide)) (by decide) (rfl)).symm.trans (fx140).2.1.1.2.2.1
      have e38147c : (fpC (cntN 2 (σ.2.1 87 x127) (cx).fp) (cx)).rn = cx.rn := rfl
      refine tn_iconst dX5_openRoutine_42 ?_
      refine tn_aload_n dX5_openRoutine_43 rfl 0 rfl ?_
      refine tn_getI (ci := 5) (i := 5) (n := 38) (t := σ.2.1 38 a) dX5_openRoutine_44 rfl lay_5 (by decide) fl5_58 ha rfl rfl (rc_F F139 (Or.inl (by decide)) (by decide) (rfl)) ?_
      refine tn_aload_n dX5_openRoutine_47 rfl 0 rfl ?_
      obtain ⟨x148, hx149, hk150, hl151⟩ : ∃ x : Nat, σ.2.1 34 a = (x : Int) ∧ AR T x 4 7 7 := wf_34 hw ha
      have hk150i : (T x148).1 = 4 ∨ (T x148).1 = 5 := by omega
      refine tn_getR (ci := 5) (i := 1) (n := 34) (x := x148) dX5_openRoutine_48 rfl lay_5 (by decide) fl5_20 ha rfl rfl (rc_F F139 (Or.inl (by decide)) (by decide) (hx149)) ?_
      refine tn_alenX dX5_openRoutine_51 (by have q9 := hk150i; omega) ?_
      refine tn_iconst dX5_openRoutine_52 ?_
      refine tn_isub dX5_openRoutine_53 ?_
      refine tn_mmin (x := σ.2.1 38 a) (y := (((T x148).2 : Int)) - 1) dX5_openRoutine_54 mlm5_117 stM_min iniM cdM_min (by omega) (Nat.le_of_ble_eq_true rfl) ⟨by omega, by omega⟩ ⟨by omega, by omega⟩ (fun z152 g153 => ?_)
      refine tn_mmax (x := 0) (y := z152) dX5_openRoutine_57 mlm5_123 stM_max iniM cdM_max (by omega) (Nat.le_of_ble_eq_true rfl) ⟨by omega, by omega⟩ ⟨by omega, by omega⟩ (fun z154 g155 => ?_)
      refine tn_istore_n (L' := [(2, .int (iI z154)), (0, .ref a), (1, .int (iI k))]) dX5_openRoutine_60 rfl (by decide) rfl ?_
      refine tn_aload_n dX5_openRoutine_61 rfl 1 rfl ?_
      refine tn_aload_n dX5_openRoutine_62 rfl 1 rfl ?_
      refine tn_getR (ci := 5) (i := 1) (n := 34) (x := x148) dX5_openRoutine_63 rfl lay_5 (by decide) fl5_20 ha rfl rfl (rc_F F139 (Or.inl (by decide)) (by decide) (hx149)) ?_
      refine tn_iload_n dX5_openRoutine_66 rfl 0 rfl ?_
      obtain ⟨x156, hx157, hk158⟩ := (w138).2.2.2.1.1 x148 hk150 (z154) (by omega) (by omega)
      refine tn_aald (z := z154) (x := x156) dX5_openRoutine_67 hk150i (by omega) (by omega) (by omega) hx157 ?_
      have hk158o : OB T x156 1 := ⟨by omega, by rw [hk158]; rfl, by omega⟩
      refine tn_putV (ci := 5) (i := 2) (n := 35) (r := true) (v := (x156 : Int)) tyX5 tyX5_ok nmX5 dX5_openRoutine_68 rfl lay_5 (by decide) fl5_47 rfl (tyX5_ok 2 (by decide)) (vl_ref rfl).symm rfl rfl ha rfl rfl ?_
      refine tn_aload_n dX5_openRoutine_71 rfl 1 rfl ?_
      refine tn_getR (ci := 5) (i := 2) (n := 35) (x := x156) dX5_openRoutine_72 rfl lay_5 (by decide) fl5_47 ha rfl rfl (ra_eq) ?_
      refine tn_iload_n dX5_openRoutine_75 rfl 0 rfl ?_
      refine tn_callV (M := m_X5_openRoutine) (pc := 76) (ix := 126) (ci := 1) (M' := m_X1_empty) (As := [.int (iI z154)]) (rest := []) dX5_openRoutine_76 ok_X1_empty im_X1_empty se_X1_empty ml5_126 np_X1_empty rfl rfl hk158o rfl (Nat.le_of_ble_eq_true rfl) (Nat.le_of_ble_eq_true rfl) rfl (k_X1_empty_f (d) (T := T) (σ := (sA 35 a ((x156 : Int)) σ133)) (a := x156) (r := z154) hk158o (by omega) (w138.put (by decide) (by decide) (fo_35 ⟨_, rfl, hk158⟩)) ) (fun r159 T161 σ160 gt162 hp => ?_)
      obtain ⟨rfl, rfl, w166, F167, f163, f164⟩ := hp
      clear gt162
      have fx168 : RD0 σ160 a Sx nx jx (fpC (cntN 2 (σ.2.1 87 x127) (cx).fp) (cx)) := RD0.fc (fx140.pt (by decide) (by decide)) (w138.put (by decide) (by decide) (fo_35 ⟨_, rfl, hk158⟩)) ha F167 (by decide) (by decide)
      show Tn _ _ 79 T σ160 [(2, .int (iI z154)), (0, .ref a), (1, .int (iI k))] [] _
      refine tn_aload_n dX5_openRoutine_79 rfl 1 rfl ?_
      refine tn_getR (ci := 5) (i := 3) (n := 36) (x := x143) dX5_openRoutine_80 rfl lay_5 (by decide) fl5_24 ha rfl rfl (rc_F F167 (Or.inl (by decide)) (by decide) (rc_o (by decide) (rc_F F139 (Or.inl (by decide)) (by decide) (hx144)))) ?_
      refine tn_aload_n dX5_openRoutine_83 rfl 1 rfl ?_
      refine tn_getI (ci := 5) (i := 5) (n := 38) (t := σ.2.1 38 a) dX5_openRoutine_84 rfl lay_5 (by decide) fl5_58 ha rfl rfl (rc_F F167 (Or.inl (by decide)) (by decide) (rc_o (by decide) (rc_F F139 (Or.inl (by decide)) (by decide) (rfl)))) ?_
      refine tn_iload_n dX5_openRoutine_87 rfl 2 rfl ?_
      refine tn_callSN (M := m_X5_openRoutine) (pc := 88) (ix := 129) (M' := m_X11_put) (As := [.ref x143, .int (iI (σ.2.1 38 a)), .int (iI k)]) (rest := []) dX5_openRoutine_88 ok_X11_put stt_X11_put nl5_129 np_X11_put rfl (Nat.le_of_ble_eq_true rfl) (Nat.le_of_ble_eq_true rfl) rfl (k_X11_put_16 (d + 1) (T := T) (σ := σ160) (x := x143) (i := σ.2.1 38 a) (y := k) hk145i (by omega) hk145 (by omega) (by omega) w166 ) (fun r169 T171 σ170 gt172 hp => ?_)
      obtain ⟨rfl, rfl, w175, F176, f173⟩ := hp
      clear gt172
      show Tn _ _ 91 T σ170 [(2, .int (iI z154)), (0, .ref a), (1, .int (iI k))] [] _
      refine tn_aload_n dX5_openRoutine_91 rfl 1 rfl ?_
      obtain ⟨x177, hx178, hk179, hl180⟩ : ∃ x : Nat, σ.2.1 37 a = (x : Int) ∧ AR T x 17 256 256 := wf_37 hw ha
      have hk179i : IA T x177 := by unfold IA; omega
      refine tn_getR (ci := 5) (i := 4) (n := 37) (x := x177) dX5_openRoutine_92 rfl lay_5 (by decide) fl5_28 ha rfl rfl (rc_F F176 (Or.inl (by decide)) (by decide) (rc_F F167 (Or.inl (by decide)) (by decide) (rc_o (by decide) (rc_F F139 (Or.inl (by decide)) (by decide) (hx178))))) ?_
      refine tn_aload_n dX5_openRoutine_95 rfl 1 rfl ?_
      refine tn_getI (ci := 5) (i := 5) (n := 38) (t := σ.2.1 38 a) dX5_openRoutine_96 rfl lay_5 (by decide) fl5_58 ha rfl rfl (rc_F F176 (Or.inl (by decide)) (by decide) (rc_F F167 (Or.inl (by decide)) (by decide) (rc_o (by decide) (rc_F F139 (Or.inl (by decide)) (by decide) (rfl))))) ?_
      refine tn_iconst dX5_openRoutine_99 ?_
      refine tn_callSN (M := m_X5_openRoutine) (pc := 100) (ix := 129) (M' := m_X11_put) (As := [.ref x177, .int (iI (σ.2.1 38 a)), .int (iI 0)]) (rest := []) dX5_openRoutine_100 ok_X11_put stt_X11_put nl5_129 np_X11_put rfl (Nat.le_of_ble_eq_true rfl) (Nat.le_of_ble_eq_true rfl) rfl (k_X11_put_17 (d + 1) (T := T) (σ := σ170) (x := x177) (i := σ.2.1 38 a) (y := 0) hk179i (by omega) hk179 (by omega) (by decide) w175 ) (fun r181 T183 σ182 gt184 hp => ?_)
      obtain ⟨rfl, rfl, w187, F188, f185⟩ := hp
      clear gt184
      show Tn _ _ 103 T σ182 [(2, .int (iI z154)), (0, .ref a), (1, .int (iI k))] [] _
      refine tn_aload_n dX5_openRoutine_103 rfl 1 rfl ?_
      refine tn_aload_n dX5_openRoutine_104 rfl 1 rfl ?_
      refine tn_getI (ci := 5) (i := 5) (n := 38) (t := σ.2.1 38 a) dX5_openRoutine_105 rfl lay_5 (by decide) fl5_58 ha rfl rfl (rc_F F188 (Or.inl (by decide)) (by decide) (rc_F F176 (Or.inl (by decide)) (by decide) (rc_F F167 (Or.inl (by decide)) (by decide) (rc_o (by decide) (rc_F F139 (Or.inl (by decide)) (by decide) (rfl)))))) ?_
      refine tn_iconst dX5_openRoutine_108 ?_
      refine tn_iadd dX5_openRoutine_109 ?_
      refine tn_sipush dX5_openRoutine_110 (by decide) ?_
      refine tn_mmin (x := (σ.2.1 38 a) + 1) (y := 256) dX5_openRoutine_113 mlm5_117 stM_min iniM cdM_min (by omega) (Nat.le_of_ble_eq_true rfl) ⟨by omega, by omega⟩ ⟨by omega, by omega⟩ (fun z189 g190 => ?_)
      refine tn_putV (ci := 5) (i := 5) (n := 38) (r := false) (v := z189) tyX5 tyX5_ok nmX5 dX5_openRoutine_116 rfl lay_5 (by decide) fl5_58 rfl (tyX5_ok 5 (by decide)) rfl rfl rfl ha rfl rfl ?_
      refine tn_aload_n dX5_openRoutine_119 rfl 1 rfl ?_
      refine tn_iconst dX5_openRoutine_120 ?_
      refine tn_putV (ci := 5) (i := 13) (n := 46) (r := false) (v := 0) tyX5 tyX5_ok nmX5 dX5_openRoutine_121 rfl lay_5 (by decide) fl5_133 rfl (tyX5_ok 13 (by decide)) rfl rfl rfl ha rfl rfl ?_
      refine tn_aload_n dX5_openRoutine_124 rfl 1 rfl ?_
      refine tn_iconst dX5_openRoutine_125 ?_
      refine tn_putV (ci := 5) (i := 14) (n := 47) (r := false) (v := 0) tyX5 tyX5_ok nmX5 dX5_openRoutine_126 rfl lay_5 (by decide) fl5_136 rfl (tyX5_ok 14 (by decide)) rfl rfl rfl ha rfl rfl ?_
      have w191n : x143 ≠ x177 := fun e => by have q9 := hk145; rw [e] at q9; have w9 := hk179; omega
      have q192 : (sA 47 a (0) (sA 46 a (0) (sA 38 a (z189) σ182))).2.1 38 a = z189 := rc_o (by decide) (rc_o (by decide) (ra_eq))
      have q193 : (sA 47 a (0) (sA 46 a (0) (sA 38 a (z189) σ182))).2.1 35 a = (x156 : Int) := rc_o (by decide) (rc_o (by decide) (rc_o (by decide) (rc_F F188 (Or.inl (by decide)) (by decide) (rc_F F176 (Or.inl (by decide)) (by decide) (rc_F F167 (Or.inl (by decide)) (by decide) (ra_eq))))))
      have w191o6 : σ160.2.1 (1000 + x143) = σ133.2.1 (1000 + x143) := by rw [F167.2 x143 (by rw [hk145]; unfold HT; omega) (by rw [hk145]; decide), sA_k (by omega)]
      have w191o7 : σ160.2.1 (1000 + x177) = σ133.2.1 (1000 + x177) := by rw [F167.2 x177 (by rw [hk179]; unfold HT; omega) (by rw [hk179]; decide), sA_k (by omega)]
      have w191a : ∀ x : Nat, σ133.2.1 36 a = (x : Int) → ∀ i, (sA 47 a (0) (sA 46 a (0) (sA 38 a (z189) σ182))).2.1 (1000 + x) i = if i = (fpC (cntN 2 (σ.2.1 87 x127) (cx).fp) (cx)).rn then k else σ133.2.1 (1000 + x) i := fun y hy i => by
          have e : y = x143 := by rw [show σ133.2.1 36 = σ.2.1 36 from (F139.1 36 (Or.inl (by decide)) (by decide))] at hy; omega
          rw [e, sA_k (by omega), sA_k (by omega), sA_k (by omega), f185, if_pos ⟨by omega, by omega⟩, sA_k (by omega), f173, if_pos ⟨by omega, by omega⟩, sA_at, e38147, w191o6]
      have w191b : ∀ x : Nat, σ133.2.1 37 a = (x : Int) → ∀ i, (sA 47 a (0) (sA 46 a (0) (sA 38 a (z189) σ182))).2.1 (1000 + x) i = if i = (fpC (cntN 2 (σ.2.1 87 x127) (cx).fp) (cx)).rn then 0 else σ133.2.1 (1000 + x) i := fun y hy i => by
          have e : y = x177 := by rw [show σ133.2.1 37 = σ.2.1 37 from (F139.1 37 (Or.inl (by decide)) (by decide))] at hy; omega
          rw [e, sA_k (by omega), sA_k (by omega), sA_k (by omega), f185, if_pos ⟨by omega, by omega⟩, sA_at, e38147, show σ170.2.1 (1000 + x177) = σ133.2.1 (1000 + x177) by rw [f173, if_pos ⟨by omega, by omega⟩, sA_k (by omega), w191o7]]
      have w191r : RDX (sA 47 a (0) (sA 46 a (0) (sA 38 a (z189) σ182))) a Sx nx jx (rnC wx (fpC (cntN 2 (σ.2.1 87 x127) (cx).fp) (cx))) 0 := RD0.op (d := x156) fx140 w138 ha (show FrC T [6, 7, 8, 9, 10, 35, 38, 46, 47, 516, 517] σ133 (sA 47 a (0) (sA 46 a (0) (sA 38 a (z189) σ182))) from (((((((FrC.rfl.put (by decide) (by decide)).trans (FrC.sub F167 (by decide))).trans (FrC.sub F176 (by decide))).trans (FrC.sub F188 (by decide))).put (by decide) (by decide)).put (by decide) (by decide)).put (by decide) (by decide))) (by rw [q192]; omega) q193 ((show (sA 47 a (0) (sA 46 a (0) (sA 38 a (z189) σ182))).2.1 6 x156 = σ160.2.1 6 x156 from rc_o (by decide) (rc_o (by decide) (rc_o (by decide) (rc_F F188 (Or.inl (by decide)) (by decide) (rc_F F176 (Or.inl (by decide)) (by decide) (rfl)))))).trans f163) ((show (sA 47 a (0) (sA 46 a (0) (sA 38 a (z189) σ182))).2.1 7 x156 = σ160.2.1 7 x156 from rc_o (by decide) (rc_o (by decide) (rc_o (by decide) (rc_F F188 (Or.inl (by decide)) (by decide) (rc_F F176 (Or.inl (by decide)) (by decide) (rfl)))))).trans f164) hkw w191a w191b hpo
      have w191q := ROQ.fd f6 hf0.2.1 hw ha hkw
      exact tn_vret rfl dX5_openRoutine_129 ⟨rfl, rfl, (((w187.put (by decide) (by decide) (fo_38 (by omega))).put (by decide) (by decide) (fo_46 (by omega))).put (by decide) (by decide) (fo_47 (by omega))), ((((((((FrC.rfl.trans (FrC.sub F139 (by decide))).put (by decide) (by decide)).trans (FrC.sub F167 (by decide))).trans (FrC.sub F176 (by decide))).trans (FrC.sub F188 (by decide))).put (by decide) (by decide)).put (by decide) (by decide)).put (by decide) (by decide)), (RP.new (RT.frc hrt (show FrC T [6, 7, 8, 9, 10, 35, 38, 43, 44, 46, 47, 516, 517] σ (sA 47 a (0) (sA 46 a (0) (sA 38 a (z189) σ182))) from ((((((((FrC.rfl.trans (FrC.sub F139 (by decide))).put (by decide) (by decide)).trans (FrC.sub F167 (by decide))).trans (FrC.sub F176 (by decide))).trans (FrC.sub F188 (by decide))).put (by decide) (by decide)).put (by decide) (by decide)).put (by decide) (by decide))) (by decide) (by decide) (by decide)) (((w187.put (by decide) (by decide) (fo_38 (by omega))).put (by decide) (by decide) (fo_46 (by omega))).put (by decide) (by decide) (fo_47 (by omega))) ha (rc_o (by decide) (rc_o (by decide) (rc_o (by decide) (rc_F F188 (Or.inl (by decide)) (by decide) (rc_F F176 (Or.inl (by decide)) (by decide) (rc_F F167 (Or.inl (by decide)) (by decide) (ra_eq))))))) (by rw [show (sA 47 a (0) (sA 46 a (0) (sA 38 a (z189) σ182))).2.1 6 x156 = σ160.2.1 6 x156 from rc_o (by decide) (rc_o (by decide) (rc_o (by decide) (rc_F F188 (Or.inl (by decide)) (by decide) (rc_F F176 (Or.inl (by decide)) (by decide) (rfl)))))]; omega)), RDX.cq w191r (by rw [uC2c]; unfold ifN; rw [ifP_f (show ¬ 6 ≤ cx.rn by omega), ifP_t (w191q.mp (by omega)), g131pl])⟩
    · refine tn_aload_n dX5_openRoutine_30 rfl 0 rfl ?_
      refine tn_iconst dX5_openRoutine_31 ?_
      refine tn_aload_n dX5_openRoutine_32 rfl 0 rfl ?_
      refine tn_getR (ci := 5) (i := 0) (n := 33) (x := x127) dX5_openRoutine_33 rfl lay_5 (by decide) fl5_12 ha rfl rfl (rc_F F139 (Or.inl (by decide)) (by decide) (hx128)) ?_
      refine tn_getI (ci := 9) (i := 6) (n := 87) (t := σ.2.1 87 x127) dX5_openRoutine_36 rfl lay_9 (by decide) fl5_74 hk129o rfl rfl (rc_F F139 (Or.inl (by decide)) (by decide) (rfl)) ?_
      refine tn_callV (M := m_X5_openRoutine) (pc := 39) (ix := 113) (ci := 5) (M' := m_X5_note) (As := [.int (iI 5), .int (iI (σ.2.1 87 x127))]) (rest := []) dX5_openRoutine_39 ok_X5_note im_X5_note se_X5_note ml5_113 np_X5_note rfl rfl ha rfl (Nat.le_of_ble_eq_true rfl) (Nat.le_of_ble_eq_true rfl) rfl (k_X5_note_f (d + 1) (T := T) (σ := σ133) (a := a) (f := 5) (p := σ.2.1 87 x127) ha (by decide) (by omega) w138 ) (fun r194 T196 σ195 gt197 hp => ?_)
      obtain ⟨rfl, rfl, w200, F201, f198⟩ := hp
      clear gt197
      have fx202 : RD0 σ195 a Sx nx jx (fpC (cntN 5 (σ.2.1 87 x127) (fpC (cntN 2 (σ.2.1 87 x127) (cx).fp) (cx)).fp) (fpC (cntN 2 (σ.2.1 87 x127) (cx).fp) (cx))) := RD0.nt fx140 w138 ha F201 f198
      show Tn _ _ 42 T σ195 [(0, .ref a), (1, .int (iI k))] [] _
      obtain ⟨x203, hx204, hk205, hl206⟩ : ∃ x : Nat, σ.2.1 36 a = (x : Int) ∧ AR T x 16 256 256 := wf_36 hw ha
      have hk205i : IA T x203 := by unfold IA; omega
      have e38207 : σ.2.1 38 a = (fpC (cntN 5 (σ.2.1 87 x127) (fpC (cntN 2 (σ.2.1 87 x127) (cx).fp) (cx)).fp) (fpC (cntN 2 (σ.2.1 87 x127) (cx).fp) (cx))).rn := (rc_F F201 (Or.inl (by decide)) (by decide) (rc_F F139 (Or.inl (by decide)) (by decide) (rfl))).symm.trans (fx202).2.1.1.2.2.1
      have e38207c : (fpC (cntN 5 (σ.2.1 87 x127) (fpC (cntN 2 (σ.2.1 87 x127) (cx).fp) (cx)).fp) (fpC (cntN 2 (σ.2.1 87 x127) (cx).fp) (cx))).rn = cx.rn := rfl
      refine tn_iconst dX5_openRoutine_42 ?_
      refine tn_aload_n dX5_openRoutine_43 rfl 0 rfl ?_
      refine tn_getI (ci := 5) (i := 5) (n := 38) (t := σ.2.1 38 a) dX5_openRoutine_44 rfl lay_5 (by decide) fl5_58 ha rfl rfl (rc_F F201 (Or.inl (by decide)) (by decide) (rc_F F139 (Or.inl (by decide)) (by decide) (rfl))) ?_
      refine tn_aload_n dX5_openRoutine_47 rfl 0 rfl ?_
      obtain ⟨x208, hx209, hk210, hl211⟩ : ∃ x : Nat, σ.2.1 34 a = (x : Int) ∧ AR T x 4 7 7 := wf_34 hw ha
      have hk210i : (T x208).1 = 4 ∨ (T x208).1 = 5 := by omega
      refine tn_getR (ci := 5) (i := 1) (n := 34) (x := x208) dX5_openRoutine_48 rfl lay_5 (by decide) fl5_20 ha rfl rfl (rc_F F201 (Or.inl (by decide)) (by decide) (rc_F F139 (Or.inl (by decide)) (by decide) (hx209))) ?_
      refine tn_alenX dX5_openRoutine_51 (by have q9 := hk210i; omega) ?_
      refine tn_iconst dX5_openRoutine_52 ?_
      refine tn_isub dX5_openRoutine_53 ?_
      refine tn_mmin (x := σ.2.1 38 a) (y := (((T x208).2 : Int)) - 1) dX5_openRoutine_54 mlm5_117 stM_min iniM cdM_min (by omega) (Nat.le_of_ble_eq_true rfl) ⟨by omega, by omega⟩ ⟨by omega, by omega⟩ (fun z212 g213 => ?_)
      refine tn_mmax (x := 0) (y := z212) dX5_openRoutine_57 mlm5_123 stM_max iniM cdM_max (by omega) (Nat.le_of_ble_eq_true rfl) ⟨by omega, by omega⟩ ⟨by omega, by omega⟩ (fun z214 g215 => ?_)
      refine tn_istore_n (L' := [(2, .int (iI z214)), (0, .ref a), (1, .int (iI k))]) dX5_openRoutine_60 rfl (by decide) rfl ?_
      refine tn_aload_n dX5_openRoutine_61 rfl 1 rfl ?_
      refine tn_aload_n dX5_openRoutine_62 rfl 1 rfl ?_
      refine tn_getR (ci := 5) (i := 1) (n := 34) (x := x208) dX5_openRoutine_63 rfl lay_5 (by decide) fl5_20 ha rfl rfl (rc_F F201 (Or.inl (by decide)) (by decide) (rc_F F139 (Or.inl (by decide)) (by decide) (hx209))) ?_
      refine tn_iload_n dX5_openRoutine_66 rfl 0 rfl ?_
      obtain ⟨x216, hx217, hk218⟩ := (w200).2.2.2.1.1 x208 hk210 (z214) (by omega) (by omega)
      refine tn_aald (z := z214) (x := x216) dX5_openRoutine_67 hk210i (by omega) (by omega) (by omega) hx217 ?_
      have hk218o : OB T x216 1 := ⟨by omega, by rw [hk218]; rfl, by omega⟩
      refine tn_putV (ci := 5) (i := 2) (n := 35) (r := true) (v := (x216 : Int)) tyX5 tyX5_ok nmX5 dX5_openRoutine_68 rfl lay_5 (by decide) fl5_47 rfl (tyX5_ok 2 (by decide)) (vl_ref rfl).symm rfl rfl ha rfl rfl ?_
      refine tn_aload_n dX5_openRoutine_71 rfl 1 rfl ?_
      refine tn_getR (ci := 5) (i := 2) (n := 35) (x := x216) dX5_openRoutine_72 rfl lay_5 (by decide) fl5_47 ha rfl rfl (ra_eq) ?_
      refine tn_iload_n dX5_openRoutine_75 rfl 0 rfl ?_
      refine tn_callV (M := m_X5_openRoutine) (pc := 76) (ix := 126) (ci := 1) (M' := m_X1_empty) (As := [.int (iI z214)]) (rest := []) dX5_openRoutine_76 ok_X1_empty im_X1_empty se_X1_empty ml5_126 np_X1_empty rfl rfl hk218o rfl (Nat.le_of_ble_eq_true rfl) (Nat.le_of_ble_eq_true rfl) rfl (k_X1_empty_f (d) (T := T) (σ := (sA 35 a ((x216 : Int)) σ195)) (a := x216) (r := z214) hk218o (by omega) (w200.put (by decide) (by decide) (fo_35 ⟨_, rfl, hk218⟩)) ) (fun r219 T221 σ220 gt222 hp => ?_)
      obtain ⟨rfl, rfl, w226, F227, f223, f224⟩ := hp
      clear gt222
      have fx228 : RD0 σ220 a Sx nx jx (fpC (cntN 5 (σ.2.1 87 x127) (fpC (cntN 2 (σ.2.1 87 x127) (cx).fp) (cx)).fp) (fpC (cntN 2 (σ.2.1 87 x127) (cx).fp) (cx))) := RD0.fc (fx202.pt (by decide) (by decide)) (w200.put (by decide) (by decide) (fo_35 ⟨_, rfl, hk218⟩)) ha F227 (by decide) (by decide)
      show Tn _ _ 79 T σ220 [(2, .int (iI z214)), (0, .ref a), (1, .int (iI k))] [] _
      refine tn_aload_n dX5_openRoutine_79 rfl 1 rfl ?_
      refine tn_getR (ci := 5) (i := 3) (n := 36) (x := x203) dX5_openRoutine_80 rfl lay_5 (by decide) fl5_24 ha rfl rfl (rc_F F227 (Or.inl (by decide)) (by decide) (rc_o (by decide) (rc_F F201 (Or.inl (by decide)) (by decide) (rc_F F139 (Or.inl (by decide)) (by decide) (hx204))))) ?_
      refine tn_aload_n dX5_openRoutine_83 rfl 1 rfl ?_
      refine tn_getI (ci := 5) (i := 5) (n := 38) (t := σ.2.1 38 a) dX5_openRoutine_84 rfl lay_5 (by decide) fl5_58 ha rfl rfl (rc_F F227 (Or.inl (by decide)) (by decide) (rc_o (by decide) (rc_F F201 (Or.inl (by decide)) (by decide) (rc_F F139 (Or.inl (by decide)) (by decide) (rfl))))) ?_
      refine tn_iload_n dX5_openRoutine_87 rfl 2 rfl ?_
      refine tn_callSN (M := m_X5_openRoutine) (pc := 88) (ix := 129) (M' := m_X11_put) (As := [.ref x203, .int (iI (σ.2.1 38 a)), .int (iI k)]) (rest := []) dX5_openRoutine_88 ok_X11_put stt_X11_put nl5_129 np_X11_put rfl (Nat.le_of_ble_eq_true rfl) (Nat.le_of_ble_eq_true rfl) rfl (k_X11_put_16 (d + 1) (T := T) (σ := σ220) (x := x203) (i := σ.2.1 38 a) (y := k) hk205i (by omega) hk205 (by omega) (by omega) w226 ) (fun r229 T231 σ230 gt232 hp => ?_)
      obtain ⟨rfl, rfl, w235, F236, f233⟩ := hp
      clear gt232
      show Tn _ _ 91 T σ230 [(2, .int (iI z214)), (0, .ref a), (1, .int (iI k))] [] _
      refine tn_aload_n dX5_openRoutine_91 rfl 1 rfl ?_
      obtain ⟨x237, hx238, hk239, hl240⟩ : ∃ x : Nat, σ.2.1 37 a = (x : Int) ∧ AR T x 17 256 256 := wf_37 hw ha
      have hk239i : IA T x237 := by unfold IA; omega
      refine tn_getR (ci := 5) (i := 4) (n := 37) (x := x237) dX5_openRoutine_92 rfl lay_5 (by decide) fl5_28 ha rfl rfl (rc_F F236 (Or.inl (by decide)) (by decide) (rc_F F227 (Or.inl (by decide)) (by decide) (rc_o (by decide) (rc_F F201 (Or.inl (by decide)) (by decide) (rc_F F139 (Or.inl (by decide)) (by decide) (hx238)))))) ?_
      refine tn_aload_n dX5_openRoutine_95 rfl 1 rfl ?_
      refine tn_getI (ci := 5) (i := 5) (n := 38) (t := σ.2.1 38 a) dX5_openRoutine_96 rfl lay_5 (by decide) fl5_58 ha rfl rfl (rc_F F236 (Or.inl (by decide)) (by decide) (rc_F F227 (Or.inl (by decide)) (by decide) (rc_o (by decide) (rc_F F201 (Or.inl (by decide)) (by decide) (rc_F F139 (Or.inl (by decide)) (by decide) (rfl)))))) ?_
      refine tn_iconst dX5_openRoutine_99 ?_
      refine tn_callSN (M := m_X5_openRoutine) (pc := 100) (ix := 129) (M' := m_X11_put) (As := [.ref x237, .int (iI (σ.2.1 38 a)), .int (iI 0)]) (rest := []) dX5_openRoutine_100 ok_X11_put stt_X11_put nl5_129 np_X11_put rfl (Nat.le_of_ble_eq_true rfl) (Nat.le_of_ble_eq_true rfl) rfl (k_X11_put_17 (d + 1) (T := T) (σ := σ230) (x := x237) (i := σ.2.1 38 a) (y := 0) hk239i (by omega) hk239 (by omega) (by decide) w235 ) (fun r241 T243 σ242 gt244 hp => ?_)
      obtain ⟨rfl, rfl, w247, F248, f245⟩ := hp
      clear gt244
      show Tn _ _ 103 T σ242 [(2, .int (iI z214)), (0, .ref a), (1, .int (iI k))] [] _
      refine tn_aload_n dX5_openRoutine_103 rfl 1 rfl ?_
      refine tn_aload_n dX5_openRoutine_104 rfl 1 rfl ?_
      refine tn_getI (ci := 5) (i := 5) (n := 38) (t := σ.2.1 38 a) dX5_openRoutine_105 rfl lay_5 (by decide) fl5_58 ha rfl rfl (rc_F F248 (Or.inl (by decide)) (by decide) (rc_F F236 (Or.inl (by decide)) (by decide) (rc_F F227 (Or.inl (by decide)) (by decide) (rc_o (by decide) (rc_F F201 (Or.inl (by decide)) (by decide) (rc_F F139 (Or.inl (by decide)) (by decide) (rfl))))))) ?_
      refine tn_iconst dX5_openRoutine_108 ?_
      refine tn_iadd dX5_openRoutine_109 ?_
      refine tn_sipush dX5_openRoutine_110 (by decide) ?_
      refine tn_mmin (x := (σ.2.1 38 a) + 1) (y := 256) dX5_openRoutine_113 mlm5_117 stM_min iniM cdM_min (by omega) (Nat.le_of_ble_eq_true rfl) ⟨by omega, by omega⟩ ⟨by omega, by omega⟩ (fun z249 g250 => ?_)
      refine tn_putV (ci := 5) (i := 5) (n := 38) (r := false) (v := z249) tyX5 tyX5_ok nmX5 dX5_openRoutine_116 rfl lay_5 (by decide) fl5_58 rfl (tyX5_ok 5 (by decide)) rfl rfl rfl ha rfl rfl ?_
      refine tn_aload_n dX5_openRoutine_119 rfl 1 rfl ?_
      refine tn_iconst dX5_openRoutine_120 ?_
      refine tn_putV (ci := 5) (i := 13) (n := 46) (r := false) (v := 0) tyX5 tyX5_ok nmX5 dX5_openRoutine_121 rfl lay_5 (by decide) fl5_133 rfl (tyX5_ok 13 (by decide)) rfl rfl rfl ha rfl rfl ?_
      refine tn_aload_n dX5_openRoutine_124 rfl 1 rfl ?_
      refine tn_iconst dX5_openRoutine_125 ?_
      refine tn_putV (ci := 5) (i := 14) (n := 47) (r := false) (v := 0) tyX5 tyX5_ok nmX5 dX5_openRoutine_126 rfl lay_5 (by decide) fl5_136 rfl (tyX5_ok 14 (by decide)) rfl rfl rfl ha rfl rfl ?_
      have w251n : x203 ≠ x237 := fun e => by have q9 := hk205; rw [e] at q9; have w9 := hk239; omega
      have q252 : (sA 47 a (0) (sA 46 a (0) (sA 38 a (z249) σ242))).2.1 38 a = z249 := rc_o (by decide) (rc_o (by decide) (ra_eq))
      have q253 : (sA 47 a (0) (sA 46 a (0) (sA 38 a (z249) σ242))).2.1 35 a = (x216 : Int) := rc_o (by decide) (rc_o (by decide) (rc_o (by decide) (rc_F F248 (Or.inl (by decide)) (by decide) (rc_F F236 (Or.inl (by decide)) (by decide) (rc_F F227 (Or.inl (by decide)) (by decide) (ra_eq))))))
      have w251o6 : σ220.2.1 (1000 + x203) = σ195.2.1 (1000 + x203) := by rw [F227.2 x203 (by rw [hk205]; unfold HT; omega) (by rw [hk205]; decide), sA_k (by omega)]
      have w251o7 : σ220.2.1 (1000 + x237) = σ195.2.1 (1000 + x237) := by rw [F227.2 x237 (by rw [hk239]; unfold HT; omega) (by rw [hk239]; decide), sA_k (by omega)]
      have w251a : ∀ x : Nat, σ195.2.1 36 a = (x : Int) → ∀ i, (sA 47 a (0) (sA 46 a (0) (sA 38 a (z249) σ242))).2.1 (1000 + x) i = if i = (fpC (cntN 5 (σ.2.1 87 x127) (fpC (cntN 2 (σ.2.1 87 x127) (cx).fp) (cx)).fp) (fpC (cntN 2 (σ.2.1 87 x127) (cx).fp) (cx))).rn then k else σ195.2.1 (1000 + x) i := fun y hy i => by
          have e : y = x203 := by rw [show σ195.2.1 36 = σ.2.1 36 from ((F201.1 36 (Or.inl (by decide)) (by decide)).trans (F139.1 36 (Or.inl (by decide)) (by decide)))] at hy; omega
          rw [e, sA_k (by omega), sA_k (by omega), sA_k (by omega), f245, if_pos ⟨by omega, by omega⟩, sA_k (by omega), f233, if_pos ⟨by omega, by omega⟩, sA_at, e38207, w251o6]
      have w251b : ∀ x : Nat, σ195.2.1 37 a = (x : Int) → ∀ i, (sA 47 a (0) (sA 46 a (0) (sA 38 a (z249) σ242))).2.1 (1000 + x) i = if i = (fpC (cntN 5 (σ.2.1 87 x127) (fpC (cntN 2 (σ.2.1 87 x127) (cx).fp) (cx)).fp) (fpC (cntN 2 (σ.2.1 87 x127) (cx).fp) (cx))).rn then 0 else σ195.2.1 (1000 + x) i := fun y hy i => by
          have e : y = x237 := by rw [show σ195.2.1 37 = σ.2.1 37 from ((F201.1 37 (Or.inl (by decide)) (by decide)).trans (F139.1 37 (Or.inl (by decide)) (by decide)))] at hy; omega
          rw [e, sA_k (by omega), sA_k (by omega), sA_k (by omega), f245, if_pos ⟨by omega, by omega⟩, sA_at, e38207, show σ230.2.1 (1000 + x237) = σ195.2.1 (1000 + x237) by rw [f233, if_pos ⟨by omega, by omega⟩, sA_k (by omega), w251o7]]
      have w251r : RDX (sA 47 a (0) (sA 46 a (0) (sA 38 a (z249) σ242))) a Sx nx jx (rnC wx (fpC (cntN 5 (σ.2.1 87 x127) (fpC (cntN 2 (σ.2.1 87 x127) (cx).fp) (cx)).fp) (fpC (cntN 2 (σ.2.1 87 x127) (cx).fp) (cx)))) 0 := RD0.op (d := x216) fx202 w200 ha (show FrC T [6, 7, 8, 9, 10, 35, 38, 46, 47, 516, 517] σ195 (sA 47 a (0) (sA 46 a (0) (sA 38 a (z249) σ242))) from (((((((FrC.rfl.put (by decide) (by decide)).trans (FrC.sub F227 (by decide))).trans (FrC.sub F236 (by decide))).trans (FrC.sub F248 (by decide))).put (by decide) (by decide)).put (by decide) (by decide)).put (by decide) (by decide))) (by rw [q252]; omega) q253 ((show (sA 47 a (0) (sA 46 a (0) (sA 38 a (z249) σ242))).2.1 6 x216 = σ220.2.1 6 x216 from rc_o (by decide) (rc_o (by decide) (rc_o (by decide) (rc_F F248 (Or.inl (by decide)) (by decide) (rc_F F236 (Or.inl (by decide)) (by decide) (rfl)))))).trans f223) ((show (sA 47 a (0) (sA 46 a (0) (sA 38 a (z249) σ242))).2.1 7 x216 = σ220.2.1 7 x216 from rc_o (by decide) (rc_o (by decide) (rc_o (by decide) (rc_F F248 (Or.inl (by decide)) (by decide) (rc_F F236 (Or.inl (by decide)) (by decide) (rfl)))))).trans f224) hkw w251a w251b hpo
      have w251q := ROQ.fd f6 hf0.2.1 hw ha hkw
      exact tn_vret rfl dX5_openRoutine_129 ⟨rfl, rfl, (((w247.put (by decide) (by decide) (fo_38 (by omega))).put (by decide) (by decide) (fo_46 (by omega))).put (by decide) (by decide) (fo_47 (by omega))), (((((((((FrC.rfl.trans (FrC.sub F139 (by decide))).trans (FrC.sub F201 (by decide))).put (by decide) (by decide)).trans (FrC.sub F227 (by decide))).trans (FrC.sub F236 (by decide))).trans (FrC.sub F248 (by decide))).put (by decide) (by decide)).put (by decide) (by decide)).put (by decide) (by decide)), (RP.new (RT.frc hrt (show FrC T [6, 7, 8, 9, 10, 35, 38, 43, 44, 46, 47, 516, 517] σ (sA 47 a (0) (sA 46 a (0) (sA 38 a (z249) σ242))) from (((((((((FrC.rfl.trans (FrC.sub F139 (by decide))).trans (FrC.sub F201 (by decide))).put (by decide) (by decide)).trans (FrC.sub F227 (by decide))).trans (FrC.sub F236 (by decide))).trans (FrC.sub F248 (by decide))).put (by decide) (by decide)).put (by decide) (by decide)).put (by decide) (by decide))) (by decide) (by decide) (by decide)) (((w247.put (by decide) (by decide) (fo_38 (by omega))).put (by decide) (by decide) (fo_46 (by omega))).put (by decide) (by decide) (fo_47 (by omega))) ha (rc_o (by decide) (rc_o (by decide) (rc_o (by decide) (rc_F F248 (Or.inl (by decide)) (by decide) (rc_F F236 (Or.inl (by decide)) (by decide) (rc_F F227 (Or.inl (by decide)) (by decide) (ra_eq))))))) (by rw [show (sA 47 a (0) (sA 46 a (0) (sA 38 a (z249) σ242))).2.1 6 x216 = σ220.2.1 6 x216 from rc_o (by decide) (rc_o (by decide) (rc_o (by decide) (rc_F F248 (Or.inl (by decide)) (by decide) (rc_F F236 (Or.inl (by decide)) (by decide) (rfl)))))]; omega)), RDX.cq w251r (by rw [uC2c]; unfold ifN; rw [ifP_t (show 6 ≤ cx.rn by omega), ifP_t (w251q.mp (by omega)), g131pl])⟩
