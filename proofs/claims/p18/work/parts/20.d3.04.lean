set_option maxHeartbeats 4000000 in
set_option maxRecDepth 20000 in
theorem l_X11_read_g_75 (d : Nat) {T0 : CT} {σ0 : MS} {a : Nat} {post : Option Value → CT → MS → Prop} (hw0 : WT T0 σ0) (hx_94 : ∀ (T : CT) (i2 : Int) (σ : MS) , (GT T0 T) → (WT T σ) → (FrC T0 [5, 6, 7, 8, 9, 10] σ0 σ) → (OB T a 11) → (0 ≤ i2 ∧ i2 ≤ 2147483647) → Tn (d + 80) m_X11_read 94 T σ [(0, .ref a), (2, .int (iI i2))] [] post) : ∀ (n : Nat) (T : CT) (i2 : Int) (σ : MS) , (GT T0 T) → (WT T σ) → (FrC T0 [5, 6, 7, 8, 9, 10] σ0 σ) → (OB T a 11) → (0 ≤ i2 ∧ i2 ≤ 2147483647) → (2147483700 - i2).toNat = n → Tn (d + 80) m_X11_read 75 T σ [(0, .ref a), (2, .int (iI i2))] [] post := by
  intro n
  induction n using Nat.strongRecOn with
  | _ n ih =>
    intro T i2 σ hG hw hF h_a r_i2 hm
    refine tn_iload_n dX11_read_75 rfl 1 rfl ?_
    refine tn_aload_n dX11_read_76 rfl 0 rfl ?_
    refine tn_getI (ci := 11) (i := 2) (n := 97) (t := σ.2.1 97 a) dX11_read_77 rfl lay_11 (by decide) fl11_116 h_a rfl rfl (rfl) ?_
    have g1 : ((0 : Int) ≤ σ.2.1 97 a ∧ σ.2.1 97 a ≤ 6) := wf_97 hw h_a
    refine tn_icmp_ge (tgt := 94) dX11_read_80 (by decide) ⟨by omega, by omega⟩ ⟨by omega, by omega⟩ (fun h2 => ?_) (fun h2 => ?_)
    · exact tn_sub [0, 1] rfl (hx_94 T (i2) σ hG hw (FrC.rfl.trans (FrC.sub hF (by decide))) h_a (by omega))
    · refine tn_aload_n dX11_read_83 rfl 0 rfl ?_
      refine tn_iload_n dX11_read_84 rfl 1 rfl ?_
      refine tn_callV (M := m_X11_read) (pc := 85) (ix := 117) (ci := 11) (M' := m_X11_takeMade) (As := [.int (iI i2)]) (rest := []) dX11_read_85 ok_X11_takeMade im_X11_takeMade se_X11_takeMade ml11_117 np_X11_takeMade rfl rfl h_a rfl (Nat.le_of_ble_eq_true rfl) (Nat.le_of_ble_eq_true rfl) rfl (k_X11_takeMade (d + 75) (T := T) (σ := σ) (a := a) (r := i2) h_a (by omega) hw ) (fun r3 T5 σ4 gt6 hp => ?_)
      obtain ⟨rfl, w8, F9⟩ := hp
      replace h_a : OB T5 a 11 := gt6.ob h_a
      show Tn _ _ 88 T5 σ4 [(0, .ref a), (2, .int (iI i2))] [] _
      refine tn_iinc (q0 := 1) (L' := [(2, .int (iI (i2 + 1))), (0, .ref a)]) dX11_read_88 rfl (by decide) rfl ?_
      refine tn_goto (tgt := 75) dX11_read_91 (by decide) ?_
      exact tn_sub [1, 0] rfl (ih _ (by omega) T5 (i2 + 1) σ4 (GT.trans hG gt6) w8 ((FrC.rfl.trans (FrC.sub hF (by decide))).trans (FrC.sub (FrC.old F9 hG) (by decide))) h_a (by omega) rfl)
set_option maxHeartbeats 4000000 in
set_option maxRecDepth 20000 in
theorem k_X11_read_g (d : Nat) {T : CT} {σ : MS} {a : Nat} {fT Sx : Int → Int} (ha : OB T a 11) (hw : WT T σ) (hrw : ∀ x : Nat, σ.2.1 95 a = (x : Int) → RWE σ x fT (σ.2.1 96 a)) (hB : BYT fT) (hSx : Sx = svC fT (σ.2.1 96 a)) : Tn (d + 80) m_X11_read 0 T σ [(0, .ref a)] [] (fun ro T2 σ2 => ∃ v : Int, ro = some (.int (iI v)) ∧ WT T2 σ2 ∧ FrC T [5, 6, 7, 8, 9, 10, 35, 38, 42, 43, 44, 45, 46, 47, 50, 51, 56, 84, 85, 86, 87, 96, 97, 104, 105, 512, 516, 517, 518, 519, 520, 521, 522, 523] σ σ2 ∧ (-2147483648 ≤ v ∧ v ≤ 2147483647) ∧ (σ2.2.1 96 a = 0) ∧ (RQ9 Sx v (σ2.2.1 104 a) (σ2.2.1 105 a) (σ.2.1 97 a) (σ2.2.1 97 a))) := by
  have h96b := (wf_96 hw ha)
  refine tn_aload_n dX11_read_0 rfl 0 rfl ?_
  obtain ⟨x1, hx2, hk3⟩ : ∃ x : Nat, σ.2.1 100 a = (x : Int) ∧ (T x).1 = 35 := wf_100 hw ha
  have hk3o : OB T x1 5 := ⟨by omega, by rw [hk3]; rfl, by omega⟩
  refine tn_getR (ci := 11) (i := 5) (n := 100) (x := x1) dX11_read_1 rfl lay_11 (by decide) fl11_25 ha rfl rfl (hx2) ?_
  have hr100 : σ.2.1 100 a = (x1 : Int) := hx2
  refine tn_aload_n dX11_read_4 rfl 0 rfl ?_
  obtain ⟨x5, hx6, hk7, hl8⟩ : ∃ x : Nat, σ.2.1 95 a = (x : Int) ∧ AR T x 2 1200 1200 := wf_95 hw ha
  refine tn_getR (ci := 11) (i := 0) (n := 95) (x := x5) dX11_read_5 rfl lay_11 (by decide) fl11_9 ha rfl rfl (hx6) ?_
  refine tn_aload_n dX11_read_8 rfl 0 rfl ?_
  refine tn_getI (ci := 11) (i := 1) (n := 96) (t := σ.2.1 96 a) dX11_read_9 rfl lay_11 (by decide) fl11_87 ha rfl rfl (rfl) ?_
  have g9 : ((0 : Int) ≤ σ.2.1 96 a ∧ σ.2.1 96 a ≤ 1200) := wf_96 hw ha
  refine tn_callV (M := m_X11_read) (pc := 12) (ix := 94) (ci := 5) (M' := m_X5_take) (As := [.ref x5, .int (iI (σ.2.1 96 a))]) (rest := []) dX11_read_12 ok_X5_take im_X5_take se_X5_take ml11_94 np_X5_take rfl rfl hk3o rfl (Nat.le_of_ble_eq_true rfl) (Nat.le_of_ble_eq_true rfl) rfl (k_X5_take_f (d) (T := T) (σ := σ) (a := x1) (t := x5) (n := σ.2.1 96 a) hk3o hk7 (by omega) (by omega) hw (by have q9 := hl8; omega) (by omega) (hrw x5 (hx6)) hB hSx) (fun r10 T12 σ11 gt13 hp => ?_)
  obtain ⟨v16, rfl, w17, F18, f14, f15⟩ := hp
  replace ha : OB T12 a 11 := gt13.ob ha
  show Tn _ _ 15 T12 σ11 [(0, .ref a)] [.int (iI v16)] _
  refine tn_istore_n (L' := [(1, .int (iI v16)), (0, .ref a)]) dX11_read_15 rfl (by decide) rfl ?_
  refine tn_aload_n dX11_read_16 rfl 1 rfl ?_
  refine tn_iconst dX11_read_17 ?_
  refine tn_putV (ci := 11) (i := 1) (n := 96) (r := false) (v := 0) tyX11 tyX11_ok nmX11 dX11_read_18 rfl lay_11 (by decide) fl11_87 rfl (tyX11_ok 1 (by decide)) rfl rfl rfl ha rfl rfl ?_
  refine tn_aload_n dX11_read_21 rfl 1 rfl ?_
  refine tn_aload_n dX11_read_22 rfl 1 rfl ?_
  obtain ⟨x19, hx20, hk21⟩ : ∃ x : Nat, σ11.2.1 100 a = (x : Int) ∧ (T12 x).1 = 35 := wf_100 w17 ha
  have hk21o : OB T12 x19 5 := ⟨by omega, by rw [hk21]; rfl, by omega⟩
  refine tn_getR (ci := 11) (i := 5) (n := 100) (x := x19) dX11_read_23 rfl lay_11 (by decide) fl11_25 ha rfl rfl (rc_o (by decide) (hx20)) ?_
  refine tn_getI (ci := 5) (i := 10) (n := 43) (t := σ11.2.1 43 x19) dX11_read_26 rfl lay_5 (by decide) fl11_98 hk21o rfl rfl (rc_o (by decide) (rfl)) ?_
  have g23 : ((-2147483648 : Int) ≤ σ11.2.1 43 x19 ∧ σ11.2.1 43 x19 ≤ 2147483647) := wf_43 w17 hk21o
  refine tn_putV (ci := 11) (i := 9) (n := 104) (r := false) (v := σ11.2.1 43 x19) tyX11 tyX11_ok nmX11 dX11_read_29 rfl lay_11 (by decide) fl11_101 rfl (tyX11_ok 9 (by decide)) rfl rfl rfl ha rfl rfl ?_
  refine tn_aload_n dX11_read_32 rfl 1 rfl ?_
  refine tn_iload_n dX11_read_33 rfl 0 rfl ?_
  refine tn_if_eq (tgt := 41) dX11_read_34 (by decide) ⟨by omega, by omega⟩ (fun h24 => ?_) (fun h24 => ?_)
  · refine tn_aload_n dX11_read_41 rfl 1 rfl ?_
    refine tn_getR (ci := 11) (i := 5) (n := 100) (x := x19) dX11_read_42 rfl lay_11 (by decide) fl11_25 ha rfl rfl (rc_o (by decide) (rc_o (by decide) (hx20))) ?_
    refine tn_getI (ci := 5) (i := 11) (n := 44) (t := σ11.2.1 44 x19) dX11_read_45 rfl lay_5 (by decide) fl11_104 hk21o rfl rfl (rc_o (by decide) (rc_o (by decide) (rfl))) ?_
    have g25 : ((-2147483648 : Int) ≤ σ11.2.1 44 x19 ∧ σ11.2.1 44 x19 ≤ 2147483647) := wf_44 w17 hk21o
    refine tn_putV (ci := 11) (i := 10) (n := 105) (r := false) (v := σ11.2.1 44 x19) tyX11 tyX11_ok nmX11 dX11_read_48 rfl lay_11 (by decide) fl11_43 rfl (tyX11_ok 10 (by decide)) rfl rfl rfl ha rfl rfl ?_
    refine tn_iload_n dX11_read_51 rfl 0 rfl ?_
    refine tn_if_ne (tgt := 57) dX11_read_52 (by decide) ⟨by omega, by omega⟩ (fun h26 => absurd h26 (by omega)) (fun h26 => ?_)
    refine tn_iconst dX11_read_55 ?_
    have q28 : (sA 105 a (σ11.2.1 44 x19) (sA 104 a (σ11.2.1 43 x19) (sA 96 a (0) σ11))).2.1 96 a = 0 := rc_o (by decide) (rc_o (by decide) (ra_eq))
    have w274 : (sA 105 a (σ11.2.1 44 x19) (sA 104 a (σ11.2.1 43 x19) (sA 96 a (0) σ11))).2.1 104 a = σ11.2.1 43 x19 := rc_o (by decide) (ra_eq)
    have w275 : (sA 105 a (σ11.2.1 44 x19) (sA 104 a (σ11.2.1 43 x19) (sA 96 a (0) σ11))).2.1 105 a = σ11.2.1 44 x19 := ra_eq
    have w277 : (sA 105 a (σ11.2.1 44 x19) (sA 104 a (σ11.2.1 43 x19) (sA 96 a (0) σ11))).2.1 97 a = σ.2.1 97 a := rc_o (by decide) (rc_o (by decide) (rc_o (by decide) (rc_F F18 (Or.inl (by decide)) (by decide) (rfl))))
    have w27r : σ11.2.1 100 a = (x1 : Int) := rc_F F18 (Or.inl (by decide)) (by decide) hr100
    have w27x19 : x19 = x1 := by omega
    exact tn_iret rfl dX11_read_56 ⟨_, rfl, (((w17.put (by decide) (by decide) (fo_96 (by omega))).put (by decide) (by decide) (fo_104 (by omega))).put (by decide) (by decide) (fo_105 (by omega))), ((((FrC.rfl.trans (FrC.sub F18 (by decide))).put (by decide) (by decide)).put (by decide) (by decide)).put (by decide) (by decide)), by omega, by omega, RQ9.of f15 f14 (by rw [w274, w27x19]) (fun _ => ⟨rfl, by rw [w275, w27x19], w277⟩) (fun q => absurd q (by omega))⟩
  · refine tn_iconst dX11_read_37 ?_
    refine tn_goto (tgt := 48) dX11_read_38 (by decide) ?_
    refine tn_putV (ci := 11) (i := 10) (n := 105) (r := false) (v := -1) tyX11 tyX11_ok nmX11 dX11_read_48 rfl lay_11 (by decide) fl11_43 rfl (tyX11_ok 10 (by decide)) rfl rfl rfl ha rfl rfl ?_
    refine tn_iload_n dX11_read_51 rfl 0 rfl ?_
    refine tn_if_ne (tgt := 57) dX11_read_52 (by decide) ⟨by omega, by omega⟩ (fun h29 => ?_) (fun h29 => absurd h29 (by omega))
    refine tn_aload_n dX11_read_57 rfl 1 rfl ?_
    refine tn_aload_n dX11_read_58 rfl 1 rfl ?_
    refine tn_getR (ci := 11) (i := 5) (n := 100) (x := x19) dX11_read_59 rfl lay_11 (by decide) fl11_25 ha rfl rfl (rc_o (by decide) (rc_o (by decide) (rc_o (by decide) (hx20)))) ?_
    refine tn_getI (ci := 5) (i := 5) (n := 38) (t := σ11.2.1 38 x19) dX11_read_62 rfl lay_5 (by decide) fl11_107 hk21o rfl rfl (rc_o (by decide) (rc_o (by decide) (rc_o (by decide) (rfl)))) ?_
    have g30 : ((0 : Int) ≤ σ11.2.1 38 x19 ∧ σ11.2.1 38 x19 ≤ 256) := wf_38 w17 hk21o
    refine tn_bipush dX11_read_65 (by decide) ?_
    refine tn_mmin (x := σ11.2.1 38 x19) (y := 6) dX11_read_67 mlm11_110 stM_min iniM cdM_min (by omega) (Nat.le_of_ble_eq_true rfl) ⟨by omega, by omega⟩ ⟨by omega, by omega⟩ (fun z31 g32 => ?_)
    have mn33r : σ11.2.1 100 a = (x1 : Int) := rc_F F18 (Or.inl (by decide)) (by decide) hr100
    have mn33e : x19 = x1 := by have q9 := (hx20); omega
    have mn33 : z31 = (if σ11.2.1 38 x1 ≤ 6 then σ11.2.1 38 x1 else 6) := min6 (by rw [← mn33e]; omega)
    refine tn_putV (ci := 11) (i := 2) (n := 97) (r := false) (v := z31) tyX11 tyX11_ok nmX11 dX11_read_70 rfl lay_11 (by decide) fl11_116 rfl (tyX11_ok 2 (by decide)) rfl rfl rfl ha rfl rfl ?_
    refine tn_iconst dX11_read_73 ?_
    refine tn_istore_n (L' := [(2, .int (iI 0)), (1, .int (iI v16)), (0, .ref a)]) dX11_read_74 rfl (by decide) rfl ?_
    refine tn_sub [2, 0] rfl (l_X11_read_g_75 (d) (σ0 := (sA 97 a (z31) (sA 105 a (-1) (sA 104 a (σ11.2.1 43 x19) (sA 96 a (0) σ11))))) (T0 := T12) (a := a) ((((w17.put (by decide) (by decide) (fo_96 (by omega))).put (by decide) (by decide) (fo_104 (by omega))).put (by decide) (by decide) (fo_105 (by omega))).put (by decide) (by decide) (fo_97 (by omega))) (fun T36 i234 σ35 gt37 w38 F39 q40 r41 => ?_) _ T12 (0) (sA 97 a (z31) (sA 105 a (-1) (sA 104 a (σ11.2.1 43 x19) (sA 96 a (0) σ11)))) GT.rfl ((((w17.put (by decide) (by decide) (fo_96 (by omega))).put (by decide) (by decide) (fo_104 (by omega))).put (by decide) (by decide) (fo_105 (by omega))).put (by decide) (by decide) (fo_97 (by omega))) FrC.rfl ha (by omega) rfl)
    show Tn _ _ 94 T36 σ35 [(0, .ref a), (2, .int (iI i234))] [] _
    refine tn_aload_n dX11_read_94 rfl 0 rfl ?_
    obtain ⟨x42, hx43, hk44⟩ : ∃ x : Nat, σ35.2.1 103 a = (x : Int) ∧ (T36 x).1 = 37 := wf_103 w38 q40
    have hk44o : OB T36 x42 7 := ⟨by omega, by rw [hk44]; rfl, by omega⟩
    refine tn_getR (ci := 11) (i := 8) (n := 103) (x := x42) dX11_read_95 rfl lay_11 (by decide) fl11_83 q40 rfl rfl (hx43) ?_
    refine tn_callV (M := m_X11_read) (pc := 98) (ix := 120) (ci := 7) (M' := m_X7_forget) (As := []) (rest := []) dX11_read_98 ok_X7_forget im_X7_forget se_X7_forget ml11_120 np_X7_forget rfl rfl hk44o rfl (Nat.le_of_ble_eq_true rfl) (Nat.le_of_ble_eq_true rfl) rfl (k_X7_forget (d + 78) (T := T36) (σ := σ35) (a := x42) hk44o w38 ) (fun r46 T48 σ47 gt49 hp => ?_)
    obtain ⟨rfl, rfl, w51, F52⟩ := hp
    clear gt49
    show Tn _ _ 101 T36 σ47 [(0, .ref a), (2, .int (iI i234))] [] _
    refine tn_aload_n dX11_read_101 rfl 0 rfl ?_
    refine tn_getI (ci := 11) (i := 2) (n := 97) (t := σ35.2.1 97 a) dX11_read_102 rfl lay_11 (by decide) fl11_116 q40 rfl rfl (rc_F F52 (Or.inl (by decide)) (by decide) (rfl)) ?_
    have g53 : ((0 : Int) ≤ σ35.2.1 97 a ∧ σ35.2.1 97 a ≤ 6) := wf_97 w38 q40
    have q55 : σ47.2.1 96 a = 0 := rc_F F52 (Or.inl (by decide)) (by decide) (rc_F F39 (Or.inl (by decide)) (by decide) (rc_o (by decide) (rc_o (by decide) (rc_o (by decide) (ra_eq)))))
    have w544 : σ47.2.1 104 a = σ11.2.1 43 x19 := rc_F F52 (Or.inl (by decide)) (by decide) (rc_F F39 (Or.inl (by decide)) (by decide) (rc_o (by decide) (rc_o (by decide) (ra_eq))))
    have w545 : σ47.2.1 105 a = -1 := rc_F F52 (Or.inl (by decide)) (by decide) (rc_F F39 (Or.inl (by decide)) (by decide) (rc_o (by decide) (ra_eq)))
    have w547 : σ47.2.1 97 a = z31 := rc_F F52 (Or.inl (by decide)) (by decide) (rc_F F39 (Or.inl (by decide)) (by decide) (ra_eq))
    have w54r : σ11.2.1 100 a = (x1 : Int) := rc_F F18 (Or.inl (by decide)) (by decide) hr100
    have w54x19 : x19 = x1 := by omega
    have w54q : σ35.2.1 97 a = z31 := rc_F F39 (Or.inl (by decide)) (by decide) (ra_eq)
    exact tn_iret rfl dX11_read_105 ⟨_, rfl, w51, (((((((FrC.rfl.trans (FrC.sub F18 (by decide))).put (by decide) (by decide)).put (by decide) (by decide)).put (by decide) (by decide)).put (by decide) (by decide)).trans (FrC.sub (FrC.old F39 gt13) (by decide))).trans (FrC.sub (FrC.old F52 (GT.trans gt13 gt37)) (by decide))), by omega, by omega, RQ9.of f15 f14 (by rw [w544, w54x19]) (fun q => absurd q (by omega)) (fun _ => ⟨w54q.trans mn33, w545, w547.trans w54q.symm⟩)⟩
