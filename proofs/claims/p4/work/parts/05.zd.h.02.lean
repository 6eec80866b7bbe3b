set_option maxHeartbeats 4000000 in
set_option maxRecDepth 20000 in
theorem l_X5_take_f_36 (d : Nat) {T0 : CT} {σ0 : MS} {a : Nat} {Sx : Int → Int} {nx : Nat} {post : Option Value → CT → MS → Prop} (hw0 : WT T0 σ0) (hx_80 : ∀ (T : CT) (i3 : Int) (σ : MS) , (GT T0 T) → (WT T σ) → (FrC T0 [5, 6, 7, 8, 9, 10, 35, 38, 42, 43, 44, 45, 46, 47, 50, 51, 84, 85, 86, 87, 516, 517, 518, 519, 520, 521] σ0 σ) → (OB T a 5) → (0 ≤ i3 ∧ i3 ≤ 2147483647) → (True) → (True) → (TLF σ a Sx) → Tn (d + 79) m_X5_take 80 T σ [(0, .ref a), (3, .int (iI i3))] [] post) (hx_94 : ∀ (T : CT) (i3 : Int) (σ : MS) , (GT T0 T) → (WT T σ) → (FrC T0 [5, 6, 7, 8, 9, 10, 35, 38, 42, 43, 44, 45, 46, 47, 50, 51, 84, 85, 86, 87, 516, 517, 518, 519, 520, 521] σ0 σ) → (OB T a 5) → (0 ≤ i3 ∧ i3 ≤ 2147483647) → (True) → (True) → (TLX σ a Sx nx) → Tn (d + 79) m_X5_take 94 T σ [(0, .ref a), (3, .int (iI i3))] [] post) : ∀ (n : Nat) (T : CT) (i3 : Int) (σ : MS) , (GT T0 T) → (WT T σ) → (FrC T0 [5, 6, 7, 8, 9, 10, 35, 38, 42, 43, 44, 45, 46, 47, 50, 51, 84, 85, 86, 87, 516, 517, 518, 519, 520, 521] σ0 σ) → (OB T a 5) → (0 ≤ i3 ∧ i3 ≤ 2147483647) → (RT σ a) → (TLI σ a Sx nx (5 * i3)) → (2147483700 - i3).toNat = n → Tn (d + 79) m_X5_take 36 T σ [(0, .ref a), (3, .int (iI i3))] [] post := by
  intro n
  induction n using Nat.strongRecOn with
  | _ n ih =>
    intro T i3 σ hG hw hF h_a r_i3 hrt hx hm
    obtain ⟨jy, ey, Ny, loy, try9, hfy, h5y, hmy⟩ := hx
    have hSb := hfy.sb
    have hjn := RD0.jn hfy hw h_a
    have e38 := hfy.2.1.1.2.2.1
    have e45 := hfy.2.1.1.2.2.2.2
    have b38 := wf_38 hw h_a
    refine tn_iload_n dX5_take_36 rfl 1 rfl ?_
    refine tn_sipush dX5_take_37 (by decide) ?_
    refine tn_icmp_ge (tgt := 94) dX5_take_40 (by decide) ⟨by omega, by omega⟩ ⟨by decide, by decide⟩ (fun h1 => ?_) (fun h1 => ?_)
    · exact tn_sub [0, 1] rfl (hx_94 T (i3) σ hG hw (FrC.rfl.trans (FrC.sub hF (by decide))) h_a (by omega) True.intro True.intro (False.elim (by omega)))
    · refine tn_aload_n dX5_take_43 rfl 0 rfl ?_
      obtain ⟨x2, hx3, hk4⟩ : ∃ x : Nat, σ.2.1 33 a = (x : Int) ∧ (T x).1 = 39 := wf_33 hw h_a
      have hk4o : OB T x2 9 := ⟨by omega, by rw [hk4]; rfl, by omega⟩
      refine tn_getR (ci := 5) (i := 0) (n := 33) (x := x2) dX5_take_44 rfl lay_5 (by decide) fl5_12 h_a rfl rfl (hx3) ?_
      refine tn_getI (ci := 9) (i := 4) (n := 85) (t := σ.2.1 85 x2) dX5_take_47 rfl lay_9 (by decide) fl5_71 hk4o rfl rfl (rfl) ?_
      have g6 : ((-2147483648 : Int) ≤ σ.2.1 85 x2 ∧ σ.2.1 85 x2 ≤ 2147483647) := wf_85 hw hk4o
      have g6kd : σ.2.1 85 x2 = ckd (tkS Sx jy) := (rfl).symm.trans ((hfy).kd (hx3))
      refine tn_sipush dX5_take_50 (by decide) ?_
      refine tn_icmp_eq (tgt := 94) dX5_take_53 (by decide) ⟨by omega, by omega⟩ ⟨by decide, by decide⟩ (fun h7 => ?_) (fun h7 => ?_)
      · exact tn_sub [0, 1] rfl (hx_94 T (i3) σ hG hw (FrC.rfl.trans (FrC.sub hF (by decide))) h_a (by omega) True.intro True.intro ⟨jy, ey, Ny, try9, hfy, by omega⟩)
      · have hk9 : ckd (tkS Sx jy) ≠ 264 := by omega
        refine tn_aload_n dX5_take_56 rfl 0 rfl ?_
        refine tn_getR (ci := 5) (i := 0) (n := 33) (x := x2) dX5_take_57 rfl lay_5 (by decide) fl5_12 h_a rfl rfl (hx3) ?_
        refine tn_getI (ci := 9) (i := 6) (n := 87) (t := σ.2.1 87 x2) dX5_take_60 rfl lay_9 (by decide) fl5_74 hk4o rfl rfl (rfl) ?_
        have g8 : ((-2147483648 : Int) ≤ σ.2.1 87 x2 ∧ σ.2.1 87 x2 ≤ 2147483647) := wf_87 hw hk4o
        have g8pl : σ.2.1 87 x2 = (tkS Sx jy).1 := (rfl).symm.trans ((hfy).pl (hx3))
        refine tn_istore (L' := [(4, .int (iI (σ.2.1 87 x2))), (0, .ref a), (3, .int (iI i3))]) dX5_take_63 (by decide) rfl ?_
        refine tn_aload_n dX5_take_65 rfl 1 rfl ?_
        refine tn_callV (M := m_X5_take) (pc := 66) (ix := 75) (ci := 5) (M' := m_X5_header) (As := []) (rest := []) dX5_take_66 ok_X5_header im_X5_header se_X5_header ml5_75 np_X5_header rfl rfl h_a rfl (Nat.le_of_ble_eq_true rfl) (Nat.le_of_ble_eq_true rfl) rfl (k_X5_header_f (d + 73) (T := T) (σ := σ) (a := a) h_a hw hrt hfy h5y (by omega)) (fun r9 T11 σ10 gt12 hp => ?_)
        obtain ⟨v16, rfl, rfl, w17, F18, f13, f14, f15⟩ := hp
        clear gt12
        show Tn _ _ 69 T σ10 [(4, .int (iI (σ.2.1 87 x2))), (0, .ref a), (3, .int (iI i3))] [.int (iI v16)] _
        refine tn_if_eq (tgt := 80) dX5_take_69 (by decide) ⟨by omega, by omega⟩ (fun h19 => ?_) (fun h19 => ?_)
        · obtain ⟨pl20, g21, fx22⟩ := f15.2 (by omega)
          exact tn_sub [1, 2] rfl (hx_80 T (i3) σ10 hG w17 ((FrC.rfl.trans (FrC.sub hF (by decide))).trans (FrC.sub (FrC.old F18 hG) (by decide))) h_a (by omega) True.intro True.intro ⟨_, TR9.fh hSb try9 hk9 g21, fx22⟩)
        · have rp23 := f14 (by omega)
          obtain ⟨i24, es25, k26, lo27, hd28, fx29, fx29rn⟩ := f15.1 (by omega)
          have hd830 : σ10.2.1 38 a = (es25.foldl uC (ey.foldl uC c00)).rn := (rfl).symm.trans (fx29).1.2.1.1.2.2.1
          refine tn_aload_n dX5_take_72 rfl 1 rfl ?_
          refine tn_iconst dX5_take_73 ?_
          have q4531 : (es25.foldl uC (ey.foldl uC c00)).m = σ.2.1 45 a := (fx29.e45).symm.trans (rc_F F18 (Or.inl (by decide)) (by decide) (rfl))
          refine tn_callV (M := m_X5_take) (pc := 74) (ix := 79) (ci := 5) (M' := m_X5_block) (As := [.int (iI 1)]) (rest := []) dX5_take_74 ok_X5_block im_X5_block se_X5_block ml5_79 np_X5_block rfl rfl h_a rfl (Nat.le_of_ble_eq_true rfl) (Nat.le_of_ble_eq_true rfl) rfl (k_X5_block_f (d) (T := T) (σ := σ10) (a := a) (dp := 1) (kp := 4) (bx := 0) h_a (by decide) w17 (by omega) fx29 (by omega) (by rw [q4531]; omega) (by omega) rp23) (fun r32 T34 σ33 gt35 hp => ?_)
          obtain ⟨v39, rfl, w40, F41, f36, f37, f38⟩ := hp
          replace h_a : OB T34 a 5 := gt35.ob h_a
          have rp43 : RP σ33 a (- 10 * v39 + 6) := RP.up f38 (by omega)
          show Tn _ _ 77 T34 σ33 [(4, .int (iI (σ.2.1 87 x2))), (0, .ref a), (3, .int (iI i3))] [.int (iI v39)] _
          refine tn_if_ne (tgt := 82) dX5_take_77 (by decide) ⟨by omega, by omega⟩ (fun h44 => ?_) (fun h44 => ?_)
          · refine tn_aload_n dX5_take_82 rfl 1 rfl ?_
            refine tn_iload dX5_take_83 0 rfl ?_
            obtain ⟨i45, es46, m47, lo48, rr49, fx50, fx50m⟩ := f37.1 (by omega)
            have fx50s : σ33.2.1 45 a ≤ (i45 : Int) := by rw [fx50.e45]; exact fx50m
            have rd510 : GR Sx [28] i24 0 (0) u0 [28] i24 (0) (0) u0 (0) ([]) := GR.nl
            have rd51a : GR Sx [28] i24 0 (0) u0 [] i45 (0) (0) u0 (0 + m47) ([] ++ es46) := GR.gg (l := [28]) (ms := []) [] rd510 rr49
            have rd51 : GR Sx [28] i24 0 (0) u0 [] i45 (0) (0) u0 (0 + m47) (es46) := rd51a
            refine tn_callV (M := m_X5_take) (pc := 85) (ix := 83) (ci := 5) (M' := m_X5_closeRoutine) (As := [.int (iI (σ.2.1 87 x2))]) (rest := []) dX5_take_85 ok_X5_closeRoutine im_X5_closeRoutine se_X5_closeRoutine ml5_83 np_X5_closeRoutine rfl rfl h_a rfl (Nat.le_of_ble_eq_true rfl) (Nat.le_of_ble_eq_true rfl) rfl (k_X5_closeRoutine_f (d + 74) (T := T34) (σ := σ33) (a := a) (w := σ.2.1 87 x2) (kp := - 10 * v39 + 6) h_a (by omega) w40 fx50 (by omega) rp43) (fun r52 T54 σ53 gt55 hp => ?_)
            obtain ⟨rfl, w59, F60, f56, f57⟩ := hp
            replace h_a : OB T54 a 5 := gt55.ob h_a
            have rp62 : RP σ53 a (- 10 * v39 + 7) := RP.up f57 (by omega)
            have fx63 : RDX σ53 a Sx nx i45 ((ey ++ es25 ++ es46 ++ [(0, (tkS Sx jy).1, 0 + m47 + 1, 0)]).foldl uC c00) (0 + m47 + 1) := RDX.cq f56 (by rw [g8pl]; simp only [List.foldl_append, List.foldl_cons, List.foldl_nil])
            show Tn _ _ 88 T54 σ53 [(4, .int (iI (σ.2.1 87 x2))), (0, .ref a), (3, .int (iI i3))] [] _
            refine tn_iinc (q0 := 2) (L' := [(3, .int (iI (i3 + 1))), (4, .int (iI (σ.2.1 87 x2))), (0, .ref a)]) dX5_take_88 rfl (by decide) rfl ?_
            refine tn_goto (tgt := 36) dX5_take_91 (by decide) ?_
            have hx648 : ((ey ++ es25 ++ es46 ++ [(0, (tkS Sx jy).1, 0 + m47 + 1, 0)]).foldl uC c00).rn = σ10.2.1 38 a := (fx63.1.2.1.1.2.2.1).symm.trans (rc_F F60 (Or.inl (by decide)) (by decide) (rc_F F41 (Or.inl (by decide)) (by decide) (rfl)))
            have hx645 : ((ey ++ es25 ++ es46 ++ [(0, (tkS Sx jy).1, 0 + m47 + 1, 0)]).foldl uC c00).m = σ33.2.1 45 a := (fx63.e45).symm.trans (rc_F F60 (Or.inl (by decide)) (by decide) (rfl))
            have hx64h : σ10.2.1 38 a = (ey.foldl uC c00).rn + 1 := (hd830).trans fx29rn
            have hx64 : TLI σ53 a Sx nx (5 * (i3 + 1)) := ⟨i45, ey ++ es25 ++ es46 ++ [(0, (tkS Sx jy).1, 0 + m47 + 1, 0)], 0 + m47 + 1, by omega, TR9.on hSb try9 hk9 hd28 rr49, fx63.1, by rw [hx648]; omega, by rw [hx645]; omega⟩
            exact tn_sub [2, 0] rfl (ih _ (by omega) T54 (i3 + 1) σ53 (GT.trans (GT.trans hG gt35) gt55) w59 ((((FrC.rfl.trans (FrC.sub hF (by decide))).trans (FrC.sub (FrC.old F18 hG) (by decide))).trans (FrC.sub (FrC.old F41 hG) (by decide))).trans (FrC.sub (FrC.old F60 (GT.trans hG gt35)) (by decide))) h_a (by omega) (RP.rt rp62 w59 h_a) hx64 rfl)
          · obtain ⟨pl65, g66, fx67⟩ := f37.2 (by omega)
            have rf680 : GR Sx [28] i24 0 (0) u0 [28] i24 (0) (0) u0 (0) ([]) := GR.nl
            have rf68 : GRF Sx [28] i24 0 (0) u0 (pl65) := GR.fl (l := [28]) [] rf680 g66
            exact tn_sub [1, 2] rfl (hx_80 T34 (i3) σ33 (GT.trans hG gt35) w40 (((FrC.rfl.trans (FrC.sub hF (by decide))).trans (FrC.sub (FrC.old F18 hG) (by decide))).trans (FrC.sub (FrC.old F41 hG) (by decide))) h_a (by omega) True.intro True.intro ⟨_, TR9.fb hSb try9 hk9 hd28 rf68, fx67⟩)
set_option maxHeartbeats 4000000 in
set_option maxRecDepth 20000 in
theorem k_X5_take_f (d : Nat) {T : CT} {σ : MS} {a : Nat} {t : Nat} {n : Int} {fT Sx : Int → Int} (ha : OB T a 5) (h_t : (T t).1 = 2) (l_t : (T t).2 ≤ 1000000) (h_n : -2147483648 ≤ n ∧ n ≤ 2147483647) (hw : WT T σ) (ht : (T t).2 = 1200) (hn : 0 ≤ n ∧ n ≤ 1200) (hfT : RWE σ t fT n) (hB : BYT fT) (hSx : Sx = svC fT n) : Tn (d + 79) m_X5_take 0 T σ [(0, .ref a), (1, .ref t), (2, .int (iI n))] [] (fun ro T2 σ2 => ∃ v : Int, ro = some (.int (iI v)) ∧ WT T2 σ2 ∧ FrC T [5, 6, 7, 8, 9, 10, 35, 38, 42, 43, 44, 45, 46, 47, 50, 51, 84, 85, 86, 87, 512, 516, 517, 518, 519, 520, 521, 522, 523] σ σ2 ∧ (v = 0 ∨ v = 1) ∧ (TO9 σ2 a Sx v)) := by
  have hrow := hfT
  refine tn_aload_n dX5_take_0 rfl 0 rfl ?_
  refine tn_iconst dX5_take_1 ?_
  refine tn_putV (ci := 5) (i := 10) (n := 43) (r := false) (v := 0) tyX5 tyX5_ok nmX5 dX5_take_2 rfl lay_5 (by decide) fl5_51 rfl (tyX5_ok 10 (by decide)) rfl rfl rfl ha rfl rfl ?_
  refine tn_aload_n dX5_take_5 rfl 0 rfl ?_
  refine tn_iconst dX5_take_6 ?_
  refine tn_putV (ci := 5) (i := 11) (n := 44) (r := false) (v := -1) tyX5 tyX5_ok nmX5 dX5_take_7 rfl lay_5 (by decide) fl5_55 rfl (tyX5_ok 11 (by decide)) rfl rfl rfl ha rfl rfl ?_
  refine tn_aload_n dX5_take_10 rfl 0 rfl ?_
  refine tn_iconst dX5_take_11 ?_
  refine tn_putV (ci := 5) (i := 5) (n := 38) (r := false) (v := 0) tyX5 tyX5_ok nmX5 dX5_take_12 rfl lay_5 (by decide) fl5_58 rfl (tyX5_ok 5 (by decide)) rfl rfl rfl ha rfl rfl ?_
  refine tn_aload_n dX5_take_15 rfl 0 rfl ?_
  refine tn_iconst dX5_take_16 ?_
  refine tn_putV (ci := 5) (i := 9) (n := 42) (r := false) (v := 0) tyX5 tyX5_ok nmX5 dX5_take_17 rfl lay_5 (by decide) fl5_61 rfl (tyX5_ok 9 (by decide)) rfl rfl rfl ha rfl rfl ?_
  refine tn_aload_n dX5_take_20 rfl 0 rfl ?_
  refine tn_iconst dX5_take_21 ?_
  refine tn_putV (ci := 5) (i := 12) (n := 45) (r := false) (v := 0) tyX5 tyX5_ok nmX5 dX5_take_22 rfl lay_5 (by decide) fl5_64 rfl (tyX5_ok 12 (by decide)) rfl rfl rfl ha rfl rfl ?_
  refine tn_aload_n dX5_take_25 rfl 0 rfl ?_
  obtain ⟨x1, hx2, hk3⟩ : ∃ x : Nat, σ.2.1 33 a = (x : Int) ∧ (T x).1 = 39 := wf_33 hw ha
  have hk3o : OB T x1 9 := ⟨by omega, by rw [hk3]; rfl, by omega⟩
  refine tn_getR (ci := 5) (i := 0) (n := 33) (x := x1) dX5_take_26 rfl lay_5 (by decide) fl5_12 ha rfl rfl (rc_o (by decide) (rc_o (by decide) (rc_o (by decide) (rc_o (by decide) (rc_o (by decide) (hx2)))))) ?_
  refine tn_aload_n dX5_take_29 rfl 1 rfl ?_
  refine tn_iload_n dX5_take_30 rfl 2 rfl ?_
  refine tn_callV (M := m_X5_take) (pc := 31) (ix := 67) (ci := 9) (M' := m_X9_scan) (As := [.ref t, .int (iI n)]) (rest := []) dX5_take_31 ok_X9_scan im_X9_scan se_X9_scan ml5_67 np_X9_scan rfl rfl hk3o rfl (Nat.le_of_ble_eq_true rfl) (Nat.le_of_ble_eq_true rfl) rfl (k_X9_scan_f (d + 75) (T := T) (σ := (sA 45 a (0) (sA 42 a (0) (sA 38 a (0) (sA 44 a (-1) (sA 43 a (0) σ)))))) (a := x1) (t := t) (n := n) hk3o h_t (by omega) (by omega) (((((hw.put (by decide) (by decide) (fo_43 (by omega))).put (by decide) (by decide) (fo_44 (by omega))).put (by decide) (by decide) (fo_38 (by omega))).put (by decide) (by decide) (fo_42 (by omega))).put (by decide) (by decide) (fo_45 (by omega))) ht hn (RWE.cg (RWE.cg (RWE.cg (RWE.cg (RWE.cg hrow (sA_k (by omega))) (sA_k (by omega))) (sA_k (by omega))) (sA_k (by omega))) (sA_k (by omega))) hB hSx) (fun r5 T7 σ6 gt8 hp => ?_)
  obtain ⟨rfl, rfl, w12, F13, f9, f10⟩ := hp
  clear gt8
  obtain ⟨m14, m14t⟩ := f10
  show Tn _ _ 34 T σ6 [(0, .ref a), (1, .ref t), (2, .int (iI n))] [] _
  refine tn_iconst dX5_take_34 ?_
  refine tn_istore_n (L' := [(3, .int (iI 0)), (0, .ref a), (1, .ref t), (2, .int (iI n))]) dX5_take_35 rfl (by decide) rfl ?_
  have q16 : σ6.2.1 43 a = 0 := rc_F F13 (Or.inl (by decide)) (by decide) (rc_o (by decide) (rc_o (by decide) (rc_o (by decide) (rc_o (by decide) (ra_eq)))))
  have q17 : σ6.2.1 44 a = -1 := rc_F F13 (Or.inl (by decide)) (by decide) (rc_o (by decide) (rc_o (by decide) (rc_o (by decide) (ra_eq))))
  have q18 : σ6.2.1 38 a = 0 := rc_F F13 (Or.inl (by decide)) (by decide) (rc_o (by decide) (rc_o (by decide) (ra_eq)))
  have q19 : σ6.2.1 42 a = 0 := rc_F F13 (Or.inl (by decide)) (by decide) (rc_o (by decide) (ra_eq))
  have q20 : σ6.2.1 45 a = 0 := rc_F F13 (Or.inl (by decide)) (by decide) (ra_eq)
  have w15k : TKR σ6 a Sx m14 0 := ⟨by rw [hSx]; exact svC_sb hB, fun t ht => by
    have e : t = x1 := by have q9 := (rc_F F13 (Or.inl (by decide)) (by decide) (rc_o (by decide) (rc_o (by decide) (rc_o (by decide) (rc_o (by decide) (rc_o (by decide) (hx2))))))); omega
    rw [e]; exact m14t⟩
  have w15c : CS0 σ6 a c00 := ⟨⟨q16, q17, q18, q19, q20⟩, fun _ _ i h1 h2 => absurd (show i < 0 from h2) (by omega), fun _ _ i h1 h2 => absurd (show i < 0 from h2) (by omega), fun _ _ i h1 h2 => absurd (show i < 0 from h2) (by omega), fun _ _ i h1 h2 => absurd (show i < 0 from h2) (by omega), fun _ _ i h1 h2 => absurd (show i < 0 from h2) (by omega)⟩
  have w15 : TLI σ6 a Sx m14 (5 * (0)) := ⟨0, [], 0, by omega, TR9.nl, ⟨w15k, w15c, by unfold PO; show (6 * (0 : Int) ≤ ((0 : Nat) : Int)) ∧ (5 * (0 : Int) ≤ ((0 : Nat) : Int) + 5) ∧ ((0 : Int) ≤ 0) ∧ ((0 : Int) ≤ ((0 : Nat) : Int) + 1); omega⟩, by show 5 * (0 : Int) ≤ ((0 : Nat) : Int); omega, by show (0 : Int) ≤ ((0 : Nat) : Int); omega⟩
  refine tn_sub [1, 0] rfl (l_X5_take_f_36 (d) (σ0 := σ6) (T0 := T) (a := a) (Sx := Sx) (nx := m14) w12 (fun T23 i321 σ22 gt24 w25 F26 q27 r28 f29 f30 f31 => ?_) (fun T34 i332 σ33 gt35 w36 F37 q38 r39 f40 f41 f42 => ?_) _ T (0) σ6 GT.rfl w12 FrC.rfl ha (by omega) (RT.of (rc_F F13 (Or.inl (by decide)) (by decide) (rc_o (by decide) (rc_o (by decide) (rc_o (by decide) (rc_o (by decide) (rc_o (by decide) (hx2))))))) f9) w15 rfl)
  · show Tn _ _ 80 T23 σ22 [(0, .ref a), (3, .int (iI i321))] [] _
    refine tn_iconst dX5_take_80 ?_
    exact tn_zret (v := 0) rfl (by decide) dX5_take_81 ⟨_, rfl, w25, (((((((FrC.rfl.put (by decide) (by decide)).put (by decide) (by decide)).put (by decide) (by decide)).put (by decide) (by decide)).put (by decide) (by decide)).trans (FrC.sub F13 (by decide))).trans (FrC.sub F26 (by decide))), by omega, TLF.to f31 rfl⟩
  · obtain ⟨i43, es44, N45, tr46, fx47, hk48⟩ := f42
    have hSb := fx47.sb
    show Tn _ _ 94 T34 σ33 [(0, .ref a), (3, .int (iI i332))] [] _
    refine tn_aload_n dX5_take_94 rfl 0 rfl ?_
    refine tn_callV (M := m_X5_take) (pc := 95) (ix := 87) (ci := 5) (M' := m_X5_settleCalls) (As := []) (rest := []) dX5_take_95 ok_X5_settleCalls im_X5_settleCalls se_X5_settleCalls ml5_87 np_X5_settleCalls rfl rfl q38 rfl (Nat.le_of_ble_eq_true rfl) (Nat.le_of_ble_eq_true rfl) rfl (k_X5_settleCalls_f (d + 75) (T := T34) (σ := σ33) (a := a) q38 w36 fx47) (fun r49 T51 σ50 gt52 hp => ?_)
    obtain ⟨v55, rfl, rfl, w56, F57, f53, f54⟩ := hp
    clear gt52
    show Tn _ _ 98 T34 σ50 [(0, .ref a), (3, .int (iI i332))] [.int (iI v55)] _
    exact tn_zret (v := v55) rfl (by omega) dX5_take_98 ⟨_, rfl, w56, ((((((((FrC.rfl.put (by decide) (by decide)).put (by decide) (by decide)).put (by decide) (by decide)).put (by decide) (by decide)).put (by decide) (by decide)).trans (FrC.sub F13 (by decide))).trans (FrC.sub F37 (by decide))).trans (FrC.sub (FrC.old F57 gt35) (by decide))), by omega, TO9.ok hSb tr46 hk48 f54⟩
