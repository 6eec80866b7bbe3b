section
set_option maxHeartbeats 1000000 in
set_option maxRecDepth 20000 in
theorem l_X5_take_m_36 (d : Nat) {T0 : CT} {σ0 : MS} {a : Nat} {Sx : Int → Int} {nx : Nat} {Sj : Nat → Prop} {E : Int → Nat} {nm : Int → Int64 → Int} {z0 : MK} {Tq : CT} {sq : MS} {post : Option Value → CT → MS → Prop} (hw0 : WT T0 σ0) (hx_80 : ∀ (T : CT) (i3 : Int) (σ : MS) , (GT T0 T) → (WT T σ) → (FrC T0 [5, 6, 7, 8, 9, 10, 35, 38, 42, 43, 44, 45, 46, 47, 50, 51, 84, 85, 86, 87, 516, 517, 518, 519, 520, 521] σ0 σ) → (OB T a 5) → (0 ≤ i3 ∧ i3 ≤ 2147483647) → (True) → (True) → (TLF σ a Sx) → (INJ Sj T σ ∧ SPX Sj E T σ a ∧ FRT Sj Tq sq T σ) → Tn (d + 79) m_X5_take 80 T σ [(0, .ref a), (3, .int (iI i3))] [] post) (hx_94 : ∀ (T : CT) (i3 : Int) (σ : MS) , (GT T0 T) → (WT T σ) → (FrC T0 [5, 6, 7, 8, 9, 10, 35, 38, 42, 43, 44, 45, 46, 47, 50, 51, 84, 85, 86, 87, 516, 517, 518, 519, 520, 521] σ0 σ) → (OB T a 5) → (0 ≤ i3 ∧ i3 ≤ 2147483647) → (True) → (True) → (TLZ Sj E nm z0 Tq sq T σ a Sx nx) → Tn (d + 79) m_X5_take 94 T σ [(0, .ref a), (3, .int (iI i3))] [] post) : ∀ (n : Nat) (T : CT) (i3 : Int) (σ : MS) , (GT T0 T) → (WT T σ) → (FrC T0 [5, 6, 7, 8, 9, 10, 35, 38, 42, 43, 44, 45, 46, 47, 50, 51, 84, 85, 86, 87, 516, 517, 518, 519, 520, 521] σ0 σ) → (OB T a 5) → (0 ≤ i3 ∧ i3 ≤ 2147483647) → (RT σ a) → (TLM Sj E nm z0 Tq sq T σ a Sx nx (5 * (i3))) → (2147483700 - i3).toNat = n → Tn (d + 79) m_X5_take 36 T σ [(0, .ref a), (3, .int (iI i3))] [] post := by
  intro n
  induction n using Nat.strongRecOn with
  | _ n ih =>
    intro T i3 σ hG hw hF h_a r_i3 hrt hx hm
    obtain ⟨hIy, hPy, hFy, jy, ey, Ny, mzy, Pfy, loy, try9, hfy, h5y, hmy, htc⟩ := hx
    have hSb := hfy.sb
    have hjn := RD0.jn hfy hw h_a
    have e38 := hfy.2.1.1.2.2.1
    have e45 := hfy.2.1.1.2.2.2.2
    have b38 := wf_38 hw h_a
    obtain ⟨mx, hmx9⟩ : ∃ z, z = mzy.e35 := ⟨_, rfl⟩
    have haq : OB T a 5 := h_a
    have hwq : WT T σ := hw
    refine tn_iload_n dX5_take_36 rfl 1 rfl ?_
    refine tn_sipush dX5_take_37 (by decide) ?_
    refine tn_icmp_ge (tgt := 94) dX5_take_40 (by decide) ⟨by omega, by omega⟩ ⟨by decide, by decide⟩ (fun h1 => ?_) (fun h1 => ?_)
    · exact tn_sub [0, 1] rfl (hx_94 T (i3) σ hG hw (FrC.rfl.trans (FrC.sub hF (by decide))) h_a (by omega) True.intro True.intro (False.elim (by omega)))
    · refine tn_aload_n dX5_take_43 rfl 0 rfl ?_
      obtain ⟨xq2, hx3, hk4⟩ : ∃ x : Nat, σ.2.1 33 a = (x : Int) ∧ (T x).1 = 39 := wf_33 hw h_a
      have hk4o : OB T xq2 9 := ⟨by omega, by rw [hk4]; rfl, by omega⟩
      refine tn_getR (ci := 5) (i := 0) (n := 33) (x := xq2) dX5_take_44 rfl lay_5 (by decide) fl5_12 h_a rfl rfl (hx3) ?_
      refine tn_getI (ci := 9) (i := 4) (n := 85) (t := σ.2.1 85 xq2) dX5_take_47 rfl lay_9 (by decide) fl5_71 hk4o rfl rfl (rfl) ?_
      have g6 : ((-2147483648 : Int) ≤ σ.2.1 85 xq2 ∧ σ.2.1 85 xq2 ≤ 2147483647) := wf_85 hw hk4o
      have g6kd : σ.2.1 85 xq2 = ckd (tkS Sx jy) := (rfl).symm.trans ((hfy).kd (hx3))
      refine tn_sipush dX5_take_50 (by decide) ?_
      refine tn_icmp_eq (tgt := 94) dX5_take_53 (by decide) ⟨by omega, by omega⟩ ⟨by decide, by decide⟩ (fun h7 => ?_) (fun h7 => ?_)
      · exact tn_sub [0, 1] rfl (hx_94 T (i3) σ hG hw (FrC.rfl.trans (FrC.sub hF (by decide))) h_a (by omega) True.intro True.intro ⟨⟨hIy, hPy, hFy⟩, jy, ey, Ny, mzy, Pfy, try9, hfy, by omega, htc⟩)
      · have hk9 : ckd (tkS Sx jy) ≠ 264 := by omega
        refine tn_aload_n dX5_take_56 rfl 0 rfl ?_
        refine tn_getR (ci := 5) (i := 0) (n := 33) (x := xq2) dX5_take_57 rfl lay_5 (by decide) fl5_12 h_a rfl rfl (hx3) ?_
        refine tn_getI (ci := 9) (i := 6) (n := 87) (t := σ.2.1 87 xq2) dX5_take_60 rfl lay_9 (by decide) fl5_74 hk4o rfl rfl (rfl) ?_
        have g8 : ((-2147483648 : Int) ≤ σ.2.1 87 xq2 ∧ σ.2.1 87 xq2 ≤ 2147483647) := wf_87 hw hk4o
        have g8pl : σ.2.1 87 xq2 = (tkS Sx jy).1 := (rfl).symm.trans ((hfy).pl (hx3))
        refine tn_istore (L' := [(4, .int (iI (σ.2.1 87 xq2))), (0, .ref a), (3, .int (iI i3))]) dX5_take_63 (by decide) rfl ?_
        refine tn_aload_n dX5_take_65 rfl 1 rfl ?_
        refine tn_callV (M := m_X5_take) (pc := 66) (ix := 75) (ci := 5) (M' := m_X5_header) (As := []) (rest := []) dX5_take_66 ok_X5_header im_X5_header se_X5_header ml5_75 np_X5_header rfl rfl h_a rfl (Nat.le_of_ble_eq_true rfl) (Nat.le_of_ble_eq_true rfl) rfl (k_X5_header_m (d + 73) (T := T) (σ := σ) (a := a) h_a hw hrt hfy h5y (by omega) hIy (SPX.spk hPy) htc.1) (fun r9 T11 σ10 gt12 hp => ?_)
        obtain ⟨v16, rfl, rfl, w17, F18, f13, f14, f15⟩ := hp
        clear gt12
        show Tn _ _ 69 T σ10 [(4, .int (iI (σ.2.1 87 xq2))), (0, .ref a), (3, .int (iI i3))] [.int (iI v16)] _
        refine tn_if_eq (tgt := 80) dX5_take_69 (by decide) ⟨by omega, by omega⟩ (fun h19 => ?_) (fun h19 => ?_)
        · obtain ⟨⟨pl20, g21, fx22⟩, nf23⟩ := f15.2 (by omega)
          have ff24 : INJ Sj T σ10 ∧ SPX Sj E T σ10 a ∧ FRT Sj Tq sq T σ10 := by
            rcases nf23 with q9 | ⟨d9, s9, i9, o9, b9, w9, g9⟩
            · exact FRT.nt hFy hIy hPy hwq haq q9
            · have z9 := FRT.og hFy hIy hPy hwq haq o9 b9 w9 g9; exact ⟨z9.1, z9.2.1, z9.2.2.1⟩
          exact tn_sub [1, 2] rfl (hx_80 T (i3) σ10 hG w17 ((FrC.rfl.trans (FrC.sub hF (by decide))).trans (FrC.sub (FrC.old F18 hG) (by decide))) h_a (by omega) True.intro True.intro ⟨_, TR9.fh hSb try9 hk9 g21, fx22⟩ ff24)
        · have rp25 := f14 (by omega)
          obtain ⟨i26, es27, k28, dc29, sz30, lo31, hd32, fx33, fx33rn, hm34, op35, w36, mgh37, ke38, rp39, rq40, fs41⟩ := f15.1 (by omega)
          obtain ⟨gs, hgs⟩ : ∃ g, g = fzg sz30 := ⟨_, rfl⟩
          obtain ⟨Tg, hTg⟩ : ∃ t, t = T := ⟨_, rfl⟩
          have hgf : gs.1 5 = 0 := by rw [hgs]; rfl
          have mgh37m : MG Tg gs T σ10 a mx := by rw [hgs, hTg, hmx9]; exact mgh37
          have mb9 : MBD mx := by rw [hmx9]; exact ⟨Int.le_refl _, Int.le_refl _, Int.le_refl _, Int.le_refl _⟩
          have hd842 : σ10.2.1 38 a = (es27.foldl uC (ey.foldl uC c00)).rn := (rfl).symm.trans (fx33).1.2.1.1.2.2.1
          refine tn_aload_n dX5_take_72 rfl 1 rfl ?_
          refine tn_iconst dX5_take_73 ?_
          have q4543 : (es27.foldl uC (ey.foldl uC c00)).m = σ.2.1 45 a := (fx33.e45).symm.trans (rc_F F18 (Or.inl (by decide)) (by decide) (rfl))
          refine tn_callV (M := m_X5_take) (pc := 74) (ix := 79) (ci := 5) (M' := m_X5_block) (As := [.int (iI 1)]) (rest := []) dX5_take_74 ok_X5_block im_X5_block se_X5_block ml5_79 np_X5_block rfl rfl h_a rfl (Nat.le_of_ble_eq_true rfl) (Nat.le_of_ble_eq_true rfl) rfl (k_X5_block_m (d) (T := T) (σ := σ10) (a := a) (dp := 1) (kp := 4) (bx := 0) (nm := nm) (Tg := Tg) (gs := gs) (mx := mx) h_a (by decide) w17 (by omega) fx33 mgh37m mb9 hgf (by omega) (by rw [q4543]; omega) (by omega) rp25) (fun r44 T46 σ45 gt47 hp => ?_)
          obtain ⟨v51, rfl, w52, F53, f48, f49, f50⟩ := hp
          replace h_a : OB T46 a 5 := gt47.ob h_a
          have rp55 : RP σ45 a (- 10 * v51 + 6) := RP.up f50 (by omega)
          show Tn _ _ 77 T46 σ45 [(4, .int (iI (σ.2.1 87 xq2))), (0, .ref a), (3, .int (iI i3))] [.int (iI v51)] _
          refine tn_if_ne (tgt := 82) dX5_take_77 (by decide) ⟨by omega, by omega⟩ (fun h56 => ?_) (fun h56 => ?_)
          · refine tn_aload_n dX5_take_82 rfl 1 rfl ?_
            refine tn_iload dX5_take_83 0 rfl ?_
            obtain ⟨i57, es58, m59, mw60, lo61, rr62, fx63, fm64, ni65, mgq66, mb67, cn68⟩ := f49.1 (by omega)
            have fx63s : σ45.2.1 45 a ≤ (i57 : Int) := by rw [fx63.e45]; exact fm64
            have ci69i : INJ Sj Tg gs := by rw [hgs, hTg]; exact OPM.inj op35 hIy
            have ci69w : WT Tg gs := by rw [hgs, hTg]; exact WT.fz w36
            have ci69e : dc29 = E (if (ey.foldl uC c00).rn < 6 then (ey.foldl uC c00).rn else 6) := by have z9 := (hPy.2.1 (if (ey.foldl uC c00).rn < 6 then (ey.foldl uC c00).rn else 6) (by split <;> omega) (by split <;> omega)).1; have z8 := (op35).1; rw [z8] at z9; omega
            have ci69s : Sj (adN gs 35 a) := by rw [hgs, show adN (fzg sz30) 35 a = dc29 from adN_of (op35).2.1, ci69e]; exact (hPy.2.1 (if (ey.foldl uC c00).rn < 6 then (ey.foldl uC c00).rn else 6) (by split <;> omega) (by split <;> omega)).2.1
            refine tn_callV (M := m_X5_take) (pc := 85) (ix := 83) (ci := 5) (M' := m_X5_closeRoutine) (As := [.int (iI (σ.2.1 87 xq2))]) (rest := []) dX5_take_85 ok_X5_closeRoutine im_X5_closeRoutine se_X5_closeRoutine ml5_83 np_X5_closeRoutine rfl rfl h_a rfl (Nat.le_of_ble_eq_true rfl) (Nat.le_of_ble_eq_true rfl) rfl (k_X5_closeRoutine_m (d + 74) (T := T46) (σ := σ45) (a := a) (w := σ.2.1 87 xq2) (kp := - 10 * v51 + 6) (Tg := Tg) (gs := gs) (mx := mw60) (Sj := Sj) h_a (by omega) w52 fx63 mgq66 mb67 ci69i ci69w ci69s (by omega) rp55) (fun r70 T72 σ71 gt73 hp => ?_)
            obtain ⟨rfl, w78, F79, f74, f75, f76⟩ := hp
            replace h_a : OB T72 a 5 := gt73.ob h_a
            have rp81 : RP σ71 a (- 10 * v51 + 7) := RP.up f76 (by omega)
            have fx82 : RDX σ71 a Sx nx i57 ((ey ++ es27 ++ es58 ++ [(0, (tkS Sx jy).1, 0 + m59 + 1, 0)]).foldl uC c00) (0 + m59 + 1) := RDX.cq f74 (by rw [g8pl]; simp only [List.foldl_append, List.foldl_cons, List.foldl_nil])
            show Tn _ _ 88 T72 σ71 [(4, .int (iI (σ.2.1 87 xq2))), (0, .ref a), (3, .int (iI i3))] [] _
            refine tn_iinc (q0 := 2) (L' := [(3, .int (iI (i3 + 1))), (4, .int (iI (σ.2.1 87 xq2))), (0, .ref a)]) dX5_take_88 rfl (by decide) rfl ?_
            refine tn_goto (tgt := 36) dX5_take_91 (by decide) ?_
            have hx838 : ((ey ++ es27 ++ es58 ++ [(0, (tkS Sx jy).1, 0 + m59 + 1, 0)]).foldl uC c00).rn = σ10.2.1 38 a := (fx82.1.2.1.1.2.2.1).symm.trans (rc_F F79 (Or.inl (by decide)) (by decide) (rc_F F53 (Or.inl (by decide)) (by decide) (rfl)))
            have hx835 : ((ey ++ es27 ++ es58 ++ [(0, (tkS Sx jy).1, 0 + m59 + 1, 0)]).foldl uC c00).m = σ45.2.1 45 a := (fx82.e45).symm.trans (rc_F F79 (Or.inl (by decide)) (by decide) (rfl))
            have hx83h : σ10.2.1 38 a = (ey.foldl uC c00).rn + 1 := (hd842).trans fx33rn
            obtain ⟨hx83z, hx83w, hx83m, hx83t⟩ := f75
            have hx83a : adN gs 35 a = dc29 := by rw [hgs]; exact adN_of (op35).2.1
            rw [hx83a] at hx83t
            rw [hgs, hTg] at hx83m
            have hx83f := FRT.cl hFy hIy hPy hwq haq op35 ⟨by split <;> omega, by split <;> omega⟩ w36 hx83m.1 hx83w hx83t
            have hx83k : k28 ≤ 4 → σ71.2.1 8 dc29 = k28 := fun q9 => (((congrFun (F79.1 8 (Or.inl (by decide)) (by decide)) (dc29 : Int)).trans (congrFun (F53.1 8 (Or.inl (by decide)) (by decide)) (dc29 : Int))) : σ71.2.1 8 dc29 = σ10.2.1 8 dc29).trans (ke38 q9)
            have hx83cn : CN nm mzy.e35.rt (es58.foldl uC (es27.foldl uC (ey.foldl uC c00))) (GW Sx nm rnQ tb1 [28] i26 0 0 u0 mzy.e35 [] i57 0 0 u0 m59 (mw60.on mzy.e35)) := by rw [← hmx9]; exact cn68
            have hx83c := TLC.on (p := (tkS Sx jy).1) (m := m59) (mw := mw60) hSb hk9 htc (by omega) hm34 fx33rn rp39 rq40 fs41 (GR.bd rr62) hx83cn hx83m op35 hx83t fx82 hx83k (fun q9 q0 q1 ne => hx83f.2.2.2.2 (E q9) (hPy.2.1 q9 q0 q1).2.1 (hPy.ob q0 q1) ne) hPy hx83f.2.2.2.1 (OPM.inj op35 hIy) w36 haq
            have hx83 : TLM Sj E nm z0 Tq sq T72 σ71 a Sx nx (5 * (i3 + 1)) := ⟨hx83f.1, hx83f.2.1, hx83f.2.2.1, i57, ey ++ es27 ++ es58 ++ [(0, (tkS Sx jy).1, 0 + m59 + 1, 0)], 0 + m59 + 1, _, _, by omega, TR9.on hSb try9 hk9 hd32 rr62, fx82.1, by rw [hx838]; omega, by rw [hx835]; omega, hx83c⟩
            exact tn_sub [2, 0] rfl (ih _ (by omega) T72 (i3 + 1) σ71 (GT.trans (GT.trans hG gt47) gt73) w78 ((((FrC.rfl.trans (FrC.sub hF (by decide))).trans (FrC.sub (FrC.old F18 hG) (by decide))).trans (FrC.sub (FrC.old F53 hG) (by decide))).trans (FrC.sub (FrC.old F79 (GT.trans hG gt47)) (by decide))) h_a (by omega) (RP.rt rp81 w78 h_a) hx83 rfl)
          · obtain ⟨⟨pl84, g85, fx86⟩, nf87⟩ := f49.2 (by omega)
            have ff88g : FG T (fzg sz30) T46 σ45 a := by have q9 := nf87; rw [hgs, hTg] at q9; exact q9
            have ff88 : INJ Sj T46 σ45 ∧ SPX Sj E T46 σ45 a ∧ FRT Sj Tq sq T46 σ45 := by have z9 := FRT.og hFy hIy hPy hwq haq op35 ⟨by split <;> omega, by split <;> omega⟩ w36 ff88g; exact ⟨z9.1, z9.2.1, z9.2.2.1⟩
            exact tn_sub [1, 2] rfl (hx_80 T46 (i3) σ45 (GT.trans hG gt47) w52 (((FrC.rfl.trans (FrC.sub hF (by decide))).trans (FrC.sub (FrC.old F18 hG) (by decide))).trans (FrC.sub (FrC.old F53 hG) (by decide))) h_a (by omega) True.intro True.intro ⟨_, TR9.fb hSb try9 hk9 hd32 g85, fx86⟩ ff88)
set_option maxHeartbeats 1000000 in
set_option maxRecDepth 20000 in
theorem k_X5_take_m (d : Nat) {T : CT} {σ : MS} {a : Nat} {t : Nat} {n : Int} {fT Sx : Int → Int} {Sj : Nat → Prop} {E : Int → Nat} {nm : Int → Int64 → Int} {z0 : MK} (ha : OB T a 5) (h_t : (T t).1 = 2) (l_t : (T t).2 ≤ 1000000) (h_n : -2147483648 ≤ n ∧ n ≤ 2147483647) (hw : WT T σ) (ht : (T t).2 = 1200) (hn : 0 ≤ n ∧ n ≤ 1200) (hfT : RWE σ t fT n) (hB : BYT fT) (hSx : Sx = svC fT n) (hI : INJ Sj T σ) (hP : SPX Sj E T σ a) (hz : z0.rt = 0 ∧ z0.ln = 0 ∧ z0.pk = σ.2.1 50 a ∧ z0.pv = σ.2.1 51 a) : Tn (d + 79) m_X5_take 0 T σ [(0, .ref a), (1, .ref t), (2, .int (iI n))] [] (fun ro T2 σ2 => ∃ v : Int, ro = some (.int (iI v)) ∧ WT T2 σ2 ∧ FrC T [5, 6, 7, 8, 9, 10, 35, 38, 42, 43, 44, 45, 46, 47, 50, 51, 84, 85, 86, 87, 512, 516, 517, 518, 519, 520, 521, 522, 523] σ σ2 ∧ (v = 0 ∨ v = 1) ∧ (TO9 σ2 a Sx v) ∧ (TOM Sj E nm z0 T σ T2 σ2 a Sx v)) := by
  have hrow := hfT
  refine tn_aload_n dX5_take_0 rfl 0 rfl ?_
  refine tn_iconst dX5_take_1 ?_
  refine tn_putV (ci := 5) (i := 10) (n := 43) (r := false) (v := 0) tyX5 tyX5_ok nmX5 dX5_take_2 rfl lay_5 (by decide) fl5_51 rfl (tyX5_ok 10 (by decide)) rfl rfl rfl ha rfl rfl ?_
  refine tn_aload_n dX5_take_5 rfl 0 rfl ?_
  refine tn_iconst dX5_take_6 ?_
  refine tn_putV (ci := 5) (i := 11) (n := 44) (r := false) (v := -1) tyX5 tyX5_ok nmX5 dX5_take_7 rfl lay_5 (by decide) fl5_55 rfl (tyX5_ok 11 (by decide)) rfl rfl rfl ha rfl rfl ?_
  refine tn_aload_n dX5_take_10 rfl 0 rfl ?_
  refine tn_iconst dX5_take_11 ?_
  refine tn_putV (ci := 5) (i := 5) (n := 38) (r := false) (v := 0) tyX5 tyX5_ok nmX5 dX5_take_12 rfl lay_5 (by decide) fl5_58 rfl (tyX5_ok 5 (by decide)) rfl rfl rfl ha rfl rfl ?_
  refine tn_aload_n dX5_take_15 rfl 0 rfl ?_
  refine tn_iconst dX5_take_16 ?_
  refine tn_putV (ci := 5) (i := 9) (n := 42) (r := false) (v := 0) tyX5 tyX5_ok nmX5 dX5_take_17 rfl lay_5 (by decide) fl5_61 rfl (tyX5_ok 9 (by decide)) rfl rfl rfl ha rfl rfl ?_
  refine tn_aload_n dX5_take_20 rfl 0 rfl ?_
  refine tn_iconst dX5_take_21 ?_
  refine tn_putV (ci := 5) (i := 12) (n := 45) (r := false) (v := 0) tyX5 tyX5_ok nmX5 dX5_take_22 rfl lay_5 (by decide) fl5_64 rfl (tyX5_ok 12 (by decide)) rfl rfl rfl ha rfl rfl ?_
  refine tn_aload_n dX5_take_25 rfl 0 rfl ?_
  obtain ⟨xq1, hx2, hk3⟩ : ∃ x : Nat, σ.2.1 33 a = (x : Int) ∧ (T x).1 = 39 := wf_33 hw ha
  have hk3o : OB T xq1 9 := ⟨by omega, by rw [hk3]; rfl, by omega⟩
  refine tn_getR (ci := 5) (i := 0) (n := 33) (x := xq1) dX5_take_26 rfl lay_5 (by decide) fl5_12 ha rfl rfl (rc_o (by decide) (rc_o (by decide) (rc_o (by decide) (rc_o (by decide) (rc_o (by decide) (hx2)))))) ?_
  refine tn_aload_n dX5_take_29 rfl 1 rfl ?_
  refine tn_iload_n dX5_take_30 rfl 2 rfl ?_
  refine tn_callV (M := m_X5_take) (pc := 31) (ix := 67) (ci := 9) (M' := m_X9_scan) (As := [.ref t, .int (iI n)]) (rest := []) dX5_take_31 ok_X9_scan im_X9_scan se_X9_scan ml5_67 np_X9_scan rfl rfl hk3o rfl (Nat.le_of_ble_eq_true rfl) (Nat.le_of_ble_eq_true rfl) rfl (k_X9_scan_fw (d + 75) (T := T) (σ := (sA 45 a (0) (sA 42 a (0) (sA 38 a (0) (sA 44 a (-1) (sA 43 a (0) σ)))))) (a := xq1) (t := t) (n := n) hk3o h_t (by omega) (by omega) (((((hw.put (by decide) (by decide) (fo_43 (by omega))).put (by decide) (by decide) (fo_44 (by omega))).put (by decide) (by decide) (fo_38 (by omega))).put (by decide) (by decide) (fo_42 (by omega))).put (by decide) (by decide) (fo_45 (by omega))) ht hn (RWE.cg (RWE.cg (RWE.cg (RWE.cg (RWE.cg hrow (sA_k (by omega))) (sA_k (by omega))) (sA_k (by omega))) (sA_k (by omega))) (sA_k (by omega))) hB hSx) (fun r5 T7 σ6 gt8 hp => ?_)
  obtain ⟨rfl, rfl, w13, F14, f9, f10, f11⟩ := hp
  clear gt8
  obtain ⟨m15, m15t⟩ := f10
  show Tn _ _ 34 T σ6 [(0, .ref a), (1, .ref t), (2, .int (iI n))] [] _
  refine tn_iconst dX5_take_34 ?_
  refine tn_istore_n (L' := [(3, .int (iI 0)), (0, .ref a), (1, .ref t), (2, .int (iI n))]) dX5_take_35 rfl (by decide) rfl ?_
  have q17 : σ6.2.1 43 a = 0 := rc_F F14 (Or.inl (by decide)) (by decide) (rc_o (by decide) (rc_o (by decide) (rc_o (by decide) (rc_o (by decide) (ra_eq)))))
  have q18 : σ6.2.1 44 a = -1 := rc_F F14 (Or.inl (by decide)) (by decide) (rc_o (by decide) (rc_o (by decide) (rc_o (by decide) (ra_eq))))
  have q19 : σ6.2.1 38 a = 0 := rc_F F14 (Or.inl (by decide)) (by decide) (rc_o (by decide) (rc_o (by decide) (ra_eq)))
  have q20 : σ6.2.1 42 a = 0 := rc_F F14 (Or.inl (by decide)) (by decide) (rc_o (by decide) (ra_eq))
  have q21 : σ6.2.1 45 a = 0 := rc_F F14 (Or.inl (by decide)) (by decide) (ra_eq)
  have w16k : TKR σ6 a Sx m15 0 := ⟨by rw [hSx]; exact svC_sb hB, fun t ht => by
    have e : t = xq1 := by have q9 := (rc_F F14 (Or.inl (by decide)) (by decide) (rc_o (by decide) (rc_o (by decide) (rc_o (by decide) (rc_o (by decide) (rc_o (by decide) (hx2))))))); omega
    rw [e]; exact m15t⟩
  have w16c : CS0 σ6 a c00 := ⟨⟨q17, q18, q19, q20, q21⟩, fun _ _ i h1 h2 => absurd (show i < 0 from h2) (by omega), fun _ _ i h1 h2 => absurd (show i < 0 from h2) (by omega), fun _ _ i h1 h2 => absurd (show i < 0 from h2) (by omega), fun _ _ i h1 h2 => absurd (show i < 0 from h2) (by omega), fun _ _ i h1 h2 => absurd (show i < 0 from h2) (by omega)⟩
  have w16r : TRT T σ σ6 := (TRT.trans (TRT.pt (TRT.pt (TRT.pt (TRT.pt (TRT.pt TRT.rfl (by decide)) (by decide)) (by decide)) (by decide)) (by decide)) f11)
  have w16F : FrC T [38, 42, 43, 44, 45, 84, 85, 86, 87, 512, 522, 523] σ σ6 := ((((((FrC.rfl.put (by decide) (by decide)).put (by decide) (by decide)).put (by decide) (by decide)).put (by decide) (by decide)).put (by decide) (by decide)).trans (FrC.sub F14 (by decide)))
  have w16f := FRT.in hI hP hw ha (fun n9 b9 hn9 hm9 => congrFun (w16F.1 n9 (Or.inl hn9) (fun q9 => hm9 (by simp only [List.mem_cons, List.not_mem_nil, or_false] at q9 ⊢; omega))) (b9 : Int)) w16r (fun x9 h9 => w16F.2 x9 (by unfold HT; omega) (by rw [h9]; decide))
  have w16 : TLM Sj E nm z0 T σ T σ6 a Sx m15 (5 * (0)) := ⟨w16f.1, w16f.2.1, w16f.2.2, 0, [], 0, z0, fun _ => [], by omega, TR9.nl, ⟨w16k, w16c, by unfold PO; show (6 * (0 : Int) ≤ ((0 : Nat) : Int)) ∧ (5 * (0 : Int) ≤ ((0 : Nat) : Int) + 5) ∧ ((0 : Int) ≤ 0) ∧ ((0 : Int) ≤ ((0 : Nat) : Int) + 1); omega⟩, by show 5 * (0 : Int) ≤ ((0 : Nat) : Int); omega, by show (0 : Int) ≤ ((0 : Nat) : Int); omega, ⟨(q21).trans hz.2.1.symm, (show σ6.2.1 50 a = σ.2.1 50 a from rc_F F14 (Or.inl (by decide)) (by decide) (rc_o (by decide) (rc_o (by decide) (rc_o (by decide) (rc_o (by decide) (rc_o (by decide) (rfl))))))).trans hz.2.2.1.symm, (show σ6.2.1 51 a = σ.2.1 51 a from rc_F F14 (Or.inl (by decide)) (by decide) (rc_o (by decide) (rc_o (by decide) (rc_o (by decide) (rc_o (by decide) (rc_o (by decide) (rfl))))))).trans hz.2.2.2.symm⟩, hz.1, fun q9 _ h9 => absurd (show q9 < 0 from h9) (by omega), fun _ => GCW.of GCM.nl rfl, fun _ => ⟨by show (0 : Int) ≤ 6; decide, fun q9 _ h9 => absurd (show q9 < 0 from h9) (by omega)⟩, fun q9 _ h9 => absurd (show q9 < 0 from h9) (by omega)⟩
  refine tn_sub [1, 0] rfl (l_X5_take_m_36 (d) (σ0 := σ6) (T0 := T) (a := a) (Sx := Sx) (nx := m15) (Sj := Sj) (E := E) (nm := nm) (z0 := z0) (Tq := T) (sq := σ) w13 (fun T24 i322 σ23 gt25 w26 F27 q28 r29 f30 f31 f32 f33 => ?_) (fun T36 i334 σ35 gt37 w38 F39 q40 r41 f42 f43 f44 => ?_) _ T (0) σ6 GT.rfl w13 FrC.rfl ha (by omega) (RT.of (rc_F F14 (Or.inl (by decide)) (by decide) (rc_o (by decide) (rc_o (by decide) (rc_o (by decide) (rc_o (by decide) (rc_o (by decide) (hx2))))))) f9) w16 rfl)
  · show Tn _ _ 80 T24 σ23 [(0, .ref a), (3, .int (iI i322))] [] _
    refine tn_iconst dX5_take_80 ?_
    exact tn_zret (v := 0) rfl (by decide) dX5_take_81 ⟨_, rfl, w26, (((((((FrC.rfl.put (by decide) (by decide)).put (by decide) (by decide)).put (by decide) (by decide)).put (by decide) (by decide)).put (by decide) (by decide)).trans (FrC.sub F14 (by decide))).trans (FrC.sub F27 (by decide))), by omega, TLF.to f32 rfl, ⟨f33.1, f33.2.1, f33.2.2, fun q => absurd q (by decide)⟩⟩
  · obtain ⟨ff45, i46, es47, N48, mz49, Pf50, tr51, fx52, hk53, tc54⟩ := f44
    have hSb := fx52.sb
    have tc54w : WT T36 σ35 := w38
    have tc54a : OB T36 a 5 := q40
    have tc54b := wf_38 tc54w tc54a
    have tc548 : σ35.2.1 38 a = (es47.foldl uC c00).rn := fx52.2.1.1.2.2.1
    show Tn _ _ 94 T36 σ35 [(0, .ref a), (3, .int (iI i334))] [] _
    refine tn_aload_n dX5_take_94 rfl 0 rfl ?_
    refine tn_callV (M := m_X5_take) (pc := 95) (ix := 87) (ci := 5) (M' := m_X5_settleCalls) (As := []) (rest := []) dX5_take_95 ok_X5_settleCalls im_X5_settleCalls se_X5_settleCalls ml5_87 np_X5_settleCalls rfl rfl q40 rfl (Nat.le_of_ble_eq_true rfl) (Nat.le_of_ble_eq_true rfl) rfl (k_X5_settleCalls_m (d + 75) (T := T36) (σ := σ35) (a := a) (E := E) q40 w38 fx52 (SPX.spe ff45.2.1) (SPX.eap ff45.2.1 ff45.1) (fun h9 q9 q0 q1 q2 => by have z9 := tc54.2.2.2.2.1 h9; have z8 := (tc54.2.2.2.2.2 q9 q0 q1 (by omega)).1.1.1; have z7 := z9.2 q9 q0 q1; omega)) (fun r55 T57 σ56 gt58 hp => ?_)
    obtain ⟨v62, rfl, rfl, w63, F64, f59, f60, f61⟩ := hp
    clear gt58
    show Tn _ _ 98 T36 σ56 [(0, .ref a), (3, .int (iI i334))] [.int (iI v62)] _
    have tz65 := FRT.st ff45.2.2 ff45.1 ff45.2.1 tc54w tc54a f61.1
    have tz65v : v62 = 1 → ∃ (i : Nat) (es : List EW) (N : Int) (mz : MK) (Pf : Int → List EW) (f : Int → Int), (TR9 Sx i N es ∧ ckd (tkS Sx i) = 264 ∧ SB Sx) ∧ ((es.foldl uC c00).fp.1 = 0 ∧ 0 ≤ (es.foldl uC c00).rn ∧ (es.foldl uC c00).rn ≤ 6 ∧ σ56.2.1 38 a = (es.foldl uC c00).rn) ∧ PFX es Pf ∧ ((∀ q, 0 ≤ q → q < (es.foldl uC c00).rn → NMA nm q ((Pf q).foldl uC c00)) → TXW Sx nm rnQ tb1 z0 i N mz) ∧ RFC (es.foldl uC c00) f ∧ ∀ q, 0 ≤ q → q < (es.foldl uC c00).rn → (mz.dn q).1 ≤ 120 ∧ CDS σ56 (E q) q (mz.dn q).1 (mz.dn q).2 (mz.fr q) ((Pf q).foldl uC c00).nn ((es.foldl uC c00).rp q) f := fun hv => by
      obtain ⟨q1, f9, q2, q3⟩ := f61.2 hv
      have b9 := tc54.2.2.2.2.1 q1
      refine ⟨i46, es47, N48, mz49, Pf50, f9, ⟨tr51, hk53, hSb⟩, ⟨q1, by omega, b9.1, f60.2.1⟩, tc54.2.2.1, tc54.2.2.2.1, q2, fun q9 q0 q1 => ⟨b9.2 q9 q0 q1, CDS.of (tc54.2.2.2.2.2 q9 q0 q1 (by omega)) (b9.2 q9 q0 q1) ff45.1 ff45.2.1 q0 (by omega) f61.1 (q3 q9 q0 q1 (by omega))⟩⟩
    exact tn_zret (v := v62) rfl (by omega) dX5_take_98 ⟨_, rfl, w63, ((((((((FrC.rfl.put (by decide) (by decide)).put (by decide) (by decide)).put (by decide) (by decide)).put (by decide) (by decide)).put (by decide) (by decide)).trans (FrC.sub F14 (by decide))).trans (FrC.sub F39 (by decide))).trans (FrC.sub (FrC.old F64 gt37) (by decide))), by omega, TO9.ok hSb tr51 hk53 f60, ⟨tz65.1, tz65.2.1, tz65.2.2, tz65v⟩⟩
end
section
def opN (N k v : Int) : Int := if k = 2 then nwN N v else v
def mpI (N : Int) (f : Int → Int) (i : It) : It := fun c => if c = 1 ∧ (i 0 ≤ 5 ∨ i 0 = 10) then nwN N (i 1) else if c = 2 ∧ i 0 = 10 then f (i 2) else if (c = 4 ∨ c = 6 ∨ c = 8 ∨ c = 10) ∧ i (c - 1) = 2 then nwN N (i c) else i c
section MPS
variable {N k d o ak a bk b w g c : Int} {f : Int → Int} {i : It} {as : List (Int × Int)}
theorem nw_lt (h : g < 1000) : nwN N g = g := by unfold nwN; rw [if_neg (by omega)]
theorem nw_ge (h : 0 ≤ g) : nwN N (1000 + g) = N + g := by unfold nwN; rw [if_pos (by omega)]; omega
theorem op_1 : opN N 1 g = g := by unfold opN; rw [if_neg (by decide)]
theorem op_lt (h : g < 1000) : opN N k g = g := by
  unfold opN
  by_cases e : k = 2
  · rw [if_pos e, nw_lt h]
  · rw [if_neg e]
theorem mp_o (h1 : c ≠ 1 ∨ ¬ (i 0 ≤ 5 ∨ i 0 = 10)) (h2 : c ≠ 2 ∨ i 0 ≠ 10) (h3 : ¬ (c = 4 ∨ c = 6 ∨ c = 8 ∨ c = 10)) : mpI N f i c = i c := by
  unfold mpI
  rw [if_neg (fun q => by rcases h1 with z | z; exact z q.1; exact z q.2), if_neg (fun q => by rcases h2 with z | z; exact z q.1; exact z q.2), if_neg (fun q => h3 q.1)]
theorem mp_a (h : c = 4 ∨ c = 6 ∨ c = 8 ∨ c = 10) : mpI N f i c = opN N (i (c - 1)) (i c) := by
  unfold mpI opN
  rw [if_neg (fun q => by omega), if_neg (fun q => by omega)]
  by_cases e : i (c - 1) = 2
  · rw [if_pos ⟨h, e⟩, if_pos e]
  · rw [if_neg (fun q => e q.2), if_neg e]
theorem mp_1 (h : i 0 ≤ 5 ∨ i 0 = 10) : mpI N f i 1 = nwN N (i 1) := by unfold mpI; rw [if_pos ⟨rfl, h⟩]
theorem mp_2 (h : i 0 = 10) : mpI N f i 2 = f (i 2) := by unfold mpI; rw [if_neg (by omega), if_pos ⟨rfl, h⟩]
theorem mp_mk (h5 : 5 < k) (h10 : k ≠ 10) : mpI N f (mkI k d o ak a w) = mkI k d o ak (opN N ak a) w := by
  have k0 : mkI k d o ak a w 0 = k := rfl
  funext c
  by_cases h : c = 4 ∨ c = 6 ∨ c = 8 ∨ c = 10
  · rw [mp_a h]
    rcases h with rfl | rfl | rfl | rfl
    · rfl
    · exact op_lt (show (0 : Int) < 1000 by decide)
    · exact op_lt (show (0 : Int) < 1000 by decide)
    · exact op_lt (show (0 : Int) < 1000 by decide)
  · rw [mp_o (Or.inr (by rw [k0]; omega)) (Or.inr (by rw [k0]; omega)) h]
    show mkI k d o ak a w c = mkI k d o ak (opN N ak a) w c
    unfold mkI
    rw [if_neg (show ¬ c = 4 by omega), if_neg (show ¬ c = 4 by omega)]
theorem mp_cp (hd : d < 1000) : mpI N f (mkI 0 d 0 ak a 0) = mkI 0 d 0 ak (opN N ak a) 0 := by
  have k0 : mkI 0 d 0 ak a 0 0 = 0 := rfl
  funext c
  by_cases h : c = 4 ∨ c = 6 ∨ c = 8 ∨ c = 10
  · rw [mp_a h]
    rcases h with rfl | rfl | rfl | rfl
    · rfl
    · exact op_lt (show (0 : Int) < 1000 by decide)
    · exact op_lt (show (0 : Int) < 1000 by decide)
    · exact op_lt (show (0 : Int) < 1000 by decide)
  · by_cases h1 : c = 1
    · subst h1
      rw [mp_1 (Or.inl (by rw [k0]; decide))]
      exact nw_lt hd
    · rw [mp_o (Or.inl h1) (Or.inr (by rw [k0]; decide)) h]
      show mkI 0 d 0 ak a 0 c = mkI 0 d 0 ak (opN N ak a) 0 c
      unfold mkI
      rw [if_neg (show ¬ c = 4 by omega), if_neg (show ¬ c = 4 by omega)]
theorem mp_it2 (hk : k ≤ 5) : mpI N f (it2 k d ak a bk b) = it2 k (nwN N d) ak (opN N ak a) bk (opN N bk b) := by
  have k0 : it2 k d ak a bk b 0 = k := rfl
  funext c
  by_cases h : c = 4 ∨ c = 6 ∨ c = 8 ∨ c = 10
  · rw [mp_a h]
    rcases h with rfl | rfl | rfl | rfl
    · rfl
    · rfl
    · exact op_lt (show (0 : Int) < 1000 by decide)
    · exact op_lt (show (0 : Int) < 1000 by decide)
  · by_cases h1 : c = 1
    · subst h1
      rw [mp_1 (Or.inl (by rw [k0]; exact hk))]
      rfl
    · rw [mp_o (Or.inl h1) (Or.inr (by rw [k0]; omega)) h]
      unfold it2
      rw [if_neg h1, if_neg h1, if_neg (show ¬ c = 4 by omega), if_neg (show ¬ c = 4 by omega), if_neg (show ¬ c = 6 by omega), if_neg (show ¬ c = 6 by omega)]
def mpA (N : Int) (as : List (Int × Int)) : List (Int × Int) := as.map (fun p => (p.1, opN N p.1 p.2))
theorem arg_mp (j : Nat) : argA (mpA N as) j = ((argA as j).1, opN N (argA as j).1 (argA as j).2) := by
  unfold argA mpA
  by_cases h : j < as.length
  · simp [List.getD_eq_getElem?_getD, List.getElem?_map, h]
  · have e1 : (as.map (fun p => (p.1, opN N p.1 p.2)))[j]? = none := by rw [List.getElem?_eq_none_iff]; simp; omega
    have e2 : as[j]? = none := by rw [List.getElem?_eq_none_iff]; omega
    simp only [List.getD_eq_getElem?_getD, e1, e2]
    show ((0 : Int), (0 : Int)) = (0, opN N 0 0)
    rw [op_lt (show (0 : Int) < 1000 by decide)]
theorem mp_itC (hd : d < 1000) : mpI N f (itC d o as) = itC d (f o) (mpA N as) := by
  have k0 : itC d o as 0 = 10 := rfl
  funext c
  by_cases h : c = 4 ∨ c = 6 ∨ c = 8 ∨ c = 10
  · rw [mp_a h]
    rcases h with rfl | rfl | rfl | rfl
    · show opN N (argA as 0).1 (argA as 0).2 = (argA (mpA N as) 0).2; rw [arg_mp]
    · show opN N (argA as 1).1 (argA as 1).2 = (argA (mpA N as) 1).2; rw [arg_mp]
    · show opN N (argA as 2).1 (argA as 2).2 = (argA (mpA N as) 2).2; rw [arg_mp]
    · show opN N (argA as 3).1 (argA as 3).2 = (argA (mpA N as) 3).2; rw [arg_mp]
  · by_cases h1 : c = 1
    · subst h1
      rw [mp_1 (Or.inr k0)]
      exact nw_lt hd
    · by_cases h2 : c = 2
      · subst h2
        rw [mp_2 k0]
        rfl
      · rw [mp_o (Or.inl h1) (Or.inl h2) h]
        unfold itC
        rw [arg_mp, arg_mp, arg_mp, arg_mp]
        rw [if_neg h1, if_neg h1, if_neg h2, if_neg h2, if_neg (show ¬ c = 4 by omega), if_neg (show ¬ c = 4 by omega), if_neg (show ¬ c = 6 by omega), if_neg (show ¬ c = 6 by omega), if_neg (show ¬ c = 8 by omega), if_neg (show ¬ c = 8 by omega), if_neg (show ¬ c = 10 by omega), if_neg (show ¬ c = 10 by omega)]
theorem nn_mp (h : i 0 = 12 → i 4 < 1000) : nrm (stI f (nnI N i)) = mpI N f (nrm i) := by
  have n0 : ∀ c, nnI N i c = if c = 1 ∧ (i 0 ≤ 5 ∨ i 0 = 10) then nwN N (i 1) else if (c = 4 ∨ c = 6 ∨ c = 8 ∨ c = 10) ∧ i (c - 1) = 2 then nwN N (i c) else i c := fun c => by
    unfold nnI
    rw [rn3_c]
    have r1 : ∀ z, z ≠ 1 → rn1 (nwN N) i z = i z := fun z hz => by
      unfold rn1
      by_cases q : i 0 ≤ 5 ∨ i 0 = 10
      · rw [if_pos q, uZ_ne hz]
      · rw [if_neg q]
    by_cases c1 : c = 1
    · subst c1
      rw [dI_n (fun ⟨m, p, q, _⟩ => by omega)]
      unfold rn1
      by_cases q : i 0 ≤ 5 ∨ i 0 = 10
      · rw [if_pos q, uZ_eq, if_pos ⟨rfl, q⟩]
      · rw [if_neg q, if_neg (fun z => q z.2), if_neg (fun z => by omega)]
    · rw [if_neg (fun z => c1 z.1), r1 c c1]
      by_cases c4 : (c = 4 ∨ c = 6 ∨ c = 8 ∨ c = 10) ∧ i (c - 1) = 2
      · rw [if_pos c4]
        have c4' := c4.1
        refine dI_y ⟨(c - 4) / 2, ?_, ?_, ?_⟩
        · omega
        · omega
        · rw [r1 (c - 1) (by omega)]; exact c4.2
      · rw [if_neg c4]
        refine dI_n (fun ⟨m, p, q, e⟩ => c4 ⟨by omega, ?_⟩)
        rw [r1 (c - 1) (by omega)] at e
        exact e
  have s0 : nnI N i 0 = i 0 := by rw [n0, if_neg (fun q => by omega), if_neg (fun q => by omega)]
  have sc : ∀ c, stI f (nnI N i) c = if c = 2 ∧ i 0 = 10 then f (i 2) else nnI N i c := fun c => by
    have n2 : nnI N i 2 = i 2 := by rw [n0, if_neg (fun q => by omega), if_neg (fun q => by omega)]
    unfold stI
    rw [s0]
    by_cases q : i 0 = 10
    · rw [if_pos q, n2]
      by_cases z : c = 2
      · subst z; rw [uZ_eq, if_pos ⟨rfl, q⟩]
      · rw [uZ_ne z, if_neg (fun w => z w.1)]
    · rw [if_neg q, if_neg (fun w => q w.2)]
  have t0 : stI f (nnI N i) 0 = i 0 := by rw [sc, if_neg (fun q => by omega), s0]
  have t11 : stI f (nnI N i) 11 = i 11 := by rw [sc, if_neg (fun q => by omega), n0, if_neg (fun q => by omega), if_neg (fun q => by omega)]
  have m0 : nrm i 0 = i 0 := nrm_ne (by decide) (by decide)
  funext c
  by_cases c3 : c = 3
  · subst c3
    rw [mp_o (Or.inl (by decide)) (Or.inl (by decide)) (by decide)]
    by_cases q : i 0 = 12 ∧ (i 11 = 1 ∨ i 11 = 2)
    · rw [nrm_b q.1 q.2, nrm_b (by rw [t0]; exact q.1) (by rw [t11]; exact q.2), t11]
    · unfold nrm
      rw [if_neg (fun z => q (by rw [t0, t11] at z; exact z.2)), if_neg (by decide), if_neg (fun z => q z.2), if_neg (by decide), sc, if_neg (fun z => by omega), n0, if_neg (fun z => by omega), if_neg (fun z => by omega)]
  · by_cases c12 : c = 12
    · subst c12
      rw [nrm_12, mp_o (Or.inl (by decide)) (Or.inl (by decide)) (by decide), nrm_12]
    · rw [nrm_ne c3 c12, sc]
      by_cases c4 : c = 4 ∨ c = 6 ∨ c = 8 ∨ c = 10
      · rw [if_neg (fun z => by omega), n0, if_neg (fun z => by omega), mp_a c4]
        have cc : nrm i c = i c := nrm_ne c3 c12
        rw [cc]
        by_cases e4 : c = 4
        · subst e4
          show (if (4 = 4 ∨ (4 : Int) = 6 ∨ (4 : Int) = 8 ∨ (4 : Int) = 10) ∧ i 3 = 2 then nwN N (i 4) else i 4) = opN N (nrm i 3) (i 4)
          by_cases q : i 0 = 12
          · rw [op_lt (h q)]
            by_cases z : i 3 = 2
            · rw [if_pos ⟨Or.inl rfl, z⟩, nw_lt (h q)]
            · rw [if_neg (fun w => z w.2)]
          · rw [nrm_3 q]
            unfold opN
            by_cases z : i 3 = 2
            · rw [if_pos ⟨Or.inl rfl, z⟩, if_pos z]
            · rw [if_neg (fun w => z w.2), if_neg z]
        · rw [nrm_ne (i := i) (c := c - 1) (by omega) (by omega)]
          unfold opN
          by_cases z : i (c - 1) = 2
          · rw [if_pos ⟨c4, z⟩, if_pos z]
          · rw [if_neg (fun w => z w.2), if_neg z]
      · by_cases c1 : c = 1
        · subst c1
          rw [if_neg (fun z => by omega), n0]
          by_cases q : i 0 ≤ 5 ∨ i 0 = 10
          · rw [if_pos ⟨rfl, q⟩, mp_1 (by rw [m0]; exact q), nrm_ne (by decide) (by decide)]
          · rw [if_neg (fun z => q z.2), if_neg (fun z => c4 z.1), mp_o (Or.inr (by rw [m0]; exact q)) (Or.inl (by decide)) c4, nrm_ne (by decide) (by decide)]
        · by_cases c2 : c = 2
          · subst c2
            by_cases q : i 0 = 10
            · rw [if_pos ⟨rfl, q⟩, mp_2 (by rw [m0]; exact q), nrm_ne (by decide) (by decide)]
            · rw [if_neg (fun z => q z.2), n0, if_neg (fun z => by omega), if_neg (fun z => c4 z.1), mp_o (Or.inl (by decide)) (Or.inr (by rw [m0]; exact q)) c4, nrm_ne (by decide) (by decide)]
          · rw [if_neg (fun z => c2 z.1), n0, if_neg (fun z => c1 z.1), if_neg (fun z => c4 z.1), mp_o (Or.inl c1) (Or.inl c2) c4, nrm_ne c3 c12]
end MPS
def SRL (N : Int) (e e' : ME) : Prop := e'.1 = e.1 ∧ e'.2.1 = e.2.1 ∧ e'.2.2.1 = e.2.2.1 ∧ (e.1 = 0 → (e'.2.2.2.headD (0, 0)).1 = opN N e.2.2.1 (e.2.2.2.headD (0, 0)).1) ∧ (e.1 = 9 → e'.2.2.2 = mpA N e.2.2.2) ∧ (e.1 = 8 ∨ e.1 = 9 → e.2.1 < 1000)
def SLR (N : Int) : List ME → List ME → Prop
  | [], [] => True
  | e :: S, e' :: S' => SRL N e e' ∧ SLR N S S'
  | _, _ => False
def BDY (N : Int) (f : Int → Int) (m m' : MK) : Prop := (m'.1 = m.1 ∧ m'.n = m.n ∧ 0 ≤ m.n ∧ 0 ≤ m.tmp) ∧ (∀ k, 0 ≤ k → k < m.n → m'.V k = mpI N f (m.V k) ∧ (m.V k 0 = 12 → m.V k 4 < 1000)) ∧ SLR N m.S m'.S
def PRL (N : Int) (m m' : MK) : Prop := m'.pk = m.pk ∧ m'.pv = opN N m.pk m.pv
def DNX (Nf : Int → Int) (f : Int → Int) (m m' : MK) : Prop := m'.fr = m.fr ∧ ∀ q, (m'.dn q).1 = (m.dn q).1 ∧ ∀ k, 0 ≤ k → k < (m.dn q).1 → (m'.dn q).2 k = mpI (Nf q) f ((m.dn q).2 k) ∧ ((m.dn q).2 k 0 = 12 → (m.dn q).2 k 4 < 1000)
section BDYS
variable {N : Int} {f : Int → Int} {m m' : MK} {i i' : It} {e e' : ME} {S S' : List ME} {l g : Int}
theorem SLR.cons (h : SLR N (e :: S) S') : ∃ e' S'', S' = e' :: S'' ∧ SRL N e e' ∧ SLR N S S'' := by
  cases S' with
  | nil => exact absurd h (fun q => q)
  | cons e' S'' => exact ⟨e', S'', rfl, h⟩
theorem SLR.nil (h : SLR N [] S') : S' = [] := by
  cases S' with
  | nil => rfl
  | cons e' S'' => exact absurd h (fun q => q)
theorem srl_id (h0 : e.1 ≠ 0) (h8 : e.1 ≠ 8) (h9 : e.1 ≠ 9) : SRL N e e := ⟨rfl, rfl, rfl, fun q => absurd q h0, fun q => absurd q h9, fun q => by omega⟩
theorem BDY.put (h : BDY N f m m') (e : i' = mpI N f i) (h4 : i 0 = 12 → i 4 < 1000) : BDY N f (m.put i) (m'.put i') := by
  obtain ⟨⟨h1, h2, h3, h5⟩, h6, h7⟩ := h
  refine ⟨⟨h1, show m'.n + 1 = m.n + 1 by omega, show 0 ≤ m.n + 1 by omega, h5⟩, fun k k0 k1 => ?_, h7⟩
  have k1' : k < m.n + 1 := k1
  show uZ m'.V m'.n i' k = mpI N f (uZ m.V m.n i k) ∧ (uZ m.V m.n i k 0 = 12 → uZ m.V m.n i k 4 < 1000)
  by_cases z : k = m.n
  · rw [h2, z, uZ_eq, uZ_eq]; exact ⟨e, h4⟩
  · rw [h2, uZ_ne z, uZ_ne z]; exact h6 k k0 (by omega)
theorem BDY.sS (h : BDY N f m m') (q : SLR N S S') : BDY N f (m.sS S) (m'.sS S') := ⟨h.1, h.2.1, q⟩
theorem BDY.psh (h : BDY N f m m') (q : SRL N e e') : BDY N f (m.push e) (m'.push e') := ⟨h.1, h.2.1, q, h.2.2⟩
theorem BDY.sP {a b c d : Int} (h : BDY N f m m') : BDY N f (m.sP a b) (m'.sP c d) := h
theorem BDY.sL (h : BDY N f m m') : BDY N f (m.sL l) (m'.sL l) := by
  obtain ⟨⟨h1, h2⟩, h3⟩ := h
  refine ⟨⟨?_, h2⟩, h3⟩
  show (m'.rt, m'.ln, m'.fs, l, m'.tmp) = (m.rt, m.ln, m.fs, l, m.tmp)
  unfold MK.rt MK.ln MK.fs MK.tmp
  rw [h1]
theorem BDY.sT (h : BDY N f m m') (hl : 0 ≤ l) : BDY N f (m.sT l) (m'.sT l) := by
  obtain ⟨⟨h1, h2, h3, -⟩, h4⟩ := h
  refine ⟨⟨?_, h2, h3, hl⟩, h4⟩
  show (m'.rt, m'.ln, m'.fs, m'.lab, l) = (m.rt, m.ln, m.fs, m.lab, l)
  unfold MK.rt MK.ln MK.fs MK.lab
  rw [h1]
theorem BDY.stm (h : BDY N f m m') : BDY N f m.stm m'.stm := by
  obtain ⟨⟨h1, h2⟩, h3⟩ := h
  refine ⟨⟨?_, h2⟩, h3⟩
  show (m'.rt, m'.ln + 1, (if m'.fs = 0 then m'.ln + 1 else m'.fs), m'.lab, m'.tmp) = (m.rt, m.ln + 1, (if m.fs = 0 then m.ln + 1 else m.fs), m.lab, m.tmp)
  unfold MK.rt MK.ln MK.fs MK.lab MK.tmp
  rw [h1]
theorem BDY.ln (h : BDY N f m m') : m'.ln = m.ln := by unfold MK.ln; rw [h.1.1]
theorem BDY.lab (h : BDY N f m m') : m'.lab = m.lab := by unfold MK.lab; rw [h.1.1]
theorem BDY.tmp (h : BDY N f m m') : m'.tmp = m.tmp := by unfold MK.tmp; rw [h.1.1]
theorem BDY.rt (h : BDY N f m m') : m'.rt = m.rt := by unfold MK.rt; rw [h.1.1]
theorem BDY.mk (h : BDY N f m m') {k d : Int} (h5 : 5 < k) (h10 : k ≠ 10) (h12 : k ≠ 12) : BDY N f (m.put (mkI k d 0 0 0 0)) (m'.put (mkI k d 0 0 0 0)) := h.put (by rw [mp_mk h5 h10, op_lt (show (0 : Int) < 1000 by decide)]) (fun q => absurd (show k = 12 from q) h12)
theorem BDY.pt (h : BDY N f m m') (p : PRL N m m') {k d : Int} (h5 : 5 < k) (h10 : k ≠ 10) (h12 : k ≠ 12) : BDY N f (m.put (mkI k d 0 m.pk m.pv 0)) (m'.put (mkI k d 0 m'.pk m'.pv 0)) := h.put (by rw [mp_mk h5 h10, p.1, p.2]) (fun q => absurd (show k = 12 from q) h12)
theorem BDY.bd (h : BDY N f m m') (hg : g < 1000) : BDY N f (m.put (bndI g)) (m'.put (bndI g)) := h.put (by unfold bndI; rw [mp_mk (by decide) (by decide), op_lt hg]) (fun _ => hg)
theorem BDY.cp (h : BDY N f m m') (p : PRL N m m') (hg : g < 1000) : BDY N f (m.put (mkI 0 g 0 m.pk m.pv 0)) (m'.put (mkI 0 g 0 m'.pk m'.pv 0)) := h.put (by rw [mp_cp hg, p.1, p.2]) (fun q => absurd (show (0 : Int) = 12 from q) (by decide))
theorem BDY.one {tb : Int → Int} (h : BDY N f m m') (e1 : tb m.rt = N) (D : PRL N m m' ∨ ∃ e S, m.S = e :: S ∧ (e.1 = 1 ∨ e.1 = 11)) : BDY N f (m.one tb1) (m'.one tb) ∧ ((PRL N m m' ∨ PRL N (m.one tb1) (m'.one tb)) → PRL N (m.one tb1) (m'.one tb)) ∧ (∀ e S, m.S = e :: S → (e.1 = 1 ∨ e.1 = 11) → (m.one tb1).S = S) := by
  obtain ⟨h1, h2, h3⟩ := h
  have hB : BDY N f m m' := ⟨h1, h2, h3⟩
  cases hs : m.S with
  | nil =>
    rw [hs] at h3
    have hs' := h3.nil
    have o1 : m.one tb1 = m := by unfold MK.one; rw [hs]
    have o2 : m'.one tb = m' := by unfold MK.one; rw [hs']
    rw [o1, o2]
    exact ⟨hB, fun q => q.elim id id, fun e S q => absurd q (by simp)⟩
  | cons e S =>
    rw [hs] at h3
    obtain ⟨e', S', hs', hr, hl⟩ := h3.cons
    obtain ⟨r1, r2, r3, r4, r5, r6⟩ := hr
    have D' : PRL N m m' ∨ (e.1 = 1 ∨ e.1 = 11) := D.imp id (fun ⟨e9, S9, z1, z2⟩ => by rw [hs] at z1; obtain ⟨z3, z4⟩ := List.cons.inj z1; rw [z3]; exact z2)
    by_cases c0 : e.1 = 0
    · have p : PRL N m m' := D'.elim id (fun q => by omega)
      have o1 : m.one tb1 = (((m.put (it2 (if e.2.1 < 6 then e.2.1 else 5) (1000 + m.tmp) e.2.2.1 ((e.2.2.2.headD (0, 0)).1) m.pk m.pv)).sS S).sP 2 (1000 + m.tmp)).sT (m.tmp + 1) := by unfold MK.one; rw [hs]; exact if_pos c0
      have o2 : m'.one tb = (((m'.put (it2 (if e.2.1 < 6 then e.2.1 else 5) (N + m.tmp) e.2.2.1 (opN N e.2.2.1 (e.2.2.2.headD (0, 0)).1) m'.pk m'.pv)).sS S').sP 2 (N + m.tmp)).sT (m.tmp + 1) := by
        unfold MK.one; rw [hs']
        show (if e'.1 = 0 then (((m'.put (it2 (if e'.2.1 < 6 then e'.2.1 else 5) (tb m'.rt + m'.tmp) e'.2.2.1 ((e'.2.2.2.headD (0, 0)).1) m'.pk m'.pv)).sS S').sP 2 (tb m'.rt + m'.tmp)).sT (m'.tmp + 1) else _) = _
        rw [if_pos (by rw [r1]; exact c0), r2, r3, r4 c0, hB.tmp, hB.rt, e1]
      rw [o1, o2]
      have t0 := h1.2.2.2
      refine ⟨?_, fun _ => ⟨rfl, ?_⟩, fun e9 S9 q z => ?_⟩
      · refine BDY.sT (BDY.sP (BDY.sS (hB.put ?_ (fun q => ?_)) hl)) (by omega)
        · rw [mp_it2 (by split <;> omega), nw_ge t0, p.1, p.2]
        · have q2 : (if e.2.1 < 6 then e.2.1 else 5) = 12 := q
          split at q2 <;> omega
      · show N + m.tmp = opN N 2 (1000 + m.tmp)
        unfold opN; rw [if_pos rfl, nw_ge t0]
      · obtain ⟨z3, -⟩ := List.cons.inj q; rw [← z3] at z; omega
    · have c0' : ¬ e'.1 = 0 := by rw [r1]; exact c0
      by_cases c1 : e.1 = 1
      · have o1 : m.one tb1 = (m.put (mkI 11 m.ln 0 0 0 0)).sS S := by unfold MK.one; rw [hs]; exact (if_neg c0).trans (if_pos c1)
        have o2 : m'.one tb = (m'.put (mkI 11 m.ln 0 0 0 0)).sS S' := by unfold MK.one; rw [hs', ← hB.ln]; exact (if_neg c0').trans (if_pos (by rw [r1]; exact c1))
        rw [o1, o2]
        exact ⟨(hB.mk (by decide) (by decide) (by decide)).sS hl, fun q => q.elim id id, fun e9 S9 q _ => (List.cons.inj q).2⟩
      · have c1' : ¬ e'.1 = 1 := by rw [r1]; exact c1
        by_cases c2 : e.1 = 2
        · have p : PRL N m m' := D'.elim id (fun q => by omega)
          have o1 : m.one tb1 = ((m.put (mkI 9 m.lab 0 m.pk m.pv 0)).sS ((3, m.lab, 0, []) :: S)).sL (m.lab + 1) := by unfold MK.one; rw [hs]; exact ((if_neg c0).trans (if_neg c1)).trans (if_pos c2)
          have o2 : m'.one tb = ((m'.put (mkI 9 m.lab 0 m'.pk m'.pv 0)).sS ((3, m.lab, 0, []) :: S')).sL (m.lab + 1) := by unfold MK.one; rw [hs', ← hB.lab]; exact ((if_neg c0').trans (if_neg c1')).trans (if_pos (by rw [r1]; exact c2))
          rw [o1, o2]
          exact ⟨BDY.sL ((hB.pt p (by decide) (by decide) (by decide)).sS ⟨srl_id (show (3 : Int) ≠ 0 by decide) (show (3 : Int) ≠ 8 by decide) (show (3 : Int) ≠ 9 by decide), hl⟩), fun _ => p, fun e9 S9 q z => by obtain ⟨z3, -⟩ := List.cons.inj q; rw [← z3] at z; omega⟩
        · have c2' : ¬ e'.1 = 2 := by rw [r1]; exact c2
          by_cases c3 : e.1 = 3
          · have o1 : m.one tb1 = (m.put (mkI 13 e.2.1 0 0 0 0)).sS S := by unfold MK.one; rw [hs]; exact (((if_neg c0).trans (if_neg c1)).trans (if_neg c2)).trans (if_pos c3)
            have o2 : m'.one tb = (m'.put (mkI 13 e.2.1 0 0 0 0)).sS S' := by unfold MK.one; rw [hs', ← r2]; exact (((if_neg c0').trans (if_neg c1')).trans (if_neg c2')).trans (if_pos (by rw [r1]; exact c3))
            rw [o1, o2]
            exact ⟨(hB.mk (by decide) (by decide) (by decide)).sS hl, fun q => q.elim id id, fun e9 S9 q z => by obtain ⟨z3, -⟩ := List.cons.inj q; rw [← z3] at z; omega⟩
          · have c3' : ¬ e'.1 = 3 := by rw [r1]; exact c3
            by_cases c6 : e.1 = 6
            · have p : PRL N m m' := D'.elim id (fun q => by omega)
              have o1 : m.one tb1 = ((m.put (mkI 9 m.lab 0 m.pk m.pv 0)).sS ((7, e.2.1, m.lab, []) :: S)).sL (m.lab + 1) := by unfold MK.one; rw [hs]; exact ((((if_neg c0).trans (if_neg c1)).trans (if_neg c2)).trans (if_neg c3)).trans (if_pos c6)
              have o2 : m'.one tb = ((m'.put (mkI 9 m.lab 0 m'.pk m'.pv 0)).sS ((7, e.2.1, m.lab, []) :: S')).sL (m.lab + 1) := by unfold MK.one; rw [hs', ← hB.lab, ← r2]; exact ((((if_neg c0').trans (if_neg c1')).trans (if_neg c2')).trans (if_neg c3')).trans (if_pos (by rw [r1]; exact c6))
              rw [o1, o2]
              exact ⟨BDY.sL ((hB.pt p (by decide) (by decide) (by decide)).sS ⟨srl_id (show (7 : Int) ≠ 0 by decide) (show (7 : Int) ≠ 8 by decide) (show (7 : Int) ≠ 9 by decide), hl⟩), fun _ => p, fun e9 S9 q z => by obtain ⟨z3, -⟩ := List.cons.inj q; rw [← z3] at z; omega⟩
            · have c6' : ¬ e'.1 = 6 := by rw [r1]; exact c6
              by_cases c10 : e.1 = 10
              · have p : PRL N m m' := D'.elim id (fun q => by omega)
                have o1 : m.one tb1 = (m.put (mkI (if e.2.1 = 6 then 6 else 7) 0 0 m.pk m.pv 0)).sS S := by unfold MK.one; rw [hs]; exact (((((if_neg c0).trans (if_neg c1)).trans (if_neg c2)).trans (if_neg c3)).trans (if_neg c6)).trans (if_pos c10)
                have o2 : m'.one tb = (m'.put (mkI (if e.2.1 = 6 then 6 else 7) 0 0 m'.pk m'.pv 0)).sS S' := by unfold MK.one; rw [hs', ← r2]; exact (((((if_neg c0').trans (if_neg c1')).trans (if_neg c2')).trans (if_neg c3')).trans (if_neg c6')).trans (if_pos (by rw [r1]; exact c10))
                rw [o1, o2]
                exact ⟨(hB.pt p (by split <;> decide) (by split <;> decide) (by split <;> decide)).sS hl, fun _ => p, fun e9 S9 q z => by obtain ⟨z3, -⟩ := List.cons.inj q; rw [← z3] at z; omega⟩
              · have c10' : ¬ e'.1 = 10 := by rw [r1]; exact c10
                by_cases c11 : e.1 = 11
                · have o1 : m.one tb1 = (m.put (mkI 7 0 0 1 0 0)).sS S := by unfold MK.one; rw [hs]; exact ((((((if_neg c0).trans (if_neg c1)).trans (if_neg c2)).trans (if_neg c3)).trans (if_neg c6)).trans (if_neg c10)).trans (if_pos c11)
                  have o2 : m'.one tb = (m'.put (mkI 7 0 0 1 0 0)).sS S' := by unfold MK.one; rw [hs']; exact ((((((if_neg c0').trans (if_neg c1')).trans (if_neg c2')).trans (if_neg c3')).trans (if_neg c6')).trans (if_neg c10')).trans (if_pos (by rw [r1]; exact c11))
                  rw [o1, o2]
                  exact ⟨(hB.put (by rw [mp_mk (by decide) (by decide), op_1]) (fun q => absurd (show (7 : Int) = 12 from q) (by decide))).sS hl, fun q => q.elim id id, fun e9 S9 q _ => (List.cons.inj q).2⟩
                · have c11' : ¬ e'.1 = 11 := by rw [r1]; exact c11
                  have o1 : m.one tb1 = m := by unfold MK.one; rw [hs]; exact ((((((if_neg c0).trans (if_neg c1)).trans (if_neg c2)).trans (if_neg c3)).trans (if_neg c6)).trans (if_neg c10)).trans (if_neg c11)
                  have o2 : m'.one tb = m' := by unfold MK.one; rw [hs']; exact ((((((if_neg c0').trans (if_neg c1')).trans (if_neg c2')).trans (if_neg c3')).trans (if_neg c6')).trans (if_neg c10')).trans (if_neg c11')
                  rw [o1, o2]
                  exact ⟨hB, fun q => q.elim id id, fun e9 S9 q z => by obtain ⟨z3, -⟩ := List.cons.inj q; rw [← z3] at z; omega⟩
theorem BDY.two (h : BDY N f m m') (D : PRL N m m' ∨ ∃ e S, m.S = e :: S ∧ e.1 = 5) : BDY N f m.two m'.two := by
  obtain ⟨h1, h2, h3⟩ := h
  have hB : BDY N f m m' := ⟨h1, h2, h3⟩
  cases hs : m.S with
  | nil =>
    rw [hs] at h3
    have hs' := h3.nil
    have o1 : m.two = m := by unfold MK.two; rw [hs]
    have o2 : m'.two = m' := by unfold MK.two; rw [hs']
    rw [o1, o2]; exact hB
  | cons e S =>
    rw [hs] at h3
    obtain ⟨e', S', hs', hr, hl⟩ := h3.cons
    obtain ⟨r1, r2, r3, r4, r5, r6⟩ := hr
    have D' : PRL N m m' ∨ e.1 = 5 := D.imp id (fun ⟨e9, S9, z1, z2⟩ => by rw [hs] at z1; obtain ⟨z3, z4⟩ := List.cons.inj z1; rw [z3]; exact z2)
    by_cases c8 : e.1 = 8
    · have p : PRL N m m' := D'.elim id (fun q => by omega)
      have g8 := r6 (Or.inl c8)
      have o1 : m.two = ((m.put (mkI 0 e.2.1 0 m.pk m.pv 0)).put (bndI e.2.1)).sS S := by unfold MK.two; rw [hs]; exact if_pos c8
      have o2 : m'.two = ((m'.put (mkI 0 e.2.1 0 m'.pk m'.pv 0)).put (bndI e.2.1)).sS S' := by unfold MK.two; rw [hs', ← r2]; exact if_pos (by rw [r1]; exact c8)
      rw [o1, o2]
      exact ((hB.cp p g8).bd g8).sS hl
    · have c8' : ¬ e'.1 = 8 := by rw [r1]; exact c8
      by_cases c5 : e.1 = 5
      · have o1 : m.two = (((m.put (mkI 13 m.lab 0 0 0 0)).put (mkI 11 m.ln 0 0 0 0)).sS ((6, m.lab, 0, []) :: S)).sL (m.lab + 1) := by unfold MK.two; rw [hs]; exact (if_neg c8).trans (if_pos c5)
        have o2 : m'.two = (((m'.put (mkI 13 m.lab 0 0 0 0)).put (mkI 11 m.ln 0 0 0 0)).sS ((6, m.lab, 0, []) :: S')).sL (m.lab + 1) := by unfold MK.two; rw [hs', ← hB.lab, ← hB.ln]; exact (if_neg c8').trans (if_pos (by rw [r1]; exact c5))
        rw [o1, o2]
        exact BDY.sL (((hB.mk (by decide) (by decide) (by decide)).mk (by decide) (by decide) (by decide)).sS ⟨srl_id (show (6 : Int) ≠ 0 by decide) (show (6 : Int) ≠ 8 by decide) (show (6 : Int) ≠ 9 by decide), hl⟩)
      · have c5' : ¬ e'.1 = 5 := by rw [r1]; exact c5
        by_cases c4 : e.1 = 4
        · have o1 : m.two = (((m.put (mkI 8 m.lab 0 0 0 0)).put (mkI 13 e.2.1 0 0 0 0)).sS ((3, m.lab, 0, []) :: S)).sL (m.lab + 1) := by unfold MK.two; rw [hs]; exact ((if_neg c8).trans (if_neg c5)).trans (if_pos c4)
          have o2 : m'.two = (((m'.put (mkI 8 m.lab 0 0 0 0)).put (mkI 13 e.2.1 0 0 0 0)).sS ((3, m.lab, 0, []) :: S')).sL (m.lab + 1) := by unfold MK.two; rw [hs', ← hB.lab, ← r2]; exact ((if_neg c8').trans (if_neg c5')).trans (if_pos (by rw [r1]; exact c4))
          rw [o1, o2]
          exact BDY.sL (((hB.mk (by decide) (by decide) (by decide)).mk (by decide) (by decide) (by decide)).sS ⟨srl_id (show (3 : Int) ≠ 0 by decide) (show (3 : Int) ≠ 8 by decide) (show (3 : Int) ≠ 9 by decide), hl⟩)
        · have c4' : ¬ e'.1 = 4 := by rw [r1]; exact c4
          by_cases c7 : e.1 = 7
          · have o1 : m.two = ((m.put (mkI 8 e.2.1 0 0 0 0)).put (mkI 13 e.2.2.1 0 0 0 0)).sS S := by unfold MK.two; rw [hs]; exact (((if_neg c8).trans (if_neg c5)).trans (if_neg c4)).trans (if_pos c7)
            have o2 : m'.two = ((m'.put (mkI 8 e.2.1 0 0 0 0)).put (mkI 13 e.2.2.1 0 0 0 0)).sS S' := by unfold MK.two; rw [hs', ← r2, ← r3]; exact (((if_neg c8').trans (if_neg c5')).trans (if_neg c4')).trans (if_pos (by rw [r1]; exact c7))
            rw [o1, o2]
            exact ((hB.mk (by decide) (by decide) (by decide)).mk (by decide) (by decide) (by decide)).sS hl
          · have c7' : ¬ e'.1 = 7 := by rw [r1]; exact c7
            have o1 : m.two = m := by unfold MK.two; rw [hs]; exact (((if_neg c8).trans (if_neg c5)).trans (if_neg c4)).trans (if_neg c7)
            have o2 : m'.two = m' := by unfold MK.two; rw [hs']; exact (((if_neg c8').trans (if_neg c5')).trans (if_neg c4')).trans (if_neg c7')
            rw [o1, o2]; exact hB
theorem BDY.cal {rn : Int64 → Int} {w : Int64} (h : BDY N f m m') : BDY N f (m.cal rn w) (m'.cal (fun w => f (rn w)) w) := by
  obtain ⟨h1, h2, h3⟩ := h
  have hB : BDY N f m m' := ⟨h1, h2, h3⟩
  cases hs : m.S with
  | nil =>
    rw [hs] at h3
    have hs' := h3.nil
    have o1 : m.cal rn w = m := by unfold MK.cal; rw [hs]
    have o2 : m'.cal (fun w => f (rn w)) w = m' := by unfold MK.cal; rw [hs']
    rw [o1, o2]; exact hB
  | cons e S =>
    rw [hs] at h3
    obtain ⟨e', S', hs', hr, hl⟩ := h3.cons
    obtain ⟨r1, r2, r3, r4, r5, r6⟩ := hr
    by_cases c9 : e.1 = 9
    · have g9 := r6 (Or.inr c9)
      have o1 : m.cal rn w = ((m.put (itC e.2.1 (rn w) e.2.2.2)).put (bndI e.2.1)).sS S := by unfold MK.cal; rw [hs]; exact if_pos c9
      have o2 : m'.cal (fun w => f (rn w)) w = ((m'.put (itC e.2.1 (f (rn w)) (mpA N e.2.2.2))).put (bndI e.2.1)).sS S' := by unfold MK.cal; rw [hs', ← r2, ← r5 c9]; exact if_pos (by rw [r1]; exact c9)
      rw [o1, o2]
      exact (BDY.bd (hB.put (by rw [mp_itC g9]) (fun q => absurd (show (10 : Int) = 12 from q) (by decide))) g9).sS hl
    · have c9' : ¬ e'.1 = 9 := by rw [r1]; exact c9
      have o1 : m.cal rn w = m := by unfold MK.cal; rw [hs]; exact if_neg c9
      have o2 : m'.cal (fun w => f (rn w)) w = m' := by unfold MK.cal; rw [hs']; exact if_neg c9'
      rw [o1, o2]; exact hB
end BDYS
abbrev ZT : List Nat := [29, 51, 34, 36]
def T11 (S : List ME) : Prop := ∃ e S', S = e :: S' ∧ e.1 = 11
def DBB (k : Nat) (K : List Nat) : Prop := (k = 28 ∧ K = [51, 34, 36]) ∨ (k = 223 ∧ K = ZT) ∨ (k = 29 ∧ K = [51, 34, 36]) ∨ (k = 40 ∧ K = [51, 34, 36]) ∨ (k = 51 ∧ K = [34, 36]) ∨ ((k = 20 ∨ k = 22 ∨ k = 21 ∨ k = 39 ∨ k = 23 ∨ k = 159) ∧ K = ZT) ∨ (k = 141 ∧ K = 159 :: ZT)
def DCC (e : Int) (k : Nat) (K : List Nat) : Prop := (e = 1 ∧ k = 51 ∧ (K = 21 :: ZT ∨ K = 39 :: ZT ∨ K = 23 :: ZT)) ∨ (e = 8 ∧ ((k = 161 ∧ K = 25 :: ZT) ∨ (k = 25 ∧ K = ZT))) ∨ (e = 9 ∧ ((k = 26 ∧ K = 159 :: ZT) ∨ (k = 38 ∧ K = 141 :: 159 :: ZT)))
def DIR : List Nat → List ME → Prop
  | [], _ => False
  | k :: K, S => k ≤ 4 ∨ k = 34 ∨ (T11 S ∧ DBB k K) ∨ ∃ e S', S = e :: S' ∧ ((e.1 = 5 ∧ k = 52 ∧ K = 2 :: 51 :: 28 :: 52 :: ZT) ∨ (T11 S' ∧ DCC e.1 k K))
section DIRS
variable {k : Nat} {K : List Nat} {S : List ME}
theorem DIR.no (h : DIR (k :: K) S) (h1 : k = 6 ∨ k = 7 ∨ k = 8 ∨ k = 9 ∨ k = 27 ∨ k = 24) : False := by
  rcases h with h | h | ⟨_, h⟩ | ⟨e, S', _, ⟨_, h, _⟩ | ⟨_, h⟩⟩
  · omega
  · omega
  · unfold DBB at h; omega
  · omega
  · unfold DCC at h; omega
theorem DIR.sml (h : k ≤ 4) : DIR (k :: K) S := Or.inl h
theorem DIR.bb (h : T11 S) (g : DBB k K) : DIR (k :: K) S := Or.inr (Or.inr (Or.inl ⟨h, g⟩))
theorem DIR.cc {e : ME} {S' : List ME} (hS : S = e :: S') (h : T11 S') (g : DCC e.1 k K) : DIR (k :: K) S := Or.inr (Or.inr (Or.inr ⟨e, S', hS, Or.inr ⟨h, g⟩⟩))
theorem DIR.b51 (h : DIR (51 :: K) S) : ∃ e S', S = e :: S' ∧ ((e.1 = 11 ∧ K = [34, 36]) ∨ (e.1 = 1 ∧ T11 S' ∧ (K = 21 :: ZT ∨ K = 39 :: ZT ∨ K = 23 :: ZT))) := by
  rcases h with h | h | ⟨⟨e, S', h1, h2⟩, h⟩ | ⟨e, S', h1, ⟨_, h, _⟩ | ⟨h2, h⟩⟩
  · omega
  · omega
  · refine ⟨e, S', h1, Or.inl ⟨h2, ?_⟩⟩
    unfold DBB at h
    rcases h with h | h | h | h | h | h | h
    · omega
    · omega
    · omega
    · omega
    · exact h.2
    · omega
    · omega
  · omega
  · refine ⟨e, S', h1, Or.inr ?_⟩
    unfold DCC at h
    rcases h with ⟨a, _, b⟩ | ⟨_, ⟨a, _⟩ | ⟨a, _⟩⟩ | ⟨_, ⟨a, _⟩ | ⟨a, _⟩⟩
    · exact ⟨a, h2, b⟩
    · omega
    · omega
    · omega
    · omega
theorem DIR.b52 (h : DIR (52 :: K) S) : ∃ e S', S = e :: S' ∧ e.1 = 5 ∧ K = 2 :: 51 :: 28 :: 52 :: ZT := by
  rcases h with h | h | ⟨_, h⟩ | ⟨e, S', h1, ⟨h2, _, h⟩ | ⟨_, h⟩⟩
  · omega
  · omega
  · unfold DBB at h; omega
  · exact ⟨e, S', h1, h2, h⟩
  · unfold DCC at h; omega
theorem DIR.bZ (h : DIR (k :: K) S) (hk : k = 20 ∨ k = 21 ∨ k = 22 ∨ k = 23 ∨ k = 39 ∨ k = 159 ∨ k = 223) : T11 S ∧ K = ZT := by
  rcases h with h | h | ⟨h1, h⟩ | ⟨e, S', h1, ⟨_, h, _⟩ | ⟨_, h⟩⟩
  · omega
  · omega
  · refine ⟨h1, ?_⟩
    unfold DBB at h
    rcases h with h | h | h | h | h | h | h
    · omega
    · exact h.2
    · omega
    · omega
    · omega
    · exact h.2
    · omega
  · omega
  · unfold DCC at h; omega
theorem DIR.bR (h : DIR (k :: K) S) (hk : k = 28 ∨ k = 29 ∨ k = 40) : T11 S ∧ K = [51, 34, 36] := by
  rcases h with h | h | ⟨h1, h⟩ | ⟨e, S', h1, ⟨_, h, _⟩ | ⟨_, h⟩⟩
  · omega
  · omega
  · refine ⟨h1, ?_⟩
    unfold DBB at h
    rcases h with h | h | h | h | h | h | h
    · exact h.2
    · omega
    · exact h.2
    · exact h.2
    · omega
    · omega
    · omega
  · omega
  · unfold DCC at h; omega
theorem DIR.b141 (h : DIR (141 :: K) S) : T11 S ∧ K = 159 :: ZT := by
  rcases h with h | h | ⟨h1, h⟩ | ⟨e, S', h1, ⟨_, h, _⟩ | ⟨_, h⟩⟩
  · omega
  · omega
  · refine ⟨h1, ?_⟩
    unfold DBB at h
    rcases h with h | h | h | h | h | h | h
    · omega
    · omega
    · omega
    · omega
    · omega
    · omega
    · exact h.2
  · omega
  · unfold DCC at h; omega
theorem DIR.b8 (h : DIR (k :: K) S) (hk : k = 161 ∨ k = 25 ∨ k = 26 ∨ k = 38) : ∃ e S', S = e :: S' ∧ T11 S' ∧ ((k = 161 ∧ e.1 = 8 ∧ K = 25 :: ZT) ∨ (k = 25 ∧ e.1 = 8 ∧ K = ZT) ∨ (k = 26 ∧ e.1 = 9 ∧ K = 159 :: ZT) ∨ (k = 38 ∧ e.1 = 9 ∧ K = 141 :: 159 :: ZT)) := by
  rcases h with h | h | ⟨h1, h⟩ | ⟨e, S', h1, ⟨_, h, _⟩ | ⟨h2, h⟩⟩
  · omega
  · omega
  · unfold DBB at h; omega
  · omega
  · refine ⟨e, S', h1, h2, ?_⟩
    unfold DCC at h
    rcases h with ⟨_, a, _⟩ | ⟨c, ⟨a, b⟩ | ⟨a, b⟩⟩ | ⟨c, ⟨a, b⟩ | ⟨a, b⟩⟩
    · omega
    · exact Or.inl ⟨a, c, b⟩
    · exact Or.inr (Or.inl ⟨a, c, b⟩)
    · exact Or.inr (Or.inr (Or.inl ⟨a, c, b⟩))
    · exact Or.inr (Or.inr (Or.inr ⟨a, c, b⟩))
end DIRS
section STB
variable {N : Int} {f : Int → Int} {m m' : MK} {s : Int → Int} {nm : Int → Int64 → Int} {rn : Int64 → Int} {tb Nf : Int → Int} {k : Nat} {K : List Nat} {t : TK} {x : Int × Int × Int} {q : QR} {r : List Nat × TK × (Int × Int × Int) × QR × List EV} {w : Int64}
theorem one_q : (m.one tb).2.2.2.2 = m.2.2.2.2 ∧ (m.one tb).rt = m.rt := by
  unfold MK.one
  split
  · exact ⟨rfl, rfl⟩
  · repeat' split
    all_goals exact ⟨rfl, rfl⟩
theorem two_q : m.two.2.2.2.2 = m.2.2.2.2 ∧ m.two.rt = m.rt ∧ m.two.2.2.1 = m.2.2.1 := by
  unfold MK.two
  split
  · exact ⟨rfl, rfl, rfl⟩
  · repeat' split
    all_goals exact ⟨rfl, rfl, rfl⟩
theorem cal_q : (m.cal rn w).2.2.2.2 = m.2.2.2.2 ∧ (m.cal rn w).rt = m.rt ∧ (m.cal rn w).2.2.1 = m.2.2.1 := by
  unfold MK.cal
  split
  · exact ⟨rfl, rfl, rfl⟩
  · split
    · exact ⟨rfl, rfl, rfl⟩
    · exact ⟨rfl, rfl, rfl⟩
theorem top_q {g : ME → ME} : (m.top g).2.2.2.2 = m.2.2.2.2 ∧ (m.top g).rt = m.rt ∧ (m.top g).2.2.1 = m.2.2.1 := by
  unfold MK.top
  split
  · exact ⟨rfl, rfl, rfl⟩
  · exact ⟨rfl, rfl, rfl⟩
theorem top_S {g : ME → ME} {e : ME} {S : List ME} (h : m.S = e :: S) : (m.top g).S = g e :: S := by
  unfold MK.top
  rw [h]
  rfl
theorem cal_S {e : ME} {S : List ME} (h : m.S = e :: S) (h9 : e.1 = 9) : (m.cal rn w).S = S := by
  unfold MK.cal
  rw [h]
  exact congrArg MK.S (if_pos h9)
theorem BDY.top {g g' : ME → ME} (h : BDY N f m m') (hg : ∀ e e', SRL N e e' → SRL N (g e) (g' e')) : BDY N f (m.top g) (m'.top g') := by
  obtain ⟨h1, h2, h3⟩ := h
  cases hs : m.S with
  | nil =>
    rw [hs] at h3
    have o1 : m.top g = m := by unfold MK.top; rw [hs]
    have o2 : m'.top g' = m' := by unfold MK.top; rw [h3.nil]
    rw [o1, o2]; exact ⟨h1, h2, by rw [hs]; exact h3⟩
  | cons e S =>
    rw [hs] at h3
    obtain ⟨e', S', hs', hr, hl⟩ := h3.cons
    have o1 : m.top g = m.sS (g e :: S) := by unfold MK.top; rw [hs]
    have o2 : m'.top g' = m'.sS (g' e' :: S') := by unfold MK.top; rw [hs']
    rw [o1, o2]
    exact ⟨h1, h2, hg e e' hr, hl⟩
theorem mkk_df (h : ¬ (k = 0 ∨ k = 1 ∨ k = 6 ∨ k = 8 ∨ k = 9 ∨ k = 20 ∨ k = 21 ∨ k = 22 ∨ k = 23 ∨ k = 24 ∨ k = 25 ∨ k = 27 ∨ k = 34 ∨ k = 35 ∨ k = 38 ∨ k = 39 ∨ k = 51 ∨ k = 52)) : mkk s nm rn tb k t q m = m := by
  unfold mkk
  split
  all_goals first
    | rfl
    | (exfalso; apply h; decide)
def PDR (N : Int) (K : List Nat) (m m' : MK) : Prop := PRL N m m' ∨ DIR K m.S
def SBQ (N : Int) (f : Int → Int) (K : List Nat) (m m' M M' : MK) : Prop := BDY N f M M' ∧ PDR N K M M' ∧ M.rt = m.rt ∧ M.2.2.2.2 = m.2.2.2.2 ∧ M'.2.2.2.2 = m'.2.2.2.2
theorem SBQ.same (hB : BDY N f m m') (h : PDR N K m m') : SBQ N f K m m' m m' := ⟨hB, h, rfl, rfl, rfl⟩
theorem DIR.oth {S : List ME} (h : DIR (k :: K) S) : k ≤ 4 ∨ k = 34 ∨ k = 28 ∨ k = 29 ∨ k = 40 ∨ k = 51 ∨ k = 20 ∨ k = 21 ∨ k = 22 ∨ k = 23 ∨ k = 39 ∨ k = 159 ∨ k = 223 ∨ k = 141 ∨ k = 52 ∨ k = 161 ∨ k = 25 ∨ k = 26 ∨ k = 38 := by
  rcases h with h | h | ⟨h1, h⟩ | ⟨e, S', h1, ⟨_, h, _⟩ | ⟨_, h⟩⟩
  · omega
  · omega
  · unfold DBB at h; omega
  · omega
  · unfold DCC at h; omega
theorem BDY.step (hnm : ∀ r w, nm r w < 1000) (hk : NTg k) (hB : BDY N f m m') (hN : Nf m.rt = N) (D : PDR N (k :: K) m m') (hs : stk s k t x q = some r) : SBQ N f (r.1 ++ K) m m' (mkk s nm rn tb1 k t q m) (mkk s nm (fun w => f (rn w)) Nf k t q m') := by
  have rt' := hB.rt
  by_cases k0 : k = 0
  · subst k0
    by_cases z : sgn t 45
    · have e1 : mkk s nm rn tb1 0 t q m = m.push (0, 2, 1, [(0, 0)]) := if_pos z
      have e2 : mkk s nm (fun w => f (rn w)) Nf 0 t q m' = m'.push (0, 2, 1, [(0, 0)]) := if_pos z
      obtain rfl := Option.some.inj (hs.symm.trans (if_pos z))
      rw [e1, e2]
      exact ⟨hB.psh ⟨rfl, rfl, rfl, fun _ => op_1.symm, fun y => absurd y (by decide), fun y => by rcases y with y | y <;> exact absurd y (by decide)⟩, Or.inr (DIR.sml (show 1 ≤ 4 by decide)), rfl, rfl, rfl⟩
    · have e1 : mkk s nm rn tb1 0 t q m = m := if_neg z
      have e2 : mkk s nm (fun w => f (rn w)) Nf 0 t q m' = m' := if_neg z
      obtain rfl := Option.some.inj (hs.symm.trans (if_neg z))
      rw [e1, e2]
      exact SBQ.same hB (Or.inr (DIR.sml (show 1 ≤ 4 by decide)))
  by_cases k1 : k = 1
  · subst k1
    by_cases z : t.2.2.1 = 3
    · have e1 : mkk s nm rn tb1 1 t q m = m.sP 1 t.2.2.2.1 := if_pos z
      have e2 : mkk s nm (fun w => f (rn w)) Nf 1 t q m' = m'.sP 1 t.2.2.2.1 := if_pos z
      rw [e1, e2]
      exact ⟨hB.sP, Or.inl ⟨rfl, op_1.symm⟩, rfl, rfl, rfl⟩
    · by_cases y : nam t
      · have e1 : mkk s nm rn tb1 1 t q m = m.sP 2 (nm m.rt t.2.2.2.2) := (if_neg z).trans (if_pos y)
        have e2 : mkk s nm (fun w => f (rn w)) Nf 1 t q m' = m'.sP 2 (nm m.rt t.2.2.2.2) := ((if_neg z).trans (if_pos y)).trans (by rw [rt'])
        rw [e1, e2]
        exact ⟨hB.sP, Or.inl ⟨rfl, (op_lt (hnm _ _)).symm⟩, rfl, rfl, rfl⟩
      · have e1 : mkk s nm rn tb1 1 t q m = m := (if_neg z).trans (if_neg y)
        have e2 : mkk s nm (fun w => f (rn w)) Nf 1 t q m' = m' := (if_neg z).trans (if_neg y)
        have h2 := hs.symm.trans (if_neg (fun u => by rcases u with u | u; exact z u; exact y u))
        by_cases u : sgn t 40
        · obtain rfl := Option.some.inj (h2.trans (if_pos u))
          rw [e1, e2]
          exact SBQ.same hB (Or.inr (DIR.sml (show 2 ≤ 4 by decide)))
        · exact absurd (h2.trans (if_neg u)) (by simp)
  by_cases k2 : k = 2
  · subst k2
    rw [mkk_df (by decide), mkk_df (by decide)]
    by_cases u : x.1 = 8
    · exact absurd (hs.symm.trans (if_pos u)) (by simp)
    · obtain rfl := Option.some.inj (hs.symm.trans (if_neg u))
      exact SBQ.same hB (Or.inr (DIR.sml (show 3 ≤ 4 by decide)))
  by_cases k3 : k = 3
  · subst k3
    rw [mkk_df (by decide), mkk_df (by decide)]
    obtain rfl := Option.some.inj (hs.symm.trans rfl)
    exact SBQ.same hB (Or.inr (DIR.sml (show 4 ≤ 4 by decide)))
  by_cases k4 : k = 4
  · subst k4
    rw [mkk_df (by decide), mkk_df (by decide)]
    obtain rfl := Option.some.inj (hs.symm.trans rfl)
    exact SBQ.same hB (Or.inr (DIR.sml (show 0 ≤ 4 by decide)))
  have srl0 : ∀ o : Int, PRL N m m' → SRL N (0, o, m.pk, [(m.pv, 0)]) (0, o, m'.pk, [(m'.pv, 0)]) := fun o p => ⟨rfl, rfl, p.1, fun _ => p.2, fun y => absurd (show (0 : Int) = 9 from y) (by decide), fun y => by rcases y with y | y; exact absurd (show (0 : Int) = 8 from y) (by decide); exact absurd (show (0 : Int) = 9 from y) (by decide)⟩
  by_cases k6 : k = 6
  · subst k6
    have p : PRL N m m' := D.elim id (fun d => (d.no (by decide)).elim)
    by_cases z : sgn t 61
    · have e1 : mkk s nm rn tb1 6 t q m = m.push (0, 4, m.pk, [(m.pv, 0)]) := if_pos z
      have e2 : mkk s nm (fun w => f (rn w)) Nf 6 t q m' = m'.push (0, 4, m'.pk, [(m'.pv, 0)]) := if_pos z
      rw [e1, e2]; exact ⟨hB.psh (srl0 4 p), Or.inl p, rfl, rfl, rfl⟩
    · by_cases y : sgn t 60
      · have e1 : mkk s nm rn tb1 6 t q m = m.push (0, 5, m.pk, [(m.pv, 0)]) := (if_neg z).trans (if_pos y)
        have e2 : mkk s nm (fun w => f (rn w)) Nf 6 t q m' = m'.push (0, 5, m'.pk, [(m'.pv, 0)]) := (if_neg z).trans (if_pos y)
        rw [e1, e2]; exact ⟨hB.psh (srl0 5 p), Or.inl p, rfl, rfl, rfl⟩
      · have e1 : mkk s nm rn tb1 6 t q m = m := (if_neg z).trans (if_neg y)
        have e2 : mkk s nm (fun w => f (rn w)) Nf 6 t q m' = m' := (if_neg z).trans (if_neg y)
        rw [e1, e2]; exact SBQ.same hB (Or.inl p)
  by_cases k8 : k = 8
  · subst k8
    have p : PRL N m m' := D.elim id (fun d => (d.no (by decide)).elim)
    by_cases z : sgn t 43
    · have e1 : mkk s nm rn tb1 8 t q m = m.push (0, 1, m.pk, [(m.pv, 0)]) := if_pos z
      have e2 : mkk s nm (fun w => f (rn w)) Nf 8 t q m' = m'.push (0, 1, m'.pk, [(m'.pv, 0)]) := if_pos z
      rw [e1, e2]; exact ⟨hB.psh (srl0 1 p), Or.inl p, rfl, rfl, rfl⟩
    · by_cases y : sgn t 45
      · have e1 : mkk s nm rn tb1 8 t q m = m.push (0, 2, m.pk, [(m.pv, 0)]) := (if_neg z).trans (if_pos y)
        have e2 : mkk s nm (fun w => f (rn w)) Nf 8 t q m' = m'.push (0, 2, m'.pk, [(m'.pv, 0)]) := (if_neg z).trans (if_pos y)
        rw [e1, e2]; exact ⟨hB.psh (srl0 2 p), Or.inl p, rfl, rfl, rfl⟩
      · have e1 : mkk s nm rn tb1 8 t q m = m := (if_neg z).trans (if_neg y)
        have e2 : mkk s nm (fun w => f (rn w)) Nf 8 t q m' = m' := (if_neg z).trans (if_neg y)
        rw [e1, e2]; exact SBQ.same hB (Or.inl p)
  by_cases k9 : k = 9
  · subst k9
    have p : PRL N m m' := D.elim id (fun d => (d.no (by decide)).elim)
    by_cases z : sgn t 42
    · have e1 : mkk s nm rn tb1 9 t q m = m.push (0, 3, m.pk, [(m.pv, 0)]) := if_pos z
      have e2 : mkk s nm (fun w => f (rn w)) Nf 9 t q m' = m'.push (0, 3, m'.pk, [(m'.pv, 0)]) := if_pos z
      rw [e1, e2]; exact ⟨hB.psh (srl0 3 p), Or.inl p, rfl, rfl, rfl⟩
    · have e1 : mkk s nm rn tb1 9 t q m = m := if_neg z
      have e2 : mkk s nm (fun w => f (rn w)) Nf 9 t q m' = m' := if_neg z
      rw [e1, e2]; exact SBQ.same hB (Or.inl p)
  by_cases k20 : k = 20
  · subst k20
    by_cases z : wrd t 512852847717
    · have e1 : mkk s nm rn tb1 20 t q m = m.stm := if_pos z
      have e2 : mkk s nm (fun w => f (rn w)) Nf 20 t q m' = m'.stm := if_pos z
      obtain rfl := Option.some.inj (hs.symm.trans (if_pos z))
      rw [e1, e2]
      refine ⟨hB.stm, D.imp id (fun d => ?_), rfl, rfl, rfl⟩
      obtain ⟨d1, d2⟩ := d.bZ (by decide)
      rw [d2]
      exact DIR.bb d1 (Or.inr (Or.inr (Or.inr (Or.inr (Or.inr (Or.inl ⟨by decide, rfl⟩))))))
    · have e1 : mkk s nm rn tb1 20 t q m = m.stm.push (1, 0, 0, []) := if_neg z
      have e2 : mkk s nm (fun w => f (rn w)) Nf 20 t q m' = m'.stm.push (1, 0, 0, []) := if_neg z
      rw [e1, e2]
      refine ⟨(hB.stm).psh (srl_id (show (1 : Int) ≠ 0 by decide) (show (1 : Int) ≠ 8 by decide) (show (1 : Int) ≠ 9 by decide)), D.imp id (fun d => ?_), rfl, rfl, rfl⟩
      obtain ⟨d1, d2⟩ := d.bZ (by decide)
      have h2 := hs.symm.trans (if_neg z)
      rw [d2]
      by_cases y1 : wrd t 26982
      · obtain rfl := Option.some.inj (h2.trans (if_pos y1))
        exact DIR.cc (e := (1, 0, 0, [])) (S' := m.S) rfl d1 (Or.inl ⟨rfl, rfl, Or.inl rfl⟩)
      · have h3 := h2.trans (if_neg y1)
        by_cases y2 : wrd t 7304564 ∨ wrd t 125780071117422
        · obtain rfl := Option.some.inj (h3.trans (if_pos y2))
          exact DIR.cc (e := (1, 0, 0, [])) (S' := m.S) rfl d1 (Or.inl ⟨rfl, rfl, Or.inr (Or.inl rfl)⟩)
        · have h4 := h3.trans (if_neg y2)
          by_cases y3 : nam t
          · obtain rfl := Option.some.inj (h4.trans (if_pos y3))
            exact DIR.cc (e := (1, 0, 0, [])) (S' := m.S) rfl d1 (Or.inl ⟨rfl, rfl, Or.inr (Or.inr rfl)⟩)
          · exact absurd (h4.trans (if_neg y3)) (by simp)
  by_cases k21 : k = 21
  · subst k21
    obtain rfl := Option.some.inj (hs.symm.trans rfl)
    exact ⟨hB.psh (e := (2, 0, 0, [])) (e' := (2, 0, 0, [])) (srl_id (show (2 : Int) ≠ 0 by decide) (show (2 : Int) ≠ 8 by decide) (show (2 : Int) ≠ 9 by decide)), Or.inr (DIR.sml (show 2 ≤ 4 by decide)), rfl, rfl, rfl⟩
  by_cases k22 : k = 22
  · subst k22
    obtain rfl := Option.some.inj (hs.symm.trans rfl)
    refine ⟨hB.psh (e := (5, 0, 0, [])) (e' := (5, 0, 0, [])) (srl_id (show (5 : Int) ≠ 0 by decide) (show (5 : Int) ≠ 8 by decide) (show (5 : Int) ≠ 9 by decide)), D.imp id (fun d => ?_), rfl, rfl, rfl⟩
    obtain ⟨d1, d2⟩ := d.bZ (by decide)
    rw [d2]
    exact Or.inr (Or.inr (Or.inr ⟨(5, 0, 0, []), m.S, rfl, Or.inl ⟨rfl, rfl, rfl⟩⟩))
  by_cases k23 : k = 23
  · subst k23
    have e1 : mkk s nm rn tb1 23 t q m = m.push (8, nm m.rt t.2.2.2.2, 0, []) := rfl
    have e2 : mkk s nm (fun w => f (rn w)) Nf 23 t q m' = m'.push (8, nm m.rt t.2.2.2.2, 0, []) := by rw [← rt']; rfl
    obtain rfl := Option.some.inj (hs.symm.trans rfl)
    rw [e1, e2]
    refine ⟨hB.psh ⟨rfl, rfl, rfl, fun y => absurd (show (8 : Int) = 0 from y) (by decide), fun y => absurd (show (8 : Int) = 9 from y) (by decide), fun _ => hnm _ _⟩, D.imp id (fun d => ?_), rfl, rfl, rfl⟩
    obtain ⟨d1, d2⟩ := d.bZ (by decide)
    rw [d2]
    exact DIR.cc (e := (8, nm m.rt t.2.2.2.2, 0, [])) (S' := m.S) rfl d1 (Or.inr (Or.inl ⟨rfl, Or.inl ⟨rfl, rfl⟩⟩))
  by_cases k24 : k = 24
  · subst k24
    have p : PRL N m m' := D.elim id (fun d => (d.no (by decide)).elim)
    by_cases z : wrd t 1701606245
    · have e1 : mkk s nm rn tb1 24 t q m = m.top (fun e => if e.1 = 3 then (4, e.2.1, 0, []) else e) := if_pos z
      have e2 : mkk s nm (fun w => f (rn w)) Nf 24 t q m' = m'.top (fun e => if e.1 = 3 then (4, e.2.1, 0, []) else e) := if_pos z
      rw [e1, e2]
      refine ⟨hB.top (fun e e' g => ?_), Or.inl ⟨?_, ?_⟩, top_q.2.1, top_q.1, top_q.1⟩
      · by_cases c : e.1 = 3
        · rw [if_pos c, if_pos (show e'.1 = 3 by rw [g.1]; exact c), g.2.1]
          exact srl_id (show (4 : Int) ≠ 0 by decide) (show (4 : Int) ≠ 8 by decide) (show (4 : Int) ≠ 9 by decide)
        · rw [if_neg c, if_neg (show ¬ e'.1 = 3 by rw [g.1]; exact c)]; exact g
      · unfold MK.pk; rw [top_q.2.2, top_q.2.2]; exact p.1
      · unfold MK.pk MK.pv; rw [top_q.2.2, top_q.2.2]; exact p.2
    · have e1 : mkk s nm rn tb1 24 t q m = m := if_neg z
      have e2 : mkk s nm (fun w => f (rn w)) Nf 24 t q m' = m' := if_neg z
      rw [e1, e2]; exact SBQ.same hB (Or.inl p)
  by_cases k25 : k = 25
  · subst k25
    by_cases z : nam t ∧ sgn (advT s t.2.1) 40
    · have e1 : mkk s nm rn tb1 25 t q m = m.top (fun e => if e.1 = 8 then (9, e.2.1, 0, []) else e) := if_pos z
      have e2 : mkk s nm (fun w => f (rn w)) Nf 25 t q m' = m'.top (fun e => if e.1 = 8 then (9, e.2.1, 0, []) else e) := if_pos z
      obtain rfl := Option.some.inj (hs.symm.trans ((if_pos z.1).trans (if_pos z.2)))
      rw [e1, e2]
      refine ⟨hB.top (fun e e' g => ?_), ?_, top_q.2.1, top_q.1, top_q.1⟩
      · by_cases c : e.1 = 8
        · rw [if_pos c, if_pos (show e'.1 = 8 by rw [g.1]; exact c), g.2.1]
          exact ⟨rfl, rfl, rfl, fun y => absurd (show (9 : Int) = 0 from y) (by decide), fun _ => rfl, fun _ => g.2.2.2.2.2 (Or.inl c)⟩
        · rw [if_neg c, if_neg (show ¬ e'.1 = 8 by rw [g.1]; exact c)]; exact g
      · rcases D with p | d
        · exact Or.inl ⟨by unfold MK.pk; rw [top_q.2.2, top_q.2.2]; exact p.1, by unfold MK.pk MK.pv; rw [top_q.2.2, top_q.2.2]; exact p.2⟩
        · obtain ⟨e, S', d1, d2, d3⟩ := d.b8 (by decide)
          rcases d3 with d3 | d3 | d3 | d3
          · exact absurd d3.1 (by decide)
          · rw [d3.2.2]
            exact Or.inr (DIR.cc (e := (9, e.2.1, 0, [])) (S' := S') (by rw [top_S d1, if_pos d3.2.1]) d2 (Or.inr (Or.inr ⟨rfl, Or.inl ⟨rfl, rfl⟩⟩)))
          · exact absurd d3.1 (by decide)
          · exact absurd d3.1 (by decide)
    · have e1 : mkk s nm rn tb1 25 t q m = m := if_neg z
      have e2 : mkk s nm (fun w => f (rn w)) Nf 25 t q m' = m' := if_neg z
      rw [e1, e2]
      refine SBQ.same hB (Or.inr ?_)
      by_cases y : nam t
      · obtain rfl := Option.some.inj (hs.symm.trans ((if_pos y).trans (if_neg (fun u => z ⟨y, u⟩))))
        exact DIR.sml (show 2 ≤ 4 by decide)
      · obtain rfl := Option.some.inj (hs.symm.trans (if_neg y))
        exact DIR.sml (show 2 ≤ 4 by decide)
  by_cases k26 : k = 26
  · subst k26
    rw [mkk_df (by decide), mkk_df (by decide)]
    by_cases z : sgn (advT s t.2.1) 41
    · obtain rfl := Option.some.inj (hs.symm.trans (if_pos z))
      refine SBQ.same hB (D.imp id (fun d => ?_))
      obtain ⟨e, S', d1, d2, d3⟩ := d.b8 (by decide)
      rcases d3 with d3 | d3 | d3 | d3
      · exact absurd d3.1 (by decide)
      · exact absurd d3.1 (by decide)
      · rw [d3.2.2]
        exact DIR.cc d1 d2 (Or.inr (Or.inr ⟨d3.2.1, Or.inr ⟨rfl, rfl⟩⟩))
      · exact absurd d3.1 (by decide)
    · obtain rfl := Option.some.inj (hs.symm.trans (if_neg z))
      exact SBQ.same hB (Or.inr (DIR.sml (show 2 ≤ 4 by decide)))
  by_cases k27 : k = 27
  · subst k27
    have p : PRL N m m' := D.elim id (fun d => (d.no (by decide)).elim)
    refine ⟨hB.top (g := fun e => if e.1 = 9 then (9, e.2.1, 0, e.2.2.2 ++ [(m.pk, m.pv)]) else e) (g' := fun e => if e.1 = 9 then (9, e.2.1, 0, e.2.2.2 ++ [(m'.pk, m'.pv)]) else e) (fun e e' g => ?_), Or.inl ⟨?_, ?_⟩, top_q.2.1, top_q.1, top_q.1⟩
    · by_cases c : e.1 = 9
      · have c' : e'.1 = 9 := by rw [g.1]; exact c
        show SRL N (if e.1 = 9 then (9, e.2.1, 0, e.2.2.2 ++ [(m.pk, m.pv)]) else e) (if e'.1 = 9 then (9, e'.2.1, 0, e'.2.2.2 ++ [(m'.pk, m'.pv)]) else e')
        rw [if_pos c, if_pos c', g.2.1, g.2.2.2.2.1 c, p.1, p.2]
        exact ⟨rfl, rfl, rfl, fun y => absurd (show (9 : Int) = 0 from y) (by decide), fun _ => by unfold mpA; rw [List.map_append]; rfl, fun _ => g.2.2.2.2.2 (Or.inr c)⟩
      · show SRL N (if e.1 = 9 then (9, e.2.1, 0, e.2.2.2 ++ [(m.pk, m.pv)]) else e) (if e'.1 = 9 then (9, e'.2.1, 0, e'.2.2.2 ++ [(m'.pk, m'.pv)]) else e')
        rw [if_neg c, if_neg (show ¬ e'.1 = 9 by rw [g.1]; exact c)]; exact g
    · show (m'.top _).2.2.1.1 = (m.top _).2.2.1.1; rw [top_q.2.2, top_q.2.2]; exact p.1
    · show (m'.top _).2.2.1.2 = opN N (m.top _).2.2.1.1 (m.top _).2.2.1.2; rw [top_q.2.2, top_q.2.2]; exact p.2
  by_cases k28 : k = 28
  · subst k28
    rw [mkk_df (by decide), mkk_df (by decide)]
    by_cases u : x.2.1 = 6
    · exact absurd (hs.symm.trans (if_pos u)) (by simp)
    · obtain rfl := Option.some.inj (hs.symm.trans (if_neg u))
      refine SBQ.same hB (D.imp id (fun d => ?_))
      obtain ⟨d1, d2⟩ := d.bR (by decide)
      rw [d2]
      exact DIR.bb d1 (Or.inr (Or.inl ⟨rfl, rfl⟩))
  by_cases k29 : k = 29
  · subst k29
    rw [mkk_df (by decide), mkk_df (by decide)]
    by_cases u : sgn t 125
    · obtain rfl := Option.some.inj (hs.symm.trans (if_pos u))
      refine SBQ.same hB (D.imp id (fun d => ?_))
      obtain ⟨d1, d2⟩ := d.bR (by decide)
      rw [d2]
      exact DIR.bb d1 (Or.inr (Or.inr (Or.inr (Or.inl ⟨rfl, rfl⟩))))
    · obtain rfl := Option.some.inj (hs.symm.trans (if_neg u))
      refine SBQ.same hB (D.imp id (fun d => ?_))
      obtain ⟨d1, d2⟩ := d.bR (by decide)
      rw [d2]
      exact DIR.bb d1 (Or.inr (Or.inr (Or.inr (Or.inr (Or.inr (Or.inl ⟨by decide, rfl⟩))))))
  by_cases k38 : k = 38
  · subst k38
    obtain rfl := Option.some.inj (hs.symm.trans rfl)
    refine ⟨hB.cal, ?_, cal_q.2.1, cal_q.1, cal_q.1⟩
    rcases D with p | d
    · refine Or.inl ⟨?_, ?_⟩
      · show (m'.cal _ _).2.2.1.1 = (m.cal _ _).2.2.1.1; rw [cal_q.2.2, cal_q.2.2]; exact p.1
      · show (m'.cal _ _).2.2.1.2 = opN N (m.cal _ _).2.2.1.1 (m.cal _ _).2.2.1.2; rw [cal_q.2.2, cal_q.2.2]; exact p.2
    · obtain ⟨e, S', d1, d2, d3⟩ := d.b8 (by decide)
      rcases d3 with d3 | d3 | d3 | d3
      · exact absurd d3.1 (by decide)
      · exact absurd d3.1 (by decide)
      · exact absurd d3.1 (by decide)
      · rw [d3.2.2]
        refine Or.inr (DIR.bb ?_ (Or.inr (Or.inr (Or.inr (Or.inr (Or.inr (Or.inr ⟨rfl, rfl⟩)))))))
        show T11 (m.cal rn q.1).S
        rw [cal_S d1 d3.2.1]; exact d2
  by_cases k39 : k = 39
  · subst k39
    obtain rfl := Option.some.inj (hs.symm.trans rfl)
    by_cases z : wrd t 7304564
    · have e1 : mkk s nm rn tb1 39 t q m = m.push (10, 6, 0, []) := if_pos z
      have e2 : mkk s nm (fun w => f (rn w)) Nf 39 t q m' = m'.push (10, 6, 0, []) := if_pos z
      rw [e1, e2]
      exact ⟨hB.psh (srl_id (show (10 : Int) ≠ 0 by decide) (show (10 : Int) ≠ 8 by decide) (show (10 : Int) ≠ 9 by decide)), Or.inr (DIR.sml (show 2 ≤ 4 by decide)), rfl, rfl, rfl⟩
    · have e1 : mkk s nm rn tb1 39 t q m = m.push (10, 7, 0, []) := if_neg z
      have e2 : mkk s nm (fun w => f (rn w)) Nf 39 t q m' = m'.push (10, 7, 0, []) := if_neg z
      rw [e1, e2]
      exact ⟨hB.psh (srl_id (show (10 : Int) ≠ 0 by decide) (show (10 : Int) ≠ 8 by decide) (show (10 : Int) ≠ 9 by decide)), Or.inr (DIR.sml (show 2 ≤ 4 by decide)), rfl, rfl, rfl⟩
  by_cases k40 : k = 40
  · subst k40
    rw [mkk_df (by decide), mkk_df (by decide)]
    obtain rfl := Option.some.inj (hs.symm.trans rfl)
    refine SBQ.same hB (D.imp id (fun d => ?_))
    obtain ⟨d1, d2⟩ := d.bR (by decide)
    rw [d2]
    exact DIR.bb d1 (Or.inr (Or.inr (Or.inr (Or.inr (Or.inl ⟨rfl, rfl⟩)))))
  by_cases k51 : k = 51
  · subst k51
    obtain rfl := Option.some.inj (hs.symm.trans rfl)
    have o := BDY.one (tb := Nf) hB hN (D.imp id (fun d => by
      obtain ⟨e, S', d1, d2⟩ := d.b51
      exact ⟨e, S', d1, by rcases d2 with d2 | d2; exact Or.inr d2.1; exact Or.inl d2.1⟩))
    refine ⟨o.1, ?_, one_q.2, one_q.1, one_q.1⟩
    rcases D with p | d
    · exact Or.inl (o.2.1 (Or.inl p))
    · obtain ⟨e, S', d1, d2⟩ := d.b51
      rcases d2 with ⟨d2, d3⟩ | ⟨d2, d3, d4⟩
      · rw [d3]; exact Or.inr (Or.inr (Or.inl rfl))
      · have oS : (mkk s nm rn tb1 51 t q m).S = S' := o.2.2 e S' d1 (Or.inl d2)
        refine Or.inr ?_
        rcases d4 with d4 | d4 | d4
        · rw [d4]; exact DIR.bb (by rw [oS]; exact d3) (Or.inr (Or.inr (Or.inr (Or.inr (Or.inr (Or.inl ⟨by decide, rfl⟩))))))
        · rw [d4]; exact DIR.bb (by rw [oS]; exact d3) (Or.inr (Or.inr (Or.inr (Or.inr (Or.inr (Or.inl ⟨by decide, rfl⟩))))))
        · rw [d4]; exact DIR.bb (by rw [oS]; exact d3) (Or.inr (Or.inr (Or.inr (Or.inr (Or.inr (Or.inl ⟨by decide, rfl⟩))))))
  by_cases k52 : k = 52
  · subst k52
    obtain rfl := Option.some.inj (hs.symm.trans rfl)
    refine ⟨hB.two (D.imp id (fun d => by obtain ⟨e, S', d1, d2, d3⟩ := d.b52; exact ⟨e, S', d1, d2⟩)), ?_, two_q.2.1, two_q.1, two_q.1⟩
    rcases D with p | d
    · refine Or.inl ⟨?_, ?_⟩
      · show m'.two.2.2.1.1 = m.two.2.2.1.1; rw [two_q.2.2, two_q.2.2]; exact p.1
      · show m'.two.2.2.1.2 = opN N m.two.2.2.1.1 m.two.2.2.1.2; rw [two_q.2.2, two_q.2.2]; exact p.2
    · obtain ⟨e, S', d1, d2, d3⟩ := d.b52
      rw [d3]; exact Or.inr (DIR.sml (show 2 ≤ 4 by decide))
  have n34 : k ≠ 34 ∧ k ≠ 35 := by rcases hk with y | y <;> omega
  have df : ¬ (k = 0 ∨ k = 1 ∨ k = 6 ∨ k = 8 ∨ k = 9 ∨ k = 20 ∨ k = 21 ∨ k = 22 ∨ k = 23 ∨ k = 24 ∨ k = 25 ∨ k = 27 ∨ k = 34 ∨ k = 35 ∨ k = 38 ∨ k = 39 ∨ k = 51 ∨ k = 52) := by omega
  rw [mkk_df df, mkk_df df]
  refine SBQ.same hB (D.imp id (fun d => ?_))
  by_cases k223 : k = 223
  · subst k223
    obtain ⟨d1, d2⟩ := d.bZ (by decide)
    by_cases u : sgn t (((223 : Nat) : Int) - 100)
    · obtain rfl := Option.some.inj (hs.symm.trans (if_pos u))
      rw [d2]; exact DIR.bb d1 (Or.inr (Or.inr (Or.inl ⟨rfl, rfl⟩)))
    · exact absurd (hs.symm.trans (if_neg u)) (by simp)
  by_cases k159 : k = 159
  · subst k159
    obtain ⟨d1, d2⟩ := d.bZ (by decide)
    by_cases u : sgn t (((159 : Nat) : Int) - 100)
    · obtain rfl := Option.some.inj (hs.symm.trans (if_pos u))
      rw [d2]; exact DIR.bb d1 (Or.inr (Or.inr (Or.inl ⟨rfl, rfl⟩)))
    · exact absurd (hs.symm.trans (if_neg u)) (by simp)
  by_cases k141 : k = 141
  · subst k141
    obtain ⟨d1, d2⟩ := d.b141
    by_cases u : sgn t (((141 : Nat) : Int) - 100)
    · obtain rfl := Option.some.inj (hs.symm.trans (if_pos u))
      rw [d2]; exact DIR.bb d1 (Or.inr (Or.inr (Or.inr (Or.inr (Or.inr (Or.inl ⟨by decide, rfl⟩))))))
    · exact absurd (hs.symm.trans (if_neg u)) (by simp)
  by_cases k161 : k = 161
  · subst k161
    obtain ⟨e, S', d1, d2, d3⟩ := d.b8 (by decide)
    by_cases u : sgn t (((161 : Nat) : Int) - 100)
    · obtain rfl := Option.some.inj (hs.symm.trans (if_pos u))
      rcases d3 with d3 | d3 | d3 | d3
      · rw [d3.2.2]; exact DIR.cc d1 d2 (Or.inr (Or.inl ⟨d3.2.1, Or.inr ⟨rfl, rfl⟩⟩))
      · exact absurd d3.1 (by decide)
      · exact absurd d3.1 (by decide)
      · exact absurd d3.1 (by decide)
    · exact absurd (hs.symm.trans (if_neg u)) (by simp)
  have o := d.oth
  omega
end STB
def HDR (K : List Nat) : Prop := K = [] ∨ K = [36] ∨ K = [30, 36] ∨ K = [140, 31, 36] ∨ K = [31, 36] ∨ K = [141, 35, 36] ∨ K = [32, 36] ∨ K = [33, 36] ∨ K = [35, 36]
def BOT (K : List Nat) : Prop := ∃ p, K = p ++ [34, 36] ∧ ∀ y ∈ p, NTg y
def RLM (Nf f : Int → Int) (K : List Nat) (m m' : MK) : Prop := m'.1 = m.1 ∧ DNX Nf f m m' ∧ (HDR K ∨ (BOT K ∧ BDY (Nf m.rt) f m m' ∧ PDR (Nf m.rt) K m m'))
section RLMS
variable {Nf f : Int → Int} {m m' : MK} {s : Int → Int} {nm : Int → Int64 → Int} {rn : Int64 → Int} {k : Nat} {K : List Nat} {t : TK} {x : Int × Int × Int} {q : QR} {ρ : List EV} {r : List Nat × TK × (Int × Int × Int) × QR × List EV}
theorem RLM.hd (h1 : m'.1 = m.1) (h2 : DNX Nf f m m') (hK : HDR K) : RLM Nf f K m m' := ⟨h1, h2, Or.inl hK⟩
theorem RLM.step (hnm : ∀ r w, nm r w < 1000) (h : RLM Nf f (k :: K) m m') (hs : stk s k t x q = some r) : RLM Nf f (r.1 ++ K) (mkk s nm rn tb1 k t q m) (mkk s nm (fun w => f (rn w)) Nf k t q m') := by
  obtain ⟨h1, h2, h3⟩ := h
  rcases h3 with h3 | ⟨⟨p, hp, hn⟩, hB, D⟩
  · rcases h3 with h3 | h3 | h3 | h3 | h3 | h3 | h3 | h3 | h3
    · exact absurd h3 (by simp)
    · obtain ⟨rfl, rfl⟩ := List.cons.inj h3
      rw [mkk_df (by decide), mkk_df (by decide)]
      by_cases z : t.2.2.1 = 0
      · obtain rfl := Option.some.inj (hs.symm.trans (if_pos z))
        exact RLM.hd h1 h2 (Or.inl rfl)
      · obtain rfl := Option.some.inj (hs.symm.trans (if_neg z))
        exact RLM.hd h1 h2 (Or.inr (Or.inr (Or.inl rfl)))
    · obtain ⟨rfl, rfl⟩ := List.cons.inj h3
      rw [mkk_df (by decide), mkk_df (by decide)]
      by_cases z : nam t
      · obtain rfl := Option.some.inj (hs.symm.trans (if_pos z))
        exact RLM.hd h1 h2 (Or.inr (Or.inr (Or.inr (Or.inl rfl))))
      · exact absurd (hs.symm.trans (if_neg z)) (by simp)
    · obtain ⟨rfl, rfl⟩ := List.cons.inj h3
      rw [mkk_df (by decide), mkk_df (by decide)]
      by_cases z : sgn t (((140 : Nat) : Int) - 100)
      · obtain rfl := Option.some.inj (hs.symm.trans (if_pos z))
        exact RLM.hd h1 h2 (Or.inr (Or.inr (Or.inr (Or.inr (Or.inl rfl)))))
      · exact absurd (hs.symm.trans (if_neg z)) (by simp)
    · obtain ⟨rfl, rfl⟩ := List.cons.inj h3
      rw [mkk_df (by decide), mkk_df (by decide)]
      by_cases z : sgn t 41
      · obtain rfl := Option.some.inj (hs.symm.trans (if_pos z))
        exact RLM.hd h1 h2 (Or.inr (Or.inr (Or.inr (Or.inr (Or.inr (Or.inl rfl))))))
      · obtain rfl := Option.some.inj (hs.symm.trans (if_neg z))
        exact RLM.hd h1 h2 (Or.inr (Or.inr (Or.inr (Or.inr (Or.inr (Or.inr (Or.inl rfl)))))))
    · obtain ⟨rfl, rfl⟩ := List.cons.inj h3
      rw [mkk_df (by decide), mkk_df (by decide)]
      by_cases z : sgn t (((141 : Nat) : Int) - 100)
      · obtain rfl := Option.some.inj (hs.symm.trans (if_pos z))
        exact RLM.hd h1 h2 (Or.inr (Or.inr (Or.inr (Or.inr (Or.inr (Or.inr (Or.inr (Or.inr rfl))))))))
      · exact absurd (hs.symm.trans (if_neg z)) (by simp)
    · obtain ⟨rfl, rfl⟩ := List.cons.inj h3
      rw [mkk_df (by decide), mkk_df (by decide)]
      by_cases z : nam t
      · obtain rfl := Option.some.inj (hs.symm.trans (if_pos z))
        exact RLM.hd h1 h2 (Or.inr (Or.inr (Or.inr (Or.inr (Or.inr (Or.inr (Or.inr (Or.inl rfl))))))))
      · exact absurd (hs.symm.trans (if_neg z)) (by simp)
    · obtain ⟨rfl, rfl⟩ := List.cons.inj h3
      rw [mkk_df (by decide), mkk_df (by decide)]
      by_cases z : sgn t 44
      · obtain rfl := Option.some.inj (hs.symm.trans (if_pos z))
        exact RLM.hd h1 h2 (Or.inr (Or.inr (Or.inr (Or.inr (Or.inr (Or.inr (Or.inl rfl)))))))
      · obtain rfl := Option.some.inj (hs.symm.trans (if_neg z))
        exact RLM.hd h1 h2 (Or.inr (Or.inr (Or.inr (Or.inr (Or.inr (Or.inl rfl))))))
    · obtain ⟨rfl, rfl⟩ := List.cons.inj h3
      obtain rfl := Option.some.inj (hs.symm.trans rfl)
      refine ⟨?_, h2, Or.inr ⟨⟨[28, 51], rfl, by intro y hy; simp only [List.mem_cons, List.not_mem_nil, or_false] at hy; rcases hy with rfl | rfl; exact Or.inl (by decide); exact Or.inr (by decide)⟩, ⟨⟨?_, rfl, Int.le_refl _, Int.le_refl _⟩, fun k k0 k1 => absurd (show k < 0 from k1) (by omega), ⟨srl_id (show (11 : Int) ≠ 0 by decide) (show (11 : Int) ≠ 8 by decide) (show (11 : Int) ≠ 9 by decide), trivial⟩⟩, Or.inr (DIR.bb ⟨(11, 0, 0, []), [], rfl, rfl⟩ (Or.inl ⟨rfl, rfl⟩))⟩⟩
      · show (m'.rt, m'.ln, (0 : Int), (0 : Int), (0 : Int)) = (m.rt, m.ln, 0, 0, 0)
        unfold MK.rt MK.ln; rw [h1]
      · show (m'.rt, m'.ln, (0 : Int), (0 : Int), (0 : Int)) = (m.rt, m.ln, 0, 0, 0)
        unfold MK.rt MK.ln; rw [h1]
  · cases p with
    | nil =>
      obtain ⟨rfl, rfl⟩ := List.cons.inj hp
      obtain rfl := Option.some.inj (hs.symm.trans rfl)
      have rt' := hB.rt
      refine ⟨?_, ⟨?_, fun y => ?_⟩, Or.inl (Or.inr (Or.inl rfl))⟩
      · show (m'.rt + 1, m'.ln, m'.fs, m'.lab, m'.tmp) = (m.rt + 1, m.ln, m.fs, m.lab, m.tmp)
        unfold MK.rt MK.ln MK.fs MK.lab MK.tmp; rw [h1]
      · show uZ m'.fr m'.rt m'.fs = uZ m.fr m.rt m.fs
        rw [h2.1, rt', show m'.fs = m.fs by unfold MK.fs; rw [h1]]
      · show (uZ m'.dn m'.rt (m'.n, m'.V) y).1 = (uZ m.dn m.rt (m.n, m.V) y).1 ∧ ∀ k, 0 ≤ k → k < (uZ m.dn m.rt (m.n, m.V) y).1 → (uZ m'.dn m'.rt (m'.n, m'.V) y).2 k = mpI (Nf y) f ((uZ m.dn m.rt (m.n, m.V) y).2 k) ∧ ((uZ m.dn m.rt (m.n, m.V) y).2 k 0 = 12 → (uZ m.dn m.rt (m.n, m.V) y).2 k 4 < 1000)
        rw [rt']
        by_cases z : y = m.rt
        · rw [z, uZ_eq, uZ_eq]; exact ⟨hB.1.2.1, hB.2.1⟩
        · rw [uZ_ne z, uZ_ne z]; exact h2.2 y
    | cons k2 p2 =>
      obtain ⟨rfl, rfl⟩ := List.cons.inj hp
      have hk : NTg k := hn k (by simp)
      obtain ⟨b1, b2, b3, b4, b5⟩ := BDY.step (rn := rn) hnm hk hB rfl D hs
      refine ⟨b1.1.1, ?_, Or.inr ⟨⟨r.1 ++ p2, (List.append_assoc _ _ _).symm, fun y hy => (List.mem_append.mp hy).elim (ntg_stk hk hs y) (fun z => hn y (List.mem_cons_of_mem _ z))⟩, by rw [b3]; exact b1, by rw [b3]; exact b2⟩⟩
      unfold DNX MK.dn MK.fr at h2 ⊢
      rw [b4, b5]
      exact h2
theorem RLM.run (hnm : ∀ r w, nm r w < 1000) : ∀ (n : Nat) {a : PCf} {m m' : MK}, (RLM Nf f a.1 m m' ∨ a = pF) → RLM Nf f (itr s n a).1 (mkn s nm rn tb1 n a m) (mkn s nm (fun w => f (rn w)) Nf n a m') ∨ itr s n a = pF
  | 0, _, _, _, h => h
  | n + 1, a, m, m', h => by
    show RLM Nf f (itr s n (stp s a)).1 (mkn s nm rn tb1 n (stp s a) (mkt s nm rn tb1 a m)) (mkn s nm (fun w => f (rn w)) Nf n (stp s a) (mkt s nm (fun w => f (rn w)) Nf a m')) ∨ itr s n (stp s a) = pF
    refine RLM.run hnm n ?_
    rcases h with h | h
    · obtain ⟨K0, t, x, q, ρ⟩ := a
      cases K0 with
      | nil => exact Or.inl h
      | cons k K =>
        cases e : stk s k t x q with
        | none => exact Or.inr (stp_none e)
        | some r =>
          rw [mkt_s e, mkt_s e, stp_some e]
          exact Or.inl (h.step hnm e)
    · rw [h, stp_pF]; exact Or.inr rfl
theorem RLM.fin {z z' mz mz' : MK} {a : PCf} {t2 : TK} {x2 : Int × Int × Int} {q2 : QR} {ρ2 : List EV} {b : PCf} (hnm : ∀ r w, nm r w < 1000) (h : RM s nm rn tb1 a z ([], t2, x2, q2, ρ2) mz) (g : RM s nm (fun w => f (rn w)) Nf a z' b mz') (hb : stp s b = b) (eb : ∀ m, mkt s nm (fun w => f (rn w)) Nf b m = m) (r0 : RLM Nf f a.1 z z') : mz'.1 = mz.1 ∧ DNX Nf f mz mz' := by
  obtain ⟨n, h1, h2⟩ := h
  have w := RLM.run (s := s) (rn := rn) hnm n (Or.inl r0)
  rw [h1, h2] at w
  have g2 : RM s nm (fun w => f (rn w)) Nf a z' ([], t2, x2, q2, ρ2) (mkn s nm (fun w => f (rn w)) Nf n a z') := ⟨n, h1, rfl⟩
  have d := RM.det g2 g rfl hb (fun _ => rfl) eb
  rw [d.2] at w
  rcases w with w | w
  · exact ⟨w.1, w.2.1⟩
  · exact absurd (congrArg Prod.fst w) (by show ¬ ([] : List Nat) = [999]; simp)
end RLMS
end
section
def bt (x sh : Int) : Int := (vp_nar .byte ((iI x >>> (iI sh &&& 31)).toInt8.toInt32)).toInt
theorem bt_r (x sh : Int) : -128 ≤ bt x sh ∧ bt x sh ≤ 127 := nar_rng _
def w4 (f : Int → Int) (s x : Int) : Int → Int := fun k => if k = s then bt x 24 else if k = s + 1 then bt x 16 else if k = s + 2 then bt x 8 else if k = s + 3 then bt x 0 else f k
theorem w4_of {f g : Int → Int} {s x : Int} (h0 : g s = bt x 24) (h1 : g (s + 1) = bt x 16) (h2 : g (s + 1 + 1) = bt x 8) (h3 : g (s + 1 + 1 + 1) = bt x 0) (ho : ∀ k, k ≠ s → k ≠ s + 1 → k ≠ s + 1 + 1 → k ≠ s + 1 + 1 + 1 → g k = f k) : g = w4 f s x := by
  funext k
  unfold w4
  by_cases c0 : k = s
  · rw [if_pos c0, c0]; exact h0
  rw [if_neg c0]
  by_cases c1 : k = s + 1
  · rw [if_pos c1, c1]; exact h1
  rw [if_neg c1]
  by_cases c2 : k = s + 2
  · rw [if_pos c2, c2, show s + 2 = s + 1 + 1 by omega]; exact h2
  rw [if_neg c2]
  by_cases c3 : k = s + 3
  · rw [if_pos c3, c3, show s + 3 = s + 1 + 1 + 1 by omega]; exact h3
  rw [if_neg c3]
  exact ho k c0 c1 (by omega) (by omega)
def w20 (f : Int → Int) (s x1 x2 x3 x4 x5 : Int) : Int → Int := w4 (w4 (w4 (w4 (w4 f s x1) (s + 4) x2) (s + 8) x3) (s + 12) x4) (s + 16) x5
def w4p (f : Int → Int) (s x j : Int) : Int → Int := fun k => if k = s ∧ 1 ≤ j then bt x 24 else if k = s + 1 ∧ 2 ≤ j then bt x 16 else if k = s + 2 ∧ 3 ≤ j then bt x 8 else if k = s + 3 ∧ 4 ≤ j then bt x 0 else f k
theorem w4p_0 (f : Int → Int) (s x : Int) : w4p f s x 0 = f := by
  funext k
  unfold w4p
  rw [if_neg (by omega), if_neg (by omega), if_neg (by omega), if_neg (by omega)]
theorem w4p_4 (f : Int → Int) (s x : Int) : w4p f s x 4 = w4 f s x := by
  funext k
  unfold w4p w4
  by_cases c0 : k = s
  · rw [if_pos ⟨c0, by omega⟩, if_pos c0]
  rw [if_neg (fun q => c0 q.1), if_neg c0]
  by_cases c1 : k = s + 1
  · rw [if_pos ⟨c1, by omega⟩, if_pos c1]
  rw [if_neg (fun q => c1 q.1), if_neg c1]
  by_cases c2 : k = s + 2
  · rw [if_pos ⟨c2, by omega⟩, if_pos c2]
  rw [if_neg (fun q => c2 q.1), if_neg c2]
  by_cases c3 : k = s + 3
  · rw [if_pos ⟨c3, by omega⟩, if_pos c3]
  rw [if_neg (fun q => c3 q.1), if_neg c3]
theorem w4p_s {f : Int → Int} {s x j sh : Int} (h0 : 0 ≤ j) (h3 : j ≤ 3) (hs : sh = 24 - 8 * j) : (fun k => if k = s + j then bt x sh else w4p f s x j k) = w4p f s x (j + 1) := by
  funext k
  have hh : j = 0 ∨ j = 1 ∨ j = 2 ∨ j = 3 := by omega
  unfold w4p
  rcases hh with r | r | r | r <;> subst r <;> subst hs <;> (repeat' split) <;> first
    | (exfalso; omega)
    | rfl
theorem bt_c {n sh : Int} (h : sh = 24 ∨ sh = 16 ∨ sh = 8 ∨ sh = 0) : vp_nar .byte ((((iI n).toUInt32 >>> ((iI sh).toUInt32 &&& Int32.toUInt32 31)).toInt32).toInt8.toInt32) = iI (bt n sh) := by
  have e : iI (bt n sh) = vp_nar .byte ((iI n >>> (iI sh &&& 31)).toInt8.toInt32) := iI_self _
  rw [e]
  rcases h with r | r | r | r <;> subst r
  · rw [show ((((iI n).toUInt32 >>> ((iI 24).toUInt32 &&& Int32.toUInt32 31)).toInt32).toInt8.toInt32) = ((iI n >>> (iI 24 &&& 31)).toInt8.toInt32) from tp_24 _]
  · rw [show ((((iI n).toUInt32 >>> ((iI 16).toUInt32 &&& Int32.toUInt32 31)).toInt32).toInt8.toInt32) = ((iI n >>> (iI 16 &&& 31)).toInt8.toInt32) from tp_16 _]
  · rw [show ((((iI n).toUInt32 >>> ((iI 8).toUInt32 &&& Int32.toUInt32 31)).toInt32).toInt8.toInt32) = ((iI n >>> (iI 8 &&& 31)).toInt8.toInt32) from tp_8 _]
  · rw [show ((((iI n).toUInt32 >>> ((iI 0).toUInt32 &&& Int32.toUInt32 31)).toInt32).toInt8.toInt32) = ((iI n >>> (iI 0 &&& 31)).toInt8.toInt32) from tp_0 _]
def TAL (f g : Int → Int) (n : Int) : Prop := ∀ k, 0 ≤ k → k < n → f k = g k ∧ -128 ≤ f k ∧ f k ≤ 127
theorem TAL.sub {f g : Int → Int} {n m : Int} (h : TAL f g n) (hm : m ≤ n) : TAL f g m := fun k a b => h k a (by omega)
theorem TAL.w {f g : Int → Int} {n x : Int} (h : TAL f g n) : TAL (w4 f n x) (w4 g n x) (n + 4) := fun k a b => by
  unfold w4
  by_cases c0 : k = n
  · rw [if_pos c0, if_pos c0]; exact ⟨rfl, bt_r _ _⟩
  rw [if_neg c0, if_neg c0]
  by_cases c1 : k = n + 1
  · rw [if_pos c1, if_pos c1]; exact ⟨rfl, bt_r _ _⟩
  rw [if_neg c1, if_neg c1]
  by_cases c2 : k = n + 2
  · rw [if_pos c2, if_pos c2]; exact ⟨rfl, bt_r _ _⟩
  rw [if_neg c2, if_neg c2]
  by_cases c3 : k = n + 3
  · rw [if_pos c3, if_pos c3]; exact ⟨rfl, bt_r _ _⟩
  rw [if_neg c3, if_neg c3]
  exact h k a (by omega)
theorem TAL.w20 {f g : Int → Int} {n x1 x2 x3 x4 x5 : Int} (h : TAL f g n) : TAL (w20 f n x1 x2 x3 x4 x5) (w20 g n x1 x2 x3 x4 x5) (n + 20) := by
  have a1 := h.w (x := x1)
  have a2 := a1.w (x := x2)
  have a3 := (show TAL _ _ (n + 8) from by rw [show n + 8 = n + 4 + 4 by omega]; exact a2).w (x := x3)
  have a4 := (show TAL _ _ (n + 12) from by rw [show n + 12 = n + 8 + 4 by omega]; exact a3).w (x := x4)
  have a5 := (show TAL _ _ (n + 16) from by rw [show n + 16 = n + 12 + 4 by omega]; exact a4).w (x := x5)
  rw [show n + 20 = n + 16 + 4 by omega]
  exact a5
def fTm (τ : MS) : Int → Int := fun k => if an5 (τ.2.1 1 k) ≤ 127 then an5 (τ.2.1 1 k) else an5 (τ.2.1 1 k) - 256
theorem fTm_b (τ : MS) : BYT (fTm τ) := fun k => by
  have r := an5_r (τ.2.1 1 k)
  unfold fTm
  by_cases c : an5 (τ.2.1 1 k) ≤ 127
  · rw [if_pos c]; omega
  · rw [if_neg c]; omega
theorem fTm_sv {τ : MS} {n : Int} (h : τ.1 21 = n) : svC (fTm τ) n = sv τ := by
  funext k
  have r := an5_r (τ.2.1 1 k)
  unfold svC sv fTm
  rw [h]
  by_cases c : k < n
  · rw [if_pos c, if_pos c]
    by_cases d : an5 (τ.2.1 1 k) ≤ 127
    · rw [if_pos d, if_neg (by omega)]
    · rw [if_neg d, if_pos (by omega)]; omega
  · rw [if_neg c, if_neg c]
theorem an5_fin : ∀ n : Fin 256, an5 (((n : Nat) : Int) - 128) = if (n : Nat) < 128 then ((n : Nat) : Int) - 128 + 256 else ((n : Nat) : Int) - 128 := by decide +kernel
theorem an5_at {z : Int} (h : -128 ≤ z ∧ z ≤ 127) : an5 z = if z < 0 then z + 256 else z := by
  have q := an5_fin ⟨(z + 128).toNat, by omega⟩
  have e : (((z + 128).toNat : Nat) : Int) - 128 = z := by omega
  simp only [e] at q
  rw [q]
  by_cases c : z < 0
  · rw [if_pos c, if_pos (by omega)]
  · rw [if_neg c, if_neg (by omega)]
theorem TAL.rw {f : Int → Int} {τ : MS} {n : Int} (h : TAL f (τ.2.1 1) n) : ∀ k, 0 ≤ k → k < n → f k = fTm τ k := fun k a b => by
  obtain ⟨q1, q2⟩ := h k a b
  unfold fTm
  rw [← q1, an5_at q2]
  by_cases c : f k < 0
  · rw [if_pos c, if_neg (by omega)]; omega
  · rw [if_neg c, if_pos (by omega)]
theorem tw_step {σ : MS} {x : Nat} {f : Int → Int} {tg n sh z : Int} (h : σ.2.1 (1000 + x) = w4p f tg n (z - tg)) (h0 : 0 ≤ z - tg) (h3 : z - tg ≤ 3) (hs : sh = 24 - 8 * (z - tg)) : (sA (1000 + x) z (bt n sh) σ).2.1 (1000 + x) = w4p f tg n (z + 1 - tg) := by
  have e : (sA (1000 + x) z (bt n sh) σ).2.1 (1000 + x) = fun k => if k = tg + (z - tg) then bt n sh else w4p f tg n (z - tg) k := by
    funext k
    rw [sA_at, h, show tg + (z - tg) = z by omega]
  rw [e, w4p_s h0 h3 hs, show z - tg + 1 = z + 1 - tg by omega]
def TWQ (σ σ2 : MS) (a : Nat) (n : Int) : Prop := ∀ x : Nat, σ.2.1 95 a = (x : Int) → σ2.2.1 (1000 + x) = w4 (σ.2.1 (1000 + x)) (σ.2.1 96 a) n
def FWQ (σ σ2 : MS) (a : Nat) (p q r s t : Int) : Prop := ∀ x : Nat, σ.2.1 95 a = (x : Int) → (σ.2.1 96 a ≤ 1180 → σ2.2.1 (1000 + x) = w20 (σ.2.1 (1000 + x)) (σ.2.1 96 a) p q r s t) ∧ (1180 < σ.2.1 96 a → σ2.2.1 (1000 + x) = σ.2.1 (1000 + x))
theorem RQ9.of {σ : MS} {b : Nat} {S : Int → Int} {v f p r0 r g : Int} (h : TO9 σ b S g) (hg : g = 0 ∨ g = 1) (hf : f = σ.2.1 43 b) (h0 : g = 0 → v = -1 ∧ p = σ.2.1 44 b ∧ r = r0) (h1 : g = 1 → v = (if σ.2.1 38 b ≤ 6 then σ.2.1 38 b else 6) ∧ p = -1 ∧ r = v) : RQ9 S v f p r0 r := by
  rcases h with ⟨q1, es, pl, q2, q3⟩ | ⟨es, t, x, q, ρ, q2, q3⟩
  · obtain ⟨a1, a2, a3⟩ := h0 q1
    exact Or.inl ⟨es, pl, q2, a1, by rw [hf]; exact q3.1, by rw [a2]; exact q3.2, a3⟩
  · obtain ⟨s1, s2, s3, s4⟩ := q3
    have e1 : σ.2.1 43 b = (RA9 (es.foldl uC c00)).1 := congrArg Prod.fst s1
    have e2 : σ.2.1 44 b = (RA9 (es.foldl uC c00)).2 := congrArg Prod.snd s1
    refine Or.inr ⟨es, t, x, q, ρ, q2, by rw [hf]; exact e1, fun z => ?_, fun z => ?_⟩
    · have g1 : g = 1 := by
        rcases hg with w | w
        · exact absurd (hf.symm.trans z) (s4 w)
        · exact w
      rw [← s2]; exact h1 g1
    · have g0 : g = 0 := by
        rcases hg with w | w
        · exact w
        · exact absurd (hf.trans (s3 w)) z
      obtain ⟨a1, a2, a3⟩ := h0 g0
      exact ⟨a1, by rw [a2]; exact e2, a3⟩
theorem min6 {z r : Int} (h : (r ≤ 6 ∧ z = r) ∨ (6 ≤ r ∧ z = 6)) : z = (if r ≤ 6 then r else 6) := by
  by_cases c : r ≤ 6
  · rw [if_pos c]; omega
  · rw [if_neg c]; omega
end
section
def KEM (Sj : Nat → Prop) (T : CT) (σ : MS) (a : Nat) (C E M : Int → Nat) : Prop := (INJ Sj T σ ∧ KST Sj σ a ∧ SPX Sj E T σ (adN σ 100 a)) ∧ (∀ q, 0 ≤ q → q < 6 → (σ.2.1 (1000 + adN σ 99 a) q = (C q : Int) ∧ Sj (C q) ∧ (T (C q)).1 = 50) ∧ (σ.2.1 (1000 + adN σ 98 a) q = (M q : Int) ∧ Sj (M q) ∧ (T (M q)).1 = 31)) ∧ (∀ p q, 0 ≤ p → p < 6 → 0 ≤ q → q < 6 → (C p = C q → p = q) ∧ (M p = M q → p = q)) ∧ ∀ p q, 0 ≤ p → p < 7 → 0 ≤ q → q < 6 → E p ≠ M q
theorem CSM.rf {σ : MS} {b : Nat} : CSM σ σ b := ⟨fun _ _ _ => Eq.refl _, fun _ _ => Eq.refl _⟩
def CTK (s0 σ : MS) (e c : Nat) : Prop := cdS σ c = cdS s0 e ∧ (σ.2.1 6 c = s0.2.1 6 e ∧ σ.2.1 7 c = s0.2.1 7 e ∧ σ.2.1 8 c = s0.2.1 8 e ∧ σ.2.1 9 c = s0.2.1 9 e ∧ rwF σ 14 c 0 = rwF s0 14 e 0) ∧ LNK (cdW σ c) (σ.2.1 6 c) ∧ (WOK (cdW s0 e) (s0.2.1 6 e) → WOK (cdW σ c) (σ.2.1 6 c))
theorem CTK.csm {s0 σ τ : MS} {e c : Nat} (h : CTK s0 σ e c) (k : CSM σ τ c) : CTK s0 τ e c := by
  unfold CTK at h ⊢
  rw [k.s, k.w, k.1 6 (by decide) (by decide), k.1 7 (by decide) (by decide), k.1 8 (by decide) (by decide), k.1 9 (by decide) (by decide), k.rw (f := 14) (by decide) (by decide) (by decide)]
  exact h
theorem CTK.src {s0 s1 σ : MS} {e c : Nat} (h : CTK s1 σ e c) (k : CSM s0 s1 e) : CTK s0 σ e c := by
  unfold CTK at h ⊢
  rw [k.s, k.w, k.1 6 (by decide) (by decide), k.1 7 (by decide) (by decide), k.1 8 (by decide) (by decide), k.1 9 (by decide) (by decide), k.rw (f := 14) (by decide) (by decide) (by decide)] at h
  exact h
section KEMS
variable {Sj : Nat → Prop} {T T2 : CT} {σ τ s0 : MS} {a c e : Nat} {C E M E0 : Int → Nat} {j R : Int}
theorem INJ.nw5 (hI : INJ Sj T σ) (hw : WT T σ) (gt : GT T T2) (sc : Sj c) (kf : ∀ f (b : Nat), f ∈ AFL → ¬ (f = 5 ∧ b = c) → τ.2.1 f b = σ.2.1 f b) (h5 : τ.2.1 5 c = σ.2.1 5 c ∨ ¬ ((T (adN τ 5 c)).1 ≠ 0 ∧ (T (adN τ 5 c)).1 < 80)) : INJ Sj T2 τ := by
  have ot : ∀ b, Sj b → T2 b = T b := fun b sb => by have z := hI.1 b sb; exact gt b (by omega) (by omega)
  have oo : ∀ b ci, Sj b → OB T2 b ci → OB T b ci := fun b ci sb ob => by unfold OB at ob ⊢; rw [ot b sb] at ob; exact ob
  have ad : ∀ f b, f ∈ AFL → ¬ (f = 5 ∧ b = c) → adN τ f b = adN σ f b := fun f b hf hn => by unfold adN; rw [kf f b hf hn]
  have al : ∀ f b, f ∈ AFL → Sj b → OB T b (cls f) → (T (adN σ f b)).1 ≠ 0 ∧ (T (adN σ f b)).1 < 80 := fun f b hf sb ob => by have z := (af_k hw hf ob).2; unfold AFK at z; omega
  refine ⟨fun b sb => by rw [ot b sb]; exact hI.1 b sb, fun f f2 b1 b2 hf hg sa sb oa ob q => ?_⟩
  have oa' := oo b1 _ sa oa
  have ob' := oo b2 _ sb ob
  rcases h5 with h5 | h5
  · have ad' : ∀ f b, f ∈ AFL → adN τ f b = adN σ f b := fun f b hf => by
      by_cases q : f = 5 ∧ b = c
      · rw [q.1, q.2]; unfold adN; rw [h5]
      · exact ad f b hf q
    rw [ad' f b1 hf, ad' f2 b2 hg] at q
    exact hI.2 f f2 b1 b2 hf hg sa sb oa' ob' q
  · by_cases q1 : f = 5 ∧ b1 = c
    · by_cases q2 : f2 = 5 ∧ b2 = c
      · exact ⟨q1.1.trans q2.1.symm, q1.2.trans q2.2.symm⟩
      · rw [q1.1, q1.2, ad f2 b2 hg q2] at q
        exact absurd (by rw [q]; exact al f2 b2 hg sb ob') h5
    · by_cases q2 : f2 = 5 ∧ b2 = c
      · rw [q2.1, q2.2, ad f b1 hf q1] at q
        exact absurd (by rw [← q]; exact al f b1 hf sa oa') h5
      · rw [ad f b1 hf q1, ad f2 b2 hg q2] at q
        exact hI.2 f f2 b1 b2 hf hg sa sb oa' ob' q
theorem TKM.csm {xs xm t tl b : Nat} {r f : Int} (h : TKM T σ τ c e xs xm t r f) (hI : INJ Sj T σ) (hw : WT T σ) (sc : Sj c) (se : Sj e) (oc : OB T c 1) (oe : OB T e 1) (kx : (T xs).1 = 4) (km : (T xm).1 = 4) (ht : t = adN σ 89 tl) (stl : Sj tl) (otl : OB T tl 10) (sb : Sj b) (ob : OB T b 1) (nc : b ≠ c) (ne : b ≠ e) : CSM σ τ b := by
  have k6 := af6_k hw ob
  refine CSM.of h.2.2.2.2.2.1 (fun p hp => ?_) (fun g hg q => ?_) (fun g hg => by have z := k6 g hg; omega)
  · simp only [List.mem_cons, List.not_mem_nil, or_false] at hp
    rcases hp with rfl | rfl | rfl | rfl | rfl | rfl <;> exact Or.inl (Ne.symm nc)
  · have ga : g ∈ AFL ∧ cls g = 1 ∧ g ≠ 89 := by
      simp only [List.mem_cons, List.not_mem_nil, or_false] at hg
      rcases hg with rfl | rfl | rfl | rfl | rfl | rfl <;> exact ⟨by decide, rfl, by decide⟩
    have ob' : OB T b (cls g) := by rw [ga.2.1]; exact ob
    have z := k6 g hg
    simp only [List.mem_cons, List.not_mem_nil, or_false] at q
    rcases q with q | q | q | q | q | q | q | q | q | q
    · rw [q] at z; omega
    · rw [q] at z; omega
    · exact hI.ne (g := 5) sb se ob' oe ga.1 (by decide) (Or.inr ne) q
    · exact hI.ne (g := 5) sb sc ob' oc ga.1 (by decide) (Or.inr nc) q
    · exact hI.ne (g := 11) sb sc ob' oc ga.1 (by decide) (Or.inr nc) q
    · exact hI.ne (g := 12) sb sc ob' oc ga.1 (by decide) (Or.inr nc) q
    · exact hI.ne (g := 13) sb sc ob' oc ga.1 (by decide) (Or.inr nc) q
    · exact hI.ne (g := 14) sb sc ob' oc ga.1 (by decide) (Or.inr nc) q
    · exact hI.ne (g := 15) sb sc ob' oc ga.1 (by decide) (Or.inr nc) q
    · rw [ht] at q; exact hI.ne (g := 89) sb stl ob' otl ga.1 (by decide) (Or.inl ga.2.2) q
theorem TKM.r5 {xs xm t tl x : Nat} {r f : Int} (h : TKM T σ τ c e xs xm t r f) (hw : WT T σ) (oc : OB T c 1) (oe : OB T e 1) (kx : (T xs).1 = 4) (km : (T xm).1 = 4) (ht : t = adN σ 89 tl) (otl : OB T tl 10) (hx : (T x).1 = 5) : τ.2.1 (1000 + x) = σ.2.1 (1000 + x) := h.2.2.2.2.2.1.2.1 x (fun q => by
  simp only [List.mem_cons, List.not_mem_nil, or_false] at q
  rcases q with q | q | q | q | q | q | q | q | q | q
  · rw [q] at hx; omega
  · rw [q] at hx; omega
  · exact r45 hw (Or.inr hx) (f := 5) (by decide) oe q
  · exact r45 hw (Or.inr hx) (f := 5) (by decide) oc q
  · exact r45 hw (Or.inr hx) (f := 11) (by decide) oc q
  · exact r45 hw (Or.inr hx) (f := 12) (by decide) oc q
  · exact r45 hw (Or.inr hx) (f := 13) (by decide) oc q
  · exact r45 hw (Or.inr hx) (f := 14) (by decide) oc q
  · exact r45 hw (Or.inr hx) (f := 15) (by decide) oc q
  · rw [ht] at q; exact r45 hw (Or.inr hx) (f := 89) (by decide) otl q) (by omega)
def N5 (Sj : Nat → Prop) (T0 : CT) (s0 σ : MS) : Prop := ∀ b : Nat, Sj b → (T0 b).1 = 50 → σ.2.1 5 (b : Int) = s0.2.1 5 b ∨ ¬ ((T0 (adN σ 5 b)).1 ≠ 0 ∧ (T0 (adN σ 5 b)).1 < 80)
theorem N5.up {T0 : CT} {υ : MS} (g : GT T T0) (k : ∀ b : Nat, Sj b → (T b).1 = 50 → s0.2.1 5 (b : Int) = σ.2.1 5 b) (h : N5 Sj T0 s0 τ) (e : ∀ b : Nat, υ.2.1 5 (b : Int) = τ.2.1 5 b) : N5 Sj T σ υ := fun b sb tb => by
  have tb0 : (T0 b).1 = 50 := by rw [g b (by omega) (by omega)]; exact tb
  have ea : adN υ 5 b = adN τ 5 b := by unfold adN; rw [e b]
  rcases h b sb tb0 with z | z
  · exact Or.inl ((e b).trans (z.trans (k b sb tb)))
  · refine Or.inr (fun w => z ?_)
    rw [ea] at w
    rw [g _ w.1 w.2]
    exact w
def RDK (Sj : Nat → Prop) (C E0 : Int → Nat) (T0 : CT) (s0 : MS) (R : Int) (T : CT) (σ : MS) (a : Nat) (j : Int) : Prop := ∃ E M : Int → Nat, KEM Sj T σ a C E M ∧ (∀ q, 0 ≤ q → q < j → CTK s0 σ (E0 q) (C q)) ∧ (∀ q, j ≤ q → q < R → E q = E0 q ∧ CSM s0 σ (E0 q)) ∧ GT T0 T ∧ N5 Sj T0 s0 σ
theorem KEM.xs (hw : WT T σ) (ha : OB T a 11) : (T (adN σ 34 (adN σ 100 a))).1 = 4 ∧ (T (adN σ 98 a)).1 = 4 ∧ (T (adN σ 99 a)).1 = 5 ∧ OB T (adN σ 100 a) 5 ∧ OB T (adN σ 102 a) 10 := by
  obtain ⟨r, r1, r2⟩ := wf_100 hw ha
  obtain ⟨x, x1, x2⟩ := wf_98 hw ha
  obtain ⟨y, y1, y2⟩ := wf_99 hw ha
  obtain ⟨t, t1, t2⟩ := wf_102 hw ha
  have or : OB T r 5 := ⟨by omega, by rw [r2]; rfl, by omega⟩
  obtain ⟨z, z1, z2⟩ := wf_34 hw or
  rw [adN_of r1, adN_of x1, adN_of y1, adN_of z1, adN_of t1]
  exact ⟨z2.1, x2.1, y2.1, or, ⟨by omega, by rw [t2]; rfl, by omega⟩⟩
theorem RDK.step {T0 : CT} (hK : KEM Sj T σ a C E M) (h1 : ∀ q, 0 ≤ q → q < j → CTK s0 σ (E0 q) (C q)) (h2 : ∀ q, j ≤ q → q < R → E q = E0 q ∧ CSM s0 σ (E0 q)) (h5 : GT T0 T ∧ N5 Sj T0 s0 σ) (hw : WT T σ) (ha : OB T a 11) (j0 : 0 ≤ j) (j6 : j < R) (hR : R ≤ 6) (gt : GT T T2) (t : TKM T σ τ (C j) (E j) (adN σ 34 (adN σ 100 a)) (adN σ 98 a) (adN σ 89 (adN σ 102 a)) j (σ.2.1 (1000 + adN σ 98 a) j)) : RDK Sj C E0 T0 s0 R T2 τ a (j + 1) := by
  obtain ⟨⟨hI, hS, hP⟩, hr, hi, hd⟩ := hK
  obtain ⟨x4, m4, y5, or, ot⟩ := KEM.xs hw ha
  have cj := (hr j j0 (by omega)).1
  have mj := (hr j j0 (by omega)).2
  have ej := hP.2.1 j j0 (by omega)
  have oc : OB T (C j) 1 := ⟨by omega, by rw [cj.2.2]; rfl, by omega⟩
  have oe := hP.ob j0 (show j < 7 by omega)
  have stl : Sj (adN σ 102 a) := hS.2.2.2.2.2.2.2
  have kf : ∀ f (b : Nat), f < 1000 → (f < 5 ∨ 10 < f ∨ b ≠ C j) → τ.2.1 f b = σ.2.1 f b := fun f b hf hb => t.2.2.2.2.2.1.f hf (by simp only [List.mem_cons, List.not_mem_nil, or_false, Prod.mk.injEq]; omega)
  have af : ∀ f (b : Nat), f < 1000 → (f < 5 ∨ 10 < f ∨ b ≠ C j) → adN τ f b = adN σ f b := fun f b hf hb => by unfold adN; rw [kf f b hf hb]
  have g50 : ∀ b, Sj b → T2 b = T b := fun b sb => by have z := hI.1 b sb; exact gt b (by omega) (by omega)
  have e34 : adN τ 34 (adN τ 100 a) = adN σ 34 (adN σ 100 a) := by rw [af 100 a (by decide) (by omega), af 34 _ (by decide) (by omega)]
  have csm : ∀ b, Sj b → OB T b 1 → b ≠ C j → b ≠ E j → CSM σ τ b := fun b sb ob nc ne => t.csm hI hw cj.2.1 ej.2.1 oc oe x4 m4 rfl stl ot sb ob nc ne
  have nE : ∀ p, 0 ≤ p → p < 7 → E p ≠ C j := fun p p0 p1 q => by have z := (hP.2.1 p p0 p1).2.2; rw [q, cj.2.2] at z; omega
  refine ⟨uZ E j (M j), uZ M j (E j), ⟨⟨hI.nw5 hw gt cj.2.1 (fun f b hf hn => kf f b (by simp only [List.mem_cons, List.not_mem_nil, or_false] at hf; omega) (by simp only [List.mem_cons, List.not_mem_nil, or_false] at hf; omega)) (t.2.2.2.2.1.imp id (fun z w => w.1 z)), ?_, ?_⟩, fun q q0 q1 => ?_, fun p q p0 p1 q0 q1 => ⟨(hi p q p0 p1 q0 q1).1, fun w => ?_⟩, fun p q p0 p1 q0 q1 w => ?_⟩, fun q q0 q1 => ?_, fun q q0 q1 => ?_, h5.1.trans gt, fun b sb tb => ?_⟩
  · unfold KST at hS ⊢
    rw [af 106 a (by decide) (by omega), af 107 a (by decide) (by omega), af 108 a (by decide) (by omega), af 109 a (by decide) (by omega), af 102 a (by decide) (by omega), af 17 _ (by decide) (by omega), af 23 _ (by decide) (by omega), af 72 _ (by decide) (by omega)]
    exact hS
  · refine ⟨by rw [af 100 a (by decide) (by omega)]; exact hP.1, fun q q0 q1 => ?_, fun p q p0 p1 q0 q1 w => ?_⟩
    · rw [e34, t.2.2.2.2.2.2.1]
      by_cases z : q = j
      · rw [z, uZ_eq, uZ_eq]
        exact ⟨mj.1, mj.2.1, by rw [g50 _ mj.2.1]; exact mj.2.2⟩
      · rw [uZ_ne z, uZ_ne z]
        have y := hP.2.1 q q0 q1
        exact ⟨y.1, y.2.1, by rw [g50 _ y.2.1]; exact y.2.2⟩
    · by_cases z1 : p = j
      · by_cases z2 : q = j
        · omega
        · rw [z1, uZ_eq, uZ_ne z2] at w
          exact absurd w.symm (hd q j q0 q1 j0 (by omega))
      · by_cases z2 : q = j
        · rw [z2, uZ_eq, uZ_ne z1] at w
          exact absurd w (hd p j p0 p1 j0 (by omega))
        · rw [uZ_ne z1, uZ_ne z2] at w
          exact hP.2.2 p q p0 p1 q0 q1 w
  · have y := hr q q0 q1
    refine ⟨⟨?_, y.1.2.1, by rw [g50 _ y.1.2.1]; exact y.1.2.2⟩, ?_⟩
    · rw [af 99 a (by decide) (by omega), t.r5 hw oc oe x4 m4 rfl ot y5]; exact y.1.1
    · rw [af 98 a (by decide) (by omega), t.2.2.2.2.2.2.2]
      by_cases z : q = j
      · rw [z, uZ_eq, uZ_eq]
        exact ⟨rfl, ej.2.1, by rw [g50 _ ej.2.1]; exact ej.2.2⟩
      · rw [uZ_ne z, uZ_ne z]
        exact ⟨y.2.1, y.2.2.1, by rw [g50 _ y.2.2.1]; exact y.2.2.2⟩
  · by_cases z1 : p = j
    · by_cases z2 : q = j
      · omega
      · rw [z1, uZ_eq, uZ_ne z2] at w
        exact absurd w (hd j q j0 (by omega) q0 q1)
    · by_cases z2 : q = j
      · rw [z2, uZ_eq, uZ_ne z1] at w
        exact absurd w.symm (hd j p j0 (by omega) p0 p1)
      · rw [uZ_ne z1, uZ_ne z2] at w
        exact (hi p q p0 p1 q0 q1).2 w
  · by_cases z1 : p = j
    · by_cases z2 : q = j
      · rw [z1, z2, uZ_eq, uZ_eq] at w
        exact hd j j j0 (by omega) j0 (by omega) w.symm
      · rw [z1, uZ_eq, uZ_ne z2] at w
        exact z2 ((hi j q j0 (by omega) q0 q1).2 w).symm
    · by_cases z2 : q = j
      · rw [z2, uZ_eq, uZ_ne z1] at w
        exact z1 (hP.2.2 p j p0 p1 j0 (by omega) w)
      · rw [uZ_ne z1, uZ_ne z2] at w
        exact hd p q p0 p1 q0 q1 w
  · by_cases z : q = j
    · subst z
      have ee := h2 q (Int.le_refl _) j6
      rw [ee.1] at t
      exact CTK.src ⟨t.1, t.2.1, t.2.2.1, t.2.2.2.1⟩ ee.2
    · have y := (hr q q0 (by omega)).1
      refine (h1 q q0 (by omega)).csm (csm (C q) y.2.1 ⟨by omega, by rw [y.2.2]; rfl, by omega⟩ (fun w => z ((hi q j q0 (by omega) j0 (by omega)).1 w)) (fun w => ?_))
      have z2 := ej.2.2
      rw [← w, y.2.2] at z2
      omega
  · have ee := h2 q (by omega) q1
    refine ⟨by rw [uZ_ne (by omega)]; exact ee.1, ee.2.trans ?_⟩
    rw [← ee.1]
    exact csm (E q) (hP.2.1 q (by omega) (by omega)).2.1 (hP.ob (by omega) (by omega)) (nE q (by omega) (by omega)) (fun w => by have z := hP.2.2 q j (by omega) (by omega) j0 (by omega) w; omega)
  · have old : τ.2.1 5 (b : Int) = σ.2.1 5 b → (τ.2.1 5 (b : Int) = s0.2.1 5 b ∨ ¬ ((T0 (adN τ 5 b)).1 ≠ 0 ∧ (T0 (adN τ 5 b)).1 < 80)) := fun z => by
      have y := h5.2 b sb tb
      rw [show adN τ 5 b = adN σ 5 b by unfold adN; rw [z], z]
      exact y
    by_cases z : b = C j
    · rcases t.2.2.2.2.1 with y | y
      · rw [← z] at y
        exact old y
      · rw [← z] at y
        refine Or.inr (fun w => ?_)
        have x := h5.1 _ w.1 w.2
        rw [x] at y
        exact w.1 y
    · exact old (kf 5 b (by decide) (Or.inr (Or.inr z)))
theorem KEM.mv (hK : KEM Sj T σ a C E M) (gt : GT T T2) (hI : INJ Sj T2 τ) (hP : SPX Sj E T2 τ (adN σ 100 a)) (kf : ∀ f, f ∈ [98, 99, 100, 102, 106, 107, 108, 109] → τ.2.1 f a = σ.2.1 f a) (kg : ∀ f (b : Nat), f ∈ [17, 23, 72] → τ.2.1 f b = σ.2.1 f b) (k8 : τ.2.1 (1000 + adN σ 98 a) = σ.2.1 (1000 + adN σ 98 a)) (k9 : τ.2.1 (1000 + adN σ 99 a) = σ.2.1 (1000 + adN σ 99 a)) : KEM Sj T2 τ a C E M := by
  obtain ⟨⟨hI0, hS, -⟩, hr, hi, hd⟩ := hK
  have af : ∀ f, f ∈ [98, 99, 100, 102, 106, 107, 108, 109] → adN τ f a = adN σ f a := fun f hf => by unfold adN; rw [kf f hf]
  have ag : ∀ f (b : Nat), f ∈ [17, 23, 72] → adN τ f b = adN σ f b := fun f b hf => by unfold adN; rw [kg f b hf]
  have g5 : ∀ b, Sj b → T2 b = T b := fun b sb => by have z := hI0.1 b sb; exact gt b (by omega) (by omega)
  refine ⟨⟨hI, ?_, by rw [af 100 (by decide)]; exact hP⟩, fun q q0 q1 => ?_, hi, hd⟩
  · unfold KST at hS ⊢
    rw [af 106 (by decide), af 107 (by decide), af 108 (by decide), af 109 (by decide), af 102 (by decide), ag 17 _ (by decide), ag 23 _ (by decide), ag 72 _ (by decide)]
    exact hS
  · have y := hr q q0 q1
    rw [af 98 (by decide), af 99 (by decide), k8, k9, g5 _ y.1.2.1, g5 _ y.2.2.1]
    exact y
theorem KEM.fld {n : Nat} {v : Int} (hK : KEM Sj T σ a C E M) (hw : WT T σ) (ha : OB T a 11) (hn : n = 96 ∨ n = 97 ∨ n = 104 ∨ n = 105 ∨ n = 56) {o : Nat} : KEM Sj T (sA n o v σ) a C E M := by
  have ks : ∀ f (b : Nat), f < 1000 → f ≠ 96 → f ≠ 97 → f ≠ 104 → f ≠ 105 → f ≠ 56 → (sA n o v σ).2.1 f b = σ.2.1 f b := fun f b hf h1 h2 h3 h4 h5 => by rw [sA_k (by omega)]
  have kr : ∀ x : Nat, (sA n o v σ).2.1 (1000 + x) = σ.2.1 (1000 + x) := fun x => by rw [sA_k (by omega)]
  obtain ⟨x4, m4, y5, or, ot⟩ := KEM.xs hw ha
  refine hK.mv GT.rfl (hK.1.1.keep (fun f b hf => ?_)) (hK.1.2.2.mv hw or GT.rfl (ks 34 _ (by decide) (by decide) (by decide) (by decide) (by decide) (by decide)) (fun x _ => kr x)) (fun f hf => ?_) (fun f b hf => ?_) (kr _) (kr _)
  · simp only [List.mem_cons, List.not_mem_nil, or_false] at hf
    exact ks f b (by omega) (by omega) (by omega) (by omega) (by omega) (by omega)
  · simp only [List.mem_cons, List.not_mem_nil, or_false] at hf
    exact ks f a (by omega) (by omega) (by omega) (by omega) (by omega) (by omega)
  · simp only [List.mem_cons, List.not_mem_nil, or_false] at hf
    exact ks f b (by omega) (by omega) (by omega) (by omega) (by omega) (by omega)
theorem RDK.in (hK : KEM Sj T σ a C E M) : RDK Sj C E T σ R T σ a 0 := ⟨E, M, hK, fun q q0 q1 => absurd q1 (by omega), fun q _ _ => ⟨rfl, ⟨fun _ _ _ => rfl, fun _ _ => rfl⟩⟩, GT.rfl, fun _ _ _ => Or.inl rfl⟩
theorem KEM.tak (hK : KEM Sj T σ a C E M) (hw : WT T σ) (ha : OB T a 11) (hI : INJ Sj T2 τ) (hP : SPX Sj E T2 τ (adN σ 100 a)) (hF : FRT Sj T σ T2 τ) (kf : ∀ f, f ∈ [98, 99, 100, 102, 106, 107, 108, 109] → τ.2.1 f a = σ.2.1 f a) (kg : ∀ f (b : Nat), f ∈ [17, 23, 72] → τ.2.1 f b = σ.2.1 f b) : KEM Sj T2 τ a C E M := by
  obtain ⟨x4, m4, y5, or, ot⟩ := KEM.xs hw ha
  exact hK.mv hF.1 hI hP kf kg (hF.2.2.1 _ (Or.inl m4)) (hF.2.2.1 _ (Or.inr y5))
end KEMS
def CDT (σ : MS) (c : Nat) (q n : Int) (V : Int → It) (fs N P : Int) (f : Int → Int) : Prop := ∃ s0 e, CTK s0 σ e c ∧ CDS s0 e q n V fs N P f
def RDM (Sj : Nat → Prop) (C : Int → Nat) (nm : Int → Int64 → Int) (z0 : MK) (T : CT) (σ : MS) (T2 : CT) (σ2 : MS) (a : Nat) (S : Int → Int) (v : Int) : Prop := (∃ E M, KEM Sj T2 σ2 a C E M) ∧ (v = -1 → (∀ q, 0 ≤ q → q < 6 → CSM σ σ2 (C q)) ∧ RNR Sj T σ σ2) ∧ (v ≠ -1 → ∃ (i : Nat) (es : List EW) (N : Int) (mz : MK) (Pf : Int → List EW) (f : Int → Int), (TR9 S i N es ∧ ckd (tkS S i) = 264 ∧ SB S) ∧ ((es.foldl uC c00).fp.1 = 0 ∧ v = (es.foldl uC c00).rn ∧ 0 ≤ v ∧ v ≤ 6) ∧ PFX es Pf ∧ ((∀ q, 0 ≤ q → q < (es.foldl uC c00).rn → NMA nm q ((Pf q).foldl uC c00)) → TXW S nm rnQ tb1 z0 i N mz) ∧ RFC (es.foldl uC c00) f ∧ ∀ q, 0 ≤ q → q < (es.foldl uC c00).rn → (mz.dn q).1 ≤ 120 ∧ CDT σ2 (C q) q (mz.dn q).1 (mz.dn q).2 (mz.fr q) ((Pf q).foldl uC c00).nn ((es.foldl uC c00).rp q) f) ∧ N5 Sj T σ σ2 ∧ GT T T2
theorem CDS.mv {σ τ : MS} {e : Nat} {q n fs N P : Int} {V : Int → It} {f : Int → Int} (h : CDS σ e q n V fs N P f) (c : CSM σ τ e) : CDS τ e q n V fs N P f := by
  unfold CDS at h ⊢
  rw [c.1 6 (by decide) (by decide), c.1 7 (by decide) (by decide), c.1 8 (by decide) (by decide), c.1 9 (by decide) (by decide), c.1 10 (by decide) (by decide), c.rw (f := 11) (by decide) (by decide) (by decide), c.rw (f := 12) (by decide) (by decide) (by decide), c.rw (f := 13) (by decide) (by decide) (by decide), c.rw (f := 14) (by decide) (by decide) (by decide), c.rw (f := 15) (by decide) (by decide) (by decide), c.w]
  exact h
end
section
set_option maxHeartbeats 1000000 in
set_option maxRecDepth 20000 in
theorem l_X11_read_m_75 (d : Nat) {T0 : CT} {σ0 : MS} {a : Nat} {Sj : Nat → Prop} {C : Int → Nat} {E : Int → Nat} {Tq : CT} {sq : MS} {Rq : Int} {post : Option Value → CT → MS → Prop} (hw0 : WT T0 σ0) (hc6 : ∀ q, 0 ≤ q → q < Rq → sq.2.1 6 (E q) ≤ 200 ∧ sq.2.1 10 (E q) = 1 ∧ rwF sq 14 (E q) 0 ≤ 12) (hR : Rq ≤ 6) (h97 : σ0.2.1 97 a = Rq) (hx_94 : ∀ (T : CT) (i2 : Int) (σ : MS) , (GT T0 T) → (WT T σ) → (FrC T0 [5, 6, 7, 8, 9, 10] σ0 σ) → (OB T a 11) → (0 ≤ i2 ∧ i2 ≤ 6) → (RDK Sj C E Tq sq Rq T σ a i2) → (0 ≤ i2 ∧ i2 ≤ Rq) → (Rq ≤ i2 ∧ i2 ≤ Rq) → Tn (d + 80) m_X11_read 94 T σ [(0, .ref a), (2, .int (iI i2))] [] post) : ∀ (n : Nat) (T : CT) (i2 : Int) (σ : MS) , (GT T0 T) → (WT T σ) → (FrC T0 [5, 6, 7, 8, 9, 10] σ0 σ) → (OB T a 11) → (0 ≤ i2 ∧ i2 ≤ 6) → (RDK Sj C E Tq sq Rq T σ a i2) → (0 ≤ i2 ∧ i2 ≤ Rq) → (2147483700 - i2).toNat = n → Tn (d + 80) m_X11_read 75 T σ [(0, .ref a), (2, .int (iI i2))] [] post := by
  intro n
  induction n using Nat.strongRecOn with
  | _ n ih =>
    intro T i2 σ hG hw hF h_a r_i2 hx h2q hm
    have hx0 := hx
    obtain ⟨Ey, My, hKy, h1y, h2y, h5y⟩ := hx
    have haq : OB T a 11 := h_a
    have hwq : WT T σ := hw
    have h97q : σ.2.1 97 a = Rq := by have z9 : σ.2.1 97 a = σ0.2.1 97 a := congrFun (hF.1 97 (Or.inl (by decide)) (by decide)) (a : Int); omega
    refine tn_iload_n dX11_read_75 rfl 1 rfl ?_
    refine tn_aload_n dX11_read_76 rfl 0 rfl ?_
    refine tn_getI (ci := 11) (i := 2) (n := 97) (t := σ.2.1 97 a) dX11_read_77 rfl lay_11 (by decide) fl11_116 h_a rfl rfl (rfl) ?_
    have g1 : ((0 : Int) ≤ σ.2.1 97 a ∧ σ.2.1 97 a ≤ 6) := wf_97 hw h_a
    refine tn_icmp_ge (tgt := 94) dX11_read_80 (by decide) ⟨by omega, by omega⟩ ⟨by omega, by omega⟩ (fun h2 => ?_) (fun h2 => ?_)
    · exact tn_sub [0, 1] rfl (hx_94 T (i2) σ hG hw (FrC.rfl.trans (FrC.sub hF (by decide))) h_a (by omega) hx0 (by omega) (by omega))
    · refine tn_aload_n dX11_read_83 rfl 0 rfl ?_
      refine tn_iload_n dX11_read_84 rfl 1 rfl ?_
      refine tn_callV (M := m_X11_read) (pc := 85) (ix := 117) (ci := 11) (M' := m_X11_takeMade) (As := [.int (iI i2)]) (rest := []) dX11_read_85 ok_X11_takeMade im_X11_takeMade se_X11_takeMade ml11_117 np_X11_takeMade rfl rfl h_a rfl (Nat.le_of_ble_eq_true rfl) (Nat.le_of_ble_eq_true rfl) rfl (k_X11_takeMade_x (d + 75) (T := T) (σ := σ) (a := a) (r := i2) h_a (by omega) hw hKy.1.1 (by omega) (hKy.2.1 i2 (by omega) (by omega)).1.1 (hKy.2.1 i2 (by omega) (by omega)).1.2.1 (hKy.1.2.2.2.1 i2 (by omega) (by omega)).1 (hKy.1.2.2.2.1 i2 (by omega) (by omega)).2.1 hKy.1.2.1.2.2.2.2.2.2.2 (by have e9 := h2y i2 (Int.le_refl _) (by omega); have z9 := hc6 i2 (by omega) (by omega); rw [e9.1, e9.2.1 6 (by decide) (by decide)]; exact z9.1) (fun f9 f0 f1 => by have e9 := h2y i2 (Int.le_refl _) (by omega); have z9 := hc6 i2 (by omega) (by omega); rw [e9.1, e9.2.1 10 (by decide) (by decide), z9.2.1] at f1; rw [show f9 = 0 by omega, e9.1, e9.2.rw (f := 14) (by decide) (by decide) (by decide)]; exact z9.2.2)) (fun r3 T5 σ4 gt6 hp => ?_)
      obtain ⟨rfl, w9, F10, f7⟩ := hp
      replace h_a : OB T5 a 11 := gt6.ob h_a
      show Tn _ _ 88 T5 σ4 [(0, .ref a), (2, .int (iI i2))] [] _
      refine tn_iinc (q0 := 1) (L' := [(2, .int (iI (i2 + 1))), (0, .ref a)]) dX11_read_88 rfl (by decide) rfl ?_
      refine tn_goto (tgt := 75) dX11_read_91 (by decide) ?_
      have hx11 : RDK Sj C E Tq sq Rq T5 σ4 a (i2 + 1) := RDK.step hKy h1y h2y h5y hwq haq (by omega) (by omega) hR gt6 f7
      exact tn_sub [1, 0] rfl (ih _ (by omega) T5 (i2 + 1) σ4 (GT.trans hG gt6) w9 ((FrC.rfl.trans (FrC.sub hF (by decide))).trans (FrC.sub (FrC.old F10 hG) (by decide))) h_a (by omega) hx11 (by omega) rfl)
set_option maxHeartbeats 1000000 in
set_option maxRecDepth 20000 in
theorem k_X11_read_m (d : Nat) {T : CT} {σ : MS} {a : Nat} {fT Sx : Int → Int} {Sj : Nat → Prop} {C E M : Int → Nat} {nm : Int → Int64 → Int} {z0 : MK} (ha : OB T a 11) (hw : WT T σ) (hrw : ∀ x : Nat, σ.2.1 95 a = (x : Int) → RWE σ x fT (σ.2.1 96 a)) (hB : BYT fT) (hSx : Sx = svC fT (σ.2.1 96 a)) (hK : KEM Sj T σ a C E M) (hz : z0.rt = 0 ∧ z0.ln = 0 ∧ z0.pk = σ.2.1 50 (adN σ 100 a) ∧ z0.pv = σ.2.1 51 (adN σ 100 a)) : Tn (d + 80) m_X11_read 0 T σ [(0, .ref a)] [] (fun ro T2 σ2 => ∃ v : Int, ro = some (.int (iI v)) ∧ WT T2 σ2 ∧ FrC T [5, 6, 7, 8, 9, 10, 35, 38, 42, 43, 44, 45, 46, 47, 50, 51, 56, 84, 85, 86, 87, 96, 97, 104, 105, 512, 516, 517, 518, 519, 520, 521, 522, 523] σ σ2 ∧ (-2147483648 ≤ v ∧ v ≤ 2147483647) ∧ (RP8 σ σ2 a v) ∧ (σ2.2.1 96 a = 0) ∧ (RQ9 Sx v (σ2.2.1 104 a) (σ2.2.1 105 a) (σ.2.1 97 a) (σ2.2.1 97 a)) ∧ (RDM Sj C nm z0 T σ T2 σ2 a Sx v)) := by
  have h96b := (wf_96 hw ha)
  have haq := ha
  refine tn_aload_n dX11_read_0 rfl 0 rfl ?_
  obtain ⟨xq1, hx2, hk3⟩ : ∃ x : Nat, σ.2.1 100 a = (x : Int) ∧ (T x).1 = 35 := wf_100 hw ha
  have hk3o : OB T xq1 5 := ⟨by omega, by rw [hk3]; rfl, by omega⟩
  refine tn_getR (ci := 11) (i := 5) (n := 100) (x := xq1) dX11_read_1 rfl lay_11 (by decide) fl11_25 ha rfl rfl (hx2) ?_
  have hr100 : σ.2.1 100 a = (xq1 : Int) := hx2
  refine tn_aload_n dX11_read_4 rfl 0 rfl ?_
  obtain ⟨xq5, hx6, hk7, hl8⟩ : ∃ x : Nat, σ.2.1 95 a = (x : Int) ∧ AR T x 2 1200 1200 := wf_95 hw ha
  refine tn_getR (ci := 11) (i := 0) (n := 95) (x := xq5) dX11_read_5 rfl lay_11 (by decide) fl11_9 ha rfl rfl (hx6) ?_
  refine tn_aload_n dX11_read_8 rfl 0 rfl ?_
  refine tn_getI (ci := 11) (i := 1) (n := 96) (t := σ.2.1 96 a) dX11_read_9 rfl lay_11 (by decide) fl11_87 ha rfl rfl (rfl) ?_
  have g9 : ((0 : Int) ≤ σ.2.1 96 a ∧ σ.2.1 96 a ≤ 1200) := wf_96 hw ha
  refine tn_callV (M := m_X11_read) (pc := 12) (ix := 94) (ci := 5) (M' := m_X5_take) (As := [.ref xq5, .int (iI (σ.2.1 96 a))]) (rest := []) dX11_read_12 ok_X5_take im_X5_take se_X5_take ml11_94 np_X5_take rfl rfl hk3o rfl (Nat.le_of_ble_eq_true rfl) (Nat.le_of_ble_eq_true rfl) rfl (k_X5_take_m (d) (T := T) (σ := σ) (a := xq1) (t := xq5) (n := σ.2.1 96 a) (nm := nm) (z0 := z0) (Sj := Sj) (E := E) hk3o hk7 (by omega) (by omega) hw (by have q9 := hl8; omega) (by omega) (hrw xq5 (hx6)) hB hSx hK.1.1 (by rw [← adN_of hr100]; exact hK.1.2.2) (by rw [← adN_of hr100]; exact hz)) (fun r10 T12 σ11 gt13 hp => ?_)
  obtain ⟨v17, rfl, w18, F19, f14, f15, f16⟩ := hp
  replace ha : OB T12 a 11 := gt13.ob ha
  have tm20 := f16
  have tm20r : adN σ 100 a = xq1 := adN_of hr100
  rw [← tm20r] at tm20
  have tm20F := F19
  have tm20K : KEM Sj T12 σ11 a C E M := KEM.tak hK hw haq tm20.1 tm20.2.1 tm20.2.2.1 (fun f9 h9 => congrFun (tm20F.1 f9 (Or.inl ((by decide : ∀ k ∈ [98, 99, 100, 102, 106, 107, 108, 109], k < 200) f9 h9)) ((by decide : ∀ k ∈ [98, 99, 100, 102, 106, 107, 108, 109], k ∉ [5, 6, 7, 8, 9, 10, 35, 38, 42, 43, 44, 45, 46, 47, 50, 51, 84, 85, 86, 87, 512, 516, 517, 518, 519, 520, 521, 522, 523]) f9 h9)) (a : Int)) (fun f9 b9 h9 => congrFun (tm20F.1 f9 (Or.inl ((by decide : ∀ k ∈ [17, 23, 72], k < 200) f9 h9)) ((by decide : ∀ k ∈ [17, 23, 72], k ∉ [5, 6, 7, 8, 9, 10, 35, 38, 42, 43, 44, 45, 46, 47, 50, 51, 84, 85, 86, 87, 512, 516, 517, 518, 519, 520, 521, 522, 523]) f9 h9)) (b9 : Int))
  show Tn _ _ 15 T12 σ11 [(0, .ref a)] [.int (iI v17)] _
  refine tn_istore_n (L' := [(1, .int (iI v17)), (0, .ref a)]) dX11_read_15 rfl (by decide) rfl ?_
  refine tn_aload_n dX11_read_16 rfl 1 rfl ?_
  refine tn_iconst dX11_read_17 ?_
  refine tn_putV (ci := 11) (i := 1) (n := 96) (r := false) (v := 0) tyX11 tyX11_ok nmX11 dX11_read_18 rfl lay_11 (by decide) fl11_87 rfl (tyX11_ok 1 (by decide)) rfl rfl rfl ha rfl rfl ?_
  refine tn_aload_n dX11_read_21 rfl 1 rfl ?_
  refine tn_aload_n dX11_read_22 rfl 1 rfl ?_
  obtain ⟨xq21, hx22, hk23⟩ : ∃ x : Nat, σ11.2.1 100 a = (x : Int) ∧ (T12 x).1 = 35 := wf_100 w18 ha
  have hk23o : OB T12 xq21 5 := ⟨by omega, by rw [hk23]; rfl, by omega⟩
  refine tn_getR (ci := 11) (i := 5) (n := 100) (x := xq21) dX11_read_23 rfl lay_11 (by decide) fl11_25 ha rfl rfl (rc_o (by decide) (hx22)) ?_
  refine tn_getI (ci := 5) (i := 10) (n := 43) (t := σ11.2.1 43 xq21) dX11_read_26 rfl lay_5 (by decide) fl11_98 hk23o rfl rfl (rc_o (by decide) (rfl)) ?_
  have g25 : ((-2147483648 : Int) ≤ σ11.2.1 43 xq21 ∧ σ11.2.1 43 xq21 ≤ 2147483647) := wf_43 w18 hk23o
  refine tn_putV (ci := 11) (i := 9) (n := 104) (r := false) (v := σ11.2.1 43 xq21) tyX11 tyX11_ok nmX11 dX11_read_29 rfl lay_11 (by decide) fl11_101 rfl (tyX11_ok 9 (by decide)) rfl rfl rfl ha rfl rfl ?_
  refine tn_aload_n dX11_read_32 rfl 1 rfl ?_
  refine tn_iload_n dX11_read_33 rfl 0 rfl ?_
  refine tn_if_eq (tgt := 41) dX11_read_34 (by decide) ⟨by omega, by omega⟩ (fun h26 => ?_) (fun h26 => ?_)
  · refine tn_aload_n dX11_read_41 rfl 1 rfl ?_
    refine tn_getR (ci := 11) (i := 5) (n := 100) (x := xq21) dX11_read_42 rfl lay_11 (by decide) fl11_25 ha rfl rfl (rc_o (by decide) (rc_o (by decide) (hx22))) ?_
    refine tn_getI (ci := 5) (i := 11) (n := 44) (t := σ11.2.1 44 xq21) dX11_read_45 rfl lay_5 (by decide) fl11_104 hk23o rfl rfl (rc_o (by decide) (rc_o (by decide) (rfl))) ?_
    have g27 : ((-2147483648 : Int) ≤ σ11.2.1 44 xq21 ∧ σ11.2.1 44 xq21 ≤ 2147483647) := wf_44 w18 hk23o
    refine tn_putV (ci := 11) (i := 10) (n := 105) (r := false) (v := σ11.2.1 44 xq21) tyX11 tyX11_ok nmX11 dX11_read_48 rfl lay_11 (by decide) fl11_43 rfl (tyX11_ok 10 (by decide)) rfl rfl rfl ha rfl rfl ?_
    refine tn_iload_n dX11_read_51 rfl 0 rfl ?_
    refine tn_if_ne (tgt := 57) dX11_read_52 (by decide) ⟨by omega, by omega⟩ (fun h28 => absurd h28 (by omega)) (fun h28 => ?_)
    refine tn_iconst dX11_read_55 ?_
    have q30 : (sA 105 a (σ11.2.1 44 xq21) (sA 104 a (σ11.2.1 43 xq21) (sA 96 a (0) σ11))).2.1 96 a = 0 := rc_o (by decide) (rc_o (by decide) (ra_eq))
    have w294 : (sA 105 a (σ11.2.1 44 xq21) (sA 104 a (σ11.2.1 43 xq21) (sA 96 a (0) σ11))).2.1 104 a = σ11.2.1 43 xq21 := rc_o (by decide) (ra_eq)
    have w295 : (sA 105 a (σ11.2.1 44 xq21) (sA 104 a (σ11.2.1 43 xq21) (sA 96 a (0) σ11))).2.1 105 a = σ11.2.1 44 xq21 := ra_eq
    have w297 : (sA 105 a (σ11.2.1 44 xq21) (sA 104 a (σ11.2.1 43 xq21) (sA 96 a (0) σ11))).2.1 97 a = σ.2.1 97 a := rc_o (by decide) (rc_o (by decide) (rc_o (by decide) (rc_F F19 (Or.inl (by decide)) (by decide) (rfl))))
    have w29r : σ11.2.1 100 a = (xq1 : Int) := rc_F F19 (Or.inl (by decide)) (by decide) hr100
    have w29xq21 : xq21 = xq1 := by omega
    exact tn_iret rfl dX11_read_56 ⟨_, rfl, (((w18.put (by decide) (by decide) (fo_96 (by omega))).put (by decide) (by decide) (fo_104 (by omega))).put (by decide) (by decide) (fo_105 (by omega))), ((((FrC.rfl.trans (FrC.sub F19 (by decide))).put (by decide) (by decide)).put (by decide) (by decide)).put (by decide) (by decide)), by omega, Or.inl ⟨rfl, ((sA_k (by decide)).trans ((sA_k (by decide)).trans ((sA_k (by decide)).trans (tm20F.1 56 (Or.inl (by decide)) (by decide)))))⟩, by omega, RQ9.of f15 f14 (by rw [w294, w29xq21]) (fun _ => ⟨rfl, by rw [w295, w29xq21], w297⟩) (fun q => absurd q (by omega)), ⟨⟨E, M, (KEM.fld (KEM.fld (KEM.fld tm20K w18 ha (by decide)) (w18.put (by decide) (by decide) (fo_96 (by omega))) ha (by decide)) ((w18.put (by decide) (by decide) (fo_96 (by omega))).put (by decide) (by decide) (fo_104 (by omega))) ha (by decide))⟩, fun _ => ⟨fun q9 q0 q1 => (((tm20.2.2.1.2.1 (C q9) ((hK.2.1 q9 q0 q1).1.2.1) ((hK.2.1 q9 q0 q1).1.2.2)).trans (csm_fld (by decide) (by decide))).trans (csm_fld (by decide) (by decide))).trans (csm_fld (by decide) (by decide)), (((tm20.2.2.1.2.2.2.fld (by decide)).fld (by decide)).fld (by decide))⟩, fun q9 => absurd rfl q9, fun b9 sb9 tb9 => Or.inl (((((tm20.2.2.1.2.1 b9 sb9 tb9).trans (csm_fld (by decide) (by decide))).trans (csm_fld (by decide) (by decide))).trans (csm_fld (by decide) (by decide))).1 5 (by decide) (by decide)), tm20.2.2.1.1⟩⟩
  · refine tn_iconst dX11_read_37 ?_
    refine tn_goto (tgt := 48) dX11_read_38 (by decide) ?_
    refine tn_putV (ci := 11) (i := 10) (n := 105) (r := false) (v := -1) tyX11 tyX11_ok nmX11 dX11_read_48 rfl lay_11 (by decide) fl11_43 rfl (tyX11_ok 10 (by decide)) rfl rfl rfl ha rfl rfl ?_
    refine tn_iload_n dX11_read_51 rfl 0 rfl ?_
    refine tn_if_ne (tgt := 57) dX11_read_52 (by decide) ⟨by omega, by omega⟩ (fun h31 => ?_) (fun h31 => absurd h31 (by omega))
    refine tn_aload_n dX11_read_57 rfl 1 rfl ?_
    refine tn_aload_n dX11_read_58 rfl 1 rfl ?_
    refine tn_getR (ci := 11) (i := 5) (n := 100) (x := xq21) dX11_read_59 rfl lay_11 (by decide) fl11_25 ha rfl rfl (rc_o (by decide) (rc_o (by decide) (rc_o (by decide) (hx22)))) ?_
    refine tn_getI (ci := 5) (i := 5) (n := 38) (t := σ11.2.1 38 xq21) dX11_read_62 rfl lay_5 (by decide) fl11_107 hk23o rfl rfl (rc_o (by decide) (rc_o (by decide) (rc_o (by decide) (rfl)))) ?_
    have g32 : ((0 : Int) ≤ σ11.2.1 38 xq21 ∧ σ11.2.1 38 xq21 ≤ 256) := wf_38 w18 hk23o
    refine tn_bipush dX11_read_65 (by decide) ?_
    refine tn_mmin (x := σ11.2.1 38 xq21) (y := 6) dX11_read_67 mlm11_110 stM_min iniM cdM_min (by omega) (Nat.le_of_ble_eq_true rfl) ⟨by omega, by omega⟩ ⟨by omega, by omega⟩ (fun z33 g34 => ?_)
    have mn35r : σ11.2.1 100 a = (xq1 : Int) := rc_F F19 (Or.inl (by decide)) (by decide) hr100
    have mn35e : xq21 = xq1 := by have q9 := (hx22); omega
    have mn35 : z33 = (if σ11.2.1 38 xq1 ≤ 6 then σ11.2.1 38 xq1 else 6) := min6 (by rw [← mn35e]; omega)
    refine tn_putV (ci := 11) (i := 2) (n := 97) (r := false) (v := z33) tyX11 tyX11_ok nmX11 dX11_read_70 rfl lay_11 (by decide) fl11_116 rfl (tyX11_ok 2 (by decide)) rfl rfl rfl ha rfl rfl ?_
    refine tn_iconst dX11_read_73 ?_
    refine tn_istore_n (L' := [(2, .int (iI 0)), (1, .int (iI v17)), (0, .ref a)]) dX11_read_74 rfl (by decide) rfl ?_
    obtain ⟨sq36, sq36e⟩ : ∃ z : MS, z = (sA 97 a (z33) (sA 105 a (-1) (sA 104 a (σ11.2.1 43 xq21) (sA 96 a (0) σ11)))) := ⟨_, rfl⟩
    have sq36K : KEM Sj T12 sq36 a C E M := by rw [sq36e]; exact (KEM.fld (KEM.fld (KEM.fld (KEM.fld tm20K w18 ha (by decide)) (w18.put (by decide) (by decide) (fo_96 (by omega))) ha (by decide)) ((w18.put (by decide) (by decide) (fo_96 (by omega))).put (by decide) (by decide) (fo_104 (by omega))) ha (by decide)) (((w18.put (by decide) (by decide) (fo_96 (by omega))).put (by decide) (by decide) (fo_104 (by omega))).put (by decide) (by decide) (fo_105 (by omega))) ha (by decide))
    have sq36w : WT T12 sq36 := by rw [sq36e]; exact ((((w18.put (by decide) (by decide) (fo_96 (by omega))).put (by decide) (by decide) (fo_104 (by omega))).put (by decide) (by decide) (fo_105 (by omega))).put (by decide) (by decide) (fo_97 (by omega)))
    obtain ⟨sq36i, sq36s, sq36N, sq36m, sq36P, sq36f, sq361, sq36b, sq362, sq363, sq364, sq365⟩ := tm20.2.2.2 (by omega)
    have sq36x : ∀ b9 : Nat, CSM σ11 sq36 b9 := fun b9 => by rw [sq36e]; exact ((((CSM.rf.trans (csm_fld (by decide) (by decide))).trans (csm_fld (by decide) (by decide))).trans (csm_fld (by decide) (by decide))).trans (csm_fld (by decide) (by decide)))
    have sq36c : ∀ q, 0 ≤ q → q < (sq36s.foldl uC c00).rn → CDS sq36 (E q) q (sq36m.dn q).1 (sq36m.dn q).2 (sq36m.fr q) ((sq36P q).foldl uC c00).nn ((sq36s.foldl uC c00).rp q) sq36f := fun q9 q0 q1 => CDS.mv (sq365 q9 q0 q1).2 (sq36x _)
    have sq3697 : sq36.2.1 97 a = z33 := by rw [sq36e]; exact ra_eq
    have sq36rv : z33 = (sq36s.foldl uC c00).rn := by have z9 := mn35; have z8 := sq36b.2.2.2; rw [tm20r] at z8; rw [z8, if_pos sq36b.2.2.1] at z9; exact z9
    have sq366 : ∀ q, 0 ≤ q → q < z33 → sq36.2.1 6 (E q) ≤ 200 ∧ sq36.2.1 10 (E q) = 1 ∧ rwF sq36 14 (E q) 0 ≤ 12 := fun q9 q0 q1 => by
      have y9 := sq36c q9 q0 (by omega)
      have y8 := (sq365 q9 q0 (by omega)).1
      have y7 := wf_7 sq36w (SPX.ob sq36K.1.2.2 q0 (show q9 < 7 by omega))
      refine ⟨by rw [y9.1.1.1]; omega, y9.1.1.2.2.2, ?_⟩
      rw [y9.2.1.2.2.2.1, ← y9.1.1.2.1]; omega
    refine tn_sub [2, 0] rfl (l_X11_read_m_75 (d) (σ0 := (sA 97 a (z33) (sA 105 a (-1) (sA 104 a (σ11.2.1 43 xq21) (sA 96 a (0) σ11))))) (T0 := T12) (a := a) (Sj := Sj) (C := C) (E := E) (Tq := T12) (sq := sq36) (Rq := z33) ((((w18.put (by decide) (by decide) (fo_96 (by omega))).put (by decide) (by decide) (fo_104 (by omega))).put (by decide) (by decide) (fo_105 (by omega))).put (by decide) (by decide) (fo_97 (by omega))) sq366 (by omega) (by rw [← sq36e]; exact sq3697) (fun T39 i237 σ38 gt40 w41 F42 q43 r44 f45 f46 f47 => ?_) _ T12 (0) (sA 97 a (z33) (sA 105 a (-1) (sA 104 a (σ11.2.1 43 xq21) (sA 96 a (0) σ11)))) GT.rfl ((((w18.put (by decide) (by decide) (fo_96 (by omega))).put (by decide) (by decide) (fo_104 (by omega))).put (by decide) (by decide) (fo_105 (by omega))).put (by decide) (by decide) (fo_97 (by omega))) FrC.rfl ha (by omega) (by rw [← sq36e]; exact RDK.in sq36K) (by omega) rfl)
    have rb48w : WT T39 σ38 := w41
    have rb48a : OB T39 a 11 := q43
    show Tn _ _ 94 T39 σ38 [(0, .ref a), (2, .int (iI i237))] [] _
    refine tn_aload_n dX11_read_94 rfl 0 rfl ?_
    obtain ⟨xq49, hx50, hk51⟩ : ∃ x : Nat, σ38.2.1 103 a = (x : Int) ∧ (T39 x).1 = 37 := wf_103 w41 q43
    have hk51o : OB T39 xq49 7 := ⟨by omega, by rw [hk51]; rfl, by omega⟩
    refine tn_getR (ci := 11) (i := 8) (n := 103) (x := xq49) dX11_read_95 rfl lay_11 (by decide) fl11_83 q43 rfl rfl (hx50) ?_
    refine tn_callV (M := m_X11_read) (pc := 98) (ix := 120) (ci := 7) (M' := m_X7_forget) (As := []) (rest := []) dX11_read_98 ok_X7_forget im_X7_forget se_X7_forget ml11_120 np_X7_forget rfl rfl hk51o rfl (Nat.le_of_ble_eq_true rfl) (Nat.le_of_ble_eq_true rfl) rfl (k_X7_forget_x (d + 78) (T := T39) (σ := σ38) (a := xq49) hk51o w41 ) (fun r53 T55 σ54 gt56 hp => ?_)
    obtain ⟨rfl, rfl, w60, F61, f57, f58⟩ := hp
    clear gt56
    show Tn _ _ 101 T39 σ54 [(0, .ref a), (2, .int (iI i237))] [] _
    refine tn_aload_n dX11_read_101 rfl 0 rfl ?_
    refine tn_getI (ci := 11) (i := 2) (n := 97) (t := σ38.2.1 97 a) dX11_read_102 rfl lay_11 (by decide) fl11_116 q43 rfl rfl (rc_F F61 (Or.inl (by decide)) (by decide) (rfl)) ?_
    have g62 : ((0 : Int) ≤ σ38.2.1 97 a ∧ σ38.2.1 97 a ≤ 6) := wf_97 w41 q43
    have q64 : σ54.2.1 96 a = 0 := rc_F F61 (Or.inl (by decide)) (by decide) (rc_F F42 (Or.inl (by decide)) (by decide) (rc_o (by decide) (rc_o (by decide) (rc_o (by decide) (ra_eq)))))
    have w634 : σ54.2.1 104 a = σ11.2.1 43 xq21 := rc_F F61 (Or.inl (by decide)) (by decide) (rc_F F42 (Or.inl (by decide)) (by decide) (rc_o (by decide) (rc_o (by decide) (ra_eq))))
    have w635 : σ54.2.1 105 a = -1 := rc_F F61 (Or.inl (by decide)) (by decide) (rc_F F42 (Or.inl (by decide)) (by decide) (rc_o (by decide) (ra_eq)))
    have w637 : σ54.2.1 97 a = z33 := rc_F F61 (Or.inl (by decide)) (by decide) (rc_F F42 (Or.inl (by decide)) (by decide) (ra_eq))
    have w63r : σ11.2.1 100 a = (xq1 : Int) := rc_F F19 (Or.inl (by decide)) (by decide) hr100
    have w63xq21 : xq21 = xq1 := by omega
    have w63q : σ38.2.1 97 a = z33 := rc_F F42 (Or.inl (by decide)) (by decide) (ra_eq)
    have rz65R : i237 = z33 := by have z9 := f47; omega
    obtain ⟨rz65E, rz65M, rz65K, rz651, rz652, rz65g, rz655⟩ := f45
    have rz65k : KEM Sj T39 σ54 a C rz65E rz65M := KEM.mv rz65K GT.rfl (rz65K.1.1.keep (fun f9 b9 h9 => f57.f (by simp only [List.mem_cons, List.not_mem_nil, or_false] at h9; omega) (by simp only [List.mem_cons, List.not_mem_nil, or_false] at h9; simp only [List.mem_singleton, Prod.mk.injEq]; omega))) (SPX.mv rz65K.1.2.2 rb48w (KEM.xs rb48w rb48a).2.2.2.1 GT.rfl (f57.f (by decide) (by simp)) (fun x9 _ => f57.r (by simp))) (fun f9 h9 => f57.f ((by decide : ∀ k ∈ [98, 99, 100, 102, 106, 107, 108, 109], k < 1000) f9 h9) (by simp only [List.mem_cons, List.not_mem_nil, or_false] at h9; simp only [List.mem_singleton, Prod.mk.injEq]; omega)) (fun f9 b9 h9 => f57.f ((by decide : ∀ k ∈ [17, 23, 72], k < 1000) f9 h9) (by simp only [List.mem_cons, List.not_mem_nil, or_false] at h9; simp only [List.mem_singleton, Prod.mk.injEq]; omega)) (f57.r (by simp)) (f57.r (by simp))
    have rz65c : ∀ b9 : Nat, CSM σ38 σ54 b9 := fun b9 => csm_chx f57 (fun p9 hp9 => by rw [List.mem_singleton.mp hp9]; show 16 < 56; decide) (fun _ _ => by simp)
    have rz65n : σ38.2.1 97 a = (sq36s.foldl uC c00).rn := by have z9 := sq36b; have z8 := sq3697; have z7 := sq36rv; omega
    exact tn_iret rfl dX11_read_105 ⟨_, rfl, w60, (((((((FrC.rfl.trans (FrC.sub F19 (by decide))).put (by decide) (by decide)).put (by decide) (by decide)).put (by decide) (by decide)).put (by decide) (by decide)).trans (FrC.sub (FrC.old F42 gt13) (by decide))).trans (FrC.sub (FrC.old F61 (GT.trans gt13 gt40)) (by decide))), by omega, Or.inr ⟨by omega, xq49, (rc_F F61 (Or.inl (by decide)) (by decide) (hx50)), f58⟩, by omega, RQ9.of f15 f14 (by rw [w634, w63xq21]) (fun q => absurd q (by omega)) (fun _ => ⟨w63q.trans mn35, w635, w637.trans w63q.symm⟩), ⟨⟨rz65E, rz65M, rz65k⟩, fun q9 => absurd q9 (by omega), fun _ => ⟨sq36i, sq36s, sq36N, sq36m, sq36P, sq36f, sq361, ⟨sq36b.1, rz65n, by omega, by omega⟩, sq362, sq363, sq364, fun q9 q0 q1 => ⟨(sq365 q9 q0 q1).1, _, _, (rz651 q9 q0 (by omega)).csm (rz65c _), (sq36c q9 q0 q1)⟩⟩, N5.up tm20.2.2.1.1 (fun b9 sb9 tb9 => ((tm20.2.2.1.2.1 b9 sb9 tb9).trans (sq36x b9)).1 5 (by decide) (by decide)) rz655 (fun b9 => (rz65c b9).1 5 (by decide) (by decide)), GT.trans tm20.2.2.1.1 rz65g⟩⟩
end
section
theorem af_kn {T : CT} {σ : MS} {f b : Nat} (hw : WTn T σ) (hf : f ∈ AFL) (ob : OB T b (cls f)) : σ.2.1 f b = ((adN σ f b : Nat) : Int) ∧ AFK (T (adN σ f b)).1 := by
  simp only [List.mem_cons, List.not_mem_nil, or_false] at hf
  rcases hf with rfl | rfl | rfl | rfl | rfl | rfl | rfl | rfl | rfl | rfl | rfl | rfl | rfl | rfl | rfl | rfl | rfl | rfl | rfl | rfl | rfl | rfl | rfl | rfl | rfl | rfl | rfl | rfl | rfl | rfl | rfl | rfl | rfl | rfl | rfl | rfl | rfl | rfl | rfl | rfl | rfl | rfl
  · have z := ad_ex (Q := fun x => (208 ≤ (T x).2 ∧ (T x).2 ≤ 2600) ∧ ((T b).1 = 50 → (T x).1 = 1) ∧ ((T b).1 ≠ 50 → (T x).1 = 13)) (hw.1 5 b (by decide) ob)
    refine ⟨z.1, ?_⟩
    have z2 := z.2.2
    unfold AFK
    omega
  · have z := ad_ex (Q := fun x => AR T x 1 12 12) (hw.1 11 b (by decide) ob)
    exact ⟨z.1, by have z2 := z.2.1; unfold AFK; omega⟩
  · have z := ad_ex (Q := fun x => AR T x 1 12 12) (hw.1 12 b (by decide) ob)
    exact ⟨z.1, by have z2 := z.2.1; unfold AFK; omega⟩
  · have z := ad_ex (Q := fun x => AR T x 1 12 12) (hw.1 13 b (by decide) ob)
    exact ⟨z.1, by have z2 := z.2.1; unfold AFK; omega⟩
  · have z := ad_ex (Q := fun x => AR T x 11 12 12) (hw.1 14 b (by decide) ob)
    exact ⟨z.1, by have z2 := z.2.1; unfold AFK; omega⟩
  · have z := ad_ex (Q := fun x => AR T x 1 144 144) (hw.1 15 b (by decide) ob)
    exact ⟨z.1, by have z2 := z.2.1; unfold AFK; omega⟩
  · have z := ad_ex (Q := fun x => AR T x 1 13 13) (hw.1 16 b (by decide) ob)
    exact ⟨z.1, by have z2 := z.2.1; unfold AFK; omega⟩
  · have z := ad_ex (Q := fun x => AR T x 3 603 603) (hw.1 18 b (by decide) ob)
    exact ⟨z.1, by have z2 := z.2.1; unfold AFK; omega⟩
  · have z := ad_ex (Q := fun x => AR T x 3 3 3) (hw.1 19 b (by decide) ob)
    exact ⟨z.1, by have z2 := z.2.1; unfold AFK; omega⟩
  · have z := ad_ex (Q := fun x => AR T x 1 201 201) (hw.1 20 b (by decide) ob)
    exact ⟨z.1, by have z2 := z.2.1; unfold AFK; omega⟩
  · have z := ad_ex (Q := fun x => AR T x 1 201 201) (hw.1 21 b (by decide) ob)
    exact ⟨z.1, by have z2 := z.2.1; unfold AFK; omega⟩
  · have z := ad_ex (Q := fun x => AR T x 1 8 8) (hw.1 24 b (by decide) ob)
    exact ⟨z.1, by have z2 := z.2.1; unfold AFK; omega⟩
  · have z := ad_ex (Q := fun x => AR T x 16 256 256) (hw.1 36 b (by decide) ob)
    exact ⟨z.1, by have z2 := z.2.1; unfold AFK; omega⟩
  · have z := ad_ex (Q := fun x => AR T x 17 256 256) (hw.1 37 b (by decide) ob)
    exact ⟨z.1, by have z2 := z.2.1; unfold AFK; omega⟩
  · have z := ad_ex (Q := fun x => AR T x 18 256 256) (hw.1 39 b (by decide) ob)
    exact ⟨z.1, by have z2 := z.2.1; unfold AFK; omega⟩
  · have z := ad_ex (Q := fun x => AR T x 19 256 256) (hw.1 40 b (by decide) ob)
    exact ⟨z.1, by have z2 := z.2.1; unfold AFK; omega⟩
  · have z := ad_ex (Q := fun x => AR T x 20 256 256) (hw.1 41 b (by decide) ob)
    exact ⟨z.1, by have z2 := z.2.1; unfold AFK; omega⟩
  · have z := ad_ex (Q := fun x => AR T x 21 12 12) (hw.1 48 b (by decide) ob)
    exact ⟨z.1, by have z2 := z.2.1; unfold AFK; omega⟩
  · have z := ad_ex (Q := fun x => AR T x 1 8 8) (hw.1 49 b (by decide) ob)
    exact ⟨z.1, by have z2 := z.2.1; unfold AFK; omega⟩
  · have z := ad_ex (Q := fun x => AR T x 1 192 192) (hw.1 52 b (by decide) ob)
    exact ⟨z.1, by have z2 := z.2.1; unfold AFK; omega⟩
  · have z := ad_ex (Q := fun x => AR T x 1 192 192) (hw.1 53 b (by decide) ob)
    exact ⟨z.1, by have z2 := z.2.1; unfold AFK; omega⟩
  · have z := ad_ex (Q := fun x => AR T x 3 3 3) (hw.1 54 b (by decide) ob)
    exact ⟨z.1, by have z2 := z.2.1; unfold AFK; omega⟩
  · have z := ad_ex (Q := fun x => AR T x 15 9 9) (hw.1 59 b (by decide) ob)
    exact ⟨z.1, by have z2 := z.2.1; unfold AFK; omega⟩
  · have z := ad_ex (Q := fun x => AR T x 1 9 9) (hw.1 60 b (by decide) ob)
    exact ⟨z.1, by have z2 := z.2.1; unfold AFK; omega⟩
  · have z := ad_ex (Q := fun x => (T x).2 = 9 ∧ ((T b).1 = 57 → (T x).1 = 14) ∧ ((T b).1 ≠ 57 → (T x).1 = 1)) (hw.1 61 b (by decide) ob)
    refine ⟨z.1, ?_⟩
    have z2 := z.2.2
    unfold AFK
    omega
  · have z := ad_ex (Q := fun x => AR T x 1 108 108) (hw.1 62 b (by decide) ob)
    exact ⟨z.1, by have z2 := z.2.1; unfold AFK; omega⟩
  · have z := ad_ex (Q := fun x => AR T x 1 1728 1728) (hw.1 63 b (by decide) ob)
    exact ⟨z.1, by have z2 := z.2.1; unfold AFK; omega⟩
  · have z := ad_ex (Q := fun x => AR T x 1 200 200) (hw.1 64 b (by decide) ob)
    exact ⟨z.1, by have z2 := z.2.1; unfold AFK; omega⟩
  · have z := ad_ex (Q := fun x => AR T x 3 576 576) (hw.1 73 b (by decide) ob)
    exact ⟨z.1, by have z2 := z.2.1; unfold AFK; omega⟩
  · have z := ad_ex (Q := fun x => AR T x 3 3 3) (hw.1 74 b (by decide) ob)
    exact ⟨z.1, by have z2 := z.2.1; unfold AFK; omega⟩
  · have z := ad_ex (Q := fun x => AR T x 1 192 192) (hw.1 75 b (by decide) ob)
    exact ⟨z.1, by have z2 := z.2.1; unfold AFK; omega⟩
  · have z := ad_ex (Q := fun x => AR T x 3 576 576) (hw.1 76 b (by decide) ob)
    exact ⟨z.1, by have z2 := z.2.1; unfold AFK; omega⟩
  · have z := ad_ex (Q := fun x => AR T x 3 603 603) (hw.1 77 b (by decide) ob)
    exact ⟨z.1, by have z2 := z.2.1; unfold AFK; omega⟩
  · have z := ad_ex (Q := fun x => AR T x 1 201 201) (hw.1 78 b (by decide) ob)
    exact ⟨z.1, by have z2 := z.2.1; unfold AFK; omega⟩
  · have z := ad_ex (Q := fun x => AR T x 3 3 3) (hw.1 79 b (by decide) ob)
    exact ⟨z.1, by have z2 := z.2.1; unfold AFK; omega⟩
  · have z := ad_ex (Q := fun x => AR T x 12 1201 1201) (hw.1 81 b (by decide) ob)
    exact ⟨z.1, by have z2 := z.2.1; unfold AFK; omega⟩
  · have z := ad_ex (Q := fun x => AR T x 22 1201 1201) (hw.1 82 b (by decide) ob)
    exact ⟨z.1, by have z2 := z.2.1; unfold AFK; omega⟩
  · have z := ad_ex (Q := fun x => AR T x 23 1201 1201) (hw.1 83 b (by decide) ob)
    exact ⟨z.1, by have z2 := z.2.1; unfold AFK; omega⟩
  · have z := ad_ex (Q := fun x => AR T x 1 6 6) (hw.1 89 b (by decide) ob)
    exact ⟨z.1, by have z2 := z.2.1; unfold AFK; omega⟩
  · have z := ad_ex (Q := fun x => AR T x 1 200 200) (hw.1 90 b (by decide) ob)
    exact ⟨z.1, by have z2 := z.2.1; unfold AFK; omega⟩
  · have z := ad_ex (Q := fun x => AR T x 1 145 145) (hw.1 91 b (by decide) ob)
    exact ⟨z.1, by have z2 := z.2.1; unfold AFK; omega⟩
  · have z := ad_ex (Q := fun x => AR T x 2 1200 1200) (hw.1 95 b (by decide) ob)
    exact ⟨z.1, by have z2 := z.2.1; unfold AFK; omega⟩
def FIN (T : CT) (b : Nat) : Prop := 30 ≤ (T b).1 ∧ (T b).1 < 80
abbrev INJT (S0 : Nat → Prop) (T : CT) (σ : MS) : Prop := INJ (fun b => FIN T b ∧ S0 b) T σ
def FRN (T0 T : CT) (σ : MS) : Prop := ∀ f (b : Nat), f ∈ AFL → FIN T b → ¬ FIN T0 b → OB T b (cls f) → (T0 (adN σ f b)).1 = 0
def UNF (a ci y : Nat) (T : CT) (σ : MS) : Prop := ∀ f, f ∈ AFL → (∀ b : Nat, FIN T b → OB T b (cls f) → adN σ f b ≠ y) ∧ (cls f = ci → 0 ≤ σ.2.1 f a → adN σ f a ≠ y)
def CXJ (S0 : Nat → Prop) (a ci : Nat) (T0 T : CT) (σ : MS) : Prop := INJT S0 T σ ∧ FRN T0 T σ ∧ (∀ f, f ∈ AFL → cls f = ci → 0 ≤ σ.2.1 f a → ((T (adN σ f a)).1 ≠ 0 ∧ (T (adN σ f a)).1 < 80) ∧ (T0 (adN σ f a)).1 = 0) ∧ (∀ f g, f ∈ AFL → g ∈ AFL → cls f = ci → cls g = ci → 0 ≤ σ.2.1 f a → 0 ≤ σ.2.1 g a → adN σ f a = adN σ g a → f = g) ∧ ∀ f, f ∈ AFL → cls f = ci → 0 ≤ σ.2.1 f a → ∀ g (b : Nat), g ∈ AFL → FIN T b → OB T b (cls g) → adN σ g b ≠ adN σ f a
section CXJS
variable {S0 : Nat → Prop} {T T0 T2 : CT} {σ σ2 σ0 : MS} {a x y k N n ci cj : Nat} {v z : Int}
theorem afl_lt {f : Nat} (hf : f ∈ AFL) : f < 96 ∧ 5 ≤ f := by simp only [List.mem_cons, List.not_mem_nil, or_false] at hf; omega
theorem CXJ.begin (hr : T a = (80 + ci, 0)) (hd : ∀ f, f ∈ AFL → cls f = ci → σ.2.1 f a = -1) (hi : INJT S0 T σ) : CXJ S0 a ci T T σ := ⟨hi, fun f b _ h1 h2 => absurd h1 h2, fun f hf hc h => absurd (hd f hf hc) (by omega), fun f g hf _ hc _ h => absurd (hd f hf hc) (by omega), fun f hf hc h => absurd (hd f hf hc) (by omega)⟩
theorem CXJ.mv (h : CXJ S0 a ci T0 T σ) (hw : WTn T σ) (fin : ∀ b, FIN T2 b → FIN T b) (tf : ∀ b, FIN T b → T2 b = T b) (ta : ∀ y, (T y).1 ≠ 0 → (T y).1 < 80 → T2 y = T y) (kf : ∀ f (b : Nat), f ∈ AFL → (FIN T b ∨ b = a) → σ2.2.1 f b = σ.2.1 f b) : CXJ S0 a ci T0 T2 σ2 := by
  obtain ⟨h1, h2, h3, h4, h5⟩ := h
  have ad : ∀ f (b : Nat), f ∈ AFL → (FIN T b ∨ b = a) → adN σ2 f b = adN σ f b := fun f b hf hb => by unfold adN; rw [kf f b hf hb]
  have ob : ∀ b c, FIN T2 b → OB T2 b c → OB T b c := fun b c fb o => by unfold OB at o ⊢; rw [tf b (fin b fb)] at o; exact o
  refine ⟨⟨fun b sb => sb.1, fun f g b c hf hg sb sc oa oc e => ?_⟩, fun f b hf h6 h7 o => ?_, fun f hf hc h6 => ?_, fun f g hf hg hc hc2 h6 h7 e => ?_, fun f hf hc h6 g b hg fb o => ?_⟩
  · rw [ad f b hf (Or.inl (fin b sb.1)), ad g c hg (Or.inl (fin c sc.1))] at e
    exact h1.2 f g b c hf hg ⟨fin b sb.1, sb.2⟩ ⟨fin c sc.1, sc.2⟩ (ob b _ sb.1 oa) (ob c _ sc.1 oc) e
  · rw [ad f b hf (Or.inl (fin b h6))]
    exact h2 f b hf (fin b h6) h7 (ob b _ h6 o)
  · rw [kf f a hf (Or.inr rfl)] at h6
    rw [ad f a hf (Or.inr rfl)]
    have w := h3 f hf hc h6
    rw [ta _ w.1.1 w.1.2]
    exact w
  · rw [kf f a hf (Or.inr rfl)] at h6
    rw [kf g a hg (Or.inr rfl)] at h7
    rw [ad f a hf (Or.inr rfl), ad g a hg (Or.inr rfl)] at e
    exact h4 f g hf hg hc hc2 h6 h7 e
  · rw [kf f a hf (Or.inr rfl)] at h6
    rw [ad f a hf (Or.inr rfl), ad g b hg (Or.inl (fin b fb))]
    exact h5 f hf hc h6 g b hg (fin b fb) (ob b _ fb o)
theorem CXJ.new (h : CXJ S0 a ci T0 T σ) (hr : T a = (80 + ci, 0)) (hw : WTn T σ) (hx : (T x).1 = 0) (hk : (T2 x).1 < 30 ∨ 80 ≤ (T2 x).1) (hT : ∀ b, b ≠ x → T2 b = T b) (hf : ∀ n (c : Nat), n < 200 → c ≠ x → σ2.2.1 n (c : Int) = σ.2.1 n c) : CXJ S0 a ci T0 T2 σ2 ∧ UNF a ci x T2 σ2 := by
  have ax : a ≠ x := fun e => by rw [← e, hr] at hx; exact absurd hx (by show ¬ 80 + ci = 0; omega)
  have fx : ∀ b, FIN T b → b ≠ x := fun b fb e => by have := fb.1; rw [e] at this; omega
  have fin : ∀ b, FIN T2 b → FIN T b := fun b fb => by
    by_cases e : b = x
    · have w1 := fb.1; have w2 := fb.2; rw [e] at w1 w2; omega
    · unfold FIN at fb ⊢; rw [hT b e] at fb; exact fb
  have kf : ∀ f (b : Nat), f ∈ AFL → (FIN T b ∨ b = a) → σ2.2.1 f b = σ.2.1 f b := fun f b hf' hb => hf f b (by have := afl_lt hf'; omega) (hb.elim (fx b) (fun e => by rw [e]; exact ax))
  refine ⟨h.mv hw fin (fun b fb => hT b (fx b fb)) (fun y y0 _ => hT y (fun e => y0 (by rw [e]; exact hx))) kf, fun f hf' => ⟨fun b fb ob e => ?_, fun hc h6 e => ?_⟩⟩
  · have fb' := fin b fb
    have ob' : OB T b (cls f) := by unfold OB at ob ⊢; rw [hT b (fx b fb')] at ob; exact ob
    have w := (af_kn hw hf' ob').2
    have e2 : adN σ2 f b = adN σ f b := by unfold adN; rw [kf f b hf' (Or.inl fb')]
    rw [← e2, e] at w
    unfold AFK at w
    omega
  · have k := kf f a hf' (Or.inr rfl)
    rw [k] at h6
    have w := (h.2.2.1 f hf' hc h6).1.1
    have e2 : adN σ2 f a = adN σ f a := by unfold adN; rw [k]
    rw [← e2, e] at w
    exact w hx
theorem CXJ.put (h : CXJ S0 a ci T0 T σ) (hr : T a = (80 + ci, 0)) (hw : WTn T σ) (hn : n ∉ AFL) : CXJ S0 a ci T0 T (sA n a v σ) := h.mv hw (fun _ f => f) (fun _ _ => rfl) (fun _ _ _ => rfl) (fun f b hf _ => by rw [sA_k (fun e => hn (by rw [← e]; exact hf))])
theorem fin_a (hr : T a = (80 + ci, 0)) : ¬ FIN T a := fun f => by have := f.2; rw [hr] at this; exact absurd this (by show ¬ 80 + ci < 80; omega)
theorem CXJ.putA (h : CXJ S0 a ci T0 T σ) (hr : T a = (80 + ci, 0)) (hn : n ∈ AFL) (hc : cls n = ci) (un : UNF a ci y T σ) (hy : (T y).1 ≠ 0 ∧ (T y).1 < 80) (h0 : (T0 y).1 = 0) : CXJ S0 a ci T0 T (sA n a (y : Int) σ) := by
  obtain ⟨h1, h2, h3, h4, h5⟩ := h
  have fb : ∀ f (b : Nat), FIN T b → (sA n a (y : Int) σ).2.1 f b = σ.2.1 f b := fun f b hb => sA_ne (fun e => by
    have e2 : b = a := by omega
    rw [e2] at hb; exact fin_a hr hb)
  have ad : ∀ f (b : Nat), FIN T b → adN (sA n a (y : Int) σ) f b = adN σ f b := fun f b hb => by unfold adN; rw [fb f b hb]
  have an : adN (sA n a (y : Int) σ) n a = y := by unfold adN; rw [show (sA n a (y : Int) σ).2.1 n a = (y : Int) from ra_eq]; exact Int.toNat_natCast y
  have ao : ∀ f, f ≠ n → (sA n a (y : Int) σ).2.1 f a = σ.2.1 f a := fun f hf => by rw [sA_k hf]
  have ado : ∀ f, f ≠ n → adN (sA n a (y : Int) σ) f a = adN σ f a := fun f hf => by unfold adN; rw [ao f hf]
  refine ⟨⟨fun b sb => sb.1, fun f g b c hf hg sb sc oa oc e => ?_⟩, fun f b hf h6 h7 o => ?_, fun f hf hcf h6 => ?_, fun f g hf hg hcf hcg h6 h7 e => ?_, fun f hf hcf h6 g b hg hb o => ?_⟩
  · rw [ad f b sb.1, ad g c sc.1] at e; exact h1.2 f g b c hf hg sb sc oa oc e
  · rw [ad f b h6]; exact h2 f b hf h6 h7 o
  · by_cases e : f = n
    · rw [e, an]; exact ⟨hy, h0⟩
    · rw [ao f e] at h6; rw [ado f e]; exact h3 f hf hcf h6
  · by_cases e1 : f = n
    · by_cases e2 : g = n
      · rw [e1, e2]
      · rw [e1, an, ado g e2] at e
        rw [ao g e2] at h7
        exact absurd e.symm ((un g hg).2 hcg h7)
    · by_cases e2 : g = n
      · rw [e2, an, ado f e1] at e
        rw [ao f e1] at h6
        exact absurd e ((un f hf).2 hcf h6)
      · rw [ado f e1, ado g e2] at e
        rw [ao f e1] at h6
        rw [ao g e2] at h7
        exact h4 f g hf hg hcf hcg h6 h7 e
  · rw [ad g b hb]
    by_cases e1 : f = n
    · rw [e1, an]; exact (un g hg).1 b hb o
    · rw [ado f e1]
      rw [ao f e1] at h6
      exact h5 f hf hcf h6 g b hg hb o
theorem UNF.put (h : UNF a ci y T σ) (hr : T a = (80 + ci, 0)) (hn : n ∉ AFL) : UNF a ci y T (sA n a v σ) := fun f hf => by
  have e : ∀ b : Nat, (sA n a v σ).2.1 f b = σ.2.1 f b := fun b => by rw [sA_k (fun e => hn (by rw [← e]; exact hf))]
  have ad : ∀ b, adN (sA n a v σ) f b = adN σ f b := fun b => by unfold adN; rw [e b]
  exact ⟨fun b fb ob => by rw [ad b]; exact (h f hf).1 b fb ob, fun hc h6 => by rw [ad a]; rw [e a] at h6; exact (h f hf).2 hc h6⟩
theorem CXJ.row (h : CXJ S0 a ci T0 T σ) (hw : WTn T σ) : CXJ S0 a ci T0 T (sA (1000 + x) z v σ) := h.mv hw (fun _ f => f) (fun _ _ => rfl) (fun _ _ _ => rfl) (fun f b hf _ => by rw [sA_k (by have := afl_lt hf; omega)])
theorem CXJ.tagQ (h : CXJ S0 a ci T0 T σ) (hw : WTn T σ) (hx : 80 ≤ (T x).1) (hk : k < 30) : CXJ S0 a ci T0 (tT T x k N) σ := by
  have fin : ∀ b, FIN (tT T x k N) b → FIN T b := fun b fb => by
    by_cases e : b = x
    · have w1 := fb.1; rw [e, tT_eq] at w1; have w2 : 30 ≤ k := w1; omega
    · unfold FIN at fb ⊢; rw [tT_ne e] at fb; exact fb
  exact h.mv hw fin (fun b fb => tT_ne (fun e => by have := fb.2; rw [e] at this; omega)) (fun y _ y1 => tT_ne (fun e => by rw [e] at y1; omega)) (fun _ _ _ _ => rfl)
theorem CXJ.call (h : CXJ S0 a ci T0 T σ) (hr : T a = (80 + ci, 0)) (hw : WTn T σ) (k0 : KPx a T0 σ0 T σ) (ax : a ≠ x) (kp : KPx x T σ T2 σ2) (hx : 80 ≤ (T x).1) (i2 : INJT S0 T2 σ2) (f2 : FRN T T2 σ2) : CXJ S0 a ci T0 T2 σ2 := by
  obtain ⟨h1, h2, h3, h4, h5⟩ := h
  have ka := kp.1 a (by rw [hr]; show 80 + ci ≠ 0; omega) ax
  have fa : ∀ f, f ∈ AFL → σ2.2.1 f a = σ.2.1 f a := fun f hf => ka.2.1 f (by have := afl_lt hf; omega)
  have ada : ∀ f, f ∈ AFL → adN σ2 f a = adN σ f a := fun f hf => by unfold adN; rw [fa f hf]
  have fo : ∀ b, FIN T b → b ≠ x := fun b fb e => by have q := fb.2; rw [e] at q; omega
  have kb : ∀ b, FIN T b → T2 b = T b ∧ ∀ f, f ∈ AFL → adN σ2 f b = adN σ f b := fun b fb => by
    have w := kp.1 b (by have := fb.1; omega) (fo b fb)
    exact ⟨w.1, fun f hf => by unfold adN; rw [w.2.1 f (by have := afl_lt hf; omega)]⟩
  have t0 : ∀ y, (T y).1 = 0 → (T0 y).1 = 0 := fun y hy => by
    by_cases c : (T0 y).1 = 0
    · exact c
    · by_cases ya : y = a
      · rw [ya, hr] at hy; exact absurd hy (by show ¬ 80 + ci = 0; omega)
      · have w := (k0.1 y c ya).1
        rw [w] at hy; exact hy
  have ob : ∀ b c, FIN T b → OB T2 b c → OB T b c := fun b c fb o => by unfold OB at o ⊢; rw [(kb b fb).1] at o; exact o
  refine ⟨i2, fun f b hf h6 h7 o => ?_, fun f hf hc h6 => ?_, fun f g hf hg hc hc2 h6 h7 e => ?_, fun f hf hc h6 g b hg fb o => ?_⟩
  · by_cases c : FIN T b
    · rw [(kb b c).2 f hf]; exact h2 f b hf c h7 (ob b _ c o)
    · exact t0 _ (f2 f b hf h6 c o)
  · rw [fa f hf] at h6
    rw [ada f hf]
    have w := h3 f hf hc h6
    rw [(kp.1 _ w.1.1 (fun e => by have q := w.1.2; rw [e] at q; omega)).1]
    exact w
  · rw [fa f hf] at h6
    rw [fa g hg] at h7
    rw [ada f hf, ada g hg] at e
    exact h4 f g hf hg hc hc2 h6 h7 e
  · rw [fa f hf] at h6
    rw [ada f hf]
    by_cases c : FIN T b
    · rw [(kb b c).2 g hg]; exact h5 f hf hc h6 g b hg c (ob b _ c o)
    · intro e
      have w := f2 g b hg fb c o
      rw [e] at w
      exact (h3 f hf hc h6).1.1 w
theorem CXJ.fin (h : CXJ S0 a ci T0 T σ) (hr : T a = (80 + ci, 0)) (hk : 30 ≤ k ∧ k < 80 ∧ kC k = ci) (hn : ∀ f, f ∈ AFL → cls f = ci → 0 ≤ σ.2.1 f a) : INJT S0 (tT T a k 0) σ ∧ FRN T0 (tT T a k 0) σ := by
  obtain ⟨h1, h2, h3, h4, h5⟩ := h
  have ta : tT T a k 0 a = (k, 0) := tT_eq
  have fin : ∀ b, b ≠ a → FIN (tT T a k 0) b → FIN T b := fun b e fb => by unfold FIN at fb ⊢; rw [tT_ne e] at fb; exact fb
  have ob : ∀ b c, b ≠ a → OB (tT T a k 0) b c → OB T b c := fun b c e o => by unfold OB at o ⊢; rw [tT_ne e] at o; exact o
  have oa : ∀ c, OB (tT T a k 0) a c → c = ci := fun c o => by have w := o.2.1; rw [ta] at w; rw [← hk.2.2]; exact w.symm
  refine ⟨⟨fun b sb => sb.1, fun f g b c hf hg sb sc o1 o2 e => ?_⟩, fun f b hf h6 h7 o => ?_⟩
  · by_cases eb : b = a
    · by_cases ec : c = a
      · subst eb; subst ec
        exact ⟨h4 f g hf hg (oa _ o1) (oa _ o2) (hn f hf (oa _ o1)) (hn g hg (oa _ o2)) e, rfl⟩
      · rw [eb] at e o1
        exact absurd e.symm (h5 f hf (oa _ o1) (hn f hf (oa _ o1)) g c hg (fin c ec sc.1) (ob c _ ec o2))
    · by_cases ec : c = a
      · rw [ec] at e o2
        exact absurd e (h5 g hg (oa _ o2) (hn g hg (oa _ o2)) f b hf (fin b eb sb.1) (ob b _ eb o1))
      · exact h1.2 f g b c hf hg ⟨fin b eb sb.1, sb.2⟩ ⟨fin c ec sc.1, sc.2⟩ (ob b _ eb o1) (ob c _ ec o2) e
  · by_cases eb : b = a
    · rw [eb] at o ⊢
      exact (h3 f hf (oa _ o) (hn f hf (oa _ o))).2
    · exact h2 f b hf (fin b eb h6) h7 (ob b _ eb o)
end CXJS
end
section
set_option maxHeartbeats 1000000 in
set_option maxRecDepth 20000 in
theorem kj_X1_init_31 (d : Nat) {T : CT} {σ : MS} {a : Nat} {K : List Nat} (hraw : T a = (80 + 1, 0)) (hb : WTn T σ) (hcd : CD K T) (hdf : ∀ j, j < 200 → σ.2.1 j (a : Int) = dfF j) {S0 : Nat → Prop} (hij : INJT S0 T σ) : Tn (d + 1) m_X1_init 0 T σ [(0, .ref a)] [] (fun ro T2 σ2 => ro = none ∧ T2 a = (31, 0) ∧ WTn T2 σ2 ∧ CD (a :: K) T2 ∧ KPx a T σ T2 σ2 ∧ σ2.1 0 = σ.1 0 + (413 : Nat) ∧ σ2.1 1 = σ.1 1 + (7 : Nat) ∧ INJT S0 T2 σ2 ∧ FRN T T2 σ2 ∧ NX 7 a T T2 ∧ NX 41 a T T2) := by
  have cx0 : CX a 1 K 0 0 T σ T σ := CX.begin hraw hb hcd
  have cj : CXJ S0 a 1 T T σ := CXJ.begin hraw (fun f9 h9 c9 => (hdf f9 (by have := afl_lt h9; omega)).trans ((by decide : ∀ f ∈ AFL, dfF f = -1) f9 h9)) hij
  have nx7 : NX 7 a T T := NX.begin (by decide)
  have nx41 : NX 41 a T T := NX.begin (by decide)
  have f5 : σ.2.1 5 a = -1 := (hdf 5 (by decide)).trans (by decide)
  have f6 : σ.2.1 6 a = 0 := (hdf 6 (by decide)).trans (by decide)
  have f7 : σ.2.1 7 a = 0 := (hdf 7 (by decide)).trans (by decide)
  have f8 : σ.2.1 8 a = 0 := (hdf 8 (by decide)).trans (by decide)
  have f9 : σ.2.1 9 a = 0 := (hdf 9 (by decide)).trans (by decide)
  have f10 : σ.2.1 10 a = 0 := (hdf 10 (by decide)).trans (by decide)
  have f11 : σ.2.1 11 a = -1 := (hdf 11 (by decide)).trans (by decide)
  have f12 : σ.2.1 12 a = -1 := (hdf 12 (by decide)).trans (by decide)
  have f13 : σ.2.1 13 a = -1 := (hdf 13 (by decide)).trans (by decide)
  have f14 : σ.2.1 14 a = -1 := (hdf 14 (by decide)).trans (by decide)
  have f15 : σ.2.1 15 a = -1 := (hdf 15 (by decide)).trans (by decide)
  have f16 : σ.2.1 16 a = -1 := (hdf 16 (by decide)).trans (by decide)
  refine tn_aload_n dX1_init_0 rfl 0 rfl ?_
  refine tn_objInit dX1_init_1 mlo1_3 oiI oiC (by omega) (Nat.le_of_ble_eq_true rfl) ?_
  refine tn_aload_n dX1_init_4 rfl 0 rfl ?_
  refine tn_sipush dX1_init_5 (by decide) ?_
  refine tn_newI (N := 208) (k := 13) dX1_init_8 arC_int (by decide) rfl (by decide) (fun x1 hx2 => ?_)
  have ne3 := cx0.ne hx2
  have ne3z := (cx0.fresh hx2).resolve_right (fun e => ne3 e.symm)
  have ne3j := CXJ.new (T2 := (tT T x1 13 208)) (σ2 := (rowS (1000 + x1) (fun _ => 0) (gh 208 σ))) cj cx0.1 cx0.2.1 hx2 (by rw [tT_eq]; decide) (fun b9 e9 => tT_ne e9) (fun n9 c9 hn9 hc9 => by rw [rowS_ne (by omega)]; rfl)
  obtain ⟨T4, σ5, eT6, eS7, cx8, f5, f6, f7, f8, f9, f10, f11, f12, f13, f14, f15, f16, o9, nx7, nx41, cj, un⟩ : ∃ (T4 : CT) (σ5 : MS), T4 = (tT T x1 13 208) ∧ σ5 = (rowS (1000 + x1) (fun _ => 0) (gh 208 σ)) ∧ CX a 1 K 208 1 T σ T4 σ5 ∧ (σ5.2.1 5 a = -1) ∧ (σ5.2.1 6 a = 0) ∧ (σ5.2.1 7 a = 0) ∧ (σ5.2.1 8 a = 0) ∧ (σ5.2.1 9 a = 0) ∧ (σ5.2.1 10 a = 0) ∧ (σ5.2.1 11 a = -1) ∧ (σ5.2.1 12 a = -1) ∧ (σ5.2.1 13 a = -1) ∧ (σ5.2.1 14 a = -1) ∧ (σ5.2.1 15 a = -1) ∧ (σ5.2.1 16 a = -1) ∧ (T4 x1 = (13, 208)) ∧ NX 7 a T T4 ∧ NX 41 a T T4 ∧ CXJ S0 a 1 T T4 σ5 ∧ UNF a 1 x1 T4 σ5 := ⟨_, _, rfl, rfl, (cx0.newI hx2 (by decide)), (by rw [rowS_ne (by omega)]; exact f5), (by rw [rowS_ne (by omega)]; exact f6), (by rw [rowS_ne (by omega)]; exact f7), (by rw [rowS_ne (by omega)]; exact f8), (by rw [rowS_ne (by omega)]; exact f9), (by rw [rowS_ne (by omega)]; exact f10), (by rw [rowS_ne (by omega)]; exact f11), (by rw [rowS_ne (by omega)]; exact f12), (by rw [rowS_ne (by omega)]; exact f13), (by rw [rowS_ne (by omega)]; exact f14), (by rw [rowS_ne (by omega)]; exact f15), (by rw [rowS_ne (by omega)]; exact f16), tT_eq, (nx7.mk9 (by decide)), (nx41.mk9 (by decide)), ne3j.1, ne3j.2⟩
  rw [← eT6]
  rw [← eS7]
  refine tn_putVr (ci := 1) (i := 0) (n := 5) (r := true) (v := (x1 : Int)) tyX1 tyX1_ok nmX1 dX1_init_10 rfl lay_1 (by decide) fl1_9 rfl (tyX1_ok 0 (by decide)) (vl_ref rfl).symm rfl rfl (cx8.r (by decide)) rfl rfl ?_
  obtain ⟨σ11, eS13, cx14, f5, f6, f7, f8, f9, f10, f11, f12, f13, f14, f15, f16, cj⟩ : ∃ (σ11 : MS), σ11 = (sA 5 a ((x1 : Int)) σ5) ∧ CX a 1 K 208 1 T σ T4 σ11 ∧ (σ11.2.1 5 a = (x1 : Int)) ∧ (σ11.2.1 6 a = 0) ∧ (σ11.2.1 7 a = 0) ∧ (σ11.2.1 8 a = 0) ∧ (σ11.2.1 9 a = 0) ∧ (σ11.2.1 10 a = 0) ∧ (σ11.2.1 11 a = -1) ∧ (σ11.2.1 12 a = -1) ∧ (σ11.2.1 13 a = -1) ∧ (σ11.2.1 14 a = -1) ∧ (σ11.2.1 15 a = -1) ∧ (σ11.2.1 16 a = -1) ∧ CXJ S0 a 1 T T4 σ11 := ⟨_, rfl, (cx8.put (by decide)), ra_eq, (rc_o (by decide) f6), (rc_o (by decide) f7), (rc_o (by decide) f8), (rc_o (by decide) f9), (rc_o (by decide) f10), (rc_o (by decide) f11), (rc_o (by decide) f12), (rc_o (by decide) f13), (rc_o (by decide) f14), (rc_o (by decide) f15), (rc_o (by decide) f16), (CXJ.putA cj cx8.1 (by decide) rfl un (by rw [o9]; decide) ne3z)⟩
  rw [← eS13]
  refine tn_aload_n dX1_init_13 rfl 0 rfl ?_
  refine tn_bipush dX1_init_14 (by decide) ?_
  refine tn_newI (N := 12) (k := 1) dX1_init_16 arC_int (by decide) rfl (by decide) (fun x15 hx16 => ?_)
  have ne17 := cx14.ne hx16
  have ne17z := (cx14.fresh hx16).resolve_right (fun e => ne17 e.symm)
  have ne17j := CXJ.new (T2 := (tT T4 x15 1 12)) (σ2 := (rowS (1000 + x15) (fun _ => 0) (gh 12 σ11))) cj cx14.1 cx14.2.1 hx16 (by rw [tT_eq]; decide) (fun b9 e9 => tT_ne e9) (fun n9 c9 hn9 hc9 => by rw [rowS_ne (by omega)]; rfl)
  obtain ⟨T18, σ19, eT20, eS21, cx22, f5, f6, f7, f8, f9, f10, f11, f12, f13, f14, f15, f16, o23, o24, nx7, nx41, cj, un⟩ : ∃ (T18 : CT) (σ19 : MS), T18 = (tT T4 x15 1 12) ∧ σ19 = (rowS (1000 + x15) (fun _ => 0) (gh 12 σ11)) ∧ CX a 1 K 220 2 T σ T18 σ19 ∧ (σ19.2.1 5 a = (x1 : Int)) ∧ (σ19.2.1 6 a = 0) ∧ (σ19.2.1 7 a = 0) ∧ (σ19.2.1 8 a = 0) ∧ (σ19.2.1 9 a = 0) ∧ (σ19.2.1 10 a = 0) ∧ (σ19.2.1 11 a = -1) ∧ (σ19.2.1 12 a = -1) ∧ (σ19.2.1 13 a = -1) ∧ (σ19.2.1 14 a = -1) ∧ (σ19.2.1 15 a = -1) ∧ (σ19.2.1 16 a = -1) ∧ (T18 x1 = (13, 208)) ∧ (T18 x15 = (1, 12)) ∧ NX 7 a T T18 ∧ NX 41 a T T18 ∧ CXJ S0 a 1 T T18 σ19 ∧ UNF a 1 x15 T18 σ19 := ⟨_, _, rfl, rfl, (cx14.newI hx16 (by decide)), (by rw [rowS_ne (by omega)]; exact f5), (by rw [rowS_ne (by omega)]; exact f6), (by rw [rowS_ne (by omega)]; exact f7), (by rw [rowS_ne (by omega)]; exact f8), (by rw [rowS_ne (by omega)]; exact f9), (by rw [rowS_ne (by omega)]; exact f10), (by rw [rowS_ne (by omega)]; exact f11), (by rw [rowS_ne (by omega)]; exact f12), (by rw [rowS_ne (by omega)]; exact f13), (by rw [rowS_ne (by omega)]; exact f14), (by rw [rowS_ne (by omega)]; exact f15), (by rw [rowS_ne (by omega)]; exact f16), (tk_keep o9 (by decide) hx16), tT_eq, (nx7.mk9 (by decide)), (nx41.mk9 (by decide)), ne17j.1, ne17j.2⟩
  rw [← eT20]
  rw [← eS21]
  refine tn_putFr (ci := 1) (i := 6) (n := 11) (r := true) (v := (x15 : Int)) tyX1 tyX1_ok nmX1 dX1_init_18 rfl lay_1 (by decide) fl1_15 rfl rfl rfl (tyX1_ok 6 (by decide)) (vl_ref rfl).symm rfl rfl (cx22.r (by decide)) rfl rfl ?_
  obtain ⟨σ26, eS28, cx29, f5, f6, f7, f8, f9, f10, f11, f12, f13, f14, f15, f16, cj⟩ : ∃ (σ26 : MS), σ26 = (sA 11 a ((x15 : Int)) σ19) ∧ CX a 1 K 220 2 T σ T18 σ26 ∧ (σ26.2.1 5 a = (x1 : Int)) ∧ (σ26.2.1 6 a = 0) ∧ (σ26.2.1 7 a = 0) ∧ (σ26.2.1 8 a = 0) ∧ (σ26.2.1 9 a = 0) ∧ (σ26.2.1 10 a = 0) ∧ (σ26.2.1 11 a = (x15 : Int)) ∧ (σ26.2.1 12 a = -1) ∧ (σ26.2.1 13 a = -1) ∧ (σ26.2.1 14 a = -1) ∧ (σ26.2.1 15 a = -1) ∧ (σ26.2.1 16 a = -1) ∧ CXJ S0 a 1 T T18 σ26 := ⟨_, rfl, (cx22.put (by decide)), (rc_o (by decide) f5), (rc_o (by decide) f6), (rc_o (by decide) f7), (rc_o (by decide) f8), (rc_o (by decide) f9), (rc_o (by decide) f10), ra_eq, (rc_o (by decide) f12), (rc_o (by decide) f13), (rc_o (by decide) f14), (rc_o (by decide) f15), (rc_o (by decide) f16), (CXJ.putA cj cx22.1 (by decide) rfl un (by rw [o24]; decide) ne17z)⟩
  rw [← eS28]
  refine tn_aload_n dX1_init_21 rfl 0 rfl ?_
  refine tn_bipush dX1_init_22 (by decide) ?_
  refine tn_newI (N := 12) (k := 1) dX1_init_24 arC_int (by decide) rfl (by decide) (fun x30 hx31 => ?_)
  have ne32 := cx29.ne hx31
  have ne32z := (cx29.fresh hx31).resolve_right (fun e => ne32 e.symm)
  have ne32j := CXJ.new (T2 := (tT T18 x30 1 12)) (σ2 := (rowS (1000 + x30) (fun _ => 0) (gh 12 σ26))) cj cx29.1 cx29.2.1 hx31 (by rw [tT_eq]; decide) (fun b9 e9 => tT_ne e9) (fun n9 c9 hn9 hc9 => by rw [rowS_ne (by omega)]; rfl)
  obtain ⟨T33, σ34, eT35, eS36, cx37, f5, f6, f7, f8, f9, f10, f11, f12, f13, f14, f15, f16, o38, o39, o40, nx7, nx41, cj, un⟩ : ∃ (T33 : CT) (σ34 : MS), T33 = (tT T18 x30 1 12) ∧ σ34 = (rowS (1000 + x30) (fun _ => 0) (gh 12 σ26)) ∧ CX a 1 K 232 3 T σ T33 σ34 ∧ (σ34.2.1 5 a = (x1 : Int)) ∧ (σ34.2.1 6 a = 0) ∧ (σ34.2.1 7 a = 0) ∧ (σ34.2.1 8 a = 0) ∧ (σ34.2.1 9 a = 0) ∧ (σ34.2.1 10 a = 0) ∧ (σ34.2.1 11 a = (x15 : Int)) ∧ (σ34.2.1 12 a = -1) ∧ (σ34.2.1 13 a = -1) ∧ (σ34.2.1 14 a = -1) ∧ (σ34.2.1 15 a = -1) ∧ (σ34.2.1 16 a = -1) ∧ (T33 x1 = (13, 208)) ∧ (T33 x15 = (1, 12)) ∧ (T33 x30 = (1, 12)) ∧ NX 7 a T T33 ∧ NX 41 a T T33 ∧ CXJ S0 a 1 T T33 σ34 ∧ UNF a 1 x30 T33 σ34 := ⟨_, _, rfl, rfl, (cx29.newI hx31 (by decide)), (by rw [rowS_ne (by omega)]; exact f5), (by rw [rowS_ne (by omega)]; exact f6), (by rw [rowS_ne (by omega)]; exact f7), (by rw [rowS_ne (by omega)]; exact f8), (by rw [rowS_ne (by omega)]; exact f9), (by rw [rowS_ne (by omega)]; exact f10), (by rw [rowS_ne (by omega)]; exact f11), (by rw [rowS_ne (by omega)]; exact f12), (by rw [rowS_ne (by omega)]; exact f13), (by rw [rowS_ne (by omega)]; exact f14), (by rw [rowS_ne (by omega)]; exact f15), (by rw [rowS_ne (by omega)]; exact f16), (tk_keep o23 (by decide) hx31), (tk_keep o24 (by decide) hx31), tT_eq, (nx7.mk9 (by decide)), (nx41.mk9 (by decide)), ne32j.1, ne32j.2⟩
  rw [← eT35]
  rw [← eS36]
  refine tn_putFr (ci := 1) (i := 7) (n := 12) (r := true) (v := (x30 : Int)) tyX1 tyX1_ok nmX1 dX1_init_26 rfl lay_1 (by decide) fl1_18 rfl rfl rfl (tyX1_ok 7 (by decide)) (vl_ref rfl).symm rfl rfl (cx37.r (by decide)) rfl rfl ?_
  obtain ⟨σ42, eS44, cx45, f5, f6, f7, f8, f9, f10, f11, f12, f13, f14, f15, f16, cj⟩ : ∃ (σ42 : MS), σ42 = (sA 12 a ((x30 : Int)) σ34) ∧ CX a 1 K 232 3 T σ T33 σ42 ∧ (σ42.2.1 5 a = (x1 : Int)) ∧ (σ42.2.1 6 a = 0) ∧ (σ42.2.1 7 a = 0) ∧ (σ42.2.1 8 a = 0) ∧ (σ42.2.1 9 a = 0) ∧ (σ42.2.1 10 a = 0) ∧ (σ42.2.1 11 a = (x15 : Int)) ∧ (σ42.2.1 12 a = (x30 : Int)) ∧ (σ42.2.1 13 a = -1) ∧ (σ42.2.1 14 a = -1) ∧ (σ42.2.1 15 a = -1) ∧ (σ42.2.1 16 a = -1) ∧ CXJ S0 a 1 T T33 σ42 := ⟨_, rfl, (cx37.put (by decide)), (rc_o (by decide) f5), (rc_o (by decide) f6), (rc_o (by decide) f7), (rc_o (by decide) f8), (rc_o (by decide) f9), (rc_o (by decide) f10), (rc_o (by decide) f11), ra_eq, (rc_o (by decide) f13), (rc_o (by decide) f14), (rc_o (by decide) f15), (rc_o (by decide) f16), (CXJ.putA cj cx37.1 (by decide) rfl un (by rw [o40]; decide) ne32z)⟩
  rw [← eS44]
  refine tn_aload_n dX1_init_29 rfl 0 rfl ?_
  refine tn_bipush dX1_init_30 (by decide) ?_
  refine tn_newI (N := 12) (k := 1) dX1_init_32 arC_int (by decide) rfl (by decide) (fun x46 hx47 => ?_)
  have ne48 := cx45.ne hx47
  have ne48z := (cx45.fresh hx47).resolve_right (fun e => ne48 e.symm)
  have ne48j := CXJ.new (T2 := (tT T33 x46 1 12)) (σ2 := (rowS (1000 + x46) (fun _ => 0) (gh 12 σ42))) cj cx45.1 cx45.2.1 hx47 (by rw [tT_eq]; decide) (fun b9 e9 => tT_ne e9) (fun n9 c9 hn9 hc9 => by rw [rowS_ne (by omega)]; rfl)
  obtain ⟨T49, σ50, eT51, eS52, cx53, f5, f6, f7, f8, f9, f10, f11, f12, f13, f14, f15, f16, o54, o55, o56, o57, nx7, nx41, cj, un⟩ : ∃ (T49 : CT) (σ50 : MS), T49 = (tT T33 x46 1 12) ∧ σ50 = (rowS (1000 + x46) (fun _ => 0) (gh 12 σ42)) ∧ CX a 1 K 244 4 T σ T49 σ50 ∧ (σ50.2.1 5 a = (x1 : Int)) ∧ (σ50.2.1 6 a = 0) ∧ (σ50.2.1 7 a = 0) ∧ (σ50.2.1 8 a = 0) ∧ (σ50.2.1 9 a = 0) ∧ (σ50.2.1 10 a = 0) ∧ (σ50.2.1 11 a = (x15 : Int)) ∧ (σ50.2.1 12 a = (x30 : Int)) ∧ (σ50.2.1 13 a = -1) ∧ (σ50.2.1 14 a = -1) ∧ (σ50.2.1 15 a = -1) ∧ (σ50.2.1 16 a = -1) ∧ (T49 x1 = (13, 208)) ∧ (T49 x15 = (1, 12)) ∧ (T49 x30 = (1, 12)) ∧ (T49 x46 = (1, 12)) ∧ NX 7 a T T49 ∧ NX 41 a T T49 ∧ CXJ S0 a 1 T T49 σ50 ∧ UNF a 1 x46 T49 σ50 := ⟨_, _, rfl, rfl, (cx45.newI hx47 (by decide)), (by rw [rowS_ne (by omega)]; exact f5), (by rw [rowS_ne (by omega)]; exact f6), (by rw [rowS_ne (by omega)]; exact f7), (by rw [rowS_ne (by omega)]; exact f8), (by rw [rowS_ne (by omega)]; exact f9), (by rw [rowS_ne (by omega)]; exact f10), (by rw [rowS_ne (by omega)]; exact f11), (by rw [rowS_ne (by omega)]; exact f12), (by rw [rowS_ne (by omega)]; exact f13), (by rw [rowS_ne (by omega)]; exact f14), (by rw [rowS_ne (by omega)]; exact f15), (by rw [rowS_ne (by omega)]; exact f16), (tk_keep o38 (by decide) hx47), (tk_keep o39 (by decide) hx47), (tk_keep o40 (by decide) hx47), tT_eq, (nx7.mk9 (by decide)), (nx41.mk9 (by decide)), ne48j.1, ne48j.2⟩
  rw [← eT51]
  rw [← eS52]
  refine tn_putFr (ci := 1) (i := 8) (n := 13) (r := true) (v := (x46 : Int)) tyX1 tyX1_ok nmX1 dX1_init_34 rfl lay_1 (by decide) fl1_21 rfl rfl rfl (tyX1_ok 8 (by decide)) (vl_ref rfl).symm rfl rfl (cx53.r (by decide)) rfl rfl ?_
  obtain ⟨σ59, eS61, cx62, f5, f6, f7, f8, f9, f10, f11, f12, f13, f14, f15, f16, cj⟩ : ∃ (σ59 : MS), σ59 = (sA 13 a ((x46 : Int)) σ50) ∧ CX a 1 K 244 4 T σ T49 σ59 ∧ (σ59.2.1 5 a = (x1 : Int)) ∧ (σ59.2.1 6 a = 0) ∧ (σ59.2.1 7 a = 0) ∧ (σ59.2.1 8 a = 0) ∧ (σ59.2.1 9 a = 0) ∧ (σ59.2.1 10 a = 0) ∧ (σ59.2.1 11 a = (x15 : Int)) ∧ (σ59.2.1 12 a = (x30 : Int)) ∧ (σ59.2.1 13 a = (x46 : Int)) ∧ (σ59.2.1 14 a = -1) ∧ (σ59.2.1 15 a = -1) ∧ (σ59.2.1 16 a = -1) ∧ CXJ S0 a 1 T T49 σ59 := ⟨_, rfl, (cx53.put (by decide)), (rc_o (by decide) f5), (rc_o (by decide) f6), (rc_o (by decide) f7), (rc_o (by decide) f8), (rc_o (by decide) f9), (rc_o (by decide) f10), (rc_o (by decide) f11), (rc_o (by decide) f12), ra_eq, (rc_o (by decide) f14), (rc_o (by decide) f15), (rc_o (by decide) f16), (CXJ.putA cj cx53.1 (by decide) rfl un (by rw [o57]; decide) ne48z)⟩
  rw [← eS61]
  refine tn_aload_n dX1_init_37 rfl 0 rfl ?_
  refine tn_bipush dX1_init_38 (by decide) ?_
  refine tn_newI (N := 12) (k := 11) dX1_init_40 arC_int (by decide) rfl (by decide) (fun x63 hx64 => ?_)
  have ne65 := cx62.ne hx64
  have ne65z := (cx62.fresh hx64).resolve_right (fun e => ne65 e.symm)
  have ne65j := CXJ.new (T2 := (tT T49 x63 11 12)) (σ2 := (rowS (1000 + x63) (fun _ => 0) (gh 12 σ59))) cj cx62.1 cx62.2.1 hx64 (by rw [tT_eq]; decide) (fun b9 e9 => tT_ne e9) (fun n9 c9 hn9 hc9 => by rw [rowS_ne (by omega)]; rfl)
  obtain ⟨T66, σ67, eT68, eS69, cx70, f5, f6, f7, f8, f9, f10, f11, f12, f13, f14, f15, f16, o71, o72, o73, o74, o75, nx7, nx41, cj, un⟩ : ∃ (T66 : CT) (σ67 : MS), T66 = (tT T49 x63 11 12) ∧ σ67 = (rowS (1000 + x63) (fun _ => 0) (gh 12 σ59)) ∧ CX a 1 K 256 5 T σ T66 σ67 ∧ (σ67.2.1 5 a = (x1 : Int)) ∧ (σ67.2.1 6 a = 0) ∧ (σ67.2.1 7 a = 0) ∧ (σ67.2.1 8 a = 0) ∧ (σ67.2.1 9 a = 0) ∧ (σ67.2.1 10 a = 0) ∧ (σ67.2.1 11 a = (x15 : Int)) ∧ (σ67.2.1 12 a = (x30 : Int)) ∧ (σ67.2.1 13 a = (x46 : Int)) ∧ (σ67.2.1 14 a = -1) ∧ (σ67.2.1 15 a = -1) ∧ (σ67.2.1 16 a = -1) ∧ (T66 x1 = (13, 208)) ∧ (T66 x15 = (1, 12)) ∧ (T66 x30 = (1, 12)) ∧ (T66 x46 = (1, 12)) ∧ (T66 x63 = (11, 12)) ∧ NX 7 a T T66 ∧ NX 41 a T T66 ∧ CXJ S0 a 1 T T66 σ67 ∧ UNF a 1 x63 T66 σ67 := ⟨_, _, rfl, rfl, (cx62.newI hx64 (by decide)), (by rw [rowS_ne (by omega)]; exact f5), (by rw [rowS_ne (by omega)]; exact f6), (by rw [rowS_ne (by omega)]; exact f7), (by rw [rowS_ne (by omega)]; exact f8), (by rw [rowS_ne (by omega)]; exact f9), (by rw [rowS_ne (by omega)]; exact f10), (by rw [rowS_ne (by omega)]; exact f11), (by rw [rowS_ne (by omega)]; exact f12), (by rw [rowS_ne (by omega)]; exact f13), (by rw [rowS_ne (by omega)]; exact f14), (by rw [rowS_ne (by omega)]; exact f15), (by rw [rowS_ne (by omega)]; exact f16), (tk_keep o54 (by decide) hx64), (tk_keep o55 (by decide) hx64), (tk_keep o56 (by decide) hx64), (tk_keep o57 (by decide) hx64), tT_eq, (nx7.mk9 (by decide)), (nx41.mk9 (by decide)), ne65j.1, ne65j.2⟩
  rw [← eT68]
  rw [← eS69]
  refine tn_putFr (ci := 1) (i := 9) (n := 14) (r := true) (v := (x63 : Int)) tyX1 tyX1_ok nmX1 dX1_init_42 rfl lay_1 (by decide) fl1_24 rfl rfl rfl (tyX1_ok 9 (by decide)) (vl_ref rfl).symm rfl rfl (cx70.r (by decide)) rfl rfl ?_
  obtain ⟨σ77, eS79, cx80, f5, f6, f7, f8, f9, f10, f11, f12, f13, f14, f15, f16, cj⟩ : ∃ (σ77 : MS), σ77 = (sA 14 a ((x63 : Int)) σ67) ∧ CX a 1 K 256 5 T σ T66 σ77 ∧ (σ77.2.1 5 a = (x1 : Int)) ∧ (σ77.2.1 6 a = 0) ∧ (σ77.2.1 7 a = 0) ∧ (σ77.2.1 8 a = 0) ∧ (σ77.2.1 9 a = 0) ∧ (σ77.2.1 10 a = 0) ∧ (σ77.2.1 11 a = (x15 : Int)) ∧ (σ77.2.1 12 a = (x30 : Int)) ∧ (σ77.2.1 13 a = (x46 : Int)) ∧ (σ77.2.1 14 a = (x63 : Int)) ∧ (σ77.2.1 15 a = -1) ∧ (σ77.2.1 16 a = -1) ∧ CXJ S0 a 1 T T66 σ77 := ⟨_, rfl, (cx70.put (by decide)), (rc_o (by decide) f5), (rc_o (by decide) f6), (rc_o (by decide) f7), (rc_o (by decide) f8), (rc_o (by decide) f9), (rc_o (by decide) f10), (rc_o (by decide) f11), (rc_o (by decide) f12), (rc_o (by decide) f13), ra_eq, (rc_o (by decide) f15), (rc_o (by decide) f16), (CXJ.putA cj cx70.1 (by decide) rfl un (by rw [o75]; decide) ne65z)⟩
  rw [← eS79]
  refine tn_aload_n dX1_init_45 rfl 0 rfl ?_
  refine tn_sipush dX1_init_46 (by decide) ?_
  refine tn_newI (N := 144) (k := 1) dX1_init_49 arC_int (by decide) rfl (by decide) (fun x81 hx82 => ?_)
  have ne83 := cx80.ne hx82
  have ne83z := (cx80.fresh hx82).resolve_right (fun e => ne83 e.symm)
  have ne83j := CXJ.new (T2 := (tT T66 x81 1 144)) (σ2 := (rowS (1000 + x81) (fun _ => 0) (gh 144 σ77))) cj cx80.1 cx80.2.1 hx82 (by rw [tT_eq]; decide) (fun b9 e9 => tT_ne e9) (fun n9 c9 hn9 hc9 => by rw [rowS_ne (by omega)]; rfl)
  obtain ⟨T84, σ85, eT86, eS87, cx88, f5, f6, f7, f8, f9, f10, f11, f12, f13, f14, f15, f16, o89, o90, o91, o92, o93, o94, nx7, nx41, cj, un⟩ : ∃ (T84 : CT) (σ85 : MS), T84 = (tT T66 x81 1 144) ∧ σ85 = (rowS (1000 + x81) (fun _ => 0) (gh 144 σ77)) ∧ CX a 1 K 400 6 T σ T84 σ85 ∧ (σ85.2.1 5 a = (x1 : Int)) ∧ (σ85.2.1 6 a = 0) ∧ (σ85.2.1 7 a = 0) ∧ (σ85.2.1 8 a = 0) ∧ (σ85.2.1 9 a = 0) ∧ (σ85.2.1 10 a = 0) ∧ (σ85.2.1 11 a = (x15 : Int)) ∧ (σ85.2.1 12 a = (x30 : Int)) ∧ (σ85.2.1 13 a = (x46 : Int)) ∧ (σ85.2.1 14 a = (x63 : Int)) ∧ (σ85.2.1 15 a = -1) ∧ (σ85.2.1 16 a = -1) ∧ (T84 x1 = (13, 208)) ∧ (T84 x15 = (1, 12)) ∧ (T84 x30 = (1, 12)) ∧ (T84 x46 = (1, 12)) ∧ (T84 x63 = (11, 12)) ∧ (T84 x81 = (1, 144)) ∧ NX 7 a T T84 ∧ NX 41 a T T84 ∧ CXJ S0 a 1 T T84 σ85 ∧ UNF a 1 x81 T84 σ85 := ⟨_, _, rfl, rfl, (cx80.newI hx82 (by decide)), (by rw [rowS_ne (by omega)]; exact f5), (by rw [rowS_ne (by omega)]; exact f6), (by rw [rowS_ne (by omega)]; exact f7), (by rw [rowS_ne (by omega)]; exact f8), (by rw [rowS_ne (by omega)]; exact f9), (by rw [rowS_ne (by omega)]; exact f10), (by rw [rowS_ne (by omega)]; exact f11), (by rw [rowS_ne (by omega)]; exact f12), (by rw [rowS_ne (by omega)]; exact f13), (by rw [rowS_ne (by omega)]; exact f14), (by rw [rowS_ne (by omega)]; exact f15), (by rw [rowS_ne (by omega)]; exact f16), (tk_keep o71 (by decide) hx82), (tk_keep o72 (by decide) hx82), (tk_keep o73 (by decide) hx82), (tk_keep o74 (by decide) hx82), (tk_keep o75 (by decide) hx82), tT_eq, (nx7.mk9 (by decide)), (nx41.mk9 (by decide)), ne83j.1, ne83j.2⟩
  rw [← eT86]
  rw [← eS87]
  refine tn_putFr (ci := 1) (i := 10) (n := 15) (r := true) (v := (x81 : Int)) tyX1 tyX1_ok nmX1 dX1_init_51 rfl lay_1 (by decide) fl1_27 rfl rfl rfl (tyX1_ok 10 (by decide)) (vl_ref rfl).symm rfl rfl (cx88.r (by decide)) rfl rfl ?_
  obtain ⟨σ96, eS98, cx99, f5, f6, f7, f8, f9, f10, f11, f12, f13, f14, f15, f16, cj⟩ : ∃ (σ96 : MS), σ96 = (sA 15 a ((x81 : Int)) σ85) ∧ CX a 1 K 400 6 T σ T84 σ96 ∧ (σ96.2.1 5 a = (x1 : Int)) ∧ (σ96.2.1 6 a = 0) ∧ (σ96.2.1 7 a = 0) ∧ (σ96.2.1 8 a = 0) ∧ (σ96.2.1 9 a = 0) ∧ (σ96.2.1 10 a = 0) ∧ (σ96.2.1 11 a = (x15 : Int)) ∧ (σ96.2.1 12 a = (x30 : Int)) ∧ (σ96.2.1 13 a = (x46 : Int)) ∧ (σ96.2.1 14 a = (x63 : Int)) ∧ (σ96.2.1 15 a = (x81 : Int)) ∧ (σ96.2.1 16 a = -1) ∧ CXJ S0 a 1 T T84 σ96 := ⟨_, rfl, (cx88.put (by decide)), (rc_o (by decide) f5), (rc_o (by decide) f6), (rc_o (by decide) f7), (rc_o (by decide) f8), (rc_o (by decide) f9), (rc_o (by decide) f10), (rc_o (by decide) f11), (rc_o (by decide) f12), (rc_o (by decide) f13), (rc_o (by decide) f14), ra_eq, (rc_o (by decide) f16), (CXJ.putA cj cx88.1 (by decide) rfl un (by rw [o94]; decide) ne83z)⟩
  rw [← eS98]
  refine tn_aload_n dX1_init_54 rfl 0 rfl ?_
  refine tn_bipush dX1_init_55 (by decide) ?_
  refine tn_newI (N := 13) (k := 1) dX1_init_57 arC_int (by decide) rfl (by decide) (fun x100 hx101 => ?_)
  have ne102 := cx99.ne hx101
  have ne102z := (cx99.fresh hx101).resolve_right (fun e => ne102 e.symm)
  have ne102j := CXJ.new (T2 := (tT T84 x100 1 13)) (σ2 := (rowS (1000 + x100) (fun _ => 0) (gh 13 σ96))) cj cx99.1 cx99.2.1 hx101 (by rw [tT_eq]; decide) (fun b9 e9 => tT_ne e9) (fun n9 c9 hn9 hc9 => by rw [rowS_ne (by omega)]; rfl)
  obtain ⟨T103, σ104, eT105, eS106, cx107, f5, f6, f7, f8, f9, f10, f11, f12, f13, f14, f15, f16, o108, o109, o110, o111, o112, o113, o114, nx7, nx41, cj, un⟩ : ∃ (T103 : CT) (σ104 : MS), T103 = (tT T84 x100 1 13) ∧ σ104 = (rowS (1000 + x100) (fun _ => 0) (gh 13 σ96)) ∧ CX a 1 K 413 7 T σ T103 σ104 ∧ (σ104.2.1 5 a = (x1 : Int)) ∧ (σ104.2.1 6 a = 0) ∧ (σ104.2.1 7 a = 0) ∧ (σ104.2.1 8 a = 0) ∧ (σ104.2.1 9 a = 0) ∧ (σ104.2.1 10 a = 0) ∧ (σ104.2.1 11 a = (x15 : Int)) ∧ (σ104.2.1 12 a = (x30 : Int)) ∧ (σ104.2.1 13 a = (x46 : Int)) ∧ (σ104.2.1 14 a = (x63 : Int)) ∧ (σ104.2.1 15 a = (x81 : Int)) ∧ (σ104.2.1 16 a = -1) ∧ (T103 x1 = (13, 208)) ∧ (T103 x15 = (1, 12)) ∧ (T103 x30 = (1, 12)) ∧ (T103 x46 = (1, 12)) ∧ (T103 x63 = (11, 12)) ∧ (T103 x81 = (1, 144)) ∧ (T103 x100 = (1, 13)) ∧ NX 7 a T T103 ∧ NX 41 a T T103 ∧ CXJ S0 a 1 T T103 σ104 ∧ UNF a 1 x100 T103 σ104 := ⟨_, _, rfl, rfl, (cx99.newI hx101 (by decide)), (by rw [rowS_ne (by omega)]; exact f5), (by rw [rowS_ne (by omega)]; exact f6), (by rw [rowS_ne (by omega)]; exact f7), (by rw [rowS_ne (by omega)]; exact f8), (by rw [rowS_ne (by omega)]; exact f9), (by rw [rowS_ne (by omega)]; exact f10), (by rw [rowS_ne (by omega)]; exact f11), (by rw [rowS_ne (by omega)]; exact f12), (by rw [rowS_ne (by omega)]; exact f13), (by rw [rowS_ne (by omega)]; exact f14), (by rw [rowS_ne (by omega)]; exact f15), (by rw [rowS_ne (by omega)]; exact f16), (tk_keep o89 (by decide) hx101), (tk_keep o90 (by decide) hx101), (tk_keep o91 (by decide) hx101), (tk_keep o92 (by decide) hx101), (tk_keep o93 (by decide) hx101), (tk_keep o94 (by decide) hx101), tT_eq, (nx7.mk9 (by decide)), (nx41.mk9 (by decide)), ne102j.1, ne102j.2⟩
  rw [← eT105]
  rw [← eS106]
  refine tn_putFr (ci := 1) (i := 11) (n := 16) (r := true) (v := (x100 : Int)) tyX1 tyX1_ok nmX1 dX1_init_59 rfl lay_1 (by decide) fl1_30 rfl rfl rfl (tyX1_ok 11 (by decide)) (vl_ref rfl).symm rfl rfl (cx107.r (by decide)) rfl rfl ?_
  obtain ⟨σ116, eS118, cx119, f5, f6, f7, f8, f9, f10, f11, f12, f13, f14, f15, f16, cj⟩ : ∃ (σ116 : MS), σ116 = (sA 16 a ((x100 : Int)) σ104) ∧ CX a 1 K 413 7 T σ T103 σ116 ∧ (σ116.2.1 5 a = (x1 : Int)) ∧ (σ116.2.1 6 a = 0) ∧ (σ116.2.1 7 a = 0) ∧ (σ116.2.1 8 a = 0) ∧ (σ116.2.1 9 a = 0) ∧ (σ116.2.1 10 a = 0) ∧ (σ116.2.1 11 a = (x15 : Int)) ∧ (σ116.2.1 12 a = (x30 : Int)) ∧ (σ116.2.1 13 a = (x46 : Int)) ∧ (σ116.2.1 14 a = (x63 : Int)) ∧ (σ116.2.1 15 a = (x81 : Int)) ∧ (σ116.2.1 16 a = (x100 : Int)) ∧ CXJ S0 a 1 T T103 σ116 := ⟨_, rfl, (cx107.put (by decide)), (rc_o (by decide) f5), (rc_o (by decide) f6), (rc_o (by decide) f7), (rc_o (by decide) f8), (rc_o (by decide) f9), (rc_o (by decide) f10), (rc_o (by decide) f11), (rc_o (by decide) f12), (rc_o (by decide) f13), (rc_o (by decide) f14), (rc_o (by decide) f15), ra_eq, (CXJ.putA cj cx107.1 (by decide) rfl un (by rw [o114]; decide) ne102z)⟩
  rw [← eS118]
  refine tn_tag (ci := 1) (k := 31) (by decide) cx119.1 (by decide) ?_
  have hf9 : ∀ m, m < 111 → cls m = 1 → FO m 31 T103 (σ116.2.1 m a) := fun m hm9 hc9 => by
    have q9 := clsR_1 m hm9 hc9
    have q8 : m = 5 ∨ m = 6 ∨ m = 7 ∨ m = 8 ∨ m = 9 ∨ m = 10 ∨ m = 11 ∨ m = 12 ∨ m = 13 ∨ m = 14 ∨ m = 15 ∨ m = 16 := by omega
    rcases q8 with q8 | q8 | q8 | q8 | q8 | q8 | q8 | q8 | q8 | q8 | q8 | q8
    · subst q8; rw [f5]; exact fo_5 ⟨_, rfl, ⟨by rw [o108]; decide, by rw [o108]; decide⟩, fun h => absurd h (by decide), fun _ => tg1 o108⟩
    · subst q8; rw [f6]; exact fo_6 (by decide)
    · subst q8; rw [f7]; exact fo_7 (by decide)
    · subst q8; rw [f8]; exact fo_8 (by decide)
    · subst q8; rw [f9]; exact fo_9 (by decide)
    · subst q8; rw [f10]; exact fo_10 (by decide)
    · subst q8; rw [f11]; exact fo_11 (⟨_, rfl, AR.of o109 (by decide) (by decide)⟩)
    · subst q8; rw [f12]; exact fo_12 (⟨_, rfl, AR.of o110 (by decide) (by decide)⟩)
    · subst q8; rw [f13]; exact fo_13 (⟨_, rfl, AR.of o111 (by decide) (by decide)⟩)
    · subst q8; rw [f14]; exact fo_14 (⟨_, rfl, AR.of o112 (by decide) (by decide)⟩)
    · subst q8; rw [f15]; exact fo_15 (⟨_, rfl, AR.of o113 (by decide) (by decide)⟩)
    · subst q8; rw [f16]; exact fo_16 (⟨_, rfl, AR.of o114 (by decide) (by decide)⟩)
  have jq9 : ∀ f ∈ AFL, cls f = 1 → f = 5 ∨ f = 11 ∨ f = 12 ∨ f = 13 ∨ f = 14 ∨ f = 15 ∨ f = 16 := by decide
  have cjf := CXJ.fin (k := 31) cj cx119.1 (by decide) (fun f9 h9 c9 => by
    have q7 := jq9 f9 h9 c9
    rcases q7 with q7 | q7 | q7 | q7 | q7 | q7 | q7
    · subst q7; rw [f5]; exact Int.natCast_nonneg _
    · subst q7; rw [f11]; exact Int.natCast_nonneg _
    · subst q7; rw [f12]; exact Int.natCast_nonneg _
    · subst q7; rw [f13]; exact Int.natCast_nonneg _
    · subst q7; rw [f14]; exact Int.natCast_nonneg _
    · subst q7; rw [f15]; exact Int.natCast_nonneg _
    · subst q7; rw [f16]; exact Int.natCast_nonneg _)
  exact tn_vret rfl dX1_init_62 ⟨rfl, tT_eq, cx119.2.1.tag cx119.1 (by decide) hf9 (fun _ y _ => Or.inl (by rw [f6]; omega)), cx119.2.2.1.tagC (by decide), cx119.2.2.2.1.tag, cx119.2.2.2.2.1, cx119.2.2.2.2.2, cjf.1, cjf.2, nx7.tag, nx41.tag⟩
end
