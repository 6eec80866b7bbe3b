section
set_option maxHeartbeats 1000000 in
set_option maxRecDepth 20000 in
theorem l_X11_read_m_75 (d : Nat) {T0 : CT} {σ0 : MS} {a : Nat} {Sj : Nat → Prop} {C : Int → Nat} {E : Int → Nat} {Tq : CT} {sq : MS} {Rq : Int} {post : Option Value → CT → MS → Prop} (hw0 : WT T0 σ0) (hc6 : ∀ q, 0 ≤ q → q < Rq → sq.2.1 6 (E q) ≤ 200 ∧ sq.2.1 10 (E q) = 1 ∧ rwF sq 14 (E q) 0 ≤ 12) (hR : Rq ≤ 6) (h97 : σ0.2.1 97 a = Rq) (hx_94 : ∀ (T : CT) (i2 : Int) (σ : MS) , (GT T0 T) → (WT T σ) → (FrC T0 [5, 6, 7, 8, 9, 10] σ0 σ) → (OB T a 11) → (0 ≤ i2 ∧ i2 ≤ 6) → (RDK Sj C E Tq sq Rq T σ a i2) → (0 ≤ i2 ∧ i2 ≤ Rq) → (Rq ≤ i2 ∧ i2 ≤ Rq) → Tn (d + 80) m_X11_read 94 T σ [(0, .ref a), (2, .int (iI i2))] [] post) : ∀ (n : Nat) (T : CT) (i2 : Int) (σ : MS) , (GT T0 T) → (WT T σ) → (FrC T0 [5, 6, 7, 8, 9, 10] σ0 σ) → (OB T a 11) → (0 ≤ i2 ∧ i2 ≤ 6) → (RDK Sj C E Tq sq Rq T σ a i2) → (0 ≤ i2 ∧ i2 ≤ Rq) → (2147483700 - i2).toNat = n → Tn (d + 80) m_X11_read 75 T σ [(0, .ref a), (2, .int (iI i2))] [] post := by
  intro n
  induction n using Nat.strongRecOn with
  | _ n ih =>
    intro T i2 σ hG hw hF h_a r_i2 hx h2q hm
    have hx0 := hx
    obtain ⟨Ey, My, hKy, h1y, h2y, h5y⟩ := hx
    have haq : OB T a 11 := h_a
    have hwq : WT T σ := hw
    have h97q : σ.2.1 97 a = Rq := by have z9 : σ.2.1 97 a = σ0.2.1 97 a := congrFun (hF.1 97 (Or.inl (by decide)) (by decide)) (a : Int); omega
    refine tn_iload_n dX11_read_75 rfl 1 rfl ?_
    refine tn_aload_n dX11_read_76 rfl 0 rfl ?_
    refine tn_getI (ci := 11) (i := 2) (n := 97) (t := σ.2.1 97 a) dX11_read_77 rfl lay_11 (by decide) fl11_116 h_a rfl rfl (rfl) ?_
    have g1 : ((0 : Int) ≤ σ.2.1 97 a ∧ σ.2.1 97 a ≤ 6) := wf_97 hw h_a
    refine tn_icmp_ge (tgt := 94) dX11_read_80 (by decide) ⟨by omega, by omega⟩ ⟨by omega, by omega⟩ (fun h2 => ?_) (fun h2 => ?_)
    · exact tn_sub [0, 1] rfl (hx_94 T (i2) σ hG hw (FrC.rfl.trans (FrC.sub hF (by decide))) h_a (by omega) hx0 (by omega) (by omega))
    · refine tn_aload_n dX11_read_83 rfl 0 rfl ?_
      refine tn_iload_n dX11_read_84 rfl 1 rfl ?_
      refine tn_callV (M := m_X11_read) (pc := 85) (ix := 117) (ci := 11) (M' := m_X11_takeMade) (As := [.int (iI i2)]) (rest := []) dX11_read_85 ok_X11_takeMade im_X11_takeMade se_X11_takeMade ml11_117 np_X11_takeMade rfl rfl h_a rfl (Nat.le_of_ble_eq_true rfl) (Nat.le_of_ble_eq_true rfl) rfl (k_X11_takeMade_x (d + 75) (T := T) (σ := σ) (a := a) (r := i2) h_a (by omega) hw hKy.1.1 (by omega) (hKy.2.1 i2 (by omega) (by omega)).1.1 (hKy.2.1 i2 (by omega) (by omega)).1.2.1 (hKy.1.2.2.2.1 i2 (by omega) (by omega)).1 (hKy.1.2.2.2.1 i2 (by omega) (by omega)).2.1 hKy.1.2.1.2.2.2.2.2.2.2 (by have e9 := h2y i2 (Int.le_refl _) (by omega); have z9 := hc6 i2 (by omega) (by omega); rw [e9.1, e9.2.1 6 (by decide) (by decide)]; exact z9.1) (fun f9 f0 f1 => by have e9 := h2y i2 (Int.le_refl _) (by omega); have z9 := hc6 i2 (by omega) (by omega); rw [e9.1, e9.2.1 10 (by decide) (by decide), z9.2.1] at f1; rw [show f9 = 0 by omega, e9.1, e9.2.rw (f := 14) (by decide) (by decide) (by decide)]; exact z9.2.2)) (fun r3 T5 σ4 gt6 hp => ?_)
      obtain ⟨rfl, w9, F10, f7⟩ := hp
      replace h_a : OB T5 a 11 := gt6.ob h_a
      show Tn _ _ 88 T5 σ4 [(0, .ref a), (2, .int (iI i2))] [] _
      refine tn_iinc (q0 := 1) (L' := [(2, .int (iI (i2 + 1))), (0, .ref a)]) dX11_read_88 rfl (by decide) rfl ?_
      refine tn_goto (tgt := 75) dX11_read_91 (by decide) ?_
      have hx11 : RDK Sj C E Tq sq Rq T5 σ4 a (i2 + 1) := RDK.step hKy h1y h2y h5y hwq haq (by omega) (by omega) hR gt6 f7
      exact tn_sub [1, 0] rfl (ih _ (by omega) T5 (i2 + 1) σ4 (GT.trans hG gt6) w9 ((FrC.rfl.trans (FrC.sub hF (by decide))).trans (FrC.sub (FrC.old F10 hG) (by decide))) h_a (by omega) hx11 (by omega) rfl)
set_option maxHeartbeats 1000000 in
set_option maxRecDepth 20000 in
theorem k_X11_read_m (d : Nat) {T : CT} {σ : MS} {a : Nat} {fT Sx : Int → Int} {Sj : Nat → Prop} {C E M : Int → Nat} {nm : Int → Int64 → Int} {z0 : MK} (ha : OB T a 11) (hw : WT T σ) (hrw : ∀ x : Nat, σ.2.1 95 a = (x : Int) → RWE σ x fT (σ.2.1 96 a)) (hB : BYT fT) (hSx : Sx = svC fT (σ.2.1 96 a)) (hK : KEM Sj T σ a C E M) (hz : z0.rt = 0 ∧ z0.ln = 0 ∧ z0.pk = σ.2.1 50 (adN σ 100 a) ∧ z0.pv = σ.2.1 51 (adN σ 100 a)) : Tn (d + 80) m_X11_read 0 T σ [(0, .ref a)] [] (fun ro T2 σ2 => ∃ v : Int, ro = some (.int (iI v)) ∧ WT T2 σ2 ∧ FrC T [5, 6, 7, 8, 9, 10, 35, 38, 42, 43, 44, 45, 46, 47, 50, 51, 56, 84, 85, 86, 87, 96, 97, 104, 105, 512, 516, 517, 518, 519, 520, 521, 522, 523] σ σ2 ∧ (-2147483648 ≤ v ∧ v ≤ 2147483647) ∧ (RP8 σ σ2 a v) ∧ (σ2.2.1 96 a = 0) ∧ (RQ9 Sx v (σ2.2.1 104 a) (σ2.2.1 105 a) (σ.2.1 97 a) (σ2.2.1 97 a)) ∧ (RDM Sj C nm z0 T σ T2 σ2 a Sx v)) := by
  have h96b := (wf_96 hw ha)
  have haq := ha
  refine tn_aload_n dX11_read_0 rfl 0 rfl ?_
  obtain ⟨xq1, hx2, hk3⟩ : ∃ x : Nat, σ.2.1 100 a = (x : Int) ∧ (T x).1 = 35 := wf_100 hw ha
  have hk3o : OB T xq1 5 := ⟨by omega, by rw [hk3]; rfl, by omega⟩
  refine tn_getR (ci := 11) (i := 5) (n := 100) (x := xq1) dX11_read_1 rfl lay_11 (by decide) fl11_25 ha rfl rfl (hx2) ?_
  have hr100 : σ.2.1 100 a = (xq1 : Int) := hx2
  refine tn_aload_n dX11_read_4 rfl 0 rfl ?_
  obtain ⟨xq5, hx6, hk7, hl8⟩ : ∃ x : Nat, σ.2.1 95 a = (x : Int) ∧ AR T x 2 1200 1200 := wf_95 hw ha
  refine tn_getR (ci := 11) (i := 0) (n := 95) (x := xq5) dX11_read_5 rfl lay_11 (by decide) fl11_9 ha rfl rfl (hx6) ?_
  refine tn_aload_n dX11_read_8 rfl 0 rfl ?_
  refine tn_getI (ci := 11) (i := 1) (n := 96) (t := σ.2.1 96 a) dX11_read_9 rfl lay_11 (by decide) fl11_87 ha rfl rfl (rfl) ?_
  have g9 : ((0 : Int) ≤ σ.2.1 96 a ∧ σ.2.1 96 a ≤ 1200) := wf_96 hw ha
  refine tn_callV (M := m_X11_read) (pc := 12) (ix := 94) (ci := 5) (M' := m_X5_take) (As := [.ref xq5, .int (iI (σ.2.1 96 a))]) (rest := []) dX11_read_12 ok_X5_take im_X5_take se_X5_take ml11_94 np_X5_take rfl rfl hk3o rfl (Nat.le_of_ble_eq_true rfl) (Nat.le_of_ble_eq_true rfl) rfl (k_X5_take_m (d) (T := T) (σ := σ) (a := xq1) (t := xq5) (n := σ.2.1 96 a) (nm := nm) (z0 := z0) (Sj := Sj) (E := E) hk3o hk7 (by omega) (by omega) hw (by have q9 := hl8; omega) (by omega) (hrw xq5 (hx6)) hB hSx hK.1.1 (by rw [← adN_of hr100]; exact hK.1.2.2) (by rw [← adN_of hr100]; exact hz)) (fun r10 T12 σ11 gt13 hp => ?_)
  obtain ⟨v17, rfl, w18, F19, f14, f15, f16⟩ := hp
  replace ha : OB T12 a 11 := gt13.ob ha
  have tm20 := f16
  have tm20r : adN σ 100 a = xq1 := adN_of hr100
  rw [← tm20r] at tm20
  have tm20F := F19
  have tm20K : KEM Sj T12 σ11 a C E M := KEM.tak hK hw haq tm20.1 tm20.2.1 tm20.2.2.1 (fun f9 h9 => congrFun (tm20F.1 f9 (Or.inl ((by decide : ∀ k ∈ [98, 99, 100, 102, 106, 107, 108, 109], k < 200) f9 h9)) ((by decide : ∀ k ∈ [98, 99, 100, 102, 106, 107, 108, 109], k ∉ [5, 6, 7, 8, 9, 10, 35, 38, 42, 43, 44, 45, 46, 47, 50, 51, 84, 85, 86, 87, 512, 516, 517, 518, 519, 520, 521, 522, 523]) f9 h9)) (a : Int)) (fun f9 b9 h9 => congrFun (tm20F.1 f9 (Or.inl ((by decide : ∀ k ∈ [17, 23, 72], k < 200) f9 h9)) ((by decide : ∀ k ∈ [17, 23, 72], k ∉ [5, 6, 7, 8, 9, 10, 35, 38, 42, 43, 44, 45, 46, 47, 50, 51, 84, 85, 86, 87, 512, 516, 517, 518, 519, 520, 521, 522, 523]) f9 h9)) (b9 : Int))
  show Tn _ _ 15 T12 σ11 [(0, .ref a)] [.int (iI v17)] _
  refine tn_istore_n (L' := [(1, .int (iI v17)), (0, .ref a)]) dX11_read_15 rfl (by decide) rfl ?_
  refine tn_aload_n dX11_read_16 rfl 1 rfl ?_
  refine tn_iconst dX11_read_17 ?_
  refine tn_putV (ci := 11) (i := 1) (n := 96) (r := false) (v := 0) tyX11 tyX11_ok nmX11 dX11_read_18 rfl lay_11 (by decide) fl11_87 rfl (tyX11_ok 1 (by decide)) rfl rfl rfl ha rfl rfl ?_
  refine tn_aload_n dX11_read_21 rfl 1 rfl ?_
  refine tn_aload_n dX11_read_22 rfl 1 rfl ?_
  obtain ⟨xq21, hx22, hk23⟩ : ∃ x : Nat, σ11.2.1 100 a = (x : Int) ∧ (T12 x).1 = 35 := wf_100 w18 ha
  have hk23o : OB T12 xq21 5 := ⟨by omega, by rw [hk23]; rfl, by omega⟩
  refine tn_getR (ci := 11) (i := 5) (n := 100) (x := xq21) dX11_read_23 rfl lay_11 (by decide) fl11_25 ha rfl rfl (rc_o (by decide) (hx22)) ?_
  refine tn_getI (ci := 5) (i := 10) (n := 43) (t := σ11.2.1 43 xq21) dX11_read_26 rfl lay_5 (by decide) fl11_98 hk23o rfl rfl (rc_o (by decide) (rfl)) ?_
  have g25 : ((-2147483648 : Int) ≤ σ11.2.1 43 xq21 ∧ σ11.2.1 43 xq21 ≤ 2147483647) := wf_43 w18 hk23o
  refine tn_putV (ci := 11) (i := 9) (n := 104) (r := false) (v := σ11.2.1 43 xq21) tyX11 tyX11_ok nmX11 dX11_read_29 rfl lay_11 (by decide) fl11_101 rfl (tyX11_ok 9 (by decide)) rfl rfl rfl ha rfl rfl ?_
  refine tn_aload_n dX11_read_32 rfl 1 rfl ?_
  refine tn_iload_n dX11_read_33 rfl 0 rfl ?_
  refine tn_if_eq (tgt := 41) dX11_read_34 (by decide) ⟨by omega, by omega⟩ (fun h26 => ?_) (fun h26 => ?_)
  · refine tn_aload_n dX11_read_41 rfl 1 rfl ?_
    refine tn_getR (ci := 11) (i := 5) (n := 100) (x := xq21) dX11_read_42 rfl lay_11 (by decide) fl11_25 ha rfl rfl (rc_o (by decide) (rc_o (by decide) (hx22))) ?_
    refine tn_getI (ci := 5) (i := 11) (n := 44) (t := σ11.2.1 44 xq21) dX11_read_45 rfl lay_5 (by decide) fl11_104 hk23o rfl rfl (rc_o (by decide) (rc_o (by decide) (rfl))) ?_
    have g27 : ((-2147483648 : Int) ≤ σ11.2.1 44 xq21 ∧ σ11.2.1 44 xq21 ≤ 2147483647) := wf_44 w18 hk23o
    refine tn_putV (ci := 11) (i := 10) (n := 105) (r := false) (v := σ11.2.1 44 xq21) tyX11 tyX11_ok nmX11 dX11_read_48 rfl lay_11 (by decide) fl11_43 rfl (tyX11_ok 10 (by decide)) rfl rfl rfl ha rfl rfl ?_
    refine tn_iload_n dX11_read_51 rfl 0 rfl ?_
    refine tn_if_ne (tgt := 57) dX11_read_52 (by decide) ⟨by omega, by omega⟩ (fun h28 => absurd h28 (by omega)) (fun h28 => ?_)
    refine tn_iconst dX11_read_55 ?_
    have q30 : (sA 105 a (σ11.2.1 44 xq21) (sA 104 a (σ11.2.1 43 xq21) (sA 96 a (0) σ11))).2.1 96 a = 0 := rc_o (by decide) (rc_o (by decide) (ra_eq))
    have w294 : (sA 105 a (σ11.2.1 44 xq21) (sA 104 a (σ11.2.1 43 xq21) (sA 96 a (0) σ11))).2.1 104 a = σ11.2.1 43 xq21 := rc_o (by decide) (ra_eq)
    have w295 : (sA 105 a (σ11.2.1 44 xq21) (sA 104 a (σ11.2.1 43 xq21) (sA 96 a (0) σ11))).2.1 105 a = σ11.2.1 44 xq21 := ra_eq
    have w297 : (sA 105 a (σ11.2.1 44 xq21) (sA 104 a (σ11.2.1 43 xq21) (sA 96 a (0) σ11))).2.1 97 a = σ.2.1 97 a := rc_o (by decide) (rc_o (by decide) (rc_o (by decide) (rc_F F19 (Or.inl (by decide)) (by decide) (rfl))))
    have w29r : σ11.2.1 100 a = (xq1 : Int) := rc_F F19 (Or.inl (by decide)) (by decide) hr100
    have w29xq21 : xq21 = xq1 := by omega
    exact tn_iret rfl dX11_read_56 ⟨_, rfl, (((w18.put (by decide) (by decide) (fo_96 (by omega))).put (by decide) (by decide) (fo_104 (by omega))).put (by decide) (by decide) (fo_105 (by omega))), ((((FrC.rfl.trans (FrC.sub F19 (by decide))).put (by decide) (by decide)).put (by decide) (by decide)).put (by decide) (by decide)), by omega, Or.inl ⟨rfl, ((sA_k (by decide)).trans ((sA_k (by decide)).trans ((sA_k (by decide)).trans (tm20F.1 56 (Or.inl (by decide)) (by decide)))))⟩, by omega, RQ9.of f15 f14 (by rw [w294, w29xq21]) (fun _ => ⟨rfl, by rw [w295, w29xq21], w297⟩) (fun q => absurd q (by omega)), ⟨⟨E, M, (KEM.fld (KEM.fld (KEM.fld tm20K w18 ha (by decide)) (w18.put (by decide) (by decide) (fo_96 (by omega))) ha (by decide)) ((w18.put (by decide) (by decide) (fo_96 (by omega))).put (by decide) (by decide) (fo_104 (by omega))) ha (by decide))⟩, fun _ => ⟨fun q9 q0 q1 => (((tm20.2.2.1.2.1 (C q9) ((hK.2.1 q9 q0 q1).1.2.1) ((hK.2.1 q9 q0 q1).1.2.2)).trans (csm_fld (by decide) (by decide))).trans (csm_fld (by decide) (by decide))).trans (csm_fld (by decide) (by decide)), (((tm20.2.2.1.2.2.2.1.fld (by decide)).fld (by decide)).fld (by decide)), (((tm20.2.2.1.2.2.2.2.1.fld (by decide) (by decide)).fld (by decide) (by decide)).fld (by decide) (by decide))⟩, fun q9 => absurd rfl q9, fun b9 sb9 tb9 => Or.inl (((((tm20.2.2.1.2.1 b9 sb9 tb9).trans (csm_fld (by decide) (by decide))).trans (csm_fld (by decide) (by decide))).trans (csm_fld (by decide) (by decide))).1 5 (by decide) (by decide)), tm20.2.2.1.1, fun q9 => absurd rfl q9, fun _ => mA_of hK (fun e9 se9 oe9 ne9 => (((tm20.2.2.1.2.2.2.2.2 e9 se9 oe9 ne9).trans (csm_fld (by decide) (by decide))).trans (csm_fld (by decide) (by decide))).trans (csm_fld (by decide) (by decide))) (KEM.fld (KEM.fld (KEM.fld tm20K w18 ha (by decide)) (w18.put (by decide) (by decide) (fo_96 (by omega))) ha (by decide)) ((w18.put (by decide) (by decide) (fo_96 (by omega))).put (by decide) (by decide) (fo_104 (by omega))) ha (by decide)), fun q9 => absurd rfl q9⟩⟩
  · refine tn_iconst dX11_read_37 ?_
    refine tn_goto (tgt := 48) dX11_read_38 (by decide) ?_
    refine tn_putV (ci := 11) (i := 10) (n := 105) (r := false) (v := -1) tyX11 tyX11_ok nmX11 dX11_read_48 rfl lay_11 (by decide) fl11_43 rfl (tyX11_ok 10 (by decide)) rfl rfl rfl ha rfl rfl ?_
    refine tn_iload_n dX11_read_51 rfl 0 rfl ?_
    refine tn_if_ne (tgt := 57) dX11_read_52 (by decide) ⟨by omega, by omega⟩ (fun h31 => ?_) (fun h31 => absurd h31 (by omega))
    refine tn_aload_n dX11_read_57 rfl 1 rfl ?_
    refine tn_aload_n dX11_read_58 rfl 1 rfl ?_
    refine tn_getR (ci := 11) (i := 5) (n := 100) (x := xq21) dX11_read_59 rfl lay_11 (by decide) fl11_25 ha rfl rfl (rc_o (by decide) (rc_o (by decide) (rc_o (by decide) (hx22)))) ?_
    refine tn_getI (ci := 5) (i := 5) (n := 38) (t := σ11.2.1 38 xq21) dX11_read_62 rfl lay_5 (by decide) fl11_107 hk23o rfl rfl (rc_o (by decide) (rc_o (by decide) (rc_o (by decide) (rfl)))) ?_
    have g32 : ((0 : Int) ≤ σ11.2.1 38 xq21 ∧ σ11.2.1 38 xq21 ≤ 256) := wf_38 w18 hk23o
    refine tn_bipush dX11_read_65 (by decide) ?_
    refine tn_mmin (x := σ11.2.1 38 xq21) (y := 6) dX11_read_67 mlm11_110 stM_min iniM cdM_min (by omega) (Nat.le_of_ble_eq_true rfl) ⟨by omega, by omega⟩ ⟨by omega, by omega⟩ (fun z33 g34 => ?_)
    have mn35r : σ11.2.1 100 a = (xq1 : Int) := rc_F F19 (Or.inl (by decide)) (by decide) hr100
    have mn35e : xq21 = xq1 := by have q9 := (hx22); omega
    have mn35 : z33 = (if σ11.2.1 38 xq1 ≤ 6 then σ11.2.1 38 xq1 else 6) := min6 (by rw [← mn35e]; omega)
    refine tn_putV (ci := 11) (i := 2) (n := 97) (r := false) (v := z33) tyX11 tyX11_ok nmX11 dX11_read_70 rfl lay_11 (by decide) fl11_116 rfl (tyX11_ok 2 (by decide)) rfl rfl rfl ha rfl rfl ?_
    refine tn_iconst dX11_read_73 ?_
    refine tn_istore_n (L' := [(2, .int (iI 0)), (1, .int (iI v17)), (0, .ref a)]) dX11_read_74 rfl (by decide) rfl ?_
    obtain ⟨sq36, sq36e⟩ : ∃ z : MS, z = (sA 97 a (z33) (sA 105 a (-1) (sA 104 a (σ11.2.1 43 xq21) (sA 96 a (0) σ11)))) := ⟨_, rfl⟩
    have sq36K : KEM Sj T12 sq36 a C E M := by rw [sq36e]; exact (KEM.fld (KEM.fld (KEM.fld (KEM.fld tm20K w18 ha (by decide)) (w18.put (by decide) (by decide) (fo_96 (by omega))) ha (by decide)) ((w18.put (by decide) (by decide) (fo_96 (by omega))).put (by decide) (by decide) (fo_104 (by omega))) ha (by decide)) (((w18.put (by decide) (by decide) (fo_96 (by omega))).put (by decide) (by decide) (fo_104 (by omega))).put (by decide) (by decide) (fo_105 (by omega))) ha (by decide))
    have sq36w : WT T12 sq36 := by rw [sq36e]; exact ((((w18.put (by decide) (by decide) (fo_96 (by omega))).put (by decide) (by decide) (fo_104 (by omega))).put (by decide) (by decide) (fo_105 (by omega))).put (by decide) (by decide) (fo_97 (by omega)))
    obtain ⟨sq36i, sq36s, sq36N, sq36m, sq36P, sq36f, sq361, sq36b, sq362, sq363, sq364, sq365⟩ := tm20.2.2.2 (by omega)
    have sq36x : ∀ b9 : Nat, CSM σ11 sq36 b9 := fun b9 => by rw [sq36e]; exact ((((CSM.rf.trans (csm_fld (by decide) (by decide))).trans (csm_fld (by decide) (by decide))).trans (csm_fld (by decide) (by decide))).trans (csm_fld (by decide) (by decide)))
    have sq36c : ∀ q, 0 ≤ q → q < (sq36s.foldl uC c00).rn → CDS sq36 (E q) q (sq36m.dn q).1 (sq36m.dn q).2 (sq36m.fr q) ((sq36P q).foldl uC c00).nn ((sq36s.foldl uC c00).rp q) sq36f := fun q9 q0 q1 => CDS.mv (sq365 q9 q0 q1).2 (sq36x _)
    have sq3697 : sq36.2.1 97 a = z33 := by rw [sq36e]; exact ra_eq
    have sq36rv : z33 = (sq36s.foldl uC c00).rn := by have z9 := mn35; have z8 := sq36b.2.2.2; rw [tm20r] at z8; rw [z8, if_pos sq36b.2.2.1] at z9; exact z9
    have sq366 : ∀ q, 0 ≤ q → q < z33 → sq36.2.1 6 (E q) ≤ 200 ∧ sq36.2.1 10 (E q) = 1 ∧ rwF sq36 14 (E q) 0 ≤ 12 := fun q9 q0 q1 => by
      have y9 := sq36c q9 q0 (by omega)
      have y8 := (sq365 q9 q0 (by omega)).1
      have y7 := wf_7 sq36w (SPX.ob sq36K.1.2.2 q0 (show q9 < 7 by omega))
      refine ⟨by rw [y9.1.1.1]; omega, y9.1.1.2.2.2, ?_⟩
      rw [y9.2.1.2.2.2.1, ← y9.1.1.2.1]; omega
    refine tn_sub [2, 0] rfl (l_X11_read_m_75 (d) (σ0 := (sA 97 a (z33) (sA 105 a (-1) (sA 104 a (σ11.2.1 43 xq21) (sA 96 a (0) σ11))))) (T0 := T12) (a := a) (Sj := Sj) (C := C) (E := E) (Tq := T12) (sq := sq36) (Rq := z33) ((((w18.put (by decide) (by decide) (fo_96 (by omega))).put (by decide) (by decide) (fo_104 (by omega))).put (by decide) (by decide) (fo_105 (by omega))).put (by decide) (by decide) (fo_97 (by omega))) sq366 (by omega) (by rw [← sq36e]; exact sq3697) (fun T39 i237 σ38 gt40 w41 F42 q43 r44 f45 f46 f47 => ?_) _ T12 (0) (sA 97 a (z33) (sA 105 a (-1) (sA 104 a (σ11.2.1 43 xq21) (sA 96 a (0) σ11)))) GT.rfl ((((w18.put (by decide) (by decide) (fo_96 (by omega))).put (by decide) (by decide) (fo_104 (by omega))).put (by decide) (by decide) (fo_105 (by omega))).put (by decide) (by decide) (fo_97 (by omega))) FrC.rfl ha (by omega) (by rw [← sq36e]; exact RDK.in sq36K) (by omega) rfl)
    have rb48w : WT T39 σ38 := w41
    have rb48a : OB T39 a 11 := q43
    show Tn _ _ 94 T39 σ38 [(0, .ref a), (2, .int (iI i237))] [] _
    refine tn_aload_n dX11_read_94 rfl 0 rfl ?_
    obtain ⟨xq49, hx50, hk51⟩ : ∃ x : Nat, σ38.2.1 103 a = (x : Int) ∧ (T39 x).1 = 37 := wf_103 w41 q43
    have hk51o : OB T39 xq49 7 := ⟨by omega, by rw [hk51]; rfl, by omega⟩
    refine tn_getR (ci := 11) (i := 8) (n := 103) (x := xq49) dX11_read_95 rfl lay_11 (by decide) fl11_83 q43 rfl rfl (hx50) ?_
    refine tn_callV (M := m_X11_read) (pc := 98) (ix := 120) (ci := 7) (M' := m_X7_forget) (As := []) (rest := []) dX11_read_98 ok_X7_forget im_X7_forget se_X7_forget ml11_120 np_X7_forget rfl rfl hk51o rfl (Nat.le_of_ble_eq_true rfl) (Nat.le_of_ble_eq_true rfl) rfl (k_X7_forget_x (d + 78) (T := T39) (σ := σ38) (a := xq49) hk51o w41 ) (fun r53 T55 σ54 gt56 hp => ?_)
    obtain ⟨rfl, rfl, w60, F61, f57, f58⟩ := hp
    clear gt56
    show Tn _ _ 101 T39 σ54 [(0, .ref a), (2, .int (iI i237))] [] _
    refine tn_aload_n dX11_read_101 rfl 0 rfl ?_
    refine tn_getI (ci := 11) (i := 2) (n := 97) (t := σ38.2.1 97 a) dX11_read_102 rfl lay_11 (by decide) fl11_116 q43 rfl rfl (rc_F F61 (Or.inl (by decide)) (by decide) (rfl)) ?_
    have g62 : ((0 : Int) ≤ σ38.2.1 97 a ∧ σ38.2.1 97 a ≤ 6) := wf_97 w41 q43
    have q64 : σ54.2.1 96 a = 0 := rc_F F61 (Or.inl (by decide)) (by decide) (rc_F F42 (Or.inl (by decide)) (by decide) (rc_o (by decide) (rc_o (by decide) (rc_o (by decide) (ra_eq)))))
    have w634 : σ54.2.1 104 a = σ11.2.1 43 xq21 := rc_F F61 (Or.inl (by decide)) (by decide) (rc_F F42 (Or.inl (by decide)) (by decide) (rc_o (by decide) (rc_o (by decide) (ra_eq))))
    have w635 : σ54.2.1 105 a = -1 := rc_F F61 (Or.inl (by decide)) (by decide) (rc_F F42 (Or.inl (by decide)) (by decide) (rc_o (by decide) (ra_eq)))
    have w637 : σ54.2.1 97 a = z33 := rc_F F61 (Or.inl (by decide)) (by decide) (rc_F F42 (Or.inl (by decide)) (by decide) (ra_eq))
    have w63r : σ11.2.1 100 a = (xq1 : Int) := rc_F F19 (Or.inl (by decide)) (by decide) hr100
    have w63xq21 : xq21 = xq1 := by omega
    have w63q : σ38.2.1 97 a = z33 := rc_F F42 (Or.inl (by decide)) (by decide) (ra_eq)
    have rz65R : i237 = z33 := by have z9 := f47; omega
    obtain ⟨rz65E, rz65M, rz65K, rz651, rz652, rz65g, rz655, rz65z, rz65mk⟩ := f45
    have rz65k : KEM Sj T39 σ54 a C rz65E rz65M := KEM.mv rz65K GT.rfl (rz65K.1.1.keep (fun f9 b9 h9 => f57.f (by simp only [List.mem_cons, List.not_mem_nil, or_false] at h9; omega) (by simp only [List.mem_cons, List.not_mem_nil, or_false] at h9; simp only [List.mem_singleton, Prod.mk.injEq]; omega))) (SPX.mv rz65K.1.2.2 rb48w (KEM.xs rb48w rb48a).2.2.2.1 GT.rfl (f57.f (by decide) (by simp)) (fun x9 _ => f57.r (by simp))) (fun f9 h9 => f57.f ((by decide : ∀ k ∈ [98, 99, 100, 102, 106, 107, 108, 109], k < 1000) f9 h9) (by simp only [List.mem_cons, List.not_mem_nil, or_false] at h9; simp only [List.mem_singleton, Prod.mk.injEq]; omega)) (fun f9 b9 h9 => f57.f ((by decide : ∀ k ∈ [17, 23, 72], k < 1000) f9 h9) (by simp only [List.mem_cons, List.not_mem_nil, or_false] at h9; simp only [List.mem_singleton, Prod.mk.injEq]; omega)) (f57.r (by simp)) (f57.r (by simp))
    have rz65c : ∀ b9 : Nat, CSM σ38 σ54 b9 := fun b9 => csm_chx f57 (fun p9 hp9 => by rw [List.mem_singleton.mp hp9]; show 16 < 56; decide) (fun _ _ => by simp)
    have rz65n : σ38.2.1 97 a = (sq36s.foldl uC c00).rn := by have z9 := sq36b; have z8 := sq3697; have z7 := sq36rv; omega
    exact tn_iret rfl dX11_read_105 ⟨_, rfl, w60, (((((((FrC.rfl.trans (FrC.sub F19 (by decide))).put (by decide) (by decide)).put (by decide) (by decide)).put (by decide) (by decide)).put (by decide) (by decide)).trans (FrC.sub (FrC.old F42 gt13) (by decide))).trans (FrC.sub (FrC.old F61 (GT.trans gt13 gt40)) (by decide))), by omega, Or.inr ⟨by omega, xq49, (rc_F F61 (Or.inl (by decide)) (by decide) (hx50)), f58⟩, by omega, RQ9.of f15 f14 (by rw [w634, w63xq21]) (fun q => absurd q (by omega)) (fun _ => ⟨w63q.trans mn35, w635, w637.trans w63q.symm⟩), ⟨⟨rz65E, rz65M, rz65k⟩, fun q9 => absurd q9 (by omega), fun _ => ⟨sq36i, sq36s, sq36N, sq36m, sq36P, sq36f, sq361, ⟨sq36b.1, rz65n, by omega, by omega⟩, sq362, sq363, sq364, fun q9 q0 q1 => ⟨(sq365 q9 q0 q1).1, _, _, (rz651 q9 q0 (by omega)).csm (rz65c _), (sq36c q9 q0 q1)⟩⟩, N5.up tm20.2.2.1.1 (fun b9 sb9 tb9 => ((tm20.2.2.1.2.1 b9 sb9 tb9).trans (sq36x b9)).1 5 (by decide) (by decide)) rz655 (fun b9 => (rz65c b9).1 5 (by decide) (by decide)), GT.trans tm20.2.2.1.1 rz65g, fun _ q9 q0 q1 => by have z9 := rz65z q9 q0 (by omega); have e1 : adN σ54 102 a = adN σ38 102 a := (by unfold adN; rw [f57.f (a := a) (by decide) (by simp)]); have e2 : adN σ54 89 (adN σ38 102 a) = adN σ38 89 (adN σ38 102 a) := (by unfold adN; rw [f57.f (by decide) (by simp)]); rw [e1, e2, f57.r (by simp)]; exact z9, fun q9 => absurd q9 (by omega), fun _ => mB_of rz65k (fun q9 q0 q1 => rz65mk q9 q0 (by omega)) rz65c (by omega)⟩⟩
end
