set_option maxHeartbeats 1000000 in
set_option maxRecDepth 20000 in
theorem l_X11_tapeNumber_hg_3 (d : Nat) {T : CT} {σ0 : MS} {a : Nat} {c1 : Int} {tg : Int} {fT : Int → Int} {xT : Nat} {xt : Nat} {post : Option Value → CT → MS → Prop} (h_a : OB T a 11) (r_c1 : -2147483648 ≤ c1 ∧ c1 ≤ 2147483647) (hw0 : WT T σ0) (hxT : σ0.2.1 95 a = (xT : Int)) (hxt : σ0.2.1 95 a = (xt : Int)) (hx_55 : ∀ (i2 : Int) (σ : MS) , (WT T σ) → (FrC T [96, 502] σ0 σ) → (-8 ≤ i2 ∧ i2 ≤ 24) → (CHX [(96, a)] [xt] [] σ0 σ) → (8 * σ.2.1 96 a = 8 * tg + 24 - i2 ∧ tg ≤ 1196 ∧ 0 ≤ tg) → (σ.2.1 (1000 + xT) = w4p fT tg c1 (σ.2.1 96 a - tg)) → (∃ m : Nat, i2 = 8 * (m : Int) - 8) → (i2 < 0) → Tn (d + 1) m_X11_tapeNumber 55 T σ [(0, .ref a), (1, .int (iI c1)), (2, .int (iI i2))] [] post) : ∀ (nq9 : Nat) (i2 : Int) (σ : MS) , (WT T σ) → (FrC T [96, 502] σ0 σ) → (-8 ≤ i2 ∧ i2 ≤ 24) → (CHX [(96, a)] [xt] [] σ0 σ) → (8 * σ.2.1 96 a = 8 * tg + 24 - i2 ∧ tg ≤ 1196 ∧ 0 ≤ tg) → (σ.2.1 (1000 + xT) = w4p fT tg c1 (σ.2.1 96 a - tg)) → (∃ m : Nat, i2 = 8 * (m : Int) - 8) → (i2 + 20).toNat = nq9 → Tn (d + 1) m_X11_tapeNumber 3 T σ [(0, .ref a), (1, .int (iI c1)), (2, .int (iI i2))] [] post := by
  intro nq9
  induction nq9 using Nat.strongRecOn with
  | _ nq9 ih =>
    intro i2 σ hw hF r_i2 hC h0 htw hn8 hm
    obtain ⟨m8, hm8⟩ := hn8
    refine tn_iload_n dX11_tapeNumber_3 rfl 2 rfl ?_
    refine tn_if_lt (tgt := 55) dX11_tapeNumber_4 (by decide) ⟨by omega, by omega⟩ (fun h1 => ?_) (fun h1 => ?_)
    · exact tn_sub [0, 1, 2] rfl (hx_55 (i2) σ hw (FrC.rfl.trans (FrC.sub hF (by decide))) (by omega) hC (by omega) htw ⟨m8, hm8⟩ (by omega))
    · refine tn_aload_n dX11_tapeNumber_7 rfl 0 rfl ?_
      refine tn_getI (ci := 11) (i := 1) (n := 96) (t := σ.2.1 96 a) dX11_tapeNumber_8 rfl lay_11 (by decide) fl11_87 h_a rfl rfl (rfl) ?_
      have g2 : ((0 : Int) ≤ σ.2.1 96 a ∧ σ.2.1 96 a ≤ 1200) := wf_96 hw h_a
      refine tn_if_lt (tgt := 49) dX11_tapeNumber_11 (by decide) ⟨by omega, by omega⟩ (fun h3 => absurd h3 (by omega)) (fun h3 => ?_)
      refine tn_aload_n dX11_tapeNumber_14 rfl 0 rfl ?_
      refine tn_getI (ci := 11) (i := 1) (n := 96) (t := σ.2.1 96 a) dX11_tapeNumber_15 rfl lay_11 (by decide) fl11_87 h_a rfl rfl (rfl) ?_
      refine tn_aload_n dX11_tapeNumber_18 rfl 0 rfl ?_
      obtain ⟨hk6, hl7⟩ : AR T xt 2 1200 1200 := ar_of (wf_95 hw0 h_a) hxt
      refine tn_getR (ci := 11) (i := 0) (n := 95) (x := xt) dX11_tapeNumber_19 rfl lay_11 (by decide) fl11_9 h_a rfl rfl (rc_F hF (Or.inl (by decide)) (by decide) (hxt)) ?_
      refine tn_alenX dX11_tapeNumber_22 (Or.inr (Or.inl hk6)) ?_
      refine tn_icmp_ge (tgt := 49) dX11_tapeNumber_23 (by decide) ⟨by omega, by omega⟩ ⟨by omega, by omega⟩ (fun h8 => ?_) (fun h8 => ?_)
      · refine tn_iinc (q0 := 2) (L' := [(2, .int (iI (i2 + (-8)))), (0, .ref a), (1, .int (iI c1))]) dX11_tapeNumber_49 rfl (by decide) rfl ?_
        refine tn_goto (tgt := 3) dX11_tapeNumber_52 (by decide) ?_
        have q9 : σ.2.1 96 a = σ.2.1 96 a := rfl
        exact tn_sub [1, 2, 0] rfl (ih _ (by omega) (i2 + (-8)) σ hw (FrC.rfl.trans (FrC.sub hF (by decide))) (by omega) hC (by omega) (by omega) ⟨m8 - 1, by omega⟩ rfl)
      · refine tn_aload_n dX11_tapeNumber_26 rfl 0 rfl ?_
        refine tn_getR (ci := 11) (i := 0) (n := 95) (x := xt) dX11_tapeNumber_27 rfl lay_11 (by decide) fl11_9 h_a rfl rfl (rc_F hF (Or.inl (by decide)) (by decide) (hxt)) ?_
        refine tn_aload_n dX11_tapeNumber_30 rfl 0 rfl ?_
        refine tn_getI (ci := 11) (i := 1) (n := 96) (t := σ.2.1 96 a) dX11_tapeNumber_31 rfl lay_11 (by decide) fl11_87 h_a rfl rfl (rfl) ?_
        refine tn_iload_n dX11_tapeNumber_34 rfl 1 rfl ?_
        refine tn_iload_n dX11_tapeNumber_35 rfl 2 rfl ?_
        refine tn_iushr dX11_tapeNumber_36 ?_
        refine tn_i2b dX11_tapeNumber_37 ?_
        have g10 := bt_r (c1) (i2)
        refine tn_bast (z := σ.2.1 96 a) (v := bt (c1) (i2)) dX11_tapeNumber_38 hk6 (by omega) (by omega) (by omega) (bt_c (by omega)) ?_
        refine tn_aload_n dX11_tapeNumber_39 rfl 0 rfl ?_
        refine tn_dup dX11_tapeNumber_40 rfl ?_
        refine tn_getI (ci := 11) (i := 1) (n := 96) (t := σ.2.1 96 a) dX11_tapeNumber_41 rfl lay_11 (by decide) fl11_87 h_a rfl rfl (rc_a (Or.inl (by decide)) (rfl)) ?_
        refine tn_iconst dX11_tapeNumber_44 ?_
        refine tn_iadd dX11_tapeNumber_45 ?_
        refine tn_putV (ci := 11) (i := 1) (n := 96) (r := false) (v := (σ.2.1 96 a) + 1) tyX11 tyX11_ok nmX11 dX11_tapeNumber_46 rfl lay_11 (by decide) fl11_87 rfl (tyX11_ok 1 (by decide)) rfl rfl rfl h_a rfl rfl ?_
        refine tn_iinc (q0 := 2) (L' := [(2, .int (iI (i2 + (-8)))), (0, .ref a), (1, .int (iI c1))]) dX11_tapeNumber_49 rfl (by decide) rfl ?_
        refine tn_goto (tgt := 3) dX11_tapeNumber_52 (by decide) ?_
        have q11 : (sA 96 a ((σ.2.1 96 a) + 1) (sA (1000 + xt) (σ.2.1 96 a) (bt (c1) (i2)) σ)).2.1 96 a = (σ.2.1 96 a) + 1 := ra_eq
        have q12 : (sA 96 a ((σ.2.1 96 a) + 1) (sA (1000 + xt) (σ.2.1 96 a) (bt (c1) (i2)) σ)).2.1 96 a = (σ.2.1 96 a) + 1 := ra_eq
        have w13 : xt = xT := by omega
        have w13t := tw_step (sh := i2) (x := xT) htw (by omega) (by omega) (by omega)
        exact tn_sub [1, 2, 0] rfl (ih _ (by omega) (i2 + (-8)) (sA 96 a ((σ.2.1 96 a) + 1) (sA (1000 + xt) (σ.2.1 96 a) (bt (c1) (i2)) σ)) ((hw.arr (Or.inr hk6) (vok_1 (Or.inr (Or.inr hk6)) (by omega))).put (by decide) (by decide) (fo_96 (by omega))) (((FrC.rfl.trans (FrC.sub hF (by decide))).arr (hk_in hk6 (by decide))).put (by decide) (by decide)) (by omega) ((hC.arr (by simp)).fld (by simp) (by decide)) (by omega) (by rw [q12, sA_k (by omega), w13]; exact w13t) ⟨m8 - 1, by omega⟩ rfl)
set_option maxHeartbeats 1000000 in
set_option maxRecDepth 20000 in
theorem k_X11_tapeNumber_hg (d : Nat) {T : CT} {σ : MS} {a : Nat} {n : Int} {xt : Nat} (ha : OB T a 11) (h_n : -2147483648 ≤ n ∧ n ≤ 2147483647) (hw : WT T σ) (hxt : σ.2.1 95 a = (xt : Int)) (h96 : σ.2.1 96 a ≤ 1196) : Tn (d + 1) m_X11_tapeNumber 0 T σ [(0, .ref a), (1, .int (iI n))] [] (fun ro T2 σ2 => ro = none ∧ T = T2 ∧ WT T2 σ2 ∧ FrC T [96, 502] σ σ2 ∧ (CHX [(96, a)] [xt] [] σ σ2) ∧ (σ2.2.1 96 a = σ.2.1 96 a + 4) ∧ (TWQ σ σ2 a n)) := by
  have h96b := (wf_96 hw ha)
  refine tn_bipush dX11_tapeNumber_0 (by decide) ?_
  refine tn_istore_n (L' := [(2, .int (iI 24)), (0, .ref a), (1, .int (iI n))]) dX11_tapeNumber_2 rfl (by decide) rfl ?_
  obtain ⟨hk3, hl4⟩ : AR T xt 2 1200 1200 := ar_of (wf_95 hw ha) hxt
  refine tn_sub [1, 2, 0] rfl (l_X11_tapeNumber_hg_3 (d) (T := T) (σ0 := σ) (a := a) (c1 := n) (xt := xt) (tg := σ.2.1 96 a) (fT := σ.2.1 (1000 + xt)) (xT := xt) ha (by omega) hw (hxt) (hxt) (fun i25 σ6 w9 F10 r11 f12 f13 f14 f15 f16 => ?_) _ (24) σ hw FrC.rfl (by omega) CHX.rfl (by omega) (by rw [show σ.2.1 96 a - σ.2.1 96 a = 0 by omega, w4p_0]) ⟨4, by omega⟩ rfl)
  show Tn _ _ 55 T σ6 [(0, .ref a), (1, .int (iI n)), (2, .int (iI i25))] [] _
  have q17 : σ6.2.1 96 a = σ6.2.1 96 a := rfl
  have w18 := f14; rw [show σ6.2.1 96 a - σ.2.1 96 a = 4 by omega, w4p_4] at w18
  exact tn_vret rfl dX11_tapeNumber_55 ⟨rfl, rfl, w9, (FrC.rfl.trans (FrC.sub F10 (by decide))), (CHX.rfl.trans (CHX.sub f12 (by simp) (by simp) (by simp))), by omega, fun y hy => by
      have e : y = xt := by omega
      rw [e]; exact w18⟩
