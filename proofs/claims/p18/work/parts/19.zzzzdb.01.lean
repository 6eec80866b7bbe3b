section
set_option maxHeartbeats 1000000 in
set_option maxRecDepth 20000 in
theorem k_X10_refresh_t (d : Nat) {T : CT} {σ : MS} {a : Nat} {r : Int} {c : Nat} {xb xs xf : Nat} (ha : OB T a 10) (h_r : -2147483648 ≤ r ∧ r ≤ 2147483647) (h_c : OB T c 1) (t_c : (T c).1 = 50) (hw : WT T σ) (hxb : σ.2.1 90 a = (xb : Int)) (hxs : σ.2.1 91 a = (xs : Int)) (hxf : σ.2.1 89 a = (xf : Int)) (hrt : RTC σ c) (hra : RFA σ c r xb xs xf) : Tn (d + 5) m_X10_refresh 0 T σ [(0, .ref a), (1, .int (iI r)), (2, .ref c)] [] (fun ro T2 σ2 => ro = none ∧ WT T2 σ2 ∧ FrC T [92, 93, 94, 900] σ σ2 ∧ (RFT T T2 σ σ2 a c r xs xb xf)) := by
  have af9 := af6_k hw h_c
  have oc9 := h_c
  have tb9 := (ar_of (wf_90 hw ha) hxb).1
  have ts9 := (ar_of (wf_91 hw ha) hxs).1
  have tf9 := (ar_of (wf_89 hw ha) hxf).1
  refine tn_aload_n dX10_refresh_0 rfl 2 rfl ?_
  refine tn_ifnull dX10_refresh_1 ?_
  refine tn_iload_n dX10_refresh_4 rfl 1 rfl ?_
  refine tn_if_lt (tgt := 35) dX10_refresh_5 (by decide) ⟨by omega, by omega⟩ (fun h1 => ?_) (fun h1 => ?_)
  · exact tn_vret rfl dX10_refresh_35 ⟨rfl, hw, FrC.rfl, Or.inl ⟨fun q9 => by obtain ⟨q1, q2⟩ := q9; omega, rfl, rfl⟩⟩
  · refine tn_iload_n dX10_refresh_8 rfl 1 rfl ?_
    refine tn_aload_n dX10_refresh_9 rfl 0 rfl ?_
    obtain ⟨xq2, hx3, hk4, hl5⟩ : ∃ x : Nat, σ.2.1 88 a = (x : Int) ∧ AR T x 7 6 6 := wf_88 hw ha
    refine tn_getR (ci := 10) (i := 0) (n := 88) (x := xq2) dX10_refresh_10 rfl lay_10 (by decide) fl10_11 ha rfl rfl (hx3) ?_
    refine tn_alenX dX10_refresh_13 (Or.inr (Or.inr (Or.inr (Or.inr (Or.inr hk4))))) ?_
    refine tn_icmp_ge (tgt := 35) dX10_refresh_14 (by decide) ⟨by omega, by omega⟩ ⟨by omega, by omega⟩ (fun h6 => ?_) (fun h6 => ?_)
    · exact tn_vret rfl dX10_refresh_35 ⟨rfl, hw, FrC.rfl, Or.inl ⟨fun q9 => by obtain ⟨q1, q2⟩ := q9; omega, rfl, rfl⟩⟩
    · refine tn_iload_n dX10_refresh_17 rfl 1 rfl ?_
      refine tn_aload_n dX10_refresh_18 rfl 0 rfl ?_
      obtain ⟨xq7, hx8, hk9, hl10⟩ : ∃ x : Nat, σ.2.1 89 a = (x : Int) ∧ AR T x 1 6 6 := wf_89 hw ha
      have hk9i : IA T xq7 := by unfold IA; omega
      refine tn_getR (ci := 10) (i := 1) (n := 89) (x := xq7) dX10_refresh_19 rfl lay_10 (by decide) fl10_17 ha rfl rfl (hx8) ?_
      refine tn_alenX dX10_refresh_22 (Or.inl hk9i) ?_
      refine tn_icmp_ge (tgt := 35) dX10_refresh_23 (by decide) ⟨by omega, by omega⟩ ⟨by omega, by omega⟩ (fun h11 => absurd h11 (by omega)) (fun h11 => ?_)
      refine tn_aload_n dX10_refresh_26 rfl 0 rfl ?_
      refine tn_getR (ci := 10) (i := 1) (n := 89) (x := xq7) dX10_refresh_27 rfl lay_10 (by decide) fl10_17 ha rfl rfl (hx8) ?_
      refine tn_iload_n dX10_refresh_30 rfl 1 rfl ?_
      refine tn_ialdX (z := r) hw dX10_refresh_31 hk9i (by omega) (by omega) (by omega) (fun v12 g13q g13 g13k => ?_)
      have fr9 : σ.2.1 (1000 + xf) r = v12 := by rw [show xf = xq7 by omega]; exact g13q.symm
      clear g13k g13q
      refine tn_if_eq (tgt := 36) dX10_refresh_32 (by decide) ⟨by omega, by omega⟩ (fun h14 => ?_) (fun h14 => ?_)
      · refine tn_aload_n dX10_refresh_36 rfl 0 rfl ?_
        refine tn_aload_n dX10_refresh_37 rfl 2 rfl ?_
        refine tn_aload_n dX10_refresh_38 rfl 2 rfl ?_
        refine tn_getI (ci := 1) (i := 5) (n := 10) (t := σ.2.1 10 c) dX10_refresh_39 rfl lay_1 (by decide) fl10_30 h_c rfl rfl (rfl) ?_
        have g15 : ((0 : Int) ≤ σ.2.1 10 c ∧ σ.2.1 10 c ≤ 12) := wf_10 hw h_c
        refine tn_iconst dX10_refresh_42 ?_
        obtain ⟨xq16, hx17, hk18, hl19⟩ : ∃ x : Nat, σ.2.1 14 c = (x : Int) ∧ AR T x 11 12 12 := wf_14 hw h_c
        have hk18i : IA T xq16 := by unfold IA; omega
        refine tn_callV (M := m_X10_refresh) (pc := 43) (ix := 36) (ci := 1) (M' := m_X1_slotOf) (As := [.int (iI (σ.2.1 10 c)), .int (iI 0)]) (rest := [.ref a]) dX10_refresh_43 ok_X1_slotOf im_X1_slotOf se_X1_slotOf ml10_36 np_X1_slotOf rfl rfl h_c rfl (Nat.le_of_ble_eq_true rfl) (Nat.le_of_ble_eq_true rfl) rfl (k_X1_slotOf_t (d + 3) (T := T) (σ := σ) (a := c) (f := σ.2.1 10 c) (m := 0) (xn := xq16) (Rn := σ.2.1 (1000 + xq16)) h_c (by omega) (by decide) hw (hx17) rfl (by omega) (by omega)) (fun r20 T22 σ21 gt23 hp => ?_)
        obtain ⟨v27, rfl, rfl, rfl, f24, f25, f26⟩ := hp
        clear gt23
        have wd28 : v27 = slF (rwF σ 14 c) (σ.2.1 10 c) := by unfold rwF; rw [adN_of hx17]; have z9 := f25; omega
        show Tn _ _ 46 T σ [(0, .ref a), (1, .int (iI r)), (2, .ref c)] [.int (iI v27), .ref a] _
        refine tn_putV (ci := 10) (i := 5) (n := 93) (r := false) (v := v27) tyX10 tyX10_ok nmX10 dX10_refresh_46 rfl lay_10 (by decide) fl10_50 rfl (tyX10_ok 5 (by decide)) rfl rfl rfl ha rfl rfl ?_
        refine tn_iconst dX10_refresh_49 ?_
        refine tn_aload_n dX10_refresh_50 rfl 2 rfl ?_
        refine tn_getI (ci := 1) (i := 1) (n := 6) (t := σ.2.1 6 c) dX10_refresh_51 rfl lay_1 (by decide) fl10_53 h_c rfl rfl (rc_o (by decide) (rfl)) ?_
        have g29 : ((0 : Int) ≤ σ.2.1 6 c ∧ σ.2.1 6 c ≤ 5000) ∧ ((T c).1 = 50 → σ.2.1 6 c ≤ 200) := wf_6 hw h_c
        have g29x := g29.2
        replace g29 := g29.1
        have g29x := g29x t_c
        refine tn_iconst dX10_refresh_54 ?_
        refine tn_iadd dX10_refresh_55 ?_
        refine tn_aload_n dX10_refresh_56 rfl 0 rfl ?_
        refine tn_getI (ci := 10) (i := 5) (n := 93) (t := v27) dX10_refresh_57 rfl lay_10 (by decide) fl10_50 ha rfl rfl (ra_eq) ?_
        refine tn_imul dX10_refresh_60 ?_
        have g31 : 1 ≤ ((σ.2.1 6 c) + 1) * v27 ∧ ((σ.2.1 6 c) + 1) * v27 ≤ 29145 := mul_rng1 (b := 201) (d := 145) (by omega) (by omega) (by omega) (by omega) (by decide)
        generalize ez32 : ((σ.2.1 6 c) + 1) * v27 = z30 at g31 ⊢
        refine tn_mmax (x := 0) (y := z30) dX10_refresh_61 mlm10_56 stM_max iniM cdM_max (by omega) (Nat.le_of_ble_eq_true rfl) ⟨by omega, by omega⟩ ⟨by omega, by omega⟩ (fun z33 g34 => ?_)
        refine tn_istore_n (L' := [(3, .int (iI z33)), (0, .ref a), (1, .int (iI r)), (2, .ref c)]) dX10_refresh_64 rfl (by decide) rfl ?_
        refine tn_aload_n dX10_refresh_65 rfl 1 rfl ?_
        refine tn_getR (ci := 10) (i := 0) (n := 88) (x := xq2) dX10_refresh_66 rfl lay_10 (by decide) fl10_11 ha rfl rfl (rc_o (by decide) (hx3)) ?_
        refine tn_iload_n dX10_refresh_69 rfl 2 rfl ?_
        rcases hw.2.2.2.2.1.2 (r) (by omega) (by omega) with hx35 | ⟨xq36, hx35, hk37, hl38⟩
        · refine tn_aaldMN (z := r) dX10_refresh_70 hk4 (by omega) (by omega) (by omega) (Int.lt_of_le_of_lt (Int.le_of_eq (rc_o (by decide) (Eq.refl _))) hx35) ?_
          refine tn_ifnullN (tgt := 85) dX10_refresh_71 (by decide) ?_
          refine tn_aload_n dX10_refresh_85 rfl 1 rfl ?_
          refine tn_getR (ci := 10) (i := 0) (n := 88) (x := xq2) dX10_refresh_86 rfl lay_10 (by decide) fl10_11 ha rfl rfl (rc_o (by decide) (hx3)) ?_
          refine tn_iload_n dX10_refresh_89 rfl 2 rfl ?_
          refine tn_iload_n dX10_refresh_90 rfl 0 rfl ?_
          refine tn_iload_n dX10_refresh_91 rfl 0 rfl ?_
          refine tn_bipush dX10_refresh_92 (by decide) ?_
          refine tn_idivX dX10_refresh_94 (by decide) ?_
          obtain ⟨z39, g40, g40e⟩ := div8 (x := z33) (by omega) (by omega)
          rw [g40e]
          refine tn_iadd dX10_refresh_95 ?_
          obtain ⟨N41, N41e⟩ : ∃ N : Nat, z33 + z39 = (N : Int) := ⟨(z33 + z39).toNat, by omega⟩
          have ol54 : tLen T (sA 93 a (v27) σ) (r) = 0 := by unfold tLen; rw [if_pos (Int.lt_of_le_of_lt (Int.le_of_eq (rc_o (by decide) (Eq.refl _))) hx35)]
          refine tn_newI (N := N41) (k := 1) dX10_refresh_96 arC_int (Or.inl rfl) N41e (by omega) (fun xq42 hx43 => ?_)
          have w48 := WT.tab (T := T) (σ := (sA 93 a (v27) σ)) (hw.put (by decide) (by decide) (fo_93 (by omega))) hx43 (r := r) ⟨by omega, by omega⟩ (N := N41) (by omega) (by omega) (by omega) (by omega)
          have gt49 : GT T (tT T xq42 1 N41) := fun b p _ => tT_gt hx43 b p
          have l52 : (tT T xq42 1 N41 xq42) = (1, N41) := tT_eq
          have F50 : FrC T [92, 93, 94, 900] σ (sA 900 (r) (xq42 : Int) (rowS (1000 + xq42) (fun _ => 0) (gh N41 (sA 93 a (v27) σ)))) := FrC.put9 (FrC.row (FrC.gh (FrC.rfl.put (by decide) (by decide))) (hk_no (by unfold NH HT; omega))) (by decide)
          have C55 : CHN T [(92, a), (93, a), (94, a), (900, (r).toNat)] [xq42] [] σ (sA 900 (r) (xq42 : Int) (rowS (1000 + xq42) (fun _ => 0) (gh N41 (sA 93 a (v27) σ)))) := CHN.fld9 (CHN.row (CHN.gh (CHN.rfl.fld (by simp) (by decide))) (Or.inl (by simp))) (by omega) (by simp)
          have q56 : (sA 900 (r) (xq42 : Int) (rowS (1000 + xq42) (fun _ => 0) (gh N41 (sA 93 a (v27) σ)))).2.1 93 a = v27 := (congrFun (show (sA 900 (r) (xq42 : Int) (rowS (1000 + xq42) (fun _ => 0) (gh N41 (sA 93 a (v27) σ)))).2.1 93 = ((sA 93 a (v27) σ)).2.1 93 by rw [sA_k (by decide), rowS_ne (by omega)]; rfl) _).trans (ra_eq)
          have q51 : (sA 900 (r) (xq42 : Int) (rowS (1000 + xq42) (fun _ => 0) (gh N41 (sA 93 a (v27) σ)))).2.1 900 (r) = (xq42 : Int) := ra_eq
          have ix53 : IA (tT T xq42 1 N41) xq42 := by unfold IA; rw [l52]; exact Or.inl rfl
          refine tn_aastM (z := r) (v := xq42) (fun b q => (w48).2.2.2.2.1.1 b xq2 q (gt49.kk hk4 (by decide) (by decide))) dX10_refresh_98 (gt49.kk hk4 (by decide) (by decide)) ix53 (by omega) (by rw [gt49.lenK hk4 (by decide) (by decide)]; omega) (by rw [gt49.lenK hk4 (by decide) (by decide)]; omega) ?_
          generalize hT46 : tT T xq42 1 N41 = T44 at w48 gt49 l52 ix53 ⊢
          generalize h47 : (sA 900 (r) (xq42 : Int) (rowS (1000 + xq42) (fun _ => 0) (gh N41 (sA 93 a (v27) σ)))) = σ45 at w48 F50 q51 C55 q56 ⊢
          replace ha : OB T44 a 10 := gt49.ob ha
          replace t_c : (T44 c).1 = 50 := gt49.kk t_c (by decide) (by decide)
          replace h_c : OB T44 c 1 := gt49.ob h_c
          have l52k : (T44 xq42).1 = 1 := by rw [l52]
          have l52n : (T44 xq42).2 = N41 := by rw [l52]
          show Tn _ _ 99 T44 σ45 [(3, .int (iI z33)), (0, .ref a), (1, .int (iI r)), (2, .ref c)] [] _
          refine tn_aload_n dX10_refresh_99 rfl 1 rfl ?_
          refine tn_aload_n dX10_refresh_100 rfl 1 rfl ?_
          obtain ⟨xq57, hx58, hk59, hl60⟩ : ∃ x : Nat, σ45.2.1 88 a = (x : Int) ∧ AR T44 x 7 6 6 := wf_88 w48 ha
          refine tn_getR (ci := 10) (i := 0) (n := 88) (x := xq57) dX10_refresh_101 rfl lay_10 (by decide) fl10_11 ha rfl rfl (hx58) ?_
          refine tn_iload_n dX10_refresh_104 rfl 2 rfl ?_
          refine tn_aaldM (z := r) (x := xq42) dX10_refresh_105 hk59 (by omega) (by omega) (by omega) (q51) ?_
          refine tn_putV (ci := 10) (i := 4) (n := 92) (r := true) (v := (xq42 : Int)) tyX10 tyX10_ok nmX10 dX10_refresh_106 rfl lay_10 (by decide) fl10_61 rfl (tyX10_ok 4 (by decide)) (vl_ref rfl).symm rfl rfl ha rfl rfl ?_
          have chm : CHN T [(92, a), (93, a), (94, a), (900, r.toNat)] [xq42] [] σ (sA 92 a ((xq42 : Int)) σ45) := ((CHN.rfl.trans (CHN.sub C55 (by simp) (by simp) (by simp))).fld (by simp) (by decide))
          have tn9 : (∀ f, f ∈ AF6 → xq42 ≠ adN σ f c) ∧ xq42 ≠ xb ∧ xq42 ≠ xs ∧ xq42 ≠ xf := ⟨fun f hf e => by have z := af9 f hf; rw [← e] at z; omega, fun e => by rw [← e] at tb9; omega, fun e => by rw [← e] at ts9; omega, fun e => by rw [← e] at tf9; omega⟩
          have csm : CSM σ (sA 92 a ((xq42 : Int)) σ45) c := CSM.of chm (fun p hp => Or.inr (Or.inr (by simp only [List.mem_cons, List.not_mem_nil, or_false] at hp; rcases hp with rfl | rfl | rfl | rfl <;> simp))) (fun f hf q => tn9.1 f hf (List.mem_singleton.mp q).symm) (fun f hf => by have z := af9 f hf; omega)
          have rf9 : (sA 92 a ((xq42 : Int)) σ45).2.1 (1000 + xf) = σ.2.1 (1000 + xf) := CHN.r chm (by omega) (fun q => tn9.2.2.2 (List.mem_singleton.mp q).symm)
          have ez9 : z33 = (σ.2.1 6 c + 1) * v27 := by rw [ez32]; omega
          exact tn_sub [1, 2, 3, 0] rfl (Tn.mono (k_X10_refresh_t9 d (T := T44) (σ := (sA 92 a ((xq42 : Int)) σ45)) (a := a) (r := r) (c := c) (z := z33) (x := adN σ 5 c) (n := σ.2.1 6 c) (W := cdW σ c) (xh := adN σ 15 c) (Rh := rwF σ 15 c) (P := σ.2.1 8 c) (Nm := σ.2.1 7 c) (xn := adN σ 14 c) (Rn := rwF σ 14 c) (xb := xb) (B := (sA 92 a ((xq42 : Int)) σ45).2.1 (1000 + xb)) (xs := xs) (xt := xq42) (xf := xf) (Rf := σ.2.1 (1000 + xf)) (wd := v27) (Fq := σ.2.1 10 c) ha h_r h_c t_c (by omega) (w48.put (by decide) (by decide) (fo_92 (Or.inr ⟨_, rfl, l52k, by omega, by omega⟩))) ((csm.1 5 (by decide) (by decide)).trans (ad_ex (wf_5 hw oc9)).1) (csm.1 6 (by decide) (by decide)) csm.w2 ((csm.1 15 (by decide) (by decide)).trans (ad_ex (Q := fun x => AR T x 1 144 144) (wf_15 hw oc9)).1) (csm.2 15 (by decide)) (csm.1 8 (by decide) (by decide)) (csm.1 7 (by decide) (by decide)) ((csm.1 14 (by decide) (by decide)).trans (ad_ex (Q := fun x => AR T x 11 12 12) (wf_14 hw oc9)).1) (csm.2 14 (by decide)) (rc_o (by decide) (rc_F F50 (Or.inl (by decide)) (by decide) (hxb))) rfl (rc_o (by decide) (rc_F F50 (Or.inl (by decide)) (by decide) (hxs))) (ra_eq) (rc_o (by decide) (rc_F F50 (Or.inl (by decide)) (by decide) (hxf))) rf9 (rc_o (by decide) (q56)) hrt.1.2.2.2.2.2 (rfa_ne hra.1 (tn9.1 5 (by decide)) (tn9.1 15 (by decide)) (tn9.1 14 (by decide)) tn9.2) (by rw [wd28]; exact hrt) (by omega) ⟨ez9, by omega, by omega⟩) (fun ro9 T9 σ9 h9 => by
            obtain ⟨q0, q1, q2, q3, q4, q5, q6⟩ := h9
            subst q1
            exact ⟨q0, q2, (((FrC.rfl.trans (FrC.sub F50 (by decide))).put (by decide) (by decide)).trans (FrC.sub (FrC.old q3 gt49) (by decide))), Or.inr ⟨⟨by omega, by omega⟩, xq42, Or.inr (by have q9 := hx43; first | exact q9 | omega | (rw [q9])), (q4.1 900 r (by decide) (fun p hp e => by rw [List.mem_singleton.mp hp] at e; exact absurd e (by simp))).trans (rc_o (by decide) (q51)), ((CHN.rfl.trans (CHN.sub C55 (by simp) (by simp) (by simp))).fld (by simp) (by decide)).trans (CHN.of q4 (by simp) (fun z q => Or.inl (by revert q; simp; try omega)) (by simp)), q6, (by unfold TKC; rw [← wd28]; exact q5), (by rw [← wd28, ← ez9]; omega)⟩⟩))
        · refine tn_aaldM (z := r) (x := xq36) dX10_refresh_70 hk4 (by omega) (by omega) (by omega) (rc_o (by decide) (hx35)) ?_
          have hk37i : IA T xq36 := by unfold IA; omega
          refine tn_ifnull dX10_refresh_71 ?_
          refine tn_aload_n dX10_refresh_74 rfl 1 rfl ?_
          refine tn_getR (ci := 10) (i := 0) (n := 88) (x := xq2) dX10_refresh_75 rfl lay_10 (by decide) fl10_11 ha rfl rfl (rc_o (by decide) (hx3)) ?_
          refine tn_iload_n dX10_refresh_78 rfl 2 rfl ?_
          refine tn_aaldM (z := r) (x := xq36) dX10_refresh_79 hk4 (by omega) (by omega) (by omega) (rc_o (by decide) (hx35)) ?_
          refine tn_alenX dX10_refresh_80 (Or.inl hk37i) ?_
          refine tn_iload_n dX10_refresh_81 rfl 0 rfl ?_
          refine tn_icmp_ge (tgt := 99) dX10_refresh_82 (by decide) ⟨by omega, by omega⟩ ⟨by omega, by omega⟩ (fun h61 => ?_) (fun h61 => ?_)
          · refine tn_aload_n dX10_refresh_99 rfl 1 rfl ?_
            refine tn_aload_n dX10_refresh_100 rfl 1 rfl ?_
            refine tn_getR (ci := 10) (i := 0) (n := 88) (x := xq2) dX10_refresh_101 rfl lay_10 (by decide) fl10_11 ha rfl rfl (rc_o (by decide) (hx3)) ?_
            refine tn_iload_n dX10_refresh_104 rfl 2 rfl ?_
            refine tn_aaldM (z := r) (x := xq36) dX10_refresh_105 hk4 (by omega) (by omega) (by omega) (rc_o (by decide) (hx35)) ?_
            refine tn_putV (ci := 10) (i := 4) (n := 92) (r := true) (v := (xq36 : Int)) tyX10 tyX10_ok nmX10 dX10_refresh_106 rfl lay_10 (by decide) fl10_61 rfl (tyX10_ok 4 (by decide)) (vl_ref rfl).symm rfl rfl ha rfl rfl ?_
            have chm : CHN T [(92, a), (93, a), (94, a), (900, r.toNat)] [xq36] [] σ (sA 92 a ((xq36 : Int)) (sA 93 a (v27) σ)) := ((CHN.rfl.fld (by simp) (by decide)).fld (by simp) (by decide))
            have tn9 : (∀ f, f ∈ AF6 → xq36 ≠ adN σ f c) ∧ xq36 ≠ xb ∧ xq36 ≠ xs ∧ xq36 ≠ xf := hra.2 xq36 hx35
            have csm : CSM σ (sA 92 a ((xq36 : Int)) (sA 93 a (v27) σ)) c := CSM.of chm (fun p hp => Or.inr (Or.inr (by simp only [List.mem_cons, List.not_mem_nil, or_false] at hp; rcases hp with rfl | rfl | rfl | rfl <;> simp))) (fun f hf q => tn9.1 f hf (List.mem_singleton.mp q).symm) (fun f hf => by have z := af9 f hf; omega)
            have rf9 : (sA 92 a ((xq36 : Int)) (sA 93 a (v27) σ)).2.1 (1000 + xf) = σ.2.1 (1000 + xf) := CHN.r chm (by omega) (fun q => tn9.2.2.2 (List.mem_singleton.mp q).symm)
            have ez9 : z33 = (σ.2.1 6 c + 1) * v27 := by rw [ez32]; omega
            exact tn_sub [1, 2, 3, 0] rfl (Tn.mono (k_X10_refresh_t9 d (T := T) (σ := (sA 92 a ((xq36 : Int)) (sA 93 a (v27) σ))) (a := a) (r := r) (c := c) (z := z33) (x := adN σ 5 c) (n := σ.2.1 6 c) (W := cdW σ c) (xh := adN σ 15 c) (Rh := rwF σ 15 c) (P := σ.2.1 8 c) (Nm := σ.2.1 7 c) (xn := adN σ 14 c) (Rn := rwF σ 14 c) (xb := xb) (B := (sA 92 a ((xq36 : Int)) (sA 93 a (v27) σ)).2.1 (1000 + xb)) (xs := xs) (xt := xq36) (xf := xf) (Rf := σ.2.1 (1000 + xf)) (wd := v27) (Fq := σ.2.1 10 c) ha h_r h_c t_c (by omega) ((hw.put (by decide) (by decide) (fo_93 (by omega))).put (by decide) (by decide) (fo_92 (Or.inr ⟨_, rfl, hk37, by omega, by omega⟩))) ((csm.1 5 (by decide) (by decide)).trans (ad_ex (wf_5 hw oc9)).1) (csm.1 6 (by decide) (by decide)) csm.w2 ((csm.1 15 (by decide) (by decide)).trans (ad_ex (Q := fun x => AR T x 1 144 144) (wf_15 hw oc9)).1) (csm.2 15 (by decide)) (csm.1 8 (by decide) (by decide)) (csm.1 7 (by decide) (by decide)) ((csm.1 14 (by decide) (by decide)).trans (ad_ex (Q := fun x => AR T x 11 12 12) (wf_14 hw oc9)).1) (csm.2 14 (by decide)) (rc_o (by decide) (rc_o (by decide) (hxb))) rfl (rc_o (by decide) (rc_o (by decide) (hxs))) (ra_eq) (rc_o (by decide) (rc_o (by decide) (hxf))) rf9 (rc_o (by decide) (ra_eq)) hrt.1.2.2.2.2.2 (rfa_ne hra.1 (tn9.1 5 (by decide)) (tn9.1 15 (by decide)) (tn9.1 14 (by decide)) tn9.2) (by rw [wd28]; exact hrt) (by omega) ⟨ez9, by omega, by omega⟩) (fun ro9 T9 σ9 h9 => by
              obtain ⟨q0, q1, q2, q3, q4, q5, q6⟩ := h9
              subst q1
              exact ⟨q0, q2, (((FrC.rfl.put (by decide) (by decide)).put (by decide) (by decide)).trans (FrC.sub q3 (by decide))), Or.inr ⟨⟨by omega, by omega⟩, xq36, Or.inl hx35, (q4.1 900 r (by decide) (fun p hp e => by rw [List.mem_singleton.mp hp] at e; exact absurd e (by simp))).trans (rc_o (by decide) (rc_o (by decide) (hx35))), ((CHN.rfl.fld (by simp) (by decide)).fld (by simp) (by decide)).trans (CHN.of q4 (by simp) (fun z q => Or.inl (by revert q; simp; try omega)) (by simp)), q6, (by unfold TKC; rw [← wd28]; exact q5), (by rw [← wd28, ← ez9]; omega)⟩⟩))
          · refine tn_aload_n dX10_refresh_85 rfl 1 rfl ?_
            refine tn_getR (ci := 10) (i := 0) (n := 88) (x := xq2) dX10_refresh_86 rfl lay_10 (by decide) fl10_11 ha rfl rfl (rc_o (by decide) (hx3)) ?_
            refine tn_iload_n dX10_refresh_89 rfl 2 rfl ?_
            refine tn_iload_n dX10_refresh_90 rfl 0 rfl ?_
            refine tn_iload_n dX10_refresh_91 rfl 0 rfl ?_
            refine tn_bipush dX10_refresh_92 (by decide) ?_
            refine tn_idivX dX10_refresh_94 (by decide) ?_
            obtain ⟨z62, g63, g63e⟩ := div8 (x := z33) (by omega) (by omega)
            rw [g63e]
            refine tn_iadd dX10_refresh_95 ?_
            obtain ⟨N64, N64e⟩ : ∃ N : Nat, z33 + z62 = (N : Int) := ⟨(z33 + z62).toNat, by omega⟩
            have ol77 : tLen T (sA 93 a (v27) σ) (r) = (T xq36).2 := tLen_at (rc_o (by decide) (hx35))
            refine tn_newI (N := N64) (k := 1) dX10_refresh_96 arC_int (Or.inl rfl) N64e (by omega) (fun xq65 hx66 => ?_)
            have w71 := WT.tab (T := T) (σ := (sA 93 a (v27) σ)) (hw.put (by decide) (by decide) (fo_93 (by omega))) hx66 (r := r) ⟨by omega, by omega⟩ (N := N64) (by omega) (by omega) (by omega) (by omega)
            have gt72 : GT T (tT T xq65 1 N64) := fun b p _ => tT_gt hx66 b p
            have l75 : (tT T xq65 1 N64 xq65) = (1, N64) := tT_eq
            have F73 : FrC T [92, 93, 94, 900] σ (sA 900 (r) (xq65 : Int) (rowS (1000 + xq65) (fun _ => 0) (gh N64 (sA 93 a (v27) σ)))) := FrC.put9 (FrC.row (FrC.gh (FrC.rfl.put (by decide) (by decide))) (hk_no (by unfold NH HT; omega))) (by decide)
            have C78 : CHN T [(92, a), (93, a), (94, a), (900, (r).toNat)] [xq65] [] σ (sA 900 (r) (xq65 : Int) (rowS (1000 + xq65) (fun _ => 0) (gh N64 (sA 93 a (v27) σ)))) := CHN.fld9 (CHN.row (CHN.gh (CHN.rfl.fld (by simp) (by decide))) (Or.inl (by simp))) (by omega) (by simp)
            have q79 : (sA 900 (r) (xq65 : Int) (rowS (1000 + xq65) (fun _ => 0) (gh N64 (sA 93 a (v27) σ)))).2.1 93 a = v27 := (congrFun (show (sA 900 (r) (xq65 : Int) (rowS (1000 + xq65) (fun _ => 0) (gh N64 (sA 93 a (v27) σ)))).2.1 93 = ((sA 93 a (v27) σ)).2.1 93 by rw [sA_k (by decide), rowS_ne (by omega)]; rfl) _).trans (ra_eq)
            have q74 : (sA 900 (r) (xq65 : Int) (rowS (1000 + xq65) (fun _ => 0) (gh N64 (sA 93 a (v27) σ)))).2.1 900 (r) = (xq65 : Int) := ra_eq
            have ix76 : IA (tT T xq65 1 N64) xq65 := by unfold IA; rw [l75]; exact Or.inl rfl
            refine tn_aastM (z := r) (v := xq65) (fun b q => (w71).2.2.2.2.1.1 b xq2 q (gt72.kk hk4 (by decide) (by decide))) dX10_refresh_98 (gt72.kk hk4 (by decide) (by decide)) ix76 (by omega) (by rw [gt72.lenK hk4 (by decide) (by decide)]; omega) (by rw [gt72.lenK hk4 (by decide) (by decide)]; omega) ?_
            generalize hT69 : tT T xq65 1 N64 = T67 at w71 gt72 l75 ix76 ⊢
            generalize h70 : (sA 900 (r) (xq65 : Int) (rowS (1000 + xq65) (fun _ => 0) (gh N64 (sA 93 a (v27) σ)))) = σ68 at w71 F73 q74 C78 q79 ⊢
            replace ha : OB T67 a 10 := gt72.ob ha
            replace t_c : (T67 c).1 = 50 := gt72.kk t_c (by decide) (by decide)
            replace h_c : OB T67 c 1 := gt72.ob h_c
            have l75k : (T67 xq65).1 = 1 := by rw [l75]
            have l75n : (T67 xq65).2 = N64 := by rw [l75]
            show Tn _ _ 99 T67 σ68 [(3, .int (iI z33)), (0, .ref a), (1, .int (iI r)), (2, .ref c)] [] _
            refine tn_aload_n dX10_refresh_99 rfl 1 rfl ?_
            refine tn_aload_n dX10_refresh_100 rfl 1 rfl ?_
            obtain ⟨xq80, hx81, hk82, hl83⟩ : ∃ x : Nat, σ68.2.1 88 a = (x : Int) ∧ AR T67 x 7 6 6 := wf_88 w71 ha
            refine tn_getR (ci := 10) (i := 0) (n := 88) (x := xq80) dX10_refresh_101 rfl lay_10 (by decide) fl10_11 ha rfl rfl (hx81) ?_
            refine tn_iload_n dX10_refresh_104 rfl 2 rfl ?_
            refine tn_aaldM (z := r) (x := xq65) dX10_refresh_105 hk82 (by omega) (by omega) (by omega) (q74) ?_
            refine tn_putV (ci := 10) (i := 4) (n := 92) (r := true) (v := (xq65 : Int)) tyX10 tyX10_ok nmX10 dX10_refresh_106 rfl lay_10 (by decide) fl10_61 rfl (tyX10_ok 4 (by decide)) (vl_ref rfl).symm rfl rfl ha rfl rfl ?_
            have chm : CHN T [(92, a), (93, a), (94, a), (900, r.toNat)] [xq65] [] σ (sA 92 a ((xq65 : Int)) σ68) := ((CHN.rfl.trans (CHN.sub C78 (by simp) (by simp) (by simp))).fld (by simp) (by decide))
            have tn9 : (∀ f, f ∈ AF6 → xq65 ≠ adN σ f c) ∧ xq65 ≠ xb ∧ xq65 ≠ xs ∧ xq65 ≠ xf := ⟨fun f hf e => by have z := af9 f hf; rw [← e] at z; omega, fun e => by rw [← e] at tb9; omega, fun e => by rw [← e] at ts9; omega, fun e => by rw [← e] at tf9; omega⟩
            have csm : CSM σ (sA 92 a ((xq65 : Int)) σ68) c := CSM.of chm (fun p hp => Or.inr (Or.inr (by simp only [List.mem_cons, List.not_mem_nil, or_false] at hp; rcases hp with rfl | rfl | rfl | rfl <;> simp))) (fun f hf q => tn9.1 f hf (List.mem_singleton.mp q).symm) (fun f hf => by have z := af9 f hf; omega)
            have rf9 : (sA 92 a ((xq65 : Int)) σ68).2.1 (1000 + xf) = σ.2.1 (1000 + xf) := CHN.r chm (by omega) (fun q => tn9.2.2.2 (List.mem_singleton.mp q).symm)
            have ez9 : z33 = (σ.2.1 6 c + 1) * v27 := by rw [ez32]; omega
            exact tn_sub [1, 2, 3, 0] rfl (Tn.mono (k_X10_refresh_t9 d (T := T67) (σ := (sA 92 a ((xq65 : Int)) σ68)) (a := a) (r := r) (c := c) (z := z33) (x := adN σ 5 c) (n := σ.2.1 6 c) (W := cdW σ c) (xh := adN σ 15 c) (Rh := rwF σ 15 c) (P := σ.2.1 8 c) (Nm := σ.2.1 7 c) (xn := adN σ 14 c) (Rn := rwF σ 14 c) (xb := xb) (B := (sA 92 a ((xq65 : Int)) σ68).2.1 (1000 + xb)) (xs := xs) (xt := xq65) (xf := xf) (Rf := σ.2.1 (1000 + xf)) (wd := v27) (Fq := σ.2.1 10 c) ha h_r h_c t_c (by omega) (w71.put (by decide) (by decide) (fo_92 (Or.inr ⟨_, rfl, l75k, by omega, by omega⟩))) ((csm.1 5 (by decide) (by decide)).trans (ad_ex (wf_5 hw oc9)).1) (csm.1 6 (by decide) (by decide)) csm.w2 ((csm.1 15 (by decide) (by decide)).trans (ad_ex (Q := fun x => AR T x 1 144 144) (wf_15 hw oc9)).1) (csm.2 15 (by decide)) (csm.1 8 (by decide) (by decide)) (csm.1 7 (by decide) (by decide)) ((csm.1 14 (by decide) (by decide)).trans (ad_ex (Q := fun x => AR T x 11 12 12) (wf_14 hw oc9)).1) (csm.2 14 (by decide)) (rc_o (by decide) (rc_F F73 (Or.inl (by decide)) (by decide) (hxb))) rfl (rc_o (by decide) (rc_F F73 (Or.inl (by decide)) (by decide) (hxs))) (ra_eq) (rc_o (by decide) (rc_F F73 (Or.inl (by decide)) (by decide) (hxf))) rf9 (rc_o (by decide) (q79)) hrt.1.2.2.2.2.2 (rfa_ne hra.1 (tn9.1 5 (by decide)) (tn9.1 15 (by decide)) (tn9.1 14 (by decide)) tn9.2) (by rw [wd28]; exact hrt) (by omega) ⟨ez9, by omega, by omega⟩) (fun ro9 T9 σ9 h9 => by
              obtain ⟨q0, q1, q2, q3, q4, q5, q6⟩ := h9
              subst q1
              exact ⟨q0, q2, (((FrC.rfl.trans (FrC.sub F73 (by decide))).put (by decide) (by decide)).trans (FrC.sub (FrC.old q3 gt72) (by decide))), Or.inr ⟨⟨by omega, by omega⟩, xq65, Or.inr (by have q9 := hx66; first | exact q9 | omega | (rw [q9])), (q4.1 900 r (by decide) (fun p hp e => by rw [List.mem_singleton.mp hp] at e; exact absurd e (by simp))).trans (rc_o (by decide) (q74)), ((CHN.rfl.trans (CHN.sub C78 (by simp) (by simp) (by simp))).fld (by simp) (by decide)).trans (CHN.of q4 (by simp) (fun z q => Or.inl (by revert q; simp; try omega)) (by simp)), q6, (by unfold TKC; rw [← wd28]; exact q5), (by rw [← wd28, ← ez9]; omega)⟩⟩))
      · exact tn_vret rfl dX10_refresh_35 ⟨rfl, hw, FrC.rfl, Or.inl ⟨fun q9 => by obtain ⟨q1, q2⟩ := q9; omega, rfl, rfl⟩⟩
end
