section
set_option maxHeartbeats 1000000 in
set_option maxRecDepth 20000 in
theorem l_X10_comeTo_t_15 (d : Nat) {T : CT} {σ0 : MS} {a : Nat} {c2 : Int} {R0 : Int → Int} {c0 : Int} {n : Int} {xt : Nat} {wd : Int} {xs : Nat} {S : Int → Int} {post : Option Value → CT → MS → Prop} (h_a : OB T a 10) (r_c2 : 0 ≤ c2 ∧ c2 ≤ 200) (hw0 : WT T σ0) (hl : 1 ≤ wd ∧ wd ≤ 145 ∧ n ≤ 200) (hr : 0 ≤ c2 * wd ∧ c2 * wd + wd ≤ ((T xt).2 : Int)) (hxt : σ0.2.1 92 a = (xt : Int)) (hwd : σ0.2.1 93 a = wd) (hxs : σ0.2.1 91 a = (xs : Int)) (hS : σ0.2.1 (1000 + xs) = S) (hne : xs ≠ xt) (hx_100 : ∀ (i3 : Int) (σ : MS) , (WT T σ) → (FrC T [94] σ0 σ) → (0 ≤ i3 ∧ i3 ≤ 145) → (CHX [(94, a)] [xt] [] σ0 σ) → (True) → (i3 ≤ wd) → (CM2 R0 (σ.2.1 (1000 + xt)) S (c2 * wd) wd c0 (σ.2.1 94 a)) → Tn (d + 2) m_X10_comeTo 100 T σ [(0, .ref a), (2, .int (iI c2)), (3, .int (iI i3))] [] post) : ∀ (nq9 : Nat) (i3 : Int) (σ : MS) , (WT T σ) → (FrC T [94] σ0 σ) → (0 ≤ i3 ∧ i3 ≤ 145) → (CHX [(94, a)] [xt] [] σ0 σ) → (CM2 R0 (σ.2.1 (1000 + xt)) S (c2 * wd) i3 c0 (σ.2.1 94 a)) → (i3 ≤ wd) → (2147483700 - i3).toNat = nq9 → Tn (d + 2) m_X10_comeTo 15 T σ [(0, .ref a), (2, .int (iI c2)), (3, .int (iI i3))] [] post := by
  intro nq9
  induction nq9 using Nat.strongRecOn with
  | _ nq9 ih =>
    intro i3 σ hw hF r_i3 hC hA h3 hm
    refine tn_iload_n dX10_comeTo_15 rfl 2 rfl ?_
    refine tn_aload_n dX10_comeTo_16 rfl 0 rfl ?_
    refine tn_getI (ci := 10) (i := 5) (n := 93) (t := σ0.2.1 93 a) dX10_comeTo_17 rfl lay_10 (by decide) fl10_50 h_a rfl rfl (rc_F hF (Or.inl (by decide)) (by decide) (rfl)) ?_
    have g1 : ((0 : Int) ≤ σ0.2.1 93 a ∧ σ0.2.1 93 a ≤ 145) := wf_93 hw0 h_a
    refine tn_icmp_ge (tgt := 100) dX10_comeTo_20 (by decide) ⟨by omega, by omega⟩ ⟨by omega, by omega⟩ (fun h2 => ?_) (fun h2 => ?_)
    · exact tn_sub [0, 1, 2] rfl (hx_100 (i3) σ hw (FrC.rfl.trans (FrC.sub hF (by decide))) (by omega) hC True.intro (by omega) (by have e : i3 = wd := (by omega); rw [e] at hA; exact hA))
    · refine tn_aload_n dX10_comeTo_23 rfl 0 rfl ?_
      obtain ⟨hk5, hl6⟩ : AR T xt 1 0 32788 := ar_of ((wf_92 hw0 h_a).resolve_left (by omega)) hxt
      have hk5i : IA T xt := by unfold IA; omega
      refine tn_getR (ci := 10) (i := 4) (n := 92) (x := xt) dX10_comeTo_24 rfl lay_10 (by decide) fl10_61 h_a rfl rfl (rc_F hF (Or.inl (by decide)) (by decide) (hxt)) ?_
      refine tn_iload_n dX10_comeTo_27 rfl 1 rfl ?_
      refine tn_aload_n dX10_comeTo_28 rfl 0 rfl ?_
      refine tn_getI (ci := 10) (i := 5) (n := 93) (t := σ0.2.1 93 a) dX10_comeTo_29 rfl lay_10 (by decide) fl10_50 h_a rfl rfl (rc_F hF (Or.inl (by decide)) (by decide) (rfl)) ?_
      refine tn_imul dX10_comeTo_32 ?_
      have g8 : 0 ≤ c2 * (σ0.2.1 93 a) ∧ c2 * (σ0.2.1 93 a) ≤ 29000 := mul_rng (b := 200) (d := 145) (by omega) (by omega) (by omega) (by omega) (by decide) (by decide)
      generalize ez9 : c2 * (σ0.2.1 93 a) = z7 at g8 ⊢
      refine tn_iload_n dX10_comeTo_33 rfl 2 rfl ?_
      refine tn_iadd dX10_comeTo_34 ?_
      refine tn_callSN (M := m_X10_comeTo) (pc := 35) (ix := 40) (M' := m_X11_at) (As := [.ref xt, .int (iI (z7 + i3))]) (rest := []) dX10_comeTo_35 ok_X11_at stt_X11_at nl10_40 np_X11_at rfl (Nat.le_of_ble_eq_true rfl) (Nat.le_of_ble_eq_true rfl) rfl (k_X11_at_x (d) (T := T) (σ := σ) (x := xt) (i := z7 + i3) (R := σ.2.1 (1000 + xt)) hk5i (by omega) (by omega) hw rfl) (fun r10 T12 σ11 gt13 hp => ?_)
      obtain ⟨v17, rfl, rfl, rfl, f14, f15, f16⟩ := hp
      clear gt13
      clear f15
      have f16u := f16
      unfold ATQ at f16u
      show Tn _ _ 38 T σ [(0, .ref a), (2, .int (iI c2)), (3, .int (iI i3))] [.int (iI v17)] _
      refine tn_istore (L' := [(4, .int (iI v17)), (0, .ref a), (2, .int (iI c2)), (3, .int (iI i3))]) dX10_comeTo_38 (by decide) rfl ?_
      refine tn_aload_n dX10_comeTo_40 rfl 1 rfl ?_
      obtain ⟨hk20, hl21⟩ : AR T xs 1 145 145 := ar_of (wf_91 hw0 h_a) hxs
      have hk20i : IA T xs := by unfold IA; omega
      refine tn_getR (ci := 10) (i := 3) (n := 91) (x := xs) dX10_comeTo_41 rfl lay_10 (by decide) fl10_23 h_a rfl rfl (rc_F hF (Or.inl (by decide)) (by decide) (hxs)) ?_
      refine tn_iload_n dX10_comeTo_44 rfl 3 rfl ?_
      have cv22 : σ.2.1 (1000 + xs) = S := (CHX.r hC (by first | (simp; done) | (simp only [List.mem_cons, List.not_mem_nil, or_false, not_or]; first | omega | ((repeat' apply And.intro) <;> first | assumption | (apply Ne.symm; assumption))))).trans (hS)
      refine tn_callSN (M := m_X10_comeTo) (pc := 45) (ix := 40) (M' := m_X11_at) (As := [.ref xs, .int (iI i3)]) (rest := []) dX10_comeTo_45 ok_X11_at stt_X11_at nl10_40 np_X11_at rfl (Nat.le_of_ble_eq_true rfl) (Nat.le_of_ble_eq_true rfl) rfl (k_X11_at_x (d) (T := T) (σ := σ) (x := xs) (i := i3) (R := S) hk20i (by omega) (by omega) hw cv22) (fun r23 T25 σ24 gt26 hp => ?_)
      obtain ⟨v30, rfl, rfl, rfl, f27, f28, f29⟩ := hp
      clear gt26
      clear f28
      have f29u := f29
      unfold ATQ at f29u
      show Tn _ _ 48 T σ [(4, .int (iI v17)), (0, .ref a), (2, .int (iI c2)), (3, .int (iI i3))] [.int (iI v30)] _
      refine tn_istore (L' := [(5, .int (iI v30)), (4, .int (iI v17)), (0, .ref a), (2, .int (iI c2)), (3, .int (iI i3))]) dX10_comeTo_48 (by decide) rfl ?_
      refine tn_iload dX10_comeTo_50 1 rfl ?_
      refine tn_iload dX10_comeTo_52 0 rfl ?_
      refine tn_icmp_eq (tgt := 94) dX10_comeTo_54 (by decide) ⟨by omega, by omega⟩ ⟨by omega, by omega⟩ (fun h31 => ?_) (fun h31 => ?_)
      · refine tn_iinc (q0 := 4) (L' := [(3, .int (iI (i3 + 1))), (5, .int (iI v30)), (4, .int (iI v17)), (0, .ref a), (2, .int (iI c2))]) dX10_comeTo_94 rfl (by decide) rfl ?_
        refine tn_goto (tgt := 15) dX10_comeTo_97 (by decide) ?_
        exact tn_sub [3, 4, 0] rfl (ih _ (by omega) (i3 + 1) σ hw (FrC.rfl.trans (FrC.sub hF (by decide))) (by omega) hC (by have e0 : c2 * wd = z7 := (by rw [← hwd]; exact ez9); have z1 := f16; have z2 := f29; unfold ATQ at z1 z2; rw [← e0] at z1; rcases z1 with z1 | z1; rcases z2 with z2 | z2; exact hA.skip (by omega) z1.2 z2.2 (by omega); exfalso; omega; exfalso; omega) (by omega) rfl)
      · refine tn_iload dX10_comeTo_57 1 rfl ?_
        refine tn_iconst dX10_comeTo_59 ?_
        refine tn_icmp_eq (tgt := 94) dX10_comeTo_60 (by decide) ⟨by omega, by omega⟩ ⟨by decide, by decide⟩ (fun h32 => ?_) (fun h32 => ?_)
        · refine tn_iinc (q0 := 4) (L' := [(3, .int (iI (i3 + 1))), (5, .int (iI v30)), (4, .int (iI v17)), (0, .ref a), (2, .int (iI c2))]) dX10_comeTo_94 rfl (by decide) rfl ?_
          refine tn_goto (tgt := 15) dX10_comeTo_97 (by decide) ?_
          exact tn_sub [3, 4, 0] rfl (ih _ (by omega) (i3 + 1) σ hw (FrC.rfl.trans (FrC.sub hF (by decide))) (by omega) hC (by have e0 : c2 * wd = z7 := (by rw [← hwd]; exact ez9); have z1 := f16; have z2 := f29; unfold ATQ at z1 z2; rw [← e0] at z1; rcases z1 with z1 | z1; rcases z2 with z2 | z2; exact hA.skip (by omega) z1.2 z2.2 (by omega); exfalso; omega; exfalso; omega) (by omega) rfl)
        · refine tn_aload_n dX10_comeTo_63 rfl 2 rfl ?_
          refine tn_getR (ci := 10) (i := 4) (n := 92) (x := xt) dX10_comeTo_64 rfl lay_10 (by decide) fl10_61 h_a rfl rfl (rc_F hF (Or.inl (by decide)) (by decide) (hxt)) ?_
          refine tn_iload_n dX10_comeTo_67 rfl 3 rfl ?_
          refine tn_aload_n dX10_comeTo_68 rfl 2 rfl ?_
          refine tn_getI (ci := 10) (i := 5) (n := 93) (t := σ0.2.1 93 a) dX10_comeTo_69 rfl lay_10 (by decide) fl10_50 h_a rfl rfl (rc_F hF (Or.inl (by decide)) (by decide) (rfl)) ?_
          refine tn_imul dX10_comeTo_72 ?_
          have g34 : 0 ≤ c2 * (σ0.2.1 93 a) ∧ c2 * (σ0.2.1 93 a) ≤ 29000 := mul_rng (b := 200) (d := 145) (by omega) (by omega) (by omega) (by omega) (by decide) (by decide)
          generalize ez35 : c2 * (σ0.2.1 93 a) = z33 at g34 ⊢
          refine tn_iload_n dX10_comeTo_73 rfl 4 rfl ?_
          refine tn_iadd dX10_comeTo_74 ?_
          refine tn_iload dX10_comeTo_75 1 rfl ?_
          refine tn_if_ne (tgt := 85) dX10_comeTo_77 (by decide) ⟨by omega, by omega⟩ (fun h36 => ?_) (fun h36 => ?_)
          · refine tn_iconst dX10_comeTo_85 ?_
            refine tn_callSN (M := m_X10_comeTo) (pc := 86) (ix := 26) (M' := m_X11_put) (As := [.ref xt, .int (iI (z33 + i3)), .int (iI 4)]) (rest := []) dX10_comeTo_86 ok_X11_put stt_X11_put nl10_26 np_X11_put rfl (Nat.le_of_ble_eq_true rfl) (Nat.le_of_ble_eq_true rfl) rfl (k_X11_put_x (d) (T := T) (σ := σ) (x := xt) (i := z33 + i3) (y := 4) hk5i (by omega) (by omega) (by decide) hw (nh_k hk5 (by unfold HT; omega)) (vok_1 (by have q9 := hk5; omega) (by omega))) (fun r37 T39 σ38 gt40 hp => ?_)
            obtain ⟨rfl, rfl, w44, F45, f41, f42⟩ := hp
            clear gt40
            show Tn _ _ 89 T σ38 [(5, .int (iI v30)), (4, .int (iI v17)), (0, .ref a), (2, .int (iI c2)), (3, .int (iI i3))] [] _
            refine tn_aload_n dX10_comeTo_89 rfl 2 rfl ?_
            refine tn_iconst dX10_comeTo_90 ?_
            refine tn_putV (ci := 10) (i := 6) (n := 94) (r := false) (v := 1) tyX10 tyX10_ok nmX10 dX10_comeTo_91 rfl lay_10 (by decide) fl10_78 rfl (tyX10_ok 6 (by decide)) rfl rfl rfl h_a rfl rfl ?_
            refine tn_iinc (q0 := 4) (L' := [(3, .int (iI (i3 + 1))), (5, .int (iI v30)), (4, .int (iI v17)), (0, .ref a), (2, .int (iI c2))]) dX10_comeTo_94 rfl (by decide) rfl ?_
            refine tn_goto (tgt := 15) dX10_comeTo_97 (by decide) ?_
            exact tn_sub [3, 4, 0] rfl (ih _ (by omega) (i3 + 1) (sA 94 a (1) σ38) (w44.put (by decide) (by decide) (fo_94 (by omega))) (((FrC.rfl.trans (FrC.sub hF (by decide))).trans (FrC.sub F45 (by decide))).put (by decide) (by decide)) (by omega) ((hC.trans (CHX.sub f41 (by simp) (by simp) (by simp))).fld (by simp) (by decide)) (by rw [show ((sA 94 a (1) σ38)).2.1 94 a = 1 from ra_eq]; have e0 : c2 * wd = z7 := (by rw [← hwd]; exact ez9); have e1 : c2 * wd = z33 := (by rw [← hwd]; exact ez35); have z1 := f16; have z2 := f29; unfold ATQ at z1 z2; rw [← e0] at z1; rcases z1 with z1 | z1; rcases z2 with z2 | z2; exact hA.put (by omega) z1.2 z2.2 (by omega) (by omega) (by omega) ((rv_fld (by decide)).trans (ptf_row f42 (by omega))); exfalso; omega; exfalso; omega) (by omega) rfl)
          · refine tn_iload dX10_comeTo_80 0 rfl ?_
            refine tn_goto (tgt := 86) dX10_comeTo_82 (by decide) ?_
            refine tn_callSN (M := m_X10_comeTo) (pc := 86) (ix := 26) (M' := m_X11_put) (As := [.ref xt, .int (iI (z33 + i3)), .int (iI v30)]) (rest := []) dX10_comeTo_86 ok_X11_put stt_X11_put nl10_26 np_X11_put rfl (Nat.le_of_ble_eq_true rfl) (Nat.le_of_ble_eq_true rfl) rfl (k_X11_put_x (d) (T := T) (σ := σ) (x := xt) (i := z33 + i3) (y := v30) hk5i (by omega) (by omega) (by omega) hw (nh_k hk5 (by unfold HT; omega)) (vok_1 (by have q9 := hk5; omega) (by omega))) (fun r46 T48 σ47 gt49 hp => ?_)
            obtain ⟨rfl, rfl, w53, F54, f50, f51⟩ := hp
            clear gt49
            show Tn _ _ 89 T σ47 [(5, .int (iI v30)), (4, .int (iI v17)), (0, .ref a), (2, .int (iI c2)), (3, .int (iI i3))] [] _
            refine tn_aload_n dX10_comeTo_89 rfl 2 rfl ?_
            refine tn_iconst dX10_comeTo_90 ?_
            refine tn_putV (ci := 10) (i := 6) (n := 94) (r := false) (v := 1) tyX10 tyX10_ok nmX10 dX10_comeTo_91 rfl lay_10 (by decide) fl10_78 rfl (tyX10_ok 6 (by decide)) rfl rfl rfl h_a rfl rfl ?_
            refine tn_iinc (q0 := 4) (L' := [(3, .int (iI (i3 + 1))), (5, .int (iI v30)), (4, .int (iI v17)), (0, .ref a), (2, .int (iI c2))]) dX10_comeTo_94 rfl (by decide) rfl ?_
            refine tn_goto (tgt := 15) dX10_comeTo_97 (by decide) ?_
            exact tn_sub [3, 4, 0] rfl (ih _ (by omega) (i3 + 1) (sA 94 a (1) σ47) (w53.put (by decide) (by decide) (fo_94 (by omega))) (((FrC.rfl.trans (FrC.sub hF (by decide))).trans (FrC.sub F54 (by decide))).put (by decide) (by decide)) (by omega) ((hC.trans (CHX.sub f50 (by simp) (by simp) (by simp))).fld (by simp) (by decide)) (by rw [show ((sA 94 a (1) σ47)).2.1 94 a = 1 from ra_eq]; have e0 : c2 * wd = z7 := (by rw [← hwd]; exact ez9); have e1 : c2 * wd = z33 := (by rw [← hwd]; exact ez35); have z1 := f16; have z2 := f29; unfold ATQ at z1 z2; rw [← e0] at z1; rcases z1 with z1 | z1; rcases z2 with z2 | z2; exact hA.put (by omega) z1.2 z2.2 (by omega) (by omega) (by omega) ((rv_fld (by decide)).trans (ptf_row f51 (by omega))); exfalso; omega; exfalso; omega) (by omega) rfl)
set_option maxHeartbeats 1000000 in
set_option maxRecDepth 20000 in
theorem k_X10_comeTo_t (d : Nat) {T : CT} {σ : MS} {a : Nat} {p1 : Nat} {p2 : Int} {n : Int} {xt : Nat} {wd : Int} {xs : Nat} {S : Int → Int} (ha : OB T a 10) (h_p1 : OB T p1 1) (t_p1 : (T p1).1 = 50) (h_p2 : -2147483648 ≤ p2 ∧ p2 ≤ 2147483647) (hw : WT T σ) (hn : σ.2.1 6 p1 = n) (hxt : σ.2.1 92 a = (xt : Int)) (hwd : σ.2.1 93 a = wd) (hxs : σ.2.1 91 a = (xs : Int)) (hS : σ.2.1 (1000 + xs) = S) (hne : xs ≠ xt) (hl : 1 ≤ wd ∧ wd ≤ 145 ∧ n ≤ 200) (hr : 0 ≤ p2 → p2 ≤ n → 0 ≤ p2 * wd ∧ p2 * wd + wd ≤ ((T xt).2 : Int)) : Tn (d + 2) m_X10_comeTo 0 T σ [(0, .ref a), (1, .ref p1), (2, .int (iI p2))] [] (fun ro T2 σ2 => ro = none ∧ T = T2 ∧ WT T2 σ2 ∧ FrC T [94] σ σ2 ∧ (CHX [(94, a)] [xt] [] σ σ2) ∧ (CMT n wd p2 (σ.2.1 (1000 + xt)) (σ2.2.1 (1000 + xt)) S (σ.2.1 94 a) (σ2.2.1 94 a))) := by
  refine tn_iload_n dX10_comeTo_0 rfl 2 rfl ?_
  refine tn_if_lt (tgt := 12) dX10_comeTo_1 (by decide) ⟨by omega, by omega⟩ (fun h1 => ?_) (fun h1 => ?_)
  · exact tn_vret rfl dX10_comeTo_12 ⟨rfl, rfl, hw, FrC.rfl, CHX.rfl, Or.inl ⟨by omega, rfl, rfl⟩⟩
  · refine tn_iload_n dX10_comeTo_4 rfl 2 rfl ?_
    refine tn_aload_n dX10_comeTo_5 rfl 1 rfl ?_
    refine tn_getI (ci := 1) (i := 1) (n := 6) (t := σ.2.1 6 p1) dX10_comeTo_6 rfl lay_1 (by decide) fl10_53 h_p1 rfl rfl (rfl) ?_
    have g2 : ((0 : Int) ≤ σ.2.1 6 p1 ∧ σ.2.1 6 p1 ≤ 5000) ∧ ((T p1).1 = 50 → σ.2.1 6 p1 ≤ 200) := wf_6 hw h_p1
    have g2x := g2.2
    replace g2 := g2.1
    have g2x := g2x t_p1
    refine tn_icmp_le (tgt := 13) dX10_comeTo_9 (by decide) ⟨by omega, by omega⟩ ⟨by omega, by omega⟩ (fun h3 => ?_) (fun h3 => ?_)
    · refine tn_iconst dX10_comeTo_13 ?_
      refine tn_istore_n (L' := [(3, .int (iI 0)), (0, .ref a), (1, .ref p1), (2, .int (iI p2))]) dX10_comeTo_14 rfl (by decide) rfl ?_
      refine tn_sub [1, 3, 0] rfl (l_X10_comeTo_t_15 (d) (T := T) (σ0 := σ) (a := a) (c2 := p2) (n := n) (xt := xt) (wd := wd) (xs := xs) (S := (S)) (R0 := (σ.2.1 (1000 + xt))) (c0 := (σ.2.1 94 a)) ha (by omega) hw (by omega) (hr (by omega) (by omega)) (hxt) (hwd) (hxs) hS hne (fun i34 σ5 w8 F9 r10 f11 f12 f13 f14 => ?_) _ (0) σ hw FrC.rfl (by omega) CHX.rfl CM2.z (by omega) rfl)
      show Tn _ _ 100 T σ5 [(0, .ref a), (2, .int (iI p2)), (3, .int (iI i34))] [] _
      exact tn_vret rfl dX10_comeTo_100 ⟨rfl, rfl, w8, (FrC.rfl.trans (FrC.sub F9 (by decide))), (CHX.rfl.trans (CHX.sub f11 (by simp) (by simp) (by simp))), Or.inr ⟨by omega, f14⟩⟩
    · exact tn_vret rfl dX10_comeTo_12 ⟨rfl, rfl, hw, FrC.rfl, CHX.rfl, Or.inl ⟨by omega, rfl, rfl⟩⟩
end
