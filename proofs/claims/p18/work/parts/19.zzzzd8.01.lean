section
set_option maxHeartbeats 6000000 in
set_option maxRecDepth 20000 in
theorem l_X10_goThrough_t_34 (d : Nat) {T : CT} {σ0 : MS} {a : Nat} {rx1 : Nat} {c2 : Int} {c3 : Int} {c4 : Int} {x : Nat} {n : Int} {W : Int → It} {xh : Nat} {Rh : Int → Int} {xn : Nat} {Rn : Int → Int} {xt : Nat} {R0 : Int → Int} {wd : Int} {xs : Nat} {xb : Nat} {B : Int → Int} {post : Option Value → CT → MS → Prop} (h_a : OB T a 10) (h_rx1 : OB T rx1 1) (t_rx1 : (T rx1).1 = 50) (r_c2 : 0 ≤ c2 ∧ c2 ≤ 199) (r_c3 : -2147483648 ≤ c3 ∧ c3 ≤ 2147483647) (r_c4 : -2147483648 ≤ c4 ∧ c4 ≤ 2147483647) (hw0 : WT T σ0) (hk : 0 ≤ c2 ∧ c2 < n) (hl : 1 ≤ wd ∧ wd ≤ 145 ∧ n ≤ 200) (hr : 0 ≤ c2 * wd ∧ c2 * wd + wd ≤ ((T xt).2 : Int)) (hx : σ0.2.1 5 rx1 = (x : Int)) (hn : σ0.2.1 6 rx1 = n) (hW : cW σ0 x n = W) (hxh : σ0.2.1 15 rx1 = (xh : Int)) (hRh : σ0.2.1 (1000 + xh) = Rh) (hxn : σ0.2.1 14 rx1 = (xn : Int)) (hRn : σ0.2.1 (1000 + xn) = Rn) (hxt : σ0.2.1 92 a = (xt : Int)) (hR0 : σ0.2.1 (1000 + xt) = R0) (hwd : σ0.2.1 93 a = wd) (hxs : σ0.2.1 91 a = (xs : Int)) (hxb : σ0.2.1 90 a = (xb : Int)) (hB : σ0.2.1 (1000 + xb) = B) (hN : n ≤ 200) (hne : xs ≠ xt ∧ x ≠ xs ∧ x ≠ xt ∧ xh ≠ xs ∧ xh ≠ xt ∧ xn ≠ xs ∧ xn ≠ xt ∧ xb ≠ xs ∧ xb ≠ xt) (hx_100 : ∀ (i5 : Int) (σ : MS) , (WT T σ) → (FrC T [] σ0 σ) → (0 ≤ i5 ∧ i5 ≤ 145) → (CHX [] [xs] [] σ0 σ) → (True) → (i5 ≤ wd) → (GT1 W n Rh (fun z => R0 (c2 * wd + z)) c4 wd (σ.2.1 (1000 + xs))) → Tn (d + 4) m_X10_goThrough 100 T σ [(0, .ref a), (1, .ref rx1), (2, .int (iI c2)), (3, .int (iI c3)), (4, .int (iI c4)), (5, .int (iI i5))] [] post) : ∀ (nq9 : Nat) (i5 : Int) (σ : MS) , (WT T σ) → (FrC T [] σ0 σ) → (0 ≤ i5 ∧ i5 ≤ 145) → (CHX [] [xs] [] σ0 σ) → (GT1 W n Rh (fun z => R0 (c2 * wd + z)) c4 i5 (σ.2.1 (1000 + xs))) → (i5 ≤ wd) → (2147483700 - i5).toNat = nq9 → Tn (d + 4) m_X10_goThrough 34 T σ [(0, .ref a), (1, .ref rx1), (2, .int (iI c2)), (3, .int (iI c3)), (4, .int (iI c4)), (5, .int (iI i5))] [] post := by
  intro nq9
  induction nq9 using Nat.strongRecOn with
  | _ nq9 ih =>
    intro i5 σ hw hF r_i5 hC hA h5 hm
    refine tn_iload dX10_goThrough_34 5 rfl ?_
    refine tn_aload_n dX10_goThrough_36 rfl 0 rfl ?_
    refine tn_getI (ci := 10) (i := 5) (n := 93) (t := σ0.2.1 93 a) dX10_goThrough_37 rfl lay_10 (by decide) fl10_50 h_a rfl rfl (rc_F hF (Or.inl (by decide)) (by decide) (rfl)) ?_
    have g1 : ((0 : Int) ≤ σ0.2.1 93 a ∧ σ0.2.1 93 a ≤ 145) := wf_93 hw0 h_a
    refine tn_icmp_ge (tgt := 100) dX10_goThrough_40 (by decide) ⟨by omega, by omega⟩ ⟨by omega, by omega⟩ (fun h2 => ?_) (fun h2 => ?_)
    · exact tn_sub [0, 1, 2, 3, 4, 5] rfl (hx_100 (i5) σ hw (FrC.rfl.trans (FrC.sub hF (by decide))) (by omega) hC True.intro (by omega) (by have e : i5 = wd := (by omega); rw [e] at hA; exact hA))
    · refine tn_aload_n dX10_goThrough_43 rfl 0 rfl ?_
      obtain ⟨hk5, hl6⟩ : AR T xt 1 0 32788 := ar_of ((wf_92 hw0 h_a).resolve_left (by omega)) hxt
      have hk5i : IA T xt := by unfold IA; omega
      refine tn_getR (ci := 10) (i := 4) (n := 92) (x := xt) dX10_goThrough_44 rfl lay_10 (by decide) fl10_61 h_a rfl rfl (rc_F hF (Or.inl (by decide)) (by decide) (hxt)) ?_
      refine tn_iload_n dX10_goThrough_47 rfl 2 rfl ?_
      refine tn_aload_n dX10_goThrough_48 rfl 0 rfl ?_
      refine tn_getI (ci := 10) (i := 5) (n := 93) (t := σ0.2.1 93 a) dX10_goThrough_49 rfl lay_10 (by decide) fl10_50 h_a rfl rfl (rc_F hF (Or.inl (by decide)) (by decide) (rfl)) ?_
      refine tn_imul dX10_goThrough_52 ?_
      have g8 : 0 ≤ c2 * (σ0.2.1 93 a) ∧ c2 * (σ0.2.1 93 a) ≤ 28855 := mul_rng (b := 199) (d := 145) (by omega) (by omega) (by omega) (by omega) (by decide) (by decide)
      generalize ez9 : c2 * (σ0.2.1 93 a) = z7 at g8 ⊢
      refine tn_iload dX10_goThrough_53 5 rfl ?_
      refine tn_iadd dX10_goThrough_55 ?_
      have cv10 : σ.2.1 (1000 + xt) = R0 := (CHX.r hC (by first | (simp; done) | (simp only [List.mem_cons, List.not_mem_nil, or_false, not_or]; first | omega | ((repeat' apply And.intro) <;> first | assumption | (apply Ne.symm; assumption))))).trans (hR0)
      refine tn_callSN (M := m_X10_goThrough) (pc := 56) (ix := 40) (M' := m_X11_at) (As := [.ref xt, .int (iI (z7 + i5))]) (rest := []) dX10_goThrough_56 ok_X11_at stt_X11_at nl10_40 np_X11_at rfl (Nat.le_of_ble_eq_true rfl) (Nat.le_of_ble_eq_true rfl) rfl (k_X11_at_x (d + 2) (T := T) (σ := σ) (x := xt) (i := z7 + i5) (R := R0) hk5i (by omega) (by omega) hw cv10) (fun r11 T13 σ12 gt14 hp => ?_)
      obtain ⟨v18, rfl, rfl, rfl, f15, f16, f17⟩ := hp
      clear gt14
      clear f16
      have f17u := f17
      unfold ATQ at f17u
      show Tn _ _ 59 T σ [(0, .ref a), (1, .ref rx1), (2, .int (iI c2)), (3, .int (iI c3)), (4, .int (iI c4)), (5, .int (iI i5))] [.int (iI v18)] _
      refine tn_istore (L' := [(6, .int (iI v18)), (0, .ref a), (1, .ref rx1), (2, .int (iI c2)), (3, .int (iI c3)), (4, .int (iI c4)), (5, .int (iI i5))]) dX10_goThrough_59 (by decide) rfl ?_
      refine tn_aload_n dX10_goThrough_61 rfl 1 rfl ?_
      obtain ⟨hk21, hl22⟩ : AR T xs 1 145 145 := ar_of (wf_91 hw0 h_a) hxs
      have hk21i : IA T xs := by unfold IA; omega
      refine tn_getR (ci := 10) (i := 3) (n := 91) (x := xs) dX10_goThrough_62 rfl lay_10 (by decide) fl10_23 h_a rfl rfl (rc_F hF (Or.inl (by decide)) (by decide) (hxs)) ?_
      refine tn_iload dX10_goThrough_65 6 rfl ?_
      refine tn_iload dX10_goThrough_67 5 rfl ?_
      refine tn_iconst dX10_goThrough_69 ?_
      refine tn_icmp_eq (tgt := 89) dX10_goThrough_70 (by decide) ⟨by omega, by omega⟩ ⟨by decide, by decide⟩ (fun h23 => ?_) (fun h23 => ?_)
      · refine tn_iload dX10_goThrough_89 0 rfl ?_
        refine tn_callSN (M := m_X10_goThrough) (pc := 91) (ix := 26) (M' := m_X11_put) (As := [.ref xs, .int (iI i5), .int (iI v18)]) (rest := []) dX10_goThrough_91 ok_X11_put stt_X11_put nl10_26 np_X11_put rfl (Nat.le_of_ble_eq_true rfl) (Nat.le_of_ble_eq_true rfl) rfl (k_X11_put_x (d + 2) (T := T) (σ := σ) (x := xs) (i := i5) (y := v18) hk21i (by omega) (by omega) (by omega) hw (nh_k hk21 (by unfold HT; omega)) (vok_1 (by have q9 := hk21; omega) (by omega))) (fun r24 T26 σ25 gt27 hp => ?_)
        obtain ⟨rfl, rfl, w31, F32, f28, f29⟩ := hp
        clear gt27
        show Tn _ _ 94 T σ25 [(6, .int (iI v18)), (0, .ref a), (1, .ref rx1), (2, .int (iI c2)), (3, .int (iI c3)), (4, .int (iI c4)), (5, .int (iI i5))] [] _
        refine tn_iinc (q0 := 6) (L' := [(5, .int (iI (i5 + 1))), (6, .int (iI v18)), (0, .ref a), (1, .ref rx1), (2, .int (iI c2)), (3, .int (iI c3)), (4, .int (iI c4))]) dX10_goThrough_94 rfl (by decide) rfl ?_
        refine tn_goto (tgt := 34) dX10_goThrough_97 (by decide) ?_
        exact tn_sub [2, 3, 4, 5, 6, 0] rfl (ih _ (by omega) (i5 + 1) σ25 w31 ((FrC.rfl.trans (FrC.sub hF (by decide))).trans (FrC.sub F32 (by decide))) (by omega) (hC.trans (CHX.sub f28 (by simp) (by simp) (by simp))) (hA.put (ptf_row f29 ⟨by omega, by omega⟩) (Or.inr ⟨fun q => by have q1 := q.1; omega, (by have e0 : c2 * wd = z7 := (by rw [← hwd]; exact ez9); have z := f17; unfold ATQ at z; rw [e0]; rcases z with z | z; exact z.2; exfalso; omega)⟩)) (by omega) rfl)
      · refine tn_aload_n dX10_goThrough_73 rfl 1 rfl ?_
        refine tn_aload_n dX10_goThrough_74 rfl 2 rfl ?_
        refine tn_iload dX10_goThrough_75 0 rfl ?_
        refine tn_iload dX10_goThrough_77 5 rfl ?_
        obtain ⟨hl36, hk35a, hk35b⟩ := cel_of (wf_5 hw0 h_rx1) hx
        have hk35 : (T x).1 = 1 := hk35a (by omega)
        clear hk35a hk35b
        have hk35i : IA T x := by unfold IA; omega
        have cv37 : cW σ x n = W := (cW_row (CHX.r hC (by first | (simp; done) | (simp only [List.mem_cons, List.not_mem_nil, or_false, not_or]; first | omega | ((repeat' apply And.intro) <;> first | assumption | (apply Ne.symm; assumption)))))).trans (hW)
        obtain ⟨hk40, hl41⟩ : AR T xh 1 144 144 := ar_of (wf_15 hw0 h_rx1) hxh
        have hk40i : IA T xh := by unfold IA; omega
        have cv42 : σ.2.1 (1000 + xh) = Rh := (CHX.r hC (by first | (simp; done) | (simp only [List.mem_cons, List.not_mem_nil, or_false, not_or]; first | omega | ((repeat' apply And.intro) <;> first | assumption | (apply Ne.symm; assumption))))).trans (hRh)
        refine tn_callV (M := m_X10_goThrough) (pc := 79) (ix := 100) (ci := 10) (M' := m_X10_leans) (As := [.ref rx1, .int (iI v18), .int (iI c4)]) (rest := [.int (iI i5), .ref xs]) dX10_goThrough_79 ok_X10_leans im_X10_leans se_X10_leans ml10_100 np_X10_leans rfl rfl h_a rfl (Nat.le_of_ble_eq_true rfl) (Nat.le_of_ble_eq_true rfl) rfl (k_X10_leans_t (d) (T := T) (σ := σ) (a := a) (p1 := rx1) (p2 := v18) (p3 := c4) (x := x) (n := n) (W := W) (xh := xh) (Rh := Rh) h_a h_rx1 t_rx1 (by omega) (by omega) hw (rc_F hF (Or.inl (by decide)) (by decide) (hx)) (rc_F hF (Or.inl (by decide)) (by decide) (hn)) cv37 (rc_F hF (Or.inl (by decide)) (by decide) (hxh)) cv42 (by omega)) (fun r43 T45 σ44 gt46 hp => ?_)
        obtain ⟨v49, rfl, rfl, rfl, f47, f48⟩ := hp
        clear gt46
        show Tn _ _ 82 T σ [(6, .int (iI v18)), (0, .ref a), (1, .ref rx1), (2, .int (iI c2)), (3, .int (iI c3)), (4, .int (iI c4)), (5, .int (iI i5))] [.int (iI v49), .int (iI i5), .ref xs] _
        refine tn_if_eq (tgt := 89) dX10_goThrough_82 (by decide) ⟨by omega, by omega⟩ (fun h50 => ?_) (fun h50 => ?_)
        · refine tn_iload dX10_goThrough_89 0 rfl ?_
          refine tn_callSN (M := m_X10_goThrough) (pc := 91) (ix := 26) (M' := m_X11_put) (As := [.ref xs, .int (iI i5), .int (iI v18)]) (rest := []) dX10_goThrough_91 ok_X11_put stt_X11_put nl10_26 np_X11_put rfl (Nat.le_of_ble_eq_true rfl) (Nat.le_of_ble_eq_true rfl) rfl (k_X11_put_x (d + 2) (T := T) (σ := σ) (x := xs) (i := i5) (y := v18) hk21i (by omega) (by omega) (by omega) hw (nh_k hk21 (by unfold HT; omega)) (vok_1 (by have q9 := hk21; omega) (by omega))) (fun r51 T53 σ52 gt54 hp => ?_)
          obtain ⟨rfl, rfl, w58, F59, f55, f56⟩ := hp
          clear gt54
          show Tn _ _ 94 T σ52 [(6, .int (iI v18)), (0, .ref a), (1, .ref rx1), (2, .int (iI c2)), (3, .int (iI c3)), (4, .int (iI c4)), (5, .int (iI i5))] [] _
          refine tn_iinc (q0 := 6) (L' := [(5, .int (iI (i5 + 1))), (6, .int (iI v18)), (0, .ref a), (1, .ref rx1), (2, .int (iI c2)), (3, .int (iI c3)), (4, .int (iI c4))]) dX10_goThrough_94 rfl (by decide) rfl ?_
          refine tn_goto (tgt := 34) dX10_goThrough_97 (by decide) ?_
          exact tn_sub [2, 3, 4, 5, 6, 0] rfl (ih _ (by omega) (i5 + 1) σ52 w58 ((FrC.rfl.trans (FrC.sub hF (by decide))).trans (FrC.sub F59 (by decide))) (by omega) (hC.trans (CHX.sub f55 (by simp) (by simp) (by simp))) (hA.put (ptf_row f56 ⟨by omega, by omega⟩) (Or.inr ⟨fun q => by have z := f48; have q2 := q.2; rw [← (show v18 = R0 (c2 * wd + i5) from (by have e0 : c2 * wd = z7 := (by rw [← hwd]; exact ez9); have z := f17; unfold ATQ at z; rw [e0]; rcases z with z | z; exact z.2; exfalso; omega))] at q2; rcases z with z | z; omega; exact z.2 q2, (by have e0 : c2 * wd = z7 := (by rw [← hwd]; exact ez9); have z := f17; unfold ATQ at z; rw [e0]; rcases z with z | z; exact z.2; exfalso; omega)⟩)) (by omega) rfl)
        · refine tn_iconst dX10_goThrough_85 ?_
          refine tn_goto (tgt := 91) dX10_goThrough_86 (by decide) ?_
          refine tn_callSN (M := m_X10_goThrough) (pc := 91) (ix := 26) (M' := m_X11_put) (As := [.ref xs, .int (iI i5), .int (iI 3)]) (rest := []) dX10_goThrough_91 ok_X11_put stt_X11_put nl10_26 np_X11_put rfl (Nat.le_of_ble_eq_true rfl) (Nat.le_of_ble_eq_true rfl) rfl (k_X11_put_x (d + 2) (T := T) (σ := σ) (x := xs) (i := i5) (y := 3) hk21i (by omega) (by omega) (by decide) hw (nh_k hk21 (by unfold HT; omega)) (vok_1 (by have q9 := hk21; omega) (by omega))) (fun r60 T62 σ61 gt63 hp => ?_)
          obtain ⟨rfl, rfl, w67, F68, f64, f65⟩ := hp
          clear gt63
          show Tn _ _ 94 T σ61 [(6, .int (iI v18)), (0, .ref a), (1, .ref rx1), (2, .int (iI c2)), (3, .int (iI c3)), (4, .int (iI c4)), (5, .int (iI i5))] [] _
          refine tn_iinc (q0 := 6) (L' := [(5, .int (iI (i5 + 1))), (6, .int (iI v18)), (0, .ref a), (1, .ref rx1), (2, .int (iI c2)), (3, .int (iI c3)), (4, .int (iI c4))]) dX10_goThrough_94 rfl (by decide) rfl ?_
          refine tn_goto (tgt := 34) dX10_goThrough_97 (by decide) ?_
          exact tn_sub [2, 3, 4, 5, 6, 0] rfl (ih _ (by omega) (i5 + 1) σ61 w67 ((FrC.rfl.trans (FrC.sub hF (by decide))).trans (FrC.sub F68 (by decide))) (by omega) (hC.trans (CHX.sub f64 (by simp) (by simp) (by simp))) (hA.put (ptf_row f65 ⟨by omega, by omega⟩) (Or.inl ⟨⟨by omega, by have z := f48; rw [← (show v18 = R0 (c2 * wd + i5) from (by have e0 : c2 * wd = z7 := (by rw [← hwd]; exact ez9); have z := f17; unfold ATQ at z; rw [e0]; rcases z with z | z; exact z.2; exfalso; omega))]; rcases z with z | z; exact z.2; exfalso; omega⟩, rfl⟩)) (by omega) rfl)
set_option maxHeartbeats 6000000 in
set_option maxRecDepth 20000 in
theorem l_X10_goThrough_t_148 (d : Nat) {T : CT} {σ0 : MS} {a : Nat} {rx1 : Nat} {c2 : Int} {c3 : Int} {c5 : Int} {S0 : Int → Int} {x : Nat} {n : Int} {W : Int → It} {xh : Nat} {Rh : Int → Int} {xn : Nat} {Rn : Int → Int} {xt : Nat} {R0 : Int → Int} {wd : Int} {xs : Nat} {xb : Nat} {B : Int → Int} {post : Option Value → CT → MS → Prop} (h_a : OB T a 10) (h_rx1 : OB T rx1 1) (t_rx1 : (T rx1).1 = 50) (r_c2 : 0 ≤ c2 ∧ c2 ≤ 199) (r_c3 : -2147483648 ≤ c3 ∧ c3 ≤ 2147483647) (r_c5 : -2147483648 ≤ c5 ∧ c5 ≤ 2147483647) (hw0 : WT T σ0) (hk : 0 ≤ c2 ∧ c2 < n) (hl : 1 ≤ wd ∧ wd ≤ 145 ∧ n ≤ 200) (hlv : W c2 0 = 15 → (0 ≤ W c2 1 ∧ W c2 1 < 12) ∧ 0 ≤ Rn (W c2 1) ∧ slF Rn (W c2 1) + Rn (W c2 1) ≤ wd) (h5e : c5 = W c2 1) (h3e : c3 = W c2 0) (hx : σ0.2.1 5 rx1 = (x : Int)) (hn : σ0.2.1 6 rx1 = n) (hW : cW σ0 x n = W) (hxh : σ0.2.1 15 rx1 = (xh : Int)) (hRh : σ0.2.1 (1000 + xh) = Rh) (hxn : σ0.2.1 14 rx1 = (xn : Int)) (hRn : σ0.2.1 (1000 + xn) = Rn) (hxt : σ0.2.1 92 a = (xt : Int)) (hR0 : σ0.2.1 (1000 + xt) = R0) (hwd : σ0.2.1 93 a = wd) (hxs : σ0.2.1 91 a = (xs : Int)) (hxb : σ0.2.1 90 a = (xb : Int)) (hB : σ0.2.1 (1000 + xb) = B) (hN : n ≤ 200) (hne : xs ≠ xt ∧ x ≠ xs ∧ x ≠ xt ∧ xh ≠ xs ∧ xh ≠ xt ∧ xn ≠ xs ∧ xn ≠ xt ∧ xb ≠ xs ∧ xb ≠ xt) (hx_190 : ∀ (i6 : Int) (σ : MS) , (WT T σ) → (FrC T [] σ0 σ) → (0 ≤ i6 ∧ i6 ≤ 12) → (CHX [] [xs] [] σ0 σ) → (True) → (True) → ((W c2 0 = 15 ∧ GT2 S0 (σ.2.1 (1000 + xs)) (slF Rn (W c2 1)) (Rn (W c2 1))) ∨ (W c2 0 ≠ 15 ∧ (σ.2.1 (1000 + xs)) = S0)) → Tn (d + 4) m_X10_goThrough 190 T σ [(0, .ref a), (1, .ref rx1), (2, .int (iI c2)), (3, .int (iI c3)), (5, .int (iI c5)), (6, .int (iI i6))] [] post) : ∀ (nq9 : Nat) (i6 : Int) (σ : MS) , (WT T σ) → (FrC T [] σ0 σ) → (0 ≤ i6 ∧ i6 ≤ 12) → (CHX [] [xs] [] σ0 σ) → (GT2 S0 (σ.2.1 (1000 + xs)) (slF Rn (W c2 1)) i6) → ((i6 = 0 ∨ c3 = 15) ∧ (c3 = 15 → i6 ≤ Rn (W c2 1))) → (2147483700 - i6).toNat = nq9 → Tn (d + 4) m_X10_goThrough 148 T σ [(0, .ref a), (1, .ref rx1), (2, .int (iI c2)), (3, .int (iI c3)), (5, .int (iI c5)), (6, .int (iI i6))] [] post := by
  intro nq9
  induction nq9 using Nat.strongRecOn with
  | _ nq9 ih =>
    intro i6 σ hw hF r_i6 hC hA h6 hm
    refine tn_iload_n dX10_goThrough_148 rfl 3 rfl ?_
    refine tn_bipush dX10_goThrough_149 (by decide) ?_
    refine tn_icmp_ne (tgt := 190) dX10_goThrough_151 (by decide) ⟨by omega, by omega⟩ ⟨by decide, by decide⟩ (fun h1 => ?_) (fun h1 => ?_)
    · exact tn_sub [0, 1, 2, 3, 4, 5] rfl (hx_190 (i6) σ hw (FrC.rfl.trans (FrC.sub hF (by decide))) (by omega) hC True.intro True.intro (Or.inr ⟨by omega, by have e : i6 = 0 := (by omega); rw [e] at hA; exact hA.zero⟩))
    · have e5 : slF Rn (W c2 1) = slF Rn c5 := by rw [h5e]
      have e6 : Rn (W c2 1) = Rn c5 := by rw [h5e]
      refine tn_iload dX10_goThrough_154 5 rfl ?_
      refine tn_aload_n dX10_goThrough_156 rfl 1 rfl ?_
      obtain ⟨hk4, hl5⟩ : AR T xn 11 12 12 := ar_of (wf_14 hw0 h_rx1) hxn
      have hk4i : IA T xn := by unfold IA; omega
      refine tn_getR (ci := 1) (i := 9) (n := 14) (x := xn) dX10_goThrough_157 rfl lay_1 (by decide) fl10_104 h_rx1 rfl rfl (rc_F hF (Or.inl (by decide)) (by decide) (hxn)) ?_
      refine tn_iload dX10_goThrough_160 4 rfl ?_
      have cv6 : σ.2.1 (1000 + xn) = Rn := (CHX.r hC (by first | (simp; done) | (simp only [List.mem_cons, List.not_mem_nil, or_false, not_or]; first | omega | ((repeat' apply And.intro) <;> first | assumption | (apply Ne.symm; assumption))))).trans (hRn)
      refine tn_callSN (M := m_X10_goThrough) (pc := 162) (ix := 40) (M' := m_X11_at) (As := [.ref xn, .int (iI c5)]) (rest := [.int (iI i6)]) dX10_goThrough_162 ok_X11_at stt_X11_at nl10_40 np_X11_at rfl (Nat.le_of_ble_eq_true rfl) (Nat.le_of_ble_eq_true rfl) rfl (k_X11_at_x (d + 2) (T := T) (σ := σ) (x := xn) (i := c5) (R := Rn) hk4i (by omega) (by omega) hw cv6) (fun r7 T9 σ8 gt10 hp => ?_)
      obtain ⟨v14, rfl, rfl, rfl, f11, f12, f13⟩ := hp
      clear gt10
      have f12n := f12.2.1 hk4
      clear f12
      have f13u := f13
      unfold ATQ at f13u
      show Tn _ _ 165 T σ [(0, .ref a), (1, .ref rx1), (2, .int (iI c2)), (3, .int (iI c3)), (5, .int (iI c5)), (6, .int (iI i6))] [.int (iI v14), .int (iI i6)] _
      refine tn_icmp_ge (tgt := 190) dX10_goThrough_165 (by decide) ⟨by omega, by omega⟩ ⟨by omega, by omega⟩ (fun h15 => ?_) (fun h15 => ?_)
      · exact tn_sub [0, 1, 2, 3, 4, 5] rfl (hx_190 (i6) σ hw (FrC.rfl.trans (FrC.sub hF (by decide))) (by omega) hC True.intro True.intro (Or.inl ⟨by omega, by have z := f13; unfold ATQ at z; have e : i6 = Rn (W c2 1) := (by omega); rw [e] at hA; exact hA⟩))
      · refine tn_aload_n dX10_goThrough_168 rfl 0 rfl ?_
        obtain ⟨hk18, hl19⟩ : AR T xs 1 145 145 := ar_of (wf_91 hw0 h_a) hxs
        have hk18i : IA T xs := by unfold IA; omega
        refine tn_getR (ci := 10) (i := 3) (n := 91) (x := xs) dX10_goThrough_169 rfl lay_10 (by decide) fl10_23 h_a rfl rfl (rc_F hF (Or.inl (by decide)) (by decide) (hxs)) ?_
        refine tn_aload_n dX10_goThrough_172 rfl 1 rfl ?_
        refine tn_iload dX10_goThrough_173 4 rfl ?_
        refine tn_iload dX10_goThrough_175 5 rfl ?_
        refine tn_callV (M := m_X10_goThrough) (pc := 177) (ix := 36) (ci := 1) (M' := m_X1_slotOf) (As := [.int (iI c5), .int (iI i6)]) (rest := [.ref xs]) dX10_goThrough_177 ok_X1_slotOf im_X1_slotOf se_X1_slotOf ml10_36 np_X1_slotOf rfl rfl h_rx1 rfl (Nat.le_of_ble_eq_true rfl) (Nat.le_of_ble_eq_true rfl) rfl (k_X1_slotOf_t (d + 2) (T := T) (σ := σ) (a := rx1) (f := c5) (m := i6) (xn := xn) (Rn := Rn) h_rx1 (by omega) (by omega) hw (rc_F hF (Or.inl (by decide)) (by decide) (hxn)) cv6 (by omega) (by omega)) (fun r20 T22 σ21 gt23 hp => ?_)
        obtain ⟨v27, rfl, rfl, rfl, f24, f25, f26⟩ := hp
        clear gt23
        show Tn _ _ 180 T σ [(0, .ref a), (1, .ref rx1), (2, .int (iI c2)), (3, .int (iI c3)), (5, .int (iI c5)), (6, .int (iI i6))] [.int (iI v27), .ref xs] _
        refine tn_iconst dX10_goThrough_180 ?_
        refine tn_callSN (M := m_X10_goThrough) (pc := 181) (ix := 26) (M' := m_X11_put) (As := [.ref xs, .int (iI v27), .int (iI 1)]) (rest := []) dX10_goThrough_181 ok_X11_put stt_X11_put nl10_26 np_X11_put rfl (Nat.le_of_ble_eq_true rfl) (Nat.le_of_ble_eq_true rfl) rfl (k_X11_put_x (d + 2) (T := T) (σ := σ) (x := xs) (i := v27) (y := 1) hk18i (by omega) (by omega) (by decide) hw (nh_k hk18 (by unfold HT; omega)) (vok_1 (by have q9 := hk18; omega) (by omega))) (fun r28 T30 σ29 gt31 hp => ?_)
        obtain ⟨rfl, rfl, w35, F36, f32, f33⟩ := hp
        clear gt31
        show Tn _ _ 184 T σ29 [(0, .ref a), (1, .ref rx1), (2, .int (iI c2)), (3, .int (iI c3)), (5, .int (iI c5)), (6, .int (iI i6))] [] _
        refine tn_iinc (q0 := 5) (L' := [(6, .int (iI (i6 + 1))), (0, .ref a), (1, .ref rx1), (2, .int (iI c2)), (3, .int (iI c3)), (5, .int (iI c5))]) dX10_goThrough_184 rfl (by decide) rfl ?_
        refine tn_goto (tgt := 148) dX10_goThrough_187 (by decide) ?_
        exact tn_sub [1, 2, 3, 4, 5, 0] rfl (ih _ (by omega) (i6 + 1) σ29 w35 ((FrC.rfl.trans (FrC.sub hF (by decide))).trans (FrC.sub F36 (by decide))) (by omega) (hC.trans (CHX.sub f32 (by simp) (by simp) (by simp))) (hA.put (by omega) (by rw [← h5e]; omega) (ptf_row f33 ⟨by omega, by omega⟩)) (by omega) rfl)
set_option maxHeartbeats 6000000 in
set_option maxRecDepth 20000 in
theorem k_X10_goThrough_t (d : Nat) {T : CT} {σ : MS} {a : Nat} {p1 : Nat} {p2 : Int} {x : Nat} {n : Int} {W : Int → It} {xh : Nat} {Rh : Int → Int} {xn : Nat} {Rn : Int → Int} {xt : Nat} {R0 : Int → Int} {wd : Int} {xs : Nat} {xb : Nat} {B : Int → Int} (ha : OB T a 10) (h_p1 : OB T p1 1) (t_p1 : (T p1).1 = 50) (h_p2 : -2147483648 ≤ p2 ∧ p2 ≤ 2147483647) (hw : WT T σ) (hx : σ.2.1 5 p1 = (x : Int)) (hn : σ.2.1 6 p1 = n) (hW : cW σ x n = W) (hxh : σ.2.1 15 p1 = (xh : Int)) (hRh : σ.2.1 (1000 + xh) = Rh) (hxn : σ.2.1 14 p1 = (xn : Int)) (hRn : σ.2.1 (1000 + xn) = Rn) (hxt : σ.2.1 92 a = (xt : Int)) (hR0 : σ.2.1 (1000 + xt) = R0) (hwd : σ.2.1 93 a = wd) (hxs : σ.2.1 91 a = (xs : Int)) (hxb : σ.2.1 90 a = (xb : Int)) (hB : σ.2.1 (1000 + xb) = B) (hN : n ≤ 200) (hne : xs ≠ xt ∧ x ≠ xs ∧ x ≠ xt ∧ xh ≠ xs ∧ xh ≠ xt ∧ xn ≠ xs ∧ xn ≠ xt ∧ xb ≠ xs ∧ xb ≠ xt) (hk : 0 ≤ p2 ∧ p2 < n) (hl : 1 ≤ wd ∧ wd ≤ 145 ∧ n ≤ 200) (hr : ∀ q, 0 ≤ q → q ≤ n → 0 ≤ q * wd ∧ q * wd + wd ≤ ((T xt).2 : Int)) (hbd : W p2 0 = 12 → (0 ≤ W p2 2 ∧ W p2 2 < 12) ∧ (0 ≤ W p2 1 ∧ W p2 1 < 12) ∧ slF Rn (W p2 2) + W p2 1 < wd) (hlv : W p2 0 = 15 → (0 ≤ W p2 1 ∧ W p2 1 < 12) ∧ 0 ≤ Rn (W p2 1) ∧ slF Rn (W p2 1) + Rn (W p2 1) ≤ wd) : Tn (d + 4) m_X10_goThrough 0 T σ [(0, .ref a), (1, .ref p1), (2, .int (iI p2))] [] (fun ro T2 σ2 => ro = none ∧ T = T2 ∧ WT T2 σ2 ∧ FrC T [94] σ σ2 ∧ (CHX [(94, a)] [xs, xt] [] σ σ2) ∧ (GTX W n wd Rh Rn B p2 R0 (σ2.2.1 (1000 + xt)) (σ.2.1 94 a) (σ2.2.1 94 a))) := by
  refine tn_aload_n dX10_goThrough_0 rfl 0 rfl ?_
  obtain ⟨hk3, hl4⟩ : AR T xt 1 0 32788 := ar_of ((wf_92 hw ha).resolve_left (by omega)) hxt
  have hk3i : IA T xt := by unfold IA; omega
  refine tn_getR (ci := 10) (i := 4) (n := 92) (x := xt) dX10_goThrough_1 rfl lay_10 (by decide) fl10_61 ha rfl rfl (hxt) ?_
  refine tn_iload_n dX10_goThrough_4 rfl 2 rfl ?_
  refine tn_aload_n dX10_goThrough_5 rfl 0 rfl ?_
  refine tn_getI (ci := 10) (i := 5) (n := 93) (t := σ.2.1 93 a) dX10_goThrough_6 rfl lay_10 (by decide) fl10_50 ha rfl rfl (rfl) ?_
  have g5 : ((0 : Int) ≤ σ.2.1 93 a ∧ σ.2.1 93 a ≤ 145) := wf_93 hw ha
  refine tn_imul dX10_goThrough_9 ?_
  have g7 : 0 ≤ p2 * (σ.2.1 93 a) ∧ p2 * (σ.2.1 93 a) ≤ 28855 := mul_rng (b := 199) (d := 145) (by omega) (by omega) (by omega) (by omega) (by decide) (by decide)
  generalize ez8 : p2 * (σ.2.1 93 a) = z6 at g7 ⊢
  refine tn_callSN (M := m_X10_goThrough) (pc := 10) (ix := 40) (M' := m_X11_at) (As := [.ref xt, .int (iI z6)]) (rest := []) dX10_goThrough_10 ok_X11_at stt_X11_at nl10_40 np_X11_at rfl (Nat.le_of_ble_eq_true rfl) (Nat.le_of_ble_eq_true rfl) rfl (k_X11_at_x (d + 2) (T := T) (σ := σ) (x := xt) (i := z6) (R := R0) hk3i (by omega) (by omega) hw hR0) (fun r9 T11 σ10 gt12 hp => ?_)
  obtain ⟨v16, rfl, rfl, rfl, f13, f14, f15⟩ := hp
  clear gt12
  clear f14
  have f15u := f15
  unfold ATQ at f15u
  show Tn _ _ 13 T σ [(0, .ref a), (1, .ref p1), (2, .int (iI p2))] [.int (iI v16)] _
  refine tn_if_ne (tgt := 17) dX10_goThrough_13 (by decide) ⟨by omega, by omega⟩ (fun h17 => ?_) (fun h17 => ?_)
  · refine tn_aload_n dX10_goThrough_17 rfl 1 rfl ?_
    refine tn_iload_n dX10_goThrough_18 rfl 2 rfl ?_
    refine tn_iconst dX10_goThrough_19 ?_
    obtain ⟨hl21, hk20a, hk20b⟩ := cel_of (wf_5 hw h_p1) hx
    have hk20 : (T x).1 = 1 := hk20a (by omega)
    clear hk20a hk20b
    have hk20i : IA T x := by unfold IA; omega
    refine tn_callV (M := m_X10_goThrough) (pc := 20) (ix := 44) (ci := 1) (M' := m_X1_get) (As := [.int (iI p2), .int (iI 0)]) (rest := []) dX10_goThrough_20 ok_X1_get im_X1_get se_X1_get ml10_44 np_X1_get rfl rfl h_p1 rfl (Nat.le_of_ble_eq_true rfl) (Nat.le_of_ble_eq_true rfl) rfl (k_X1_get_x (d + 2) (T := T) (σ := σ) (a := p1) (k := p2) (c := 0) (x := x) (n := n) (W := W) h_p1 (by omega) (by decide) hw (hx) (hn) hW (by omega) (by omega)) (fun r22 T24 σ23 gt25 hp => ?_)
    obtain ⟨v28, rfl, rfl, rfl, f26, f27⟩ := hp
    clear gt25
    show Tn _ _ 23 T σ [(0, .ref a), (1, .ref p1), (2, .int (iI p2))] [.int (iI v28)] _
    refine tn_istore_n (L' := [(3, .int (iI v28)), (0, .ref a), (1, .ref p1), (2, .int (iI p2))]) dX10_goThrough_23 rfl (by decide) rfl ?_
    refine tn_aload_n dX10_goThrough_24 rfl 2 rfl ?_
    refine tn_iload_n dX10_goThrough_25 rfl 3 rfl ?_
    refine tn_callV (M := m_X10_goThrough) (pc := 26) (ix := 96) (ci := 1) (M' := m_X1_writtenBy) (As := [.int (iI p2)]) (rest := []) dX10_goThrough_26 ok_X1_writtenBy im_X1_writtenBy se_X1_writtenBy ml10_96 np_X1_writtenBy rfl rfl h_p1 rfl (Nat.le_of_ble_eq_true rfl) (Nat.le_of_ble_eq_true rfl) rfl (k_X1_writtenBy_x (d + 1) (T := T) (σ := σ) (a := p1) (k := p2) (x := x) (n := n) (W := W) h_p1 (by omega) hw (hx) (hn) hW (by omega)) (fun r29 T31 σ30 gt32 hp => ?_)
    obtain ⟨v35, rfl, rfl, rfl, f33, f34⟩ := hp
    clear gt32
    show Tn _ _ 29 T σ [(3, .int (iI v28)), (0, .ref a), (1, .ref p1), (2, .int (iI p2))] [.int (iI v35)] _
    refine tn_istore (L' := [(4, .int (iI v35)), (3, .int (iI v28)), (0, .ref a), (1, .ref p1), (2, .int (iI p2))]) dX10_goThrough_29 (by decide) rfl ?_
    refine tn_iconst dX10_goThrough_31 ?_
    refine tn_istore (L' := [(5, .int (iI 0)), (4, .int (iI v35)), (3, .int (iI v28)), (0, .ref a), (1, .ref p1), (2, .int (iI p2))]) dX10_goThrough_32 (by decide) rfl ?_
    refine tn_sub [3, 4, 5, 2, 1, 0] rfl (l_X10_goThrough_t_34 (d) (T := T) (σ0 := σ) (a := a) (rx1 := p1) (c2 := p2) (c3 := v28) (c4 := v35) (x := x) (n := n) (W := (W)) (xh := xh) (Rh := (Rh)) (xn := xn) (Rn := (Rn)) (xt := xt) (R0 := (R0)) (wd := wd) (xs := xs) (xb := xb) (B := (B)) ha h_p1 t_p1 (by omega) (by omega) (by omega) hw (by omega) (by omega) (hr p2 (by omega) (by omega)) (hx) (hn) hW (hxh) hRh (hxn) hRn (hxt) hR0 (hwd) (hxs) (hxb) hB hN hne (fun i536 σ37 w40 F41 r42 f43 f44 f45 f46 => ?_) _ (0) σ hw FrC.rfl (by omega) CHX.rfl (fun z a b => by omega) (by omega) rfl)
    show Tn _ _ 100 T σ37 [(0, .ref a), (1, .ref p1), (2, .int (iI p2)), (3, .int (iI v28)), (4, .int (iI v35)), (5, .int (iI i536))] [] _
    refine tn_iload_n dX10_goThrough_100 rfl 3 rfl ?_
    refine tn_bipush dX10_goThrough_101 (by decide) ?_
    refine tn_icmp_ne (tgt := 137) dX10_goThrough_103 (by decide) ⟨by omega, by omega⟩ ⟨by decide, by decide⟩ (fun h47 => ?_) (fun h47 => ?_)
    · have gs48 : (W p2 0 = 12 ∧ σ37.2.1 (1000 + xs) = uZ (σ37.2.1 (1000 + xs)) (slF Rn (W p2 2) + W p2 1) (B p2)) ∨ (W p2 0 ≠ 12 ∧ σ37.2.1 (1000 + xs) = σ37.2.1 (1000 + xs)) := Or.inr ⟨by omega, rfl⟩
      refine tn_aload_n dX10_goThrough_137 rfl 1 rfl ?_
      refine tn_iload_n dX10_goThrough_138 rfl 2 rfl ?_
      refine tn_iconst dX10_goThrough_139 ?_
      have cv49 : cW σ37 x n = W := (cW_row (CHX.r f43 (by first | (simp; done) | (simp only [List.mem_cons, List.not_mem_nil, or_false, not_or]; first | omega | ((repeat' apply And.intro) <;> first | assumption | (apply Ne.symm; assumption)))))).trans (hW)
      refine tn_callV (M := m_X10_goThrough) (pc := 140) (ix := 44) (ci := 1) (M' := m_X1_get) (As := [.int (iI p2), .int (iI 1)]) (rest := []) dX10_goThrough_140 ok_X1_get im_X1_get se_X1_get ml10_44 np_X1_get rfl rfl h_p1 rfl (Nat.le_of_ble_eq_true rfl) (Nat.le_of_ble_eq_true rfl) rfl (k_X1_get_x (d + 2) (T := T) (σ := σ37) (a := p1) (k := p2) (c := 1) (x := x) (n := n) (W := W) h_p1 (by omega) (by decide) w40 (rc_F F41 (Or.inl (by decide)) (by decide) (hx)) (rc_F F41 (Or.inl (by decide)) (by decide) (hn)) cv49 (by omega) (by omega)) (fun r50 T52 σ51 gt53 hp => ?_)
      obtain ⟨v56, rfl, rfl, rfl, f54, f55⟩ := hp
      clear gt53
      show Tn _ _ 143 T σ37 [(0, .ref a), (1, .ref p1), (2, .int (iI p2)), (3, .int (iI v28)), (4, .int (iI v35)), (5, .int (iI i536))] [.int (iI v56)] _
      refine tn_istore (L' := [(5, .int (iI v56)), (0, .ref a), (1, .ref p1), (2, .int (iI p2)), (3, .int (iI v28)), (4, .int (iI v35))]) dX10_goThrough_143 (by decide) rfl ?_
      refine tn_iconst dX10_goThrough_145 ?_
      refine tn_istore (L' := [(6, .int (iI 0)), (5, .int (iI v56)), (0, .ref a), (1, .ref p1), (2, .int (iI p2)), (3, .int (iI v28)), (4, .int (iI v35))]) dX10_goThrough_146 (by decide) rfl ?_
      have cv57 : σ37.2.1 (1000 + xh) = Rh := (CHX.r f43 (by first | (simp; done) | (simp only [List.mem_cons, List.not_mem_nil, or_false, not_or]; first | omega | ((repeat' apply And.intro) <;> first | assumption | (apply Ne.symm; assumption))))).trans (hRh)
      have cv58 : σ37.2.1 (1000 + xn) = Rn := (CHX.r f43 (by first | (simp; done) | (simp only [List.mem_cons, List.not_mem_nil, or_false, not_or]; first | omega | ((repeat' apply And.intro) <;> first | assumption | (apply Ne.symm; assumption))))).trans (hRn)
      have cv59 : σ37.2.1 (1000 + xt) = R0 := (CHX.r f43 (by first | (simp; done) | (simp only [List.mem_cons, List.not_mem_nil, or_false, not_or]; first | omega | ((repeat' apply And.intro) <;> first | assumption | (apply Ne.symm; assumption))))).trans (hR0)
      have cv60 : σ37.2.1 (1000 + xb) = B := (CHX.r f43 (by first | (simp; done) | (simp only [List.mem_cons, List.not_mem_nil, or_false, not_or]; first | omega | ((repeat' apply And.intro) <;> first | assumption | (apply Ne.symm; assumption))))).trans (hB)
      refine tn_sub [2, 3, 4, 5, 1, 0] rfl (l_X10_goThrough_t_148 (d) (T := T) (σ0 := σ37) (a := a) (rx1 := p1) (c2 := p2) (c3 := v28) (c5 := v56) (x := x) (n := n) (W := (W)) (xh := xh) (Rh := (Rh)) (xn := xn) (Rn := (Rn)) (xt := xt) (R0 := (R0)) (wd := wd) (xs := xs) (xb := xb) (B := (B)) (S0 := (σ37.2.1 (1000 + xs))) ha h_p1 t_p1 (by omega) (by omega) (by omega) w40 (by omega) (by omega) hlv (by omega) (by omega) (rc_F F41 (Or.inl (by decide)) (by decide) (hx)) (rc_F F41 (Or.inl (by decide)) (by decide) (hn)) cv49 (rc_F F41 (Or.inl (by decide)) (by decide) (hxh)) cv57 (rc_F F41 (Or.inl (by decide)) (by decide) (hxn)) cv58 (rc_F F41 (Or.inl (by decide)) (by decide) (hxt)) cv59 (rc_F F41 (Or.inl (by decide)) (by decide) (hwd)) (rc_F F41 (Or.inl (by decide)) (by decide) (hxs)) (rc_F F41 (Or.inl (by decide)) (by decide) (hxb)) cv60 hN hne (fun i661 σ62 w65 F66 r67 f68 f69 f70 f71 => ?_) _ (0) σ37 w40 FrC.rfl (by omega) CHX.rfl GT2.z (by omega) rfl)
      show Tn _ _ 190 T σ62 [(0, .ref a), (1, .ref p1), (2, .int (iI p2)), (3, .int (iI v28)), (5, .int (iI v56)), (6, .int (iI i661))] [] _
      have cv72 : σ62.2.1 (1000 + xt) = R0 := (CHX.r f68 (by first | (simp; done) | (simp only [List.mem_cons, List.not_mem_nil, or_false, not_or]; first | omega | ((repeat' apply And.intro) <;> first | assumption | (apply Ne.symm; assumption))))).trans (cv59)
      have q73 : σ62.2.1 94 a = σ.2.1 94 a := rc_F F66 (Or.inl (by decide)) (by decide) (rc_F F41 (Or.inl (by decide)) (by decide) (rfl))
      refine tn_aload_n dX10_goThrough_190 rfl 1 rfl ?_
      refine tn_iload_n dX10_goThrough_191 rfl 2 rfl ?_
      have cv74 : cW σ62 x n = W := (cW_row (CHX.r f68 (by first | (simp; done) | (simp only [List.mem_cons, List.not_mem_nil, or_false, not_or]; first | omega | ((repeat' apply And.intro) <;> first | assumption | (apply Ne.symm; assumption)))))).trans (cv49)
      refine tn_callV (M := m_X10_goThrough) (pc := 192) (ix := 107) (ci := 1) (M' := m_X1_fallsOn) (As := [.int (iI p2)]) (rest := []) dX10_goThrough_192 ok_X1_fallsOn im_X1_fallsOn se_X1_fallsOn ml10_107 np_X1_fallsOn rfl rfl h_p1 rfl (Nat.le_of_ble_eq_true rfl) (Nat.le_of_ble_eq_true rfl) rfl (k_X1_fallsOn_x (d + 1) (T := T) (σ := σ62) (a := p1) (k := p2) (x := x) (n := n) (W := W) h_p1 (by omega) w65 (rc_F F66 (Or.inl (by decide)) (by decide) (rc_F F41 (Or.inl (by decide)) (by decide) (hx))) (rc_F F66 (Or.inl (by decide)) (by decide) (rc_F F41 (Or.inl (by decide)) (by decide) (hn))) cv74 (by omega)) (fun r75 T77 σ76 gt78 hp => ?_)
      obtain ⟨v81, rfl, rfl, rfl, f79, f80⟩ := hp
      clear gt78
      show Tn _ _ 195 T σ62 [(0, .ref a), (1, .ref p1), (2, .int (iI p2)), (3, .int (iI v28)), (5, .int (iI v56)), (6, .int (iI i661))] [.int (iI v81)] _
      refine tn_if_eq (tgt := 206) dX10_goThrough_195 (by decide) ⟨by omega, by omega⟩ (fun h82 => ?_) (fun h82 => ?_)
      · refine tn_aload_n dX10_goThrough_206 rfl 0 rfl ?_
        refine tn_aload_n dX10_goThrough_207 rfl 1 rfl ?_
        refine tn_aload_n dX10_goThrough_208 rfl 1 rfl ?_
        refine tn_iload_n dX10_goThrough_209 rfl 2 rfl ?_
        refine tn_callV (M := m_X10_goThrough) (pc := 210) (ix := 114) (ci := 1) (M' := m_X1_targetOf) (As := [.int (iI p2)]) (rest := [.ref p1, .ref a]) dX10_goThrough_210 ok_X1_targetOf im_X1_targetOf se_X1_targetOf ml10_114 np_X1_targetOf rfl rfl h_p1 rfl (Nat.le_of_ble_eq_true rfl) (Nat.le_of_ble_eq_true rfl) rfl (k_X1_targetOf_x (d + 1) (T := T) (σ := σ62) (a := p1) (k := p2) (x := x) (n := n) (W := W) h_p1 (by omega) w65 (rc_F F66 (Or.inl (by decide)) (by decide) (rc_F F41 (Or.inl (by decide)) (by decide) (hx))) (rc_F F66 (Or.inl (by decide)) (by decide) (rc_F F41 (Or.inl (by decide)) (by decide) (hn))) cv74 (by omega)) (fun r83 T85 σ84 gt86 hp => ?_)
        obtain ⟨v89, rfl, rfl, rfl, f87, f88⟩ := hp
        clear gt86
        show Tn _ _ 213 T σ62 [(0, .ref a), (1, .ref p1), (2, .int (iI p2)), (3, .int (iI v28)), (5, .int (iI v56)), (6, .int (iI i661))] [.int (iI v89), .ref p1, .ref a] _
        obtain ⟨hk92, hl93⟩ : AR T xs 1 145 145 := ar_of (wf_91 hw ha) hxs
        have hk92i : IA T xs := by unfold IA; omega
        have q98 : σ62.2.1 94 a = σ.2.1 94 a := rc_F F66 (Or.inl (by decide)) (by decide) (rc_F F41 (Or.inl (by decide)) (by decide) (rfl))
        refine tn_callV (M := m_X10_goThrough) (pc := 213) (ix := 111) (ci := 10) (M' := m_X10_comeTo) (As := [.ref p1, .int (iI v89)]) (rest := []) dX10_goThrough_213 ok_X10_comeTo im_X10_comeTo se_X10_comeTo ml10_111 np_X10_comeTo rfl rfl ha rfl (Nat.le_of_ble_eq_true rfl) (Nat.le_of_ble_eq_true rfl) rfl (k_X10_comeTo_t (d + 1) (T := T) (σ := σ62) (a := a) (p1 := p1) (p2 := v89) (n := n) (xt := xt) (wd := wd) (xs := xs) (S := σ62.2.1 (1000 + xs)) ha h_p1 t_p1 (by omega) w65 (rc_F F66 (Or.inl (by decide)) (by decide) (rc_F F41 (Or.inl (by decide)) (by decide) (hn))) (rc_F F66 (Or.inl (by decide)) (by decide) (rc_F F41 (Or.inl (by decide)) (by decide) (hxt))) (rc_F F66 (Or.inl (by decide)) (by decide) (rc_F F41 (Or.inl (by decide)) (by decide) (hwd))) (rc_F F66 (Or.inl (by decide)) (by decide) (rc_F F41 (Or.inl (by decide)) (by decide) (hxs))) rfl (by omega) (by omega) (fun a b => hr _ a b)) (fun r94 T96 σ95 gt97 hp => ?_)
        obtain ⟨rfl, rfl, w102, F103, f99, f100⟩ := hp
        clear gt97
        show Tn _ _ 216 T σ95 [(0, .ref a), (1, .ref p1), (2, .int (iI p2)), (3, .int (iI v28)), (5, .int (iI v56)), (6, .int (iI i661))] [] _
        exact tn_vret rfl dX10_goThrough_216 ⟨rfl, rfl, w102, (((FrC.rfl.trans (FrC.sub F41 (by decide))).trans (FrC.sub F66 (by decide))).trans (FrC.sub F103 (by decide))), (((CHX.rfl.trans (CHX.sub f43 (by simp) (by simp) (by simp))).trans (CHX.sub f68 (by simp) (by simp) (by simp))).trans (CHX.sub f99 (by simp) (by simp) (by simp))), Or.inr ⟨by have z := f15; unfold ATQ at z; have e0 : p2 * wd = z6 := (by rw [← hwd]; exact ez8); have h9 := hr p2 (by omega) (by omega); rw [e0] at h9 ⊢; omega, _, _, _, _, _, _, _, _, f34, f46, gs48, f71, f80, f88, Or.inr ⟨by omega, cv72, q73⟩, f100⟩⟩
      · refine tn_aload_n dX10_goThrough_198 rfl 0 rfl ?_
        refine tn_aload_n dX10_goThrough_199 rfl 1 rfl ?_
        refine tn_iload_n dX10_goThrough_200 rfl 2 rfl ?_
        refine tn_iconst dX10_goThrough_201 ?_
        refine tn_iadd dX10_goThrough_202 ?_
        obtain ⟨hk106, hl107⟩ : AR T xs 1 145 145 := ar_of (wf_91 hw ha) hxs
        have hk106i : IA T xs := by unfold IA; omega
        have q112 : σ62.2.1 94 a = σ.2.1 94 a := rc_F F66 (Or.inl (by decide)) (by decide) (rc_F F41 (Or.inl (by decide)) (by decide) (rfl))
        refine tn_callV (M := m_X10_goThrough) (pc := 203) (ix := 111) (ci := 10) (M' := m_X10_comeTo) (As := [.ref p1, .int (iI (p2 + 1))]) (rest := []) dX10_goThrough_203 ok_X10_comeTo im_X10_comeTo se_X10_comeTo ml10_111 np_X10_comeTo rfl rfl ha rfl (Nat.le_of_ble_eq_true rfl) (Nat.le_of_ble_eq_true rfl) rfl (k_X10_comeTo_t (d + 1) (T := T) (σ := σ62) (a := a) (p1 := p1) (p2 := p2 + 1) (n := n) (xt := xt) (wd := wd) (xs := xs) (S := σ62.2.1 (1000 + xs)) ha h_p1 t_p1 (by omega) w65 (rc_F F66 (Or.inl (by decide)) (by decide) (rc_F F41 (Or.inl (by decide)) (by decide) (hn))) (rc_F F66 (Or.inl (by decide)) (by decide) (rc_F F41 (Or.inl (by decide)) (by decide) (hxt))) (rc_F F66 (Or.inl (by decide)) (by decide) (rc_F F41 (Or.inl (by decide)) (by decide) (hwd))) (rc_F F66 (Or.inl (by decide)) (by decide) (rc_F F41 (Or.inl (by decide)) (by decide) (hxs))) rfl (by omega) (by omega) (fun a b => hr _ a b)) (fun r108 T110 σ109 gt111 hp => ?_)
        obtain ⟨rfl, rfl, w116, F117, f113, f114⟩ := hp
        clear gt111
        show Tn _ _ 206 T σ109 [(0, .ref a), (1, .ref p1), (2, .int (iI p2)), (3, .int (iI v28)), (5, .int (iI v56)), (6, .int (iI i661))] [] _
        refine tn_aload_n dX10_goThrough_206 rfl 0 rfl ?_
        refine tn_aload_n dX10_goThrough_207 rfl 1 rfl ?_
        refine tn_aload_n dX10_goThrough_208 rfl 1 rfl ?_
        refine tn_iload_n dX10_goThrough_209 rfl 2 rfl ?_
        have cv118 : cW σ109 x n = W := (cW_row (CHX.r f113 (by first | (simp; done) | (simp only [List.mem_cons, List.not_mem_nil, or_false, not_or]; first | omega | ((repeat' apply And.intro) <;> first | assumption | (apply Ne.symm; assumption)))))).trans (cv74)
        refine tn_callV (M := m_X10_goThrough) (pc := 210) (ix := 114) (ci := 1) (M' := m_X1_targetOf) (As := [.int (iI p2)]) (rest := [.ref p1, .ref a]) dX10_goThrough_210 ok_X1_targetOf im_X1_targetOf se_X1_targetOf ml10_114 np_X1_targetOf rfl rfl h_p1 rfl (Nat.le_of_ble_eq_true rfl) (Nat.le_of_ble_eq_true rfl) rfl (k_X1_targetOf_x (d + 1) (T := T) (σ := σ109) (a := p1) (k := p2) (x := x) (n := n) (W := W) h_p1 (by omega) w116 (rc_F F117 (Or.inl (by decide)) (by decide) (rc_F F66 (Or.inl (by decide)) (by decide) (rc_F F41 (Or.inl (by decide)) (by decide) (hx)))) (rc_F F117 (Or.inl (by decide)) (by decide) (rc_F F66 (Or.inl (by decide)) (by decide) (rc_F F41 (Or.inl (by decide)) (by decide) (hn)))) cv118 (by omega)) (fun r119 T121 σ120 gt122 hp => ?_)
        obtain ⟨v125, rfl, rfl, rfl, f123, f124⟩ := hp
        clear gt122
        show Tn _ _ 213 T σ109 [(0, .ref a), (1, .ref p1), (2, .int (iI p2)), (3, .int (iI v28)), (5, .int (iI v56)), (6, .int (iI i661))] [.int (iI v125), .ref p1, .ref a] _
        have cv126 : σ109.2.1 (1000 + xs) = σ62.2.1 (1000 + xs) := (CHX.r f113 (by first | (simp; done) | (simp only [List.mem_cons, List.not_mem_nil, or_false, not_or]; first | omega | ((repeat' apply And.intro) <;> first | assumption | (apply Ne.symm; assumption))))).trans (rfl)
        refine tn_callV (M := m_X10_goThrough) (pc := 213) (ix := 111) (ci := 10) (M' := m_X10_comeTo) (As := [.ref p1, .int (iI v125)]) (rest := []) dX10_goThrough_213 ok_X10_comeTo im_X10_comeTo se_X10_comeTo ml10_111 np_X10_comeTo rfl rfl ha rfl (Nat.le_of_ble_eq_true rfl) (Nat.le_of_ble_eq_true rfl) rfl (k_X10_comeTo_t (d + 1) (T := T) (σ := σ109) (a := a) (p1 := p1) (p2 := v125) (n := n) (xt := xt) (wd := wd) (xs := xs) (S := σ62.2.1 (1000 + xs)) ha h_p1 t_p1 (by omega) w116 (rc_F F117 (Or.inl (by decide)) (by decide) (rc_F F66 (Or.inl (by decide)) (by decide) (rc_F F41 (Or.inl (by decide)) (by decide) (hn)))) (rc_F F117 (Or.inl (by decide)) (by decide) (rc_F F66 (Or.inl (by decide)) (by decide) (rc_F F41 (Or.inl (by decide)) (by decide) (hxt)))) (rc_F F117 (Or.inl (by decide)) (by decide) (rc_F F66 (Or.inl (by decide)) (by decide) (rc_F F41 (Or.inl (by decide)) (by decide) (hwd)))) (rc_F F117 (Or.inl (by decide)) (by decide) (rc_F F66 (Or.inl (by decide)) (by decide) (rc_F F41 (Or.inl (by decide)) (by decide) (hxs)))) cv126 (by omega) (by omega) (fun a b => hr _ a b)) (fun r127 T129 σ128 gt130 hp => ?_)
        obtain ⟨rfl, rfl, w134, F135, f131, f132⟩ := hp
        clear gt130
        show Tn _ _ 216 T σ128 [(0, .ref a), (1, .ref p1), (2, .int (iI p2)), (3, .int (iI v28)), (5, .int (iI v56)), (6, .int (iI i661))] [] _
        exact tn_vret rfl dX10_goThrough_216 ⟨rfl, rfl, w134, ((((FrC.rfl.trans (FrC.sub F41 (by decide))).trans (FrC.sub F66 (by decide))).trans (FrC.sub F117 (by decide))).trans (FrC.sub F135 (by decide))), ((((CHX.rfl.trans (CHX.sub f43 (by simp) (by simp) (by simp))).trans (CHX.sub f68 (by simp) (by simp) (by simp))).trans (CHX.sub f113 (by simp) (by simp) (by simp))).trans (CHX.sub f131 (by simp) (by simp) (by simp))), Or.inr ⟨by have z := f15; unfold ATQ at z; have e0 : p2 * wd = z6 := (by rw [← hwd]; exact ez8); have h9 := hr p2 (by omega) (by omega); rw [e0] at h9 ⊢; omega, _, _, _, _, _, _, _, _, f34, f46, gs48, f71, f80, f124, Or.inl ⟨by omega, by have z := f114; rw [cv72, q73] at z; exact z⟩, f132⟩⟩
    · have hbd9 := hbd (by omega)
      refine tn_aload_n dX10_goThrough_106 rfl 0 rfl ?_
      obtain ⟨hk138, hl139⟩ : AR T xs 1 145 145 := ar_of (wf_91 hw ha) hxs
      have hk138i : IA T xs := by unfold IA; omega
      refine tn_getR (ci := 10) (i := 3) (n := 91) (x := xs) dX10_goThrough_107 rfl lay_10 (by decide) fl10_23 ha rfl rfl (rc_F F41 (Or.inl (by decide)) (by decide) (hxs)) ?_
      refine tn_aload_n dX10_goThrough_110 rfl 1 rfl ?_
      refine tn_aload_n dX10_goThrough_111 rfl 1 rfl ?_
      refine tn_iload_n dX10_goThrough_112 rfl 2 rfl ?_
      refine tn_iconst dX10_goThrough_113 ?_
      have cv140 : cW σ37 x n = W := (cW_row (CHX.r f43 (by first | (simp; done) | (simp only [List.mem_cons, List.not_mem_nil, or_false, not_or]; first | omega | ((repeat' apply And.intro) <;> first | assumption | (apply Ne.symm; assumption)))))).trans (hW)
      refine tn_callV (M := m_X10_goThrough) (pc := 114) (ix := 44) (ci := 1) (M' := m_X1_get) (As := [.int (iI p2), .int (iI 2)]) (rest := [.ref p1, .ref xs]) dX10_goThrough_114 ok_X1_get im_X1_get se_X1_get ml10_44 np_X1_get rfl rfl h_p1 rfl (Nat.le_of_ble_eq_true rfl) (Nat.le_of_ble_eq_true rfl) rfl (k_X1_get_x (d + 2) (T := T) (σ := σ37) (a := p1) (k := p2) (c := 2) (x := x) (n := n) (W := W) h_p1 (by omega) (by decide) w40 (rc_F F41 (Or.inl (by decide)) (by decide) (hx)) (rc_F F41 (Or.inl (by decide)) (by decide) (hn)) cv140 (by omega) (by omega)) (fun r141 T143 σ142 gt144 hp => ?_)
      obtain ⟨v147, rfl, rfl, rfl, f145, f146⟩ := hp
      clear gt144
      show Tn _ _ 117 T σ37 [(0, .ref a), (1, .ref p1), (2, .int (iI p2)), (3, .int (iI v28)), (4, .int (iI v35)), (5, .int (iI i536))] [.int (iI v147), .ref p1, .ref xs] _
      refine tn_aload_n dX10_goThrough_117 rfl 1 rfl ?_
      refine tn_iload_n dX10_goThrough_118 rfl 2 rfl ?_
      refine tn_iconst dX10_goThrough_119 ?_
      refine tn_callV (M := m_X10_goThrough) (pc := 120) (ix := 44) (ci := 1) (M' := m_X1_get) (As := [.int (iI p2), .int (iI 1)]) (rest := [.int (iI v147), .ref p1, .ref xs]) dX10_goThrough_120 ok_X1_get im_X1_get se_X1_get ml10_44 np_X1_get rfl rfl h_p1 rfl (Nat.le_of_ble_eq_true rfl) (Nat.le_of_ble_eq_true rfl) rfl (k_X1_get_x (d + 2) (T := T) (σ := σ37) (a := p1) (k := p2) (c := 1) (x := x) (n := n) (W := W) h_p1 (by omega) (by decide) w40 (rc_F F41 (Or.inl (by decide)) (by decide) (hx)) (rc_F F41 (Or.inl (by decide)) (by decide) (hn)) cv140 (by omega) (by omega)) (fun r148 T150 σ149 gt151 hp => ?_)
      obtain ⟨v154, rfl, rfl, rfl, f152, f153⟩ := hp
      clear gt151
      show Tn _ _ 123 T σ37 [(0, .ref a), (1, .ref p1), (2, .int (iI p2)), (3, .int (iI v28)), (4, .int (iI v35)), (5, .int (iI i536))] [.int (iI v154), .int (iI v147), .ref p1, .ref xs] _
      obtain ⟨hk157, hl158⟩ : AR T xn 11 12 12 := ar_of (wf_14 hw h_p1) hxn
      have hk157i : IA T xn := by unfold IA; omega
      have cv159 : σ37.2.1 (1000 + xn) = Rn := (CHX.r f43 (by first | (simp; done) | (simp only [List.mem_cons, List.not_mem_nil, or_false, not_or]; first | omega | ((repeat' apply And.intro) <;> first | assumption | (apply Ne.symm; assumption))))).trans (hRn)
      refine tn_callV (M := m_X10_goThrough) (pc := 123) (ix := 36) (ci := 1) (M' := m_X1_slotOf) (As := [.int (iI v147), .int (iI v154)]) (rest := [.ref xs]) dX10_goThrough_123 ok_X1_slotOf im_X1_slotOf se_X1_slotOf ml10_36 np_X1_slotOf rfl rfl h_p1 rfl (Nat.le_of_ble_eq_true rfl) (Nat.le_of_ble_eq_true rfl) rfl (k_X1_slotOf_t (d + 2) (T := T) (σ := σ37) (a := p1) (f := v147) (m := v154) (xn := xn) (Rn := Rn) h_p1 (by omega) (by omega) w40 (rc_F F41 (Or.inl (by decide)) (by decide) (hxn)) cv159 (by omega) (by omega)) (fun r160 T162 σ161 gt163 hp => ?_)
      obtain ⟨v167, rfl, rfl, rfl, f164, f165, f166⟩ := hp
      clear gt163
      show Tn _ _ 126 T σ37 [(0, .ref a), (1, .ref p1), (2, .int (iI p2)), (3, .int (iI v28)), (4, .int (iI v35)), (5, .int (iI i536))] [.int (iI v167), .ref xs] _
      refine tn_aload_n dX10_goThrough_126 rfl 0 rfl ?_
      obtain ⟨hk170, hl171⟩ : AR T xb 1 200 200 := ar_of (wf_90 hw ha) hxb
      have hk170i : IA T xb := by unfold IA; omega
      refine tn_getR (ci := 10) (i := 2) (n := 90) (x := xb) dX10_goThrough_127 rfl lay_10 (by decide) fl10_20 ha rfl rfl (rc_F F41 (Or.inl (by decide)) (by decide) (hxb)) ?_
      refine tn_iload_n dX10_goThrough_130 rfl 2 rfl ?_
      have cv172 : σ37.2.1 (1000 + xb) = B := (CHX.r f43 (by first | (simp; done) | (simp only [List.mem_cons, List.not_mem_nil, or_false, not_or]; first | omega | ((repeat' apply And.intro) <;> first | assumption | (apply Ne.symm; assumption))))).trans (hB)
      refine tn_callSN (M := m_X10_goThrough) (pc := 131) (ix := 40) (M' := m_X11_at) (As := [.ref xb, .int (iI p2)]) (rest := [.int (iI v167), .ref xs]) dX10_goThrough_131 ok_X11_at stt_X11_at nl10_40 np_X11_at rfl (Nat.le_of_ble_eq_true rfl) (Nat.le_of_ble_eq_true rfl) rfl (k_X11_at_x (d + 2) (T := T) (σ := σ37) (x := xb) (i := p2) (R := B) hk170i (by omega) (by omega) w40 cv172) (fun r173 T175 σ174 gt176 hp => ?_)
      obtain ⟨v180, rfl, rfl, rfl, f177, f178, f179⟩ := hp
      clear gt176
      clear f178
      have f179u := f179
      unfold ATQ at f179u
      show Tn _ _ 134 T σ37 [(0, .ref a), (1, .ref p1), (2, .int (iI p2)), (3, .int (iI v28)), (4, .int (iI v35)), (5, .int (iI i536))] [.int (iI v180), .int (iI v167), .ref xs] _
      refine tn_callSN (M := m_X10_goThrough) (pc := 134) (ix := 26) (M' := m_X11_put) (As := [.ref xs, .int (iI v167), .int (iI v180)]) (rest := []) dX10_goThrough_134 ok_X11_put stt_X11_put nl10_26 np_X11_put rfl (Nat.le_of_ble_eq_true rfl) (Nat.le_of_ble_eq_true rfl) rfl (k_X11_put_x (d + 2) (T := T) (σ := σ37) (x := xs) (i := v167) (y := v180) hk138i (by omega) (by omega) (by omega) w40 (nh_k hk138 (by unfold HT; omega)) (vok_1 (by have q9 := hk138; omega) (by omega))) (fun r181 T183 σ182 gt184 hp => ?_)
      obtain ⟨rfl, rfl, w188, F189, f185, f186⟩ := hp
      clear gt184
      show Tn _ _ 137 T σ182 [(0, .ref a), (1, .ref p1), (2, .int (iI p2)), (3, .int (iI v28)), (4, .int (iI v35)), (5, .int (iI i536))] [] _
      have gs190 : (W p2 0 = 12 ∧ σ182.2.1 (1000 + xs) = uZ (σ37.2.1 (1000 + xs)) (slF Rn (W p2 2) + W p2 1) (B p2)) ∨ (W p2 0 ≠ 12 ∧ σ182.2.1 (1000 + xs) = σ37.2.1 (1000 + xs)) := by
        have z1 := f165
        rw [f146, f153] at z1
        have z2 := f179
        unfold ATQ at z2
        have z3 : v180 = B p2 := by omega
        rw [← z1, ← z3]
        exact Or.inl ⟨by omega, ptf_row f186 ⟨by omega, by omega⟩⟩
      refine tn_aload_n dX10_goThrough_137 rfl 1 rfl ?_
      refine tn_iload_n dX10_goThrough_138 rfl 2 rfl ?_
      refine tn_iconst dX10_goThrough_139 ?_
      have cv191 : cW σ182 x n = W := (cW_row (CHX.r f185 (by first | (simp; done) | (simp only [List.mem_cons, List.not_mem_nil, or_false, not_or]; first | omega | ((repeat' apply And.intro) <;> first | assumption | (apply Ne.symm; assumption)))))).trans (cv140)
      refine tn_callV (M := m_X10_goThrough) (pc := 140) (ix := 44) (ci := 1) (M' := m_X1_get) (As := [.int (iI p2), .int (iI 1)]) (rest := []) dX10_goThrough_140 ok_X1_get im_X1_get se_X1_get ml10_44 np_X1_get rfl rfl h_p1 rfl (Nat.le_of_ble_eq_true rfl) (Nat.le_of_ble_eq_true rfl) rfl (k_X1_get_x (d + 2) (T := T) (σ := σ182) (a := p1) (k := p2) (c := 1) (x := x) (n := n) (W := W) h_p1 (by omega) (by decide) w188 (rc_F F189 (Or.inl (by decide)) (by decide) (rc_F F41 (Or.inl (by decide)) (by decide) (hx))) (rc_F F189 (Or.inl (by decide)) (by decide) (rc_F F41 (Or.inl (by decide)) (by decide) (hn))) cv191 (by omega) (by omega)) (fun r192 T194 σ193 gt195 hp => ?_)
      obtain ⟨v198, rfl, rfl, rfl, f196, f197⟩ := hp
      clear gt195
      show Tn _ _ 143 T σ182 [(0, .ref a), (1, .ref p1), (2, .int (iI p2)), (3, .int (iI v28)), (4, .int (iI v35)), (5, .int (iI i536))] [.int (iI v198)] _
      refine tn_istore (L' := [(5, .int (iI v198)), (0, .ref a), (1, .ref p1), (2, .int (iI p2)), (3, .int (iI v28)), (4, .int (iI v35))]) dX10_goThrough_143 (by decide) rfl ?_
      refine tn_iconst dX10_goThrough_145 ?_
      refine tn_istore (L' := [(6, .int (iI 0)), (5, .int (iI v198)), (0, .ref a), (1, .ref p1), (2, .int (iI p2)), (3, .int (iI v28)), (4, .int (iI v35))]) dX10_goThrough_146 (by decide) rfl ?_
      have cv199 : σ182.2.1 (1000 + xh) = Rh := (CHX.r f185 (by first | (simp; done) | (simp only [List.mem_cons, List.not_mem_nil, or_false, not_or]; first | omega | ((repeat' apply And.intro) <;> first | assumption | (apply Ne.symm; assumption))))).trans ((CHX.r f43 (by first | (simp; done) | (simp only [List.mem_cons, List.not_mem_nil, or_false, not_or]; first | omega | ((repeat' apply And.intro) <;> first | assumption | (apply Ne.symm; assumption))))).trans (hRh))
      have cv200 : σ182.2.1 (1000 + xn) = Rn := (CHX.r f185 (by first | (simp; done) | (simp only [List.mem_cons, List.not_mem_nil, or_false, not_or]; first | omega | ((repeat' apply And.intro) <;> first | assumption | (apply Ne.symm; assumption))))).trans (cv159)
      have cv201 : σ182.2.1 (1000 + xt) = R0 := (CHX.r f185 (by first | (simp; done) | (simp only [List.mem_cons, List.not_mem_nil, or_false, not_or]; first | omega | ((repeat' apply And.intro) <;> first | assumption | (apply Ne.symm; assumption))))).trans ((CHX.r f43 (by first | (simp; done) | (simp only [List.mem_cons, List.not_mem_nil, or_false, not_or]; first | omega | ((repeat' apply And.intro) <;> first | assumption | (apply Ne.symm; assumption))))).trans (hR0))
      have cv202 : σ182.2.1 (1000 + xb) = B := (CHX.r f185 (by first | (simp; done) | (simp only [List.mem_cons, List.not_mem_nil, or_false, not_or]; first | omega | ((repeat' apply And.intro) <;> first | assumption | (apply Ne.symm; assumption))))).trans (cv172)
      refine tn_sub [2, 3, 4, 5, 1, 0] rfl (l_X10_goThrough_t_148 (d) (T := T) (σ0 := σ182) (a := a) (rx1 := p1) (c2 := p2) (c3 := v28) (c5 := v198) (x := x) (n := n) (W := (W)) (xh := xh) (Rh := (Rh)) (xn := xn) (Rn := (Rn)) (xt := xt) (R0 := (R0)) (wd := wd) (xs := xs) (xb := xb) (B := (B)) (S0 := (σ182.2.1 (1000 + xs))) ha h_p1 t_p1 (by omega) (by omega) (by omega) w188 (by omega) (by omega) hlv (by omega) (by omega) (rc_F F189 (Or.inl (by decide)) (by decide) (rc_F F41 (Or.inl (by decide)) (by decide) (hx))) (rc_F F189 (Or.inl (by decide)) (by decide) (rc_F F41 (Or.inl (by decide)) (by decide) (hn))) cv191 (rc_F F189 (Or.inl (by decide)) (by decide) (rc_F F41 (Or.inl (by decide)) (by decide) (hxh))) cv199 (rc_F F189 (Or.inl (by decide)) (by decide) (rc_F F41 (Or.inl (by decide)) (by decide) (hxn))) cv200 (rc_F F189 (Or.inl (by decide)) (by decide) (rc_F F41 (Or.inl (by decide)) (by decide) (hxt))) cv201 (rc_F F189 (Or.inl (by decide)) (by decide) (rc_F F41 (Or.inl (by decide)) (by decide) (hwd))) (rc_F F189 (Or.inl (by decide)) (by decide) (rc_F F41 (Or.inl (by decide)) (by decide) (hxs))) (rc_F F189 (Or.inl (by decide)) (by decide) (rc_F F41 (Or.inl (by decide)) (by decide) (hxb))) cv202 hN hne (fun i6203 σ204 w207 F208 r209 f210 f211 f212 f213 => ?_) _ (0) σ182 w188 FrC.rfl (by omega) CHX.rfl GT2.z (by omega) rfl)
      show Tn _ _ 190 T σ204 [(0, .ref a), (1, .ref p1), (2, .int (iI p2)), (3, .int (iI v28)), (5, .int (iI v198)), (6, .int (iI i6203))] [] _
      have cv214 : σ204.2.1 (1000 + xt) = R0 := (CHX.r f210 (by first | (simp; done) | (simp only [List.mem_cons, List.not_mem_nil, or_false, not_or]; first | omega | ((repeat' apply And.intro) <;> first | assumption | (apply Ne.symm; assumption))))).trans (cv201)
      have q215 : σ204.2.1 94 a = σ.2.1 94 a := rc_F F208 (Or.inl (by decide)) (by decide) (rc_F F189 (Or.inl (by decide)) (by decide) (rc_F F41 (Or.inl (by decide)) (by decide) (rfl)))
      refine tn_aload_n dX10_goThrough_190 rfl 1 rfl ?_
      refine tn_iload_n dX10_goThrough_191 rfl 2 rfl ?_
      have cv216 : cW σ204 x n = W := (cW_row (CHX.r f210 (by first | (simp; done) | (simp only [List.mem_cons, List.not_mem_nil, or_false, not_or]; first | omega | ((repeat' apply And.intro) <;> first | assumption | (apply Ne.symm; assumption)))))).trans (cv191)
      refine tn_callV (M := m_X10_goThrough) (pc := 192) (ix := 107) (ci := 1) (M' := m_X1_fallsOn) (As := [.int (iI p2)]) (rest := []) dX10_goThrough_192 ok_X1_fallsOn im_X1_fallsOn se_X1_fallsOn ml10_107 np_X1_fallsOn rfl rfl h_p1 rfl (Nat.le_of_ble_eq_true rfl) (Nat.le_of_ble_eq_true rfl) rfl (k_X1_fallsOn_x (d + 1) (T := T) (σ := σ204) (a := p1) (k := p2) (x := x) (n := n) (W := W) h_p1 (by omega) w207 (rc_F F208 (Or.inl (by decide)) (by decide) (rc_F F189 (Or.inl (by decide)) (by decide) (rc_F F41 (Or.inl (by decide)) (by decide) (hx)))) (rc_F F208 (Or.inl (by decide)) (by decide) (rc_F F189 (Or.inl (by decide)) (by decide) (rc_F F41 (Or.inl (by decide)) (by decide) (hn)))) cv216 (by omega)) (fun r217 T219 σ218 gt220 hp => ?_)
      obtain ⟨v223, rfl, rfl, rfl, f221, f222⟩ := hp
      clear gt220
      show Tn _ _ 195 T σ204 [(0, .ref a), (1, .ref p1), (2, .int (iI p2)), (3, .int (iI v28)), (5, .int (iI v198)), (6, .int (iI i6203))] [.int (iI v223)] _
      refine tn_if_eq (tgt := 206) dX10_goThrough_195 (by decide) ⟨by omega, by omega⟩ (fun h224 => ?_) (fun h224 => ?_)
      · refine tn_aload_n dX10_goThrough_206 rfl 0 rfl ?_
        refine tn_aload_n dX10_goThrough_207 rfl 1 rfl ?_
        refine tn_aload_n dX10_goThrough_208 rfl 1 rfl ?_
        refine tn_iload_n dX10_goThrough_209 rfl 2 rfl ?_
        refine tn_callV (M := m_X10_goThrough) (pc := 210) (ix := 114) (ci := 1) (M' := m_X1_targetOf) (As := [.int (iI p2)]) (rest := [.ref p1, .ref a]) dX10_goThrough_210 ok_X1_targetOf im_X1_targetOf se_X1_targetOf ml10_114 np_X1_targetOf rfl rfl h_p1 rfl (Nat.le_of_ble_eq_true rfl) (Nat.le_of_ble_eq_true rfl) rfl (k_X1_targetOf_x (d + 1) (T := T) (σ := σ204) (a := p1) (k := p2) (x := x) (n := n) (W := W) h_p1 (by omega) w207 (rc_F F208 (Or.inl (by decide)) (by decide) (rc_F F189 (Or.inl (by decide)) (by decide) (rc_F F41 (Or.inl (by decide)) (by decide) (hx)))) (rc_F F208 (Or.inl (by decide)) (by decide) (rc_F F189 (Or.inl (by decide)) (by decide) (rc_F F41 (Or.inl (by decide)) (by decide) (hn)))) cv216 (by omega)) (fun r225 T227 σ226 gt228 hp => ?_)
        obtain ⟨v231, rfl, rfl, rfl, f229, f230⟩ := hp
        clear gt228
        show Tn _ _ 213 T σ204 [(0, .ref a), (1, .ref p1), (2, .int (iI p2)), (3, .int (iI v28)), (5, .int (iI v198)), (6, .int (iI i6203))] [.int (iI v231), .ref p1, .ref a] _
        have q236 : σ204.2.1 94 a = σ.2.1 94 a := rc_F F208 (Or.inl (by decide)) (by decide) (rc_F F189 (Or.inl (by decide)) (by decide) (rc_F F41 (Or.inl (by decide)) (by decide) (rfl)))
        refine tn_callV (M := m_X10_goThrough) (pc := 213) (ix := 111) (ci := 10) (M' := m_X10_comeTo) (As := [.ref p1, .int (iI v231)]) (rest := []) dX10_goThrough_213 ok_X10_comeTo im_X10_comeTo se_X10_comeTo ml10_111 np_X10_comeTo rfl rfl ha rfl (Nat.le_of_ble_eq_true rfl) (Nat.le_of_ble_eq_true rfl) rfl (k_X10_comeTo_t (d + 1) (T := T) (σ := σ204) (a := a) (p1 := p1) (p2 := v231) (n := n) (xt := xt) (wd := wd) (xs := xs) (S := σ204.2.1 (1000 + xs)) ha h_p1 t_p1 (by omega) w207 (rc_F F208 (Or.inl (by decide)) (by decide) (rc_F F189 (Or.inl (by decide)) (by decide) (rc_F F41 (Or.inl (by decide)) (by decide) (hn)))) (rc_F F208 (Or.inl (by decide)) (by decide) (rc_F F189 (Or.inl (by decide)) (by decide) (rc_F F41 (Or.inl (by decide)) (by decide) (hxt)))) (rc_F F208 (Or.inl (by decide)) (by decide) (rc_F F189 (Or.inl (by decide)) (by decide) (rc_F F41 (Or.inl (by decide)) (by decide) (hwd)))) (rc_F F208 (Or.inl (by decide)) (by decide) (rc_F F189 (Or.inl (by decide)) (by decide) (rc_F F41 (Or.inl (by decide)) (by decide) (hxs)))) rfl (by omega) (by omega) (fun a b => hr _ a b)) (fun r232 T234 σ233 gt235 hp => ?_)
        obtain ⟨rfl, rfl, w240, F241, f237, f238⟩ := hp
        clear gt235
        show Tn _ _ 216 T σ233 [(0, .ref a), (1, .ref p1), (2, .int (iI p2)), (3, .int (iI v28)), (5, .int (iI v198)), (6, .int (iI i6203))] [] _
        exact tn_vret rfl dX10_goThrough_216 ⟨rfl, rfl, w240, ((((FrC.rfl.trans (FrC.sub F41 (by decide))).trans (FrC.sub F189 (by decide))).trans (FrC.sub F208 (by decide))).trans (FrC.sub F241 (by decide))), ((((CHX.rfl.trans (CHX.sub f43 (by simp) (by simp) (by simp))).trans (CHX.sub f185 (by simp) (by simp) (by simp))).trans (CHX.sub f210 (by simp) (by simp) (by simp))).trans (CHX.sub f237 (by simp) (by simp) (by simp))), Or.inr ⟨by have z := f15; unfold ATQ at z; have e0 : p2 * wd = z6 := (by rw [← hwd]; exact ez8); have h9 := hr p2 (by omega) (by omega); rw [e0] at h9 ⊢; omega, _, _, _, _, _, _, _, _, f34, f46, gs190, f213, f222, f230, Or.inr ⟨by omega, cv214, q215⟩, f238⟩⟩
      · refine tn_aload_n dX10_goThrough_198 rfl 0 rfl ?_
        refine tn_aload_n dX10_goThrough_199 rfl 1 rfl ?_
        refine tn_iload_n dX10_goThrough_200 rfl 2 rfl ?_
        refine tn_iconst dX10_goThrough_201 ?_
        refine tn_iadd dX10_goThrough_202 ?_
        have q246 : σ204.2.1 94 a = σ.2.1 94 a := rc_F F208 (Or.inl (by decide)) (by decide) (rc_F F189 (Or.inl (by decide)) (by decide) (rc_F F41 (Or.inl (by decide)) (by decide) (rfl)))
        refine tn_callV (M := m_X10_goThrough) (pc := 203) (ix := 111) (ci := 10) (M' := m_X10_comeTo) (As := [.ref p1, .int (iI (p2 + 1))]) (rest := []) dX10_goThrough_203 ok_X10_comeTo im_X10_comeTo se_X10_comeTo ml10_111 np_X10_comeTo rfl rfl ha rfl (Nat.le_of_ble_eq_true rfl) (Nat.le_of_ble_eq_true rfl) rfl (k_X10_comeTo_t (d + 1) (T := T) (σ := σ204) (a := a) (p1 := p1) (p2 := p2 + 1) (n := n) (xt := xt) (wd := wd) (xs := xs) (S := σ204.2.1 (1000 + xs)) ha h_p1 t_p1 (by omega) w207 (rc_F F208 (Or.inl (by decide)) (by decide) (rc_F F189 (Or.inl (by decide)) (by decide) (rc_F F41 (Or.inl (by decide)) (by decide) (hn)))) (rc_F F208 (Or.inl (by decide)) (by decide) (rc_F F189 (Or.inl (by decide)) (by decide) (rc_F F41 (Or.inl (by decide)) (by decide) (hxt)))) (rc_F F208 (Or.inl (by decide)) (by decide) (rc_F F189 (Or.inl (by decide)) (by decide) (rc_F F41 (Or.inl (by decide)) (by decide) (hwd)))) (rc_F F208 (Or.inl (by decide)) (by decide) (rc_F F189 (Or.inl (by decide)) (by decide) (rc_F F41 (Or.inl (by decide)) (by decide) (hxs)))) rfl (by omega) (by omega) (fun a b => hr _ a b)) (fun r242 T244 σ243 gt245 hp => ?_)
        obtain ⟨rfl, rfl, w250, F251, f247, f248⟩ := hp
        clear gt245
        show Tn _ _ 206 T σ243 [(0, .ref a), (1, .ref p1), (2, .int (iI p2)), (3, .int (iI v28)), (5, .int (iI v198)), (6, .int (iI i6203))] [] _
        refine tn_aload_n dX10_goThrough_206 rfl 0 rfl ?_
        refine tn_aload_n dX10_goThrough_207 rfl 1 rfl ?_
        refine tn_aload_n dX10_goThrough_208 rfl 1 rfl ?_
        refine tn_iload_n dX10_goThrough_209 rfl 2 rfl ?_
        have cv252 : cW σ243 x n = W := (cW_row (CHX.r f247 (by first | (simp; done) | (simp only [List.mem_cons, List.not_mem_nil, or_false, not_or]; first | omega | ((repeat' apply And.intro) <;> first | assumption | (apply Ne.symm; assumption)))))).trans (cv216)
        refine tn_callV (M := m_X10_goThrough) (pc := 210) (ix := 114) (ci := 1) (M' := m_X1_targetOf) (As := [.int (iI p2)]) (rest := [.ref p1, .ref a]) dX10_goThrough_210 ok_X1_targetOf im_X1_targetOf se_X1_targetOf ml10_114 np_X1_targetOf rfl rfl h_p1 rfl (Nat.le_of_ble_eq_true rfl) (Nat.le_of_ble_eq_true rfl) rfl (k_X1_targetOf_x (d + 1) (T := T) (σ := σ243) (a := p1) (k := p2) (x := x) (n := n) (W := W) h_p1 (by omega) w250 (rc_F F251 (Or.inl (by decide)) (by decide) (rc_F F208 (Or.inl (by decide)) (by decide) (rc_F F189 (Or.inl (by decide)) (by decide) (rc_F F41 (Or.inl (by decide)) (by decide) (hx))))) (rc_F F251 (Or.inl (by decide)) (by decide) (rc_F F208 (Or.inl (by decide)) (by decide) (rc_F F189 (Or.inl (by decide)) (by decide) (rc_F F41 (Or.inl (by decide)) (by decide) (hn))))) cv252 (by omega)) (fun r253 T255 σ254 gt256 hp => ?_)
        obtain ⟨v259, rfl, rfl, rfl, f257, f258⟩ := hp
        clear gt256
        show Tn _ _ 213 T σ243 [(0, .ref a), (1, .ref p1), (2, .int (iI p2)), (3, .int (iI v28)), (5, .int (iI v198)), (6, .int (iI i6203))] [.int (iI v259), .ref p1, .ref a] _
        have cv260 : σ243.2.1 (1000 + xs) = σ204.2.1 (1000 + xs) := (CHX.r f247 (by first | (simp; done) | (simp only [List.mem_cons, List.not_mem_nil, or_false, not_or]; first | omega | ((repeat' apply And.intro) <;> first | assumption | (apply Ne.symm; assumption))))).trans (rfl)
        refine tn_callV (M := m_X10_goThrough) (pc := 213) (ix := 111) (ci := 10) (M' := m_X10_comeTo) (As := [.ref p1, .int (iI v259)]) (rest := []) dX10_goThrough_213 ok_X10_comeTo im_X10_comeTo se_X10_comeTo ml10_111 np_X10_comeTo rfl rfl ha rfl (Nat.le_of_ble_eq_true rfl) (Nat.le_of_ble_eq_true rfl) rfl (k_X10_comeTo_t (d + 1) (T := T) (σ := σ243) (a := a) (p1 := p1) (p2 := v259) (n := n) (xt := xt) (wd := wd) (xs := xs) (S := σ204.2.1 (1000 + xs)) ha h_p1 t_p1 (by omega) w250 (rc_F F251 (Or.inl (by decide)) (by decide) (rc_F F208 (Or.inl (by decide)) (by decide) (rc_F F189 (Or.inl (by decide)) (by decide) (rc_F F41 (Or.inl (by decide)) (by decide) (hn))))) (rc_F F251 (Or.inl (by decide)) (by decide) (rc_F F208 (Or.inl (by decide)) (by decide) (rc_F F189 (Or.inl (by decide)) (by decide) (rc_F F41 (Or.inl (by decide)) (by decide) (hxt))))) (rc_F F251 (Or.inl (by decide)) (by decide) (rc_F F208 (Or.inl (by decide)) (by decide) (rc_F F189 (Or.inl (by decide)) (by decide) (rc_F F41 (Or.inl (by decide)) (by decide) (hwd))))) (rc_F F251 (Or.inl (by decide)) (by decide) (rc_F F208 (Or.inl (by decide)) (by decide) (rc_F F189 (Or.inl (by decide)) (by decide) (rc_F F41 (Or.inl (by decide)) (by decide) (hxs))))) cv260 (by omega) (by omega) (fun a b => hr _ a b)) (fun r261 T263 σ262 gt264 hp => ?_)
        obtain ⟨rfl, rfl, w268, F269, f265, f266⟩ := hp
        clear gt264
        show Tn _ _ 216 T σ262 [(0, .ref a), (1, .ref p1), (2, .int (iI p2)), (3, .int (iI v28)), (5, .int (iI v198)), (6, .int (iI i6203))] [] _
        exact tn_vret rfl dX10_goThrough_216 ⟨rfl, rfl, w268, (((((FrC.rfl.trans (FrC.sub F41 (by decide))).trans (FrC.sub F189 (by decide))).trans (FrC.sub F208 (by decide))).trans (FrC.sub F251 (by decide))).trans (FrC.sub F269 (by decide))), (((((CHX.rfl.trans (CHX.sub f43 (by simp) (by simp) (by simp))).trans (CHX.sub f185 (by simp) (by simp) (by simp))).trans (CHX.sub f210 (by simp) (by simp) (by simp))).trans (CHX.sub f247 (by simp) (by simp) (by simp))).trans (CHX.sub f265 (by simp) (by simp) (by simp))), Or.inr ⟨by have z := f15; unfold ATQ at z; have e0 : p2 * wd = z6 := (by rw [← hwd]; exact ez8); have h9 := hr p2 (by omega) (by omega); rw [e0] at h9 ⊢; omega, _, _, _, _, _, _, _, _, f34, f46, gs190, f213, f222, f258, Or.inl ⟨by omega, by have z := f248; rw [cv214, q215] at z; exact z⟩, f266⟩⟩
  · exact tn_vret rfl dX10_goThrough_16 ⟨rfl, rfl, hw, FrC.rfl, CHX.rfl, Or.inl ⟨by have z := f15; unfold ATQ at z; have e0 : p2 * wd = z6 := (by rw [← hwd]; exact ez8); have h9 := hr p2 (by omega) (by omega); rw [e0] at h9 ⊢; omega, hR0, rfl⟩⟩
end
