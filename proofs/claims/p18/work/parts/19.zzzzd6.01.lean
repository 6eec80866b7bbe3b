section
set_option maxHeartbeats 1000000 in
set_option maxRecDepth 20000 in
theorem l_X10_begin_t_2 (d : Nat) {T : CT} {σ0 : MS} {a : Nat} {rx1 : Nat} {R0 : Int → Int} {xn : Nat} {Rn : Int → Int} {P : Int} {N : Int} {xt : Nat} {wd : Int} {post : Option Value → CT → MS → Prop} (h_a : OB T a 10) (h_rx1 : OB T rx1 1) (t_rx1 : (T rx1).1 = 50) (hw0 : WT T σ0) (hl : 0 ≤ wd ∧ wd ≤ ((T xt).2 : Int) ∧ wd ≤ 145 ∧ 1 + N ≤ wd ∧ N ≤ 12) (hxn : σ0.2.1 14 rx1 = (xn : Int)) (hRn : σ0.2.1 (1000 + xn) = Rn) (hP : σ0.2.1 8 rx1 = P) (hN : σ0.2.1 7 rx1 = N) (hxt : σ0.2.1 92 a = (xt : Int)) (hwd : σ0.2.1 93 a = wd) (hne : xn ≠ xt) (hx_25 : ∀ (i2 : Int) (σ : MS) , (WT T σ) → (FrC T [] σ0 σ) → (0 ≤ i2 ∧ i2 ≤ 145) → (CHX [] [xt] [] σ0 σ) → (True) → (i2 ≤ wd) → (BG2 R0 (σ.2.1 (1000 + xt)) wd) → Tn (d + 2) m_X10_begin 25 T σ [(0, .ref a), (1, .ref rx1), (2, .int (iI i2))] [] post) : ∀ (nq9 : Nat) (i2 : Int) (σ : MS) , (WT T σ) → (FrC T [] σ0 σ) → (0 ≤ i2 ∧ i2 ≤ 145) → (CHX [] [xt] [] σ0 σ) → (BG2 R0 (σ.2.1 (1000 + xt)) i2) → (i2 ≤ wd) → (2147483700 - i2).toNat = nq9 → Tn (d + 2) m_X10_begin 2 T σ [(0, .ref a), (1, .ref rx1), (2, .int (iI i2))] [] post := by
  intro nq9
  induction nq9 using Nat.strongRecOn with
  | _ nq9 ih =>
    intro i2 σ hw hF r_i2 hC hA h2 hm
    refine tn_iload_n dX10_begin_2 rfl 2 rfl ?_
    refine tn_aload_n dX10_begin_3 rfl 0 rfl ?_
    refine tn_getI (ci := 10) (i := 5) (n := 93) (t := σ0.2.1 93 a) dX10_begin_4 rfl lay_10 (by decide) fl10_50 h_a rfl rfl (rc_F hF (Or.inl (by decide)) (by decide) (rfl)) ?_
    have g1 : ((0 : Int) ≤ σ0.2.1 93 a ∧ σ0.2.1 93 a ≤ 145) := wf_93 hw0 h_a
    refine tn_icmp_ge (tgt := 25) dX10_begin_7 (by decide) ⟨by omega, by omega⟩ ⟨by omega, by omega⟩ (fun h2 => ?_) (fun h2 => ?_)
    · exact tn_sub [0, 1, 2] rfl (hx_25 (i2) σ hw (FrC.rfl.trans (FrC.sub hF (by decide))) (by omega) hC True.intro (by omega) (by rw [show wd = i2 by omega]; exact hA))
    · refine tn_aload_n dX10_begin_10 rfl 0 rfl ?_
      obtain ⟨hk5, hl6⟩ : AR T xt 1 0 32788 := ar_of ((wf_92 hw0 h_a).resolve_left (by omega)) hxt
      have hk5i : IA T xt := by unfold IA; omega
      refine tn_getR (ci := 10) (i := 4) (n := 92) (x := xt) dX10_begin_11 rfl lay_10 (by decide) fl10_61 h_a rfl rfl (rc_F hF (Or.inl (by decide)) (by decide) (hxt)) ?_
      refine tn_iload_n dX10_begin_14 rfl 2 rfl ?_
      refine tn_iconst dX10_begin_15 ?_
      refine tn_callSN (M := m_X10_begin) (pc := 16) (ix := 26) (M' := m_X11_put) (As := [.ref xt, .int (iI i2), .int (iI 1)]) (rest := []) dX10_begin_16 ok_X11_put stt_X11_put nl10_26 np_X11_put rfl (Nat.le_of_ble_eq_true rfl) (Nat.le_of_ble_eq_true rfl) rfl (k_X11_put_x (d) (T := T) (σ := σ) (x := xt) (i := i2) (y := 1) hk5i (by omega) (by omega) (by decide) hw (nh_k hk5 (by unfold HT; omega)) (vok_1 (by have q9 := hk5; omega) (by omega))) (fun r7 T9 σ8 gt10 hp => ?_)
      obtain ⟨rfl, rfl, w14, F15, f11, f12⟩ := hp
      clear gt10
      show Tn _ _ 19 T σ8 [(0, .ref a), (1, .ref rx1), (2, .int (iI i2))] [] _
      refine tn_iinc (q0 := 2) (L' := [(2, .int (iI (i2 + 1))), (0, .ref a), (1, .ref rx1)]) dX10_begin_19 rfl (by decide) rfl ?_
      refine tn_goto (tgt := 2) dX10_begin_22 (by decide) ?_
      exact tn_sub [1, 2, 0] rfl (ih _ (by omega) (i2 + 1) σ8 w14 ((FrC.rfl.trans (FrC.sub hF (by decide))).trans (FrC.sub F15 (by decide))) (by omega) (hC.trans (CHX.sub f11 (by simp) (by simp) (by simp))) (hA.put (by omega) (ptf_row f12 ⟨by omega, by omega⟩)) (by omega) rfl)
set_option maxHeartbeats 1000000 in
set_option maxRecDepth 20000 in
theorem l_X10_begin_t_27 (d : Nat) {T : CT} {σ0 : MS} {a : Nat} {rx1 : Nat} {R0 : Int → Int} {xn : Nat} {Rn : Int → Int} {P : Int} {N : Int} {xt : Nat} {wd : Int} {post : Option Value → CT → MS → Prop} (h_a : OB T a 10) (h_rx1 : OB T rx1 1) (t_rx1 : (T rx1).1 = 50) (hw0 : WT T σ0) (hl : 0 ≤ wd ∧ wd ≤ ((T xt).2 : Int) ∧ wd ≤ 145 ∧ 1 + N ≤ wd ∧ N ≤ 12) (hxn : σ0.2.1 14 rx1 = (xn : Int)) (hRn : σ0.2.1 (1000 + xn) = Rn) (hP : σ0.2.1 8 rx1 = P) (hN : σ0.2.1 7 rx1 = N) (hxt : σ0.2.1 92 a = (xt : Int)) (hwd : σ0.2.1 93 a = wd) (hne : xn ≠ xt) (hx_70 : ∀ (i2 : Int) (σ : MS) , (WT T σ) → (FrC T [] σ0 σ) → (0 ≤ i2 ∧ i2 ≤ 12) → (CHX [] [xt] [] σ0 σ) → (True) → (i2 ≤ N) → (BG3 R0 (σ.2.1 (1000 + xt)) P N) → Tn (d + 2) m_X10_begin 70 T σ [(0, .ref a), (1, .ref rx1), (2, .int (iI i2))] [] post) : ∀ (nq9 : Nat) (i2 : Int) (σ : MS) , (WT T σ) → (FrC T [] σ0 σ) → (0 ≤ i2 ∧ i2 ≤ 12) → (CHX [] [xt] [] σ0 σ) → (BG3 R0 (σ.2.1 (1000 + xt)) P i2) → (i2 ≤ N) → (2147483700 - i2).toNat = nq9 → Tn (d + 2) m_X10_begin 27 T σ [(0, .ref a), (1, .ref rx1), (2, .int (iI i2))] [] post := by
  intro nq9
  induction nq9 using Nat.strongRecOn with
  | _ nq9 ih =>
    intro i2 σ hw hF r_i2 hC hA h2 hm
    refine tn_iload_n dX10_begin_27 rfl 2 rfl ?_
    refine tn_aload_n dX10_begin_28 rfl 1 rfl ?_
    refine tn_getI (ci := 1) (i := 2) (n := 7) (t := σ0.2.1 7 rx1) dX10_begin_29 rfl lay_1 (by decide) fl10_93 h_rx1 rfl rfl (rc_F hF (Or.inl (by decide)) (by decide) (rfl)) ?_
    have g1 : ((0 : Int) ≤ σ0.2.1 7 rx1 ∧ σ0.2.1 7 rx1 ≤ 12) := wf_7 hw0 h_rx1
    refine tn_icmp_ge (tgt := 70) dX10_begin_32 (by decide) ⟨by omega, by omega⟩ ⟨by omega, by omega⟩ (fun h2 => ?_) (fun h2 => ?_)
    · exact tn_sub [0, 1, 2] rfl (hx_70 (i2) σ hw (FrC.rfl.trans (FrC.sub hF (by decide))) (by omega) hC True.intro (by omega) (by rw [show N = i2 by omega]; exact hA))
    · refine tn_aload_n dX10_begin_35 rfl 0 rfl ?_
      obtain ⟨hk5, hl6⟩ : AR T xt 1 0 32788 := ar_of ((wf_92 hw0 h_a).resolve_left (by omega)) hxt
      have hk5i : IA T xt := by unfold IA; omega
      refine tn_getR (ci := 10) (i := 4) (n := 92) (x := xt) dX10_begin_36 rfl lay_10 (by decide) fl10_61 h_a rfl rfl (rc_F hF (Or.inl (by decide)) (by decide) (hxt)) ?_
      refine tn_aload_n dX10_begin_39 rfl 1 rfl ?_
      refine tn_iconst dX10_begin_40 ?_
      refine tn_iload_n dX10_begin_41 rfl 2 rfl ?_
      obtain ⟨hk9, hl10⟩ : AR T xn 11 12 12 := ar_of (wf_14 hw0 h_rx1) hxn
      have hk9i : IA T xn := by unfold IA; omega
      have cv11 : σ.2.1 (1000 + xn) = Rn := (CHX.r hC (by first | (simp; done) | (simp only [List.mem_cons, List.not_mem_nil, or_false, not_or]; first | omega | ((repeat' apply And.intro) <;> first | assumption | (apply Ne.symm; assumption))))).trans (hRn)
      refine tn_callV (M := m_X10_begin) (pc := 42) (ix := 36) (ci := 1) (M' := m_X1_slotOf) (As := [.int (iI 0), .int (iI i2)]) (rest := [.ref xt]) dX10_begin_42 ok_X1_slotOf im_X1_slotOf se_X1_slotOf ml10_36 np_X1_slotOf rfl rfl h_rx1 rfl (Nat.le_of_ble_eq_true rfl) (Nat.le_of_ble_eq_true rfl) rfl (k_X1_slotOf_t (d) (T := T) (σ := σ) (a := rx1) (f := 0) (m := i2) (xn := xn) (Rn := Rn) h_rx1 (by decide) (by omega) hw (rc_F hF (Or.inl (by decide)) (by decide) (hxn)) cv11 (by omega) (by omega)) (fun r12 T14 σ13 gt15 hp => ?_)
      obtain ⟨v19, rfl, rfl, rfl, f16, f17, f18⟩ := hp
      clear gt15
      show Tn _ _ 45 T σ [(0, .ref a), (1, .ref rx1), (2, .int (iI i2))] [.int (iI v19), .ref xt] _
      have s00 : slF Rn 0 = 1 := rfl
      refine tn_iload_n dX10_begin_45 rfl 2 rfl ?_
      refine tn_aload_n dX10_begin_46 rfl 1 rfl ?_
      refine tn_getI (ci := 1) (i := 3) (n := 8) (t := σ0.2.1 8 rx1) dX10_begin_47 rfl lay_1 (by decide) fl10_86 h_rx1 rfl rfl (rc_F hF (Or.inl (by decide)) (by decide) (rfl)) ?_
      have g20 : ((0 : Int) ≤ σ0.2.1 8 rx1 ∧ σ0.2.1 8 rx1 ≤ 4) := wf_8 hw0 h_rx1
      refine tn_icmp_ge (tgt := 60) dX10_begin_50 (by decide) ⟨by omega, by omega⟩ ⟨by omega, by omega⟩ (fun h21 => ?_) (fun h21 => ?_)
      · refine tn_iconst dX10_begin_60 ?_
        refine tn_callSN (M := m_X10_begin) (pc := 61) (ix := 26) (M' := m_X11_put) (As := [.ref xt, .int (iI v19), .int (iI 5)]) (rest := []) dX10_begin_61 ok_X11_put stt_X11_put nl10_26 np_X11_put rfl (Nat.le_of_ble_eq_true rfl) (Nat.le_of_ble_eq_true rfl) rfl (k_X11_put_x (d) (T := T) (σ := σ) (x := xt) (i := v19) (y := 5) hk5i (by omega) (by omega) (by decide) hw (nh_k hk5 (by unfold HT; omega)) (vok_1 (by have q9 := hk5; omega) (by omega))) (fun r22 T24 σ23 gt25 hp => ?_)
        obtain ⟨rfl, rfl, w29, F30, f26, f27⟩ := hp
        clear gt25
        show Tn _ _ 64 T σ23 [(0, .ref a), (1, .ref rx1), (2, .int (iI i2))] [] _
        refine tn_iinc (q0 := 2) (L' := [(2, .int (iI (i2 + 1))), (0, .ref a), (1, .ref rx1)]) dX10_begin_64 rfl (by decide) rfl ?_
        refine tn_goto (tgt := 27) dX10_begin_67 (by decide) ?_
        exact tn_sub [1, 2, 0] rfl (ih _ (by omega) (i2 + 1) σ23 w29 ((FrC.rfl.trans (FrC.sub hF (by decide))).trans (FrC.sub F30 (by decide))) (by omega) (hC.trans (CHX.sub f26 (by simp) (by simp) (by simp))) (hA.put (by omega) (by omega) (by omega) (ptf_row f27 ⟨by omega, by omega⟩)) (by omega) rfl)
      · refine tn_bipush dX10_begin_53 (by decide) ?_
        refine tn_iload_n dX10_begin_55 rfl 2 rfl ?_
        refine tn_iadd dX10_begin_56 ?_
        refine tn_goto (tgt := 61) dX10_begin_57 (by decide) ?_
        refine tn_callSN (M := m_X10_begin) (pc := 61) (ix := 26) (M' := m_X11_put) (As := [.ref xt, .int (iI v19), .int (iI (6 + i2))]) (rest := []) dX10_begin_61 ok_X11_put stt_X11_put nl10_26 np_X11_put rfl (Nat.le_of_ble_eq_true rfl) (Nat.le_of_ble_eq_true rfl) rfl (k_X11_put_x (d) (T := T) (σ := σ) (x := xt) (i := v19) (y := 6 + i2) hk5i (by omega) (by omega) (by omega) hw (nh_k hk5 (by unfold HT; omega)) (vok_1 (by have q9 := hk5; omega) (by omega))) (fun r31 T33 σ32 gt34 hp => ?_)
        obtain ⟨rfl, rfl, w38, F39, f35, f36⟩ := hp
        clear gt34
        show Tn _ _ 64 T σ32 [(0, .ref a), (1, .ref rx1), (2, .int (iI i2))] [] _
        refine tn_iinc (q0 := 2) (L' := [(2, .int (iI (i2 + 1))), (0, .ref a), (1, .ref rx1)]) dX10_begin_64 rfl (by decide) rfl ?_
        refine tn_goto (tgt := 27) dX10_begin_67 (by decide) ?_
        exact tn_sub [1, 2, 0] rfl (ih _ (by omega) (i2 + 1) σ32 w38 ((FrC.rfl.trans (FrC.sub hF (by decide))).trans (FrC.sub F39 (by decide))) (by omega) (hC.trans (CHX.sub f35 (by simp) (by simp) (by simp))) (hA.put (by omega) (by omega) (by omega) (ptf_row f36 ⟨by omega, by omega⟩)) (by omega) rfl)
set_option maxHeartbeats 1000000 in
set_option maxRecDepth 20000 in
theorem k_X10_begin_t (d : Nat) {T : CT} {σ : MS} {a : Nat} {p1 : Nat} {xn : Nat} {Rn : Int → Int} {P : Int} {N : Int} {xt : Nat} {wd : Int} (ha : OB T a 10) (h_p1 : OB T p1 1) (t_p1 : (T p1).1 = 50) (hw : WT T σ) (hxn : σ.2.1 14 p1 = (xn : Int)) (hRn : σ.2.1 (1000 + xn) = Rn) (hP : σ.2.1 8 p1 = P) (hN : σ.2.1 7 p1 = N) (hxt : σ.2.1 92 a = (xt : Int)) (hwd : σ.2.1 93 a = wd) (hne : xn ≠ xt) (hl : 0 ≤ wd ∧ wd ≤ ((T xt).2 : Int) ∧ wd ≤ 145 ∧ 1 + N ≤ wd ∧ N ≤ 12) : Tn (d + 2) m_X10_begin 0 T σ [(0, .ref a), (1, .ref p1)] [] (fun ro T2 σ2 => ro = none ∧ T = T2 ∧ WT T2 σ2 ∧ FrC T [] σ σ2 ∧ (CHX [] [xt] [] σ σ2) ∧ (BGX N P wd (σ.2.1 (1000 + xt)) (σ2.2.1 (1000 + xt)))) := by
  refine tn_iconst dX10_begin_0 ?_
  refine tn_istore_n (L' := [(2, .int (iI 0)), (0, .ref a), (1, .ref p1)]) dX10_begin_1 rfl (by decide) rfl ?_
  refine tn_sub [1, 2, 0] rfl (l_X10_begin_t_2 (d) (T := T) (σ0 := σ) (a := a) (rx1 := p1) (xn := xn) (Rn := (Rn)) (P := P) (N := N) (xt := xt) (wd := wd) (R0 := (σ.2.1 (1000 + xt))) ha h_p1 t_p1 hw (by omega) (hxn) hRn (hP) (hN) (hxt) (hwd) hne (fun i21 σ2 w5 F6 r7 f8 f9 f10 f11 => ?_) _ (0) σ hw FrC.rfl (by omega) CHX.rfl BG2.z (by omega) rfl)
  show Tn _ _ 25 T σ2 [(0, .ref a), (1, .ref p1), (2, .int (iI i21))] [] _
  refine tn_iconst dX10_begin_25 ?_
  refine tn_istore_n (L' := [(2, .int (iI 0)), (0, .ref a), (1, .ref p1)]) dX10_begin_26 rfl (by decide) rfl ?_
  have cv12 : σ2.2.1 (1000 + xn) = Rn := (CHX.r f8 (by first | (simp; done) | (simp only [List.mem_cons, List.not_mem_nil, or_false, not_or]; first | omega | ((repeat' apply And.intro) <;> first | assumption | (apply Ne.symm; assumption))))).trans (hRn)
  refine tn_sub [1, 2, 0] rfl (l_X10_begin_t_27 (d) (T := T) (σ0 := σ2) (a := a) (rx1 := p1) (xn := xn) (Rn := (Rn)) (P := P) (N := N) (xt := xt) (wd := wd) (R0 := (σ2.2.1 (1000 + xt))) ha h_p1 t_p1 w5 (by omega) (rc_F F6 (Or.inl (by decide)) (by decide) (hxn)) cv12 (rc_F F6 (Or.inl (by decide)) (by decide) (hP)) (rc_F F6 (Or.inl (by decide)) (by decide) (hN)) (rc_F F6 (Or.inl (by decide)) (by decide) (hxt)) (rc_F F6 (Or.inl (by decide)) (by decide) (hwd)) hne (fun i213 σ14 w17 F18 r19 f20 f21 f22 f23 => ?_) _ (0) σ2 w5 FrC.rfl (by omega) CHX.rfl BG3.z (by have z9 := wf_7 hw h_p1; rw [hN] at z9; omega) rfl)
  show Tn _ _ 70 T σ14 [(0, .ref a), (1, .ref p1), (2, .int (iI i213))] [] _
  exact tn_vret rfl dX10_begin_70 ⟨rfl, rfl, w17, ((FrC.rfl.trans (FrC.sub F6 (by decide))).trans (FrC.sub F18 (by decide))), ((CHX.rfl.trans (CHX.sub f8 (by simp) (by simp) (by simp))).trans (CHX.sub f20 (by simp) (by simp) (by simp))), ⟨_, f11, f23⟩⟩
end
