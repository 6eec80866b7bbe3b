section
set_option maxHeartbeats 1000000 in
set_option maxRecDepth 20000 in
theorem l_X7_climb_h_7 (d : Nat) {T : CT} {σ0 : MS} {a : Nat} {c1 : Int} {post : Option Value → CT → MS → Prop} (h_a : OB T a 7) (r_c1 : -2147483648 ≤ c1 ∧ c1 ≤ 2147483647) (hw0 : WT T σ0) (hx_37 : ∀ (i3 : Int) (σ : MS) , (WT T σ) → (FrC T [71] σ0 σ) → (0 ≤ i3 ∧ i3 ≤ 2147483647) → (CHX [(70, a), (71, a)] [] [] σ0 σ) → Tn (d + 3) m_X7_climb 37 T σ [(0, .ref a), (1, .int (iI c1)), (2, .null), (3, .int (iI i3))] [] post) : ∀ (nq9 : Nat) (i3 : Int) (σ : MS) , (WT T σ) → (FrC T [71] σ0 σ) → (0 ≤ i3 ∧ i3 ≤ 2147483647) → (CHX [(70, a), (71, a)] [] [] σ0 σ) → (2147483700 - i3).toNat = nq9 → Tn (d + 3) m_X7_climb 7 T σ [(0, .ref a), (1, .int (iI c1)), (2, .null), (3, .int (iI i3))] [] post := by
  intro nq9
  induction nq9 using Nat.strongRecOn with
  | _ nq9 ih =>
    intro i3 σ hw hF r_i3 hC hm
    refine tn_iload_n dX7_climb_7 rfl 3 rfl ?_
    refine tn_iload_n dX7_climb_8 rfl 1 rfl ?_
    refine tn_icmp_ge (tgt := 37) dX7_climb_9 (by decide) ⟨by omega, by omega⟩ ⟨by omega, by omega⟩ (fun h1 => ?_) (fun h1 => ?_)
    · exact tn_sub [0, 1, 2, 3] rfl (hx_37 (i3) σ hw (FrC.rfl.trans (FrC.sub hF (by decide))) (by omega) hC)
    · refine tn_aload_nN dX7_climb_12 rfl 2 rfl ?_
      refine tn_ifnullN (tgt := 37) dX7_climb_13 (by decide) ?_
      exact tn_sub [0, 1, 2, 3] rfl (hx_37 (i3) σ hw (FrC.rfl.trans (FrC.sub hF (by decide))) (by omega) hC)
set_option maxHeartbeats 1000000 in
set_option maxRecDepth 20000 in
theorem l_X7_climb_h_7_1 (d : Nat) {T : CT} {σ0 : MS} {a : Nat} {c1 : Int} {rx2 : Nat} {post : Option Value → CT → MS → Prop} (h_a : OB T a 7) (r_c1 : -2147483648 ≤ c1 ∧ c1 ≤ 2147483647) (h_rx2 : OB T rx2 1) (hw0 : WT T σ0) (hx_37 : ∀ (i3 : Int) (σ : MS) , (WT T σ) → (FrC T [71] σ0 σ) → (0 ≤ i3 ∧ i3 ≤ 2147483647) → (CHX [(70, a), (71, a)] [] [] σ0 σ) → Tn (d + 3) m_X7_climb 37 T σ [(0, .ref a), (1, .int (iI c1)), (2, .ref rx2), (3, .int (iI i3))] [] post) : ∀ (nq9 : Nat) (i3 : Int) (σ : MS) , (WT T σ) → (FrC T [71] σ0 σ) → (0 ≤ i3 ∧ i3 ≤ 2147483647) → (CHX [(70, a), (71, a)] [] [] σ0 σ) → (2147483700 - i3).toNat = nq9 → Tn (d + 3) m_X7_climb 7 T σ [(0, .ref a), (1, .int (iI c1)), (2, .ref rx2), (3, .int (iI i3))] [] post := by
  intro nq9
  induction nq9 using Nat.strongRecOn with
  | _ nq9 ih =>
    intro i3 σ hw hF r_i3 hC hm
    refine tn_iload_n dX7_climb_7 rfl 3 rfl ?_
    refine tn_iload_n dX7_climb_8 rfl 1 rfl ?_
    refine tn_icmp_ge (tgt := 37) dX7_climb_9 (by decide) ⟨by omega, by omega⟩ ⟨by omega, by omega⟩ (fun h1 => ?_) (fun h1 => ?_)
    · exact tn_sub [0, 1, 2, 3] rfl (hx_37 (i3) σ hw (FrC.rfl.trans (FrC.sub hF (by decide))) (by omega) hC)
    · refine tn_aload_n dX7_climb_12 rfl 2 rfl ?_
      refine tn_ifnull dX7_climb_13 ?_
      refine tn_aload_n dX7_climb_16 rfl 0 rfl ?_
      refine tn_aload_n dX7_climb_17 rfl 2 rfl ?_
      obtain ⟨xq2, hx3, hk4, hl5⟩ : ∃ x : Nat, σ0.2.1 12 rx2 = (x : Int) ∧ AR T x 1 12 12 := wf_12 hw0 h_rx2
      have hk4i : IA T xq2 := by unfold IA; omega
      refine tn_getR (ci := 1) (i := 7) (n := 12) (x := xq2) dX7_climb_18 rfl lay_1 (by decide) fl7_126 h_rx2 rfl rfl (rc_F hF (Or.inl (by decide)) (by decide) (hx3)) ?_
      refine tn_aload_n dX7_climb_21 rfl 0 rfl ?_
      refine tn_getI (ci := 7) (i := 16) (n := 71) (t := σ.2.1 71 a) dX7_climb_22 rfl lay_7 (by decide) fl7_146 h_a rfl rfl (rfl) ?_
      have g6 : ((-2147483648 : Int) ≤ σ.2.1 71 a ∧ σ.2.1 71 a ≤ 2147483647) := wf_71 hw h_a
      refine tn_callSN (M := m_X7_climb) (pc := 25) (ix := 91) (M' := m_X11_at) (As := [.ref xq2, .int (iI (σ.2.1 71 a))]) (rest := [.ref a]) dX7_climb_25 ok_X11_at stt_X11_at nl7_91 np_X11_at rfl (Nat.le_of_ble_eq_true rfl) (Nat.le_of_ble_eq_true rfl) rfl (k_X11_at (d + 1) (T := T) (σ := σ) (x := xq2) (i := σ.2.1 71 a) hk4i (by omega) (by omega) hw ) (fun r7 T9 σ8 gt10 hp => ?_)
      obtain ⟨v14, rfl, rfl, rfl, f11, f12, f13⟩ := hp
      clear gt10
      clear f12
      show Tn _ _ 28 T σ [(0, .ref a), (1, .int (iI c1)), (2, .ref rx2), (3, .int (iI i3))] [.int (iI v14), .ref a] _
      refine tn_putV (ci := 7) (i := 16) (n := 71) (r := false) (v := v14) tyX7 tyX7_ok nmX7 dX7_climb_28 rfl lay_7 (by decide) fl7_146 rfl (tyX7_ok 16 (by decide)) rfl rfl rfl h_a rfl rfl ?_
      refine tn_iinc (q0 := 3) (L' := [(3, .int (iI (i3 + 1))), (0, .ref a), (1, .int (iI c1)), (2, .ref rx2)]) dX7_climb_31 rfl (by decide) rfl ?_
      refine tn_goto (tgt := 7) dX7_climb_34 (by decide) ?_
      exact tn_sub [1, 2, 3, 0] rfl (ih _ (by omega) (i3 + 1) (sA 71 a (v14) σ) (hw.put (by decide) (by decide) (fo_71 (by omega))) ((FrC.rfl.trans (FrC.sub hF (by decide))).put (by decide) (by decide)) (by omega) (hC.fld (by simp) (by decide)) rfl)
set_option maxHeartbeats 1000000 in
set_option maxRecDepth 20000 in
theorem k_X7_climb_h (d : Nat) {T : CT} {σ : MS} {a : Nat} {p1 : Int} (ha : OB T a 7) (h_p1 : -2147483648 ≤ p1 ∧ p1 ≤ 2147483647) (hw : WT T σ) : Tn (d + 3) m_X7_climb 0 T σ [(0, .ref a), (1, .int (iI p1))] [] (fun ro T2 σ2 => ro = none ∧ T = T2 ∧ WT T2 σ2 ∧ FrC T [71] σ σ2 ∧ (CHX [(70, a), (71, a)] [] [] σ σ2)) := by
  refine tn_aload_n dX7_climb_0 rfl 0 rfl ?_
  refine tn_callV (M := m_X7_climb) (pc := 1) (ix := 152) (ci := 7) (M' := m_X7_foundCode) (As := []) (rest := []) dX7_climb_1 ok_X7_foundCode im_X7_foundCode se_X7_foundCode ml7_152 np_X7_foundCode rfl rfl ha rfl (Nat.le_of_ble_eq_true rfl) (Nat.le_of_ble_eq_true rfl) rfl (k_X7_foundCode (d) (T := T) (σ := σ) (a := a) ha hw ) (fun r1 T3 σ2 gt4 hp => ?_)
  obtain ⟨v6, rfl, rfl, rfl, rv7, f5⟩ := hp
  clear gt4
  clear f5
  rcases rv7 with rv7 | ⟨xq8, rfl, hk9⟩
  · show Tn _ _ 4 T σ [(0, .ref a), (1, .int (iI p1))] (vl true v6 :: []) _
    rw [vl_null rv7]
    refine tn_astore_nN (L' := [(2, .null), (0, .ref a), (1, .int (iI p1))]) dX7_climb_4 rfl (by decide) rfl ?_
    refine tn_iconst dX7_climb_5 ?_
    refine tn_istore_n (L' := [(3, .int (iI 0)), (2, .null), (0, .ref a), (1, .int (iI p1))]) dX7_climb_6 rfl (by decide) rfl ?_
    refine tn_sub [2, 3, 1, 0] rfl (l_X7_climb_h_7 (d) (T := T) (σ0 := σ) (a := a) (c1 := p1) ha (by omega) hw (fun i310 σ11 w14 F15 r16 f17 => ?_) _ (0) σ hw FrC.rfl (by omega) CHX.rfl rfl)
    show Tn _ _ 37 T σ11 [(0, .ref a), (1, .int (iI p1)), (2, .null), (3, .int (iI i310))] [] _
    exact tn_vret rfl dX7_climb_37 ⟨rfl, rfl, w14, (FrC.rfl.trans (FrC.sub F15 (by decide))), (CHX.rfl.trans (CHX.sub f17 (by simp) (by simp) (by simp)))⟩
  · show Tn _ _ 4 T σ [(0, .ref a), (1, .int (iI p1))] (vl true (xq8 : Int) :: []) _
    rw [vl_ref rfl]
    have hk9o : OB T xq8 1 := hk9.1
    refine tn_astore_n (L' := [(2, .ref xq8), (0, .ref a), (1, .int (iI p1))]) dX7_climb_4 rfl (by decide) rfl ?_
    refine tn_iconst dX7_climb_5 ?_
    refine tn_istore_n (L' := [(3, .int (iI 0)), (2, .ref xq8), (0, .ref a), (1, .int (iI p1))]) dX7_climb_6 rfl (by decide) rfl ?_
    refine tn_sub [2, 3, 1, 0] rfl (l_X7_climb_h_7_1 (d) (T := T) (σ0 := σ) (a := a) (c1 := p1) (rx2 := xq8) ha (by omega) hk9o hw (fun i318 σ19 w22 F23 r24 f25 => ?_) _ (0) σ hw FrC.rfl (by omega) CHX.rfl rfl)
    show Tn _ _ 37 T σ19 [(0, .ref a), (1, .int (iI p1)), (2, .ref xq8), (3, .int (iI i318))] [] _
    exact tn_vret rfl dX7_climb_37 ⟨rfl, rfl, w22, (FrC.rfl.trans (FrC.sub F23 (by decide))), (CHX.rfl.trans (CHX.sub f25 (by simp) (by simp) (by simp)))⟩
end
section
set_option maxHeartbeats 1000000 in
set_option maxRecDepth 20000 in
theorem l_X7_find_h_37 (d : Nat) {T : CT} {σ : MS} {a : Nat} {post : Option Value → CT → MS → Prop} (h_a : OB T a 7) (hw : WT T σ) (hx_54 : ∀ (i2 : Int) (i3 : Int) , (-2147483648 ≤ i2 ∧ i2 ≤ 2147483647) → (-1 ≤ i3 ∧ i3 ≤ 11184800) → Tn (d + 4) m_X7_find 54 T σ [(0, .ref a), (2, .int (iI i2)), (3, .int (iI i3))] [] post) (hx_100 : ∀ (i2 : Int) (i3 : Int) , (-2147483648 ≤ i2 ∧ i2 ≤ 2147483647) → (-1 ≤ i3 ∧ i3 ≤ 11184800) → Tn (d + 4) m_X7_find 100 T σ [(0, .ref a), (2, .int (iI i2)), (3, .int (iI i3))] [] post) : ∀ (nq9 : Nat) (i2 : Int) (i3 : Int) , (-2147483648 ≤ i2 ∧ i2 ≤ 2147483647) → (-1 ≤ i3 ∧ i3 ≤ 11184800) → (i3 + 20).toNat = nq9 → Tn (d + 4) m_X7_find 37 T σ [(0, .ref a), (2, .int (iI i2)), (3, .int (iI i3))] [] post := by
  intro nq9
  induction nq9 using Nat.strongRecOn with
  | _ nq9 ih =>
    intro i2 i3 r_i2 r_i3 hm
    refine tn_iload_n dX7_find_37 rfl 2 rfl ?_
    refine tn_if_lt (tgt := 100) dX7_find_38 (by decide) ⟨by omega, by omega⟩ (fun h1 => ?_) (fun h1 => ?_)
    · exact tn_sub [0, 1, 2] rfl (hx_100 (i2) (i3) (by omega) (by omega))
    · refine tn_aload_n dX7_find_41 rfl 0 rfl ?_
      refine tn_iload_n dX7_find_42 rfl 2 rfl ?_
      refine tn_callV (M := m_X7_find) (pc := 43) (ix := 140) (ci := 7) (M' := m_X7_chainOf) (As := [.int (iI i3)]) (rest := []) dX7_find_43 ok_X7_chainOf im_X7_chainOf se_X7_chainOf ml7_140 np_X7_chainOf rfl rfl h_a rfl (Nat.le_of_ble_eq_true rfl) (Nat.le_of_ble_eq_true rfl) rfl (k_X7_chainOf (d + 1) (T := T) (σ := σ) (a := a) (p1 := i3) h_a (by omega) hw ) (fun r2 T4 σ3 gt5 hp => ?_)
      obtain ⟨v7, rfl, rfl, rfl, f6⟩ := hp
      clear gt5
      show Tn _ _ 46 T σ [(0, .ref a), (2, .int (iI i2)), (3, .int (iI i3))] [.int (iI v7)] _
      refine tn_istore (L' := [(4, .int (iI v7)), (0, .ref a), (2, .int (iI i2)), (3, .int (iI i3))]) dX7_find_46 (by decide) rfl ?_
      refine tn_iload_n dX7_find_48 rfl 2 rfl ?_
      refine tn_iload dX7_find_49 0 rfl ?_
      refine tn_icmp_ge (tgt := 89) dX7_find_51 (by decide) ⟨by omega, by omega⟩ ⟨by omega, by omega⟩ (fun h8 => ?_) (fun h8 => ?_)
      · refine tn_iload_n dX7_find_89 rfl 2 rfl ?_
        refine tn_iload dX7_find_90 0 rfl ?_
        refine tn_isub dX7_find_92 ?_
        refine tn_any (fun z9 g10 => ?_)
        have g10r : -2147483648 ≤ z9 ∧ z9 ≤ 2147483647 := g10
        refine tn_istore_n (L' := [(2, .int (iI z9)), (4, .int (iI v7)), (0, .ref a), (3, .int (iI i3))]) dX7_find_93 rfl (by decide) rfl ?_
        refine tn_iinc (q0 := 3) (L' := [(3, .int (iI (i3 + (-1)))), (2, .int (iI z9)), (4, .int (iI v7)), (0, .ref a)]) dX7_find_94 rfl (by decide) rfl ?_
        refine tn_goto (tgt := 37) dX7_find_97 (by decide) ?_
        exact tn_sub [3, 1, 0] rfl (ih _ (by omega) (z9) (i3 + (-1)) (by omega) (by omega) rfl)
      · exact tn_sub [1, 2, 3] rfl (hx_54 (i2) (i3) (by omega) (by omega))
set_option maxHeartbeats 1000000 in
set_option maxRecDepth 20000 in
theorem k_X7_find_h (d : Nat) {T : CT} {σ : MS} {a : Nat} {k : Int} (ha : OB T a 7) (h_k : -2147483648 ≤ k ∧ k ≤ 2147483647) (hw : WT T σ) : Tn (d + 4) m_X7_find 0 T σ [(0, .ref a), (1, .int (iI k))] [] (fun ro T2 σ2 => ∃ v : Int, ro = some (.int (iI v)) ∧ T = T2 ∧ WT T2 σ2 ∧ FrC T [70, 71] σ σ2 ∧ (v = 0 ∨ v = 1) ∧ (CHX [(70, a), (71, a)] [] [] σ σ2) ∧ (v = 1 → 0 ≤ FRV T σ2 a ∧ FRV T σ2 a ≤ 5)) := by
  refine tn_iload_n dX7_find_0 rfl 1 rfl ?_
  refine tn_if_lt (tgt := 28) dX7_find_1 (by decide) ⟨by omega, by omega⟩ (fun h1 => ?_) (fun h1 => ?_)
  · refine tn_iconst dX7_find_28 ?_
    exact tn_zret (v := 0) rfl (by decide) dX7_find_29 ⟨_, rfl, rfl, hw, FrC.rfl, by omega, CHX.rfl, fun q => absurd q (by decide)⟩
  · refine tn_iload_n dX7_find_4 rfl 1 rfl ?_
    refine tn_aload_n dX7_find_5 rfl 0 rfl ?_
    refine tn_getI (ci := 7) (i := 3) (n := 58) (t := σ.2.1 58 a) dX7_find_6 rfl lay_7 (by decide) fl7_38 ha rfl rfl (rfl) ?_
    have g2 : ((-2147483648 : Int) ≤ σ.2.1 58 a ∧ σ.2.1 58 a ≤ 2147483647) := wf_58 hw ha
    refine tn_icmp_ge (tgt := 28) dX7_find_9 (by decide) ⟨by omega, by omega⟩ ⟨by omega, by omega⟩ (fun h3 => ?_) (fun h3 => ?_)
    · refine tn_iconst dX7_find_28 ?_
      exact tn_zret (v := 0) rfl (by decide) dX7_find_29 ⟨_, rfl, rfl, hw, FrC.rfl, by omega, CHX.rfl, fun q => absurd q (by decide)⟩
    · refine tn_aload_n dX7_find_12 rfl 0 rfl ?_
      refine tn_getI (ci := 7) (i := 1) (n := 56) (t := σ.2.1 56 a) dX7_find_13 rfl lay_7 (by decide) fl7_34 ha rfl rfl (rfl) ?_
      have g4 : ((-2147483648 : Int) ≤ σ.2.1 56 a ∧ σ.2.1 56 a ≤ 2147483647) := wf_56 hw ha
      refine tn_iconst dX7_find_16 ?_
      refine tn_icmp_eq (tgt := 30) dX7_find_17 (by decide) ⟨by omega, by omega⟩ ⟨by decide, by decide⟩ (fun h5 => ?_) (fun h5 => ?_)
      · refine tn_iload_n dX7_find_30 rfl 1 rfl ?_
        refine tn_istore_n (L' := [(2, .int (iI k)), (0, .ref a), (1, .int (iI k))]) dX7_find_31 rfl (by decide) rfl ?_
        refine tn_aload_n dX7_find_32 rfl 1 rfl ?_
        refine tn_getI (ci := 7) (i := 2) (n := 57) (t := σ.2.1 57 a) dX7_find_33 rfl lay_7 (by decide) fl7_65 ha rfl rfl (rfl) ?_
        have g6 : ((0 : Int) ≤ σ.2.1 57 a ∧ σ.2.1 57 a ≤ 11184800) ∧ ((T a).1 = 57 → σ.2.1 57 a ≤ 8) := wf_57 hw ha
        have g6x := g6.2
        replace g6 := g6.1
        clear g6x
        refine tn_istore_n (L' := [(3, .int (iI (σ.2.1 57 a))), (2, .int (iI k)), (0, .ref a), (1, .int (iI k))]) dX7_find_36 rfl (by decide) rfl ?_
        refine tn_sub [2, 1, 0] rfl (l_X7_find_h_37 (d) (T := T) (σ := σ) (a := a) ha hw (fun i27 i38 r14 r15 => ?_) (fun i216 i317 r23 r24 => ?_) _ (k) (σ.2.1 57 a) (by omega) (by omega) rfl)
        · show Tn _ _ 54 T σ [(0, .ref a), (2, .int (iI i27)), (3, .int (iI i38))] [] _
          refine tn_aload_n dX7_find_54 rfl 0 rfl ?_
          refine tn_iload_n dX7_find_55 rfl 2 rfl ?_
          refine tn_putV (ci := 7) (i := 15) (n := 70) (r := false) (v := i38) tyX7 tyX7_ok nmX7 dX7_find_56 rfl lay_7 (by decide) fl7_143 rfl (tyX7_ok 15 (by decide)) rfl rfl rfl ha rfl rfl ?_
          refine tn_aload_n dX7_find_59 rfl 0 rfl ?_
          refine tn_aload_n dX7_find_60 rfl 0 rfl ?_
          obtain ⟨xq25, hx26, hl28, hk27a, hk27b⟩ := wf_61 hw ha
          have hk27i : IA T xq25 := by unfold IA; omega
          have hk27n : NH T xq25 := by unfold NH HT; omega
          clear hk27a hk27b
          refine tn_getR (ci := 7) (i := 6) (n := 61) (x := xq25) dX7_find_61 rfl lay_7 (by decide) fl7_18 ha rfl rfl (rc_o (by decide) (hx26)) ?_
          refine tn_iload_n dX7_find_64 rfl 2 rfl ?_
          refine tn_callSN (M := m_X7_find) (pc := 65) (ix := 91) (M' := m_X11_at) (As := [.ref xq25, .int (iI i38)]) (rest := [.ref a]) dX7_find_65 ok_X11_at stt_X11_at nl7_91 np_X11_at rfl (Nat.le_of_ble_eq_true rfl) (Nat.le_of_ble_eq_true rfl) rfl (k_X11_at (d + 2) (T := T) (σ := (sA 70 a (i38) σ)) (x := xq25) (i := i38) hk27i (by omega) (by omega) (hw.put (by decide) (by decide) (fo_70 (by omega))) ) (fun r29 T31 σ30 gt32 hp => ?_)
          obtain ⟨v36, rfl, rfl, rfl, f33, f34, f35⟩ := hp
          clear gt32
          clear f34
          show Tn _ _ 68 T (sA 70 a (i38) σ) [(0, .ref a), (2, .int (iI i27)), (3, .int (iI i38))] [.int (iI v36), .ref a] _
          refine tn_putV (ci := 7) (i := 16) (n := 71) (r := false) (v := v36) tyX7 tyX7_ok nmX7 dX7_find_68 rfl lay_7 (by decide) fl7_146 rfl (tyX7_ok 16 (by decide)) rfl rfl rfl ha rfl rfl ?_
          refine tn_aload_n dX7_find_71 rfl 0 rfl ?_
          refine tn_iload_n dX7_find_72 rfl 1 rfl ?_
          refine tn_callV (M := m_X7_find) (pc := 73) (ix := 149) (ci := 7) (M' := m_X7_climb) (As := [.int (iI i27)]) (rest := []) dX7_find_73 ok_X7_climb im_X7_climb se_X7_climb ml7_149 np_X7_climb rfl rfl ha rfl (Nat.le_of_ble_eq_true rfl) (Nat.le_of_ble_eq_true rfl) rfl (k_X7_climb_h (d) (T := T) (σ := (sA 71 a (v36) (sA 70 a (i38) σ))) (a := a) (p1 := i27) ha (by omega) ((hw.put (by decide) (by decide) (fo_70 (by omega))).put (by decide) (by decide) (fo_71 (by omega))) ) (fun r37 T39 σ38 gt40 hp => ?_)
          obtain ⟨rfl, rfl, w43, F44, f41⟩ := hp
          clear gt40
          show Tn _ _ 76 T σ38 [(0, .ref a), (2, .int (iI i27)), (3, .int (iI i38))] [] _
          refine tn_aload_n dX7_find_76 rfl 0 rfl ?_
          refine tn_callV (M := m_X7_find) (pc := 77) (ix := 152) (ci := 7) (M' := m_X7_foundCode) (As := []) (rest := []) dX7_find_77 ok_X7_foundCode im_X7_foundCode se_X7_foundCode ml7_152 np_X7_foundCode rfl rfl ha rfl (Nat.le_of_ble_eq_true rfl) (Nat.le_of_ble_eq_true rfl) rfl (k_X7_foundCode (d + 1) (T := T) (σ := σ38) (a := a) ha w43 ) (fun r45 T47 σ46 gt48 hp => ?_)
          obtain ⟨v50, rfl, rfl, rfl, rv51, f49⟩ := hp
          clear gt48
          rcases rv51 with rv51 | ⟨xq52, rfl, hk53⟩
          · show Tn _ _ 80 T σ38 [(0, .ref a), (2, .int (iI i27)), (3, .int (iI i38))] (vl true v50 :: []) _
            rw [vl_null rv51]
            refine tn_ifnullN (tgt := 87) dX7_find_80 (by decide) ?_
            refine tn_iconst dX7_find_87 ?_
            exact tn_zret (v := 0) rfl (by decide) dX7_find_88 ⟨_, rfl, rfl, w43, (((FrC.rfl.put (by decide) (by decide)).put (by decide) (by decide)).trans (FrC.sub F44 (by decide))), by omega, (((CHX.rfl.fld (by simp) (by decide)).fld (by simp) (by decide)).trans (CHX.sub f41 (by simp) (by simp) (by simp))), fun q => absurd q (by decide)⟩
          · show Tn _ _ 80 T σ38 [(0, .ref a), (2, .int (iI i27)), (3, .int (iI i38))] (vl true (xq52 : Int) :: []) _
            rw [vl_ref rfl]
            have hk53o : OB T xq52 1 := hk53.1
            refine tn_ifnull dX7_find_80 ?_
            refine tn_iconst dX7_find_83 ?_
            refine tn_goto (tgt := 88) dX7_find_84 (by decide) ?_
            exact tn_zret (v := 1) rfl (by decide) dX7_find_88 ⟨_, rfl, rfl, w43, (((FrC.rfl.put (by decide) (by decide)).put (by decide) (by decide)).trans (FrC.sub F44 (by decide))), by omega, (((CHX.rfl.fld (by simp) (by decide)).fld (by simp) (by decide)).trans (CHX.sub f41 (by simp) (by simp) (by simp))), fun _ => by have q9 := f49; unfold CAT at q9; omega⟩
        · show Tn _ _ 100 T σ [(0, .ref a), (2, .int (iI i216)), (3, .int (iI i317))] [] _
          refine tn_iconst dX7_find_100 ?_
          exact tn_zret (v := 0) rfl (by decide) dX7_find_101 ⟨_, rfl, rfl, hw, FrC.rfl, by omega, CHX.rfl, fun q => absurd q (by decide)⟩
      · refine tn_aload_n dX7_find_20 rfl 0 rfl ?_
        refine tn_getI (ci := 7) (i := 1) (n := 56) (t := σ.2.1 56 a) dX7_find_21 rfl lay_7 (by decide) fl7_34 ha rfl rfl (rfl) ?_
        refine tn_iconst dX7_find_24 ?_
        refine tn_icmp_eq (tgt := 30) dX7_find_25 (by decide) ⟨by omega, by omega⟩ ⟨by decide, by decide⟩ (fun h54 => ?_) (fun h54 => ?_)
        · refine tn_iload_n dX7_find_30 rfl 1 rfl ?_
          refine tn_istore_n (L' := [(2, .int (iI k)), (0, .ref a), (1, .int (iI k))]) dX7_find_31 rfl (by decide) rfl ?_
          refine tn_aload_n dX7_find_32 rfl 1 rfl ?_
          refine tn_getI (ci := 7) (i := 2) (n := 57) (t := σ.2.1 57 a) dX7_find_33 rfl lay_7 (by decide) fl7_65 ha rfl rfl (rfl) ?_
          have g55 : ((0 : Int) ≤ σ.2.1 57 a ∧ σ.2.1 57 a ≤ 11184800) ∧ ((T a).1 = 57 → σ.2.1 57 a ≤ 8) := wf_57 hw ha
          have g55x := g55.2
          replace g55 := g55.1
          clear g55x
          refine tn_istore_n (L' := [(3, .int (iI (σ.2.1 57 a))), (2, .int (iI k)), (0, .ref a), (1, .int (iI k))]) dX7_find_36 rfl (by decide) rfl ?_
          refine tn_sub [2, 1, 0] rfl (l_X7_find_h_37 (d) (T := T) (σ := σ) (a := a) ha hw (fun i256 i357 r63 r64 => ?_) (fun i265 i366 r72 r73 => ?_) _ (k) (σ.2.1 57 a) (by omega) (by omega) rfl)
          · show Tn _ _ 54 T σ [(0, .ref a), (2, .int (iI i256)), (3, .int (iI i357))] [] _
            refine tn_aload_n dX7_find_54 rfl 0 rfl ?_
            refine tn_iload_n dX7_find_55 rfl 2 rfl ?_
            refine tn_putV (ci := 7) (i := 15) (n := 70) (r := false) (v := i357) tyX7 tyX7_ok nmX7 dX7_find_56 rfl lay_7 (by decide) fl7_143 rfl (tyX7_ok 15 (by decide)) rfl rfl rfl ha rfl rfl ?_
            refine tn_aload_n dX7_find_59 rfl 0 rfl ?_
            refine tn_aload_n dX7_find_60 rfl 0 rfl ?_
            obtain ⟨xq74, hx75, hl77, hk76a, hk76b⟩ := wf_61 hw ha
            have hk76i : IA T xq74 := by unfold IA; omega
            have hk76n : NH T xq74 := by unfold NH HT; omega
            clear hk76a hk76b
            refine tn_getR (ci := 7) (i := 6) (n := 61) (x := xq74) dX7_find_61 rfl lay_7 (by decide) fl7_18 ha rfl rfl (rc_o (by decide) (hx75)) ?_
            refine tn_iload_n dX7_find_64 rfl 2 rfl ?_
            refine tn_callSN (M := m_X7_find) (pc := 65) (ix := 91) (M' := m_X11_at) (As := [.ref xq74, .int (iI i357)]) (rest := [.ref a]) dX7_find_65 ok_X11_at stt_X11_at nl7_91 np_X11_at rfl (Nat.le_of_ble_eq_true rfl) (Nat.le_of_ble_eq_true rfl) rfl (k_X11_at (d + 2) (T := T) (σ := (sA 70 a (i357) σ)) (x := xq74) (i := i357) hk76i (by omega) (by omega) (hw.put (by decide) (by decide) (fo_70 (by omega))) ) (fun r78 T80 σ79 gt81 hp => ?_)
            obtain ⟨v85, rfl, rfl, rfl, f82, f83, f84⟩ := hp
            clear gt81
            clear f83
            show Tn _ _ 68 T (sA 70 a (i357) σ) [(0, .ref a), (2, .int (iI i256)), (3, .int (iI i357))] [.int (iI v85), .ref a] _
            refine tn_putV (ci := 7) (i := 16) (n := 71) (r := false) (v := v85) tyX7 tyX7_ok nmX7 dX7_find_68 rfl lay_7 (by decide) fl7_146 rfl (tyX7_ok 16 (by decide)) rfl rfl rfl ha rfl rfl ?_
            refine tn_aload_n dX7_find_71 rfl 0 rfl ?_
            refine tn_iload_n dX7_find_72 rfl 1 rfl ?_
            refine tn_callV (M := m_X7_find) (pc := 73) (ix := 149) (ci := 7) (M' := m_X7_climb) (As := [.int (iI i256)]) (rest := []) dX7_find_73 ok_X7_climb im_X7_climb se_X7_climb ml7_149 np_X7_climb rfl rfl ha rfl (Nat.le_of_ble_eq_true rfl) (Nat.le_of_ble_eq_true rfl) rfl (k_X7_climb_h (d) (T := T) (σ := (sA 71 a (v85) (sA 70 a (i357) σ))) (a := a) (p1 := i256) ha (by omega) ((hw.put (by decide) (by decide) (fo_70 (by omega))).put (by decide) (by decide) (fo_71 (by omega))) ) (fun r86 T88 σ87 gt89 hp => ?_)
            obtain ⟨rfl, rfl, w92, F93, f90⟩ := hp
            clear gt89
            show Tn _ _ 76 T σ87 [(0, .ref a), (2, .int (iI i256)), (3, .int (iI i357))] [] _
            refine tn_aload_n dX7_find_76 rfl 0 rfl ?_
            refine tn_callV (M := m_X7_find) (pc := 77) (ix := 152) (ci := 7) (M' := m_X7_foundCode) (As := []) (rest := []) dX7_find_77 ok_X7_foundCode im_X7_foundCode se_X7_foundCode ml7_152 np_X7_foundCode rfl rfl ha rfl (Nat.le_of_ble_eq_true rfl) (Nat.le_of_ble_eq_true rfl) rfl (k_X7_foundCode (d + 1) (T := T) (σ := σ87) (a := a) ha w92 ) (fun r94 T96 σ95 gt97 hp => ?_)
            obtain ⟨v99, rfl, rfl, rfl, rv100, f98⟩ := hp
            clear gt97
            rcases rv100 with rv100 | ⟨xq101, rfl, hk102⟩
            · show Tn _ _ 80 T σ87 [(0, .ref a), (2, .int (iI i256)), (3, .int (iI i357))] (vl true v99 :: []) _
              rw [vl_null rv100]
              refine tn_ifnullN (tgt := 87) dX7_find_80 (by decide) ?_
              refine tn_iconst dX7_find_87 ?_
              exact tn_zret (v := 0) rfl (by decide) dX7_find_88 ⟨_, rfl, rfl, w92, (((FrC.rfl.put (by decide) (by decide)).put (by decide) (by decide)).trans (FrC.sub F93 (by decide))), by omega, (((CHX.rfl.fld (by simp) (by decide)).fld (by simp) (by decide)).trans (CHX.sub f90 (by simp) (by simp) (by simp))), fun q => absurd q (by decide)⟩
            · show Tn _ _ 80 T σ87 [(0, .ref a), (2, .int (iI i256)), (3, .int (iI i357))] (vl true (xq101 : Int) :: []) _
              rw [vl_ref rfl]
              have hk102o : OB T xq101 1 := hk102.1
              refine tn_ifnull dX7_find_80 ?_
              refine tn_iconst dX7_find_83 ?_
              refine tn_goto (tgt := 88) dX7_find_84 (by decide) ?_
              exact tn_zret (v := 1) rfl (by decide) dX7_find_88 ⟨_, rfl, rfl, w92, (((FrC.rfl.put (by decide) (by decide)).put (by decide) (by decide)).trans (FrC.sub F93 (by decide))), by omega, (((CHX.rfl.fld (by simp) (by decide)).fld (by simp) (by decide)).trans (CHX.sub f90 (by simp) (by simp) (by simp))), fun _ => by have q9 := f98; unfold CAT at q9; omega⟩
          · show Tn _ _ 100 T σ [(0, .ref a), (2, .int (iI i265)), (3, .int (iI i366))] [] _
            refine tn_iconst dX7_find_100 ?_
            exact tn_zret (v := 0) rfl (by decide) dX7_find_101 ⟨_, rfl, rfl, hw, FrC.rfl, by omega, CHX.rfl, fun q => absurd q (by decide)⟩
        · refine tn_iconst dX7_find_28 ?_
          exact tn_zret (v := 0) rfl (by decide) dX7_find_29 ⟨_, rfl, rfl, hw, FrC.rfl, by omega, CHX.rfl, fun q => absurd q (by decide)⟩
end
section
def RFQ (T : CT) (σ σ2 : MS) (a : Nat) (r : Int) (xs xb xf : Nat) : Prop := (σ2.2.1 = σ.2.1 ∧ σ2.2.2 = σ.2.2) ∨ (0 ≤ r ∧ r < 6) ∧ ∃ t : Nat, (σ.2.1 900 r = (t : Int) ∨ (T t).1 = 0) ∧ σ2.2.1 900 r = (t : Int) ∧ CHN T [(92, a), (93, a), (94, a), (900, r.toNat)] [t, xs, xb, xf] [] σ σ2
theorem CHN.fld9 {T : CT} {ks : List (Nat × Nat)} {rs ls : List Nat} {σ τ : MS} {z v : Int} (h : CHN T ks rs ls σ τ) (hz : 0 ≤ z) (m : (900, z.toNat) ∈ ks) : CHN T ks rs ls σ (sA 900 z v τ) := by
  have q := CHN.fld (v := v) h m (by decide)
  rw [Int.toNat_of_nonneg hz] at q
  exact q
end
section
def TLQ (T : CT) (σ σ2 : MS) (a : Nat) : Prop := (σ2.2.1 = σ.2.1 ∧ σ2.2.2 = σ.2.2) ∨ ∃ (tl xs xb xf : Nat) (r : Int), (σ.2.1 102 a = (tl : Int) ∧ σ.2.1 90 tl = (xb : Int) ∧ σ.2.1 91 tl = (xs : Int) ∧ σ.2.1 89 tl = (xf : Int)) ∧ RFQ T σ σ2 tl r xs xb xf
def KNQ (T : CT) (σ σ2 : MS) (a : Nat) : Prop := ∃ (σ1 : MS) (rn : Nat), σ.2.1 103 a = (rn : Int) ∧ CHX [(70, rn), (71, rn)] [] [] σ σ1 ∧ WT T σ1 ∧ TLQ T σ1 σ2 a
end
section
set_option maxHeartbeats 1000000 in
set_option maxRecDepth 20000 in
theorem l_X0_sameNames_h_41 (d : Nat) {T : CT} {σ0 : MS} {a : Nat} {rx1 : Nat} {c4 : Int} {c5 : Int} {c6 : Int} {post : Option Value → CT → MS → Prop} (h_a : OB T a 0) (h_rx1 : OB T rx1 10) (r_c4 : -2147483648 ≤ c4 ∧ c4 ≤ 2147483647) (r_c5 : -2147483648 ≤ c5 ∧ c5 ≤ 2147483647) (r_c6 : 0 ≤ c6 ∧ c6 ≤ 12) (hw0 : WT T σ0) (hx_136 : ∀ (i2 : Int) (i7 : Int) (σ : MS) , (WT T σ) → (FrC T [2, 3] σ0 σ) → (0 ≤ i2 ∧ i2 ≤ 1) → (0 ≤ i7 ∧ i7 ≤ 2147483647) → (CHX [(2, a), (3, a)] [] [] σ0 σ) → Tn (d + 5) m_X0_sameNames 136 T σ [(0, .ref a), (1, .ref rx1), (2, .int (iI i2)), (3, .null), (4, .int (iI c4)), (5, .int (iI c5)), (6, .int (iI c6)), (7, .int (iI i7))] [] post) : ∀ (nq9 : Nat) (i2 : Int) (i7 : Int) (σ : MS) , (WT T σ) → (FrC T [2, 3] σ0 σ) → (0 ≤ i2 ∧ i2 ≤ 1) → (0 ≤ i7 ∧ i7 ≤ 2147483647) → (CHX [(2, a), (3, a)] [] [] σ0 σ) → (2147483700 - i7).toNat = nq9 → Tn (d + 5) m_X0_sameNames 41 T σ [(0, .ref a), (1, .ref rx1), (2, .int (iI i2)), (3, .null), (4, .int (iI c4)), (5, .int (iI c5)), (6, .int (iI c6)), (7, .int (iI i7))] [] post := by
  intro nq9
  induction nq9 using Nat.strongRecOn with
  | _ nq9 ih =>
    intro i2 i7 σ hw hF r_i2 r_i7 hC hm
    refine tn_iload dX0_sameNames_41 7 rfl ?_
    refine tn_iload dX0_sameNames_43 6 rfl ?_
    refine tn_icmp_ge (tgt := 136) dX0_sameNames_45 (by decide) ⟨by omega, by omega⟩ ⟨by omega, by omega⟩ (fun h1 => ?_) (fun h1 => ?_)
    · exact tn_sub [0, 1, 2, 3, 4, 5, 6, 7] rfl (hx_136 (i2) (i7) σ hw (FrC.rfl.trans (FrC.sub hF (by decide))) (by omega) (by omega) hC)
    · refine tn_aload_n dX0_sameNames_48 rfl 1 rfl ?_
      refine tn_iload dX0_sameNames_49 4 rfl ?_
      refine tn_iload dX0_sameNames_51 5 rfl ?_
      refine tn_iload dX0_sameNames_53 7 rfl ?_
      refine tn_iadd dX0_sameNames_55 ?_
      refine tn_any (fun z2 g3 => ?_)
      have g3r : -2147483648 ≤ z2 ∧ z2 ≤ 2147483647 := g3
      refine tn_callV (M := m_X0_sameNames) (pc := 56) (ix := 91) (ci := 10) (M' := m_X10_idIn) (As := [.int (iI c4), .int (iI z2)]) (rest := []) dX0_sameNames_56 ok_X10_idIn im_X10_idIn se_X10_idIn ml0_91 np_X10_idIn rfl rfl h_rx1 rfl (Nat.le_of_ble_eq_true rfl) (Nat.le_of_ble_eq_true rfl) rfl (k_X10_idIn (d + 2) (T := T) (σ := σ) (a := rx1) (p1 := c4) (p2 := z2) h_rx1 (by omega) (by omega) hw ) (fun r4 T6 σ5 gt7 hp => ?_)
      obtain ⟨v9, rfl, rfl, rfl, f8⟩ := hp
      clear gt7
      show Tn _ _ 59 T σ [(0, .ref a), (1, .ref rx1), (2, .int (iI i2)), (3, .null), (4, .int (iI c4)), (5, .int (iI c5)), (6, .int (iI c6)), (7, .int (iI i7))] [.int (iI v9)] _
      refine tn_istore (L' := [(8, .int (iI v9)), (0, .ref a), (1, .ref rx1), (2, .int (iI i2)), (3, .null), (4, .int (iI c4)), (5, .int (iI c5)), (6, .int (iI c6)), (7, .int (iI i7))]) dX0_sameNames_59 (by decide) rfl ?_
      refine tn_aload_nN dX0_sameNames_61 rfl 4 rfl ?_
      refine tn_ifnullN (tgt := 77) dX0_sameNames_62 (by decide) ?_
      refine tn_aload_n dX0_sameNames_77 rfl 1 rfl ?_
      refine tn_dup dX0_sameNames_78 rfl ?_
      refine tn_getI (ci := 0) (i := 3) (n := 3) (t := σ.2.1 3 a) dX0_sameNames_79 rfl lay_0 (by decide) fl0_27 h_a rfl rfl (rfl) ?_
      have g10 : ((-2147483648 : Int) ≤ σ.2.1 3 a ∧ σ.2.1 3 a ≤ 2147483647) := wf_3 hw h_a
      refine tn_iconst dX0_sameNames_82 ?_
      refine tn_iadd dX0_sameNames_83 ?_
      refine tn_any (fun z11 g12 => ?_)
      have g12r : -2147483648 ≤ z11 ∧ z11 ≤ 2147483647 := g12
      refine tn_putV (ci := 0) (i := 3) (n := 3) (r := false) (v := z11) tyX0 tyX0_ok nmX0 dX0_sameNames_84 rfl lay_0 (by decide) fl0_27 rfl (tyX0_ok 3 (by decide)) rfl rfl rfl h_a rfl rfl ?_
      refine tn_goto (tgt := 130) dX0_sameNames_87 (by decide) ?_
      refine tn_iinc (q0 := 8) (L' := [(7, .int (iI (i7 + 1))), (8, .int (iI v9)), (0, .ref a), (1, .ref rx1), (2, .int (iI i2)), (3, .null), (4, .int (iI c4)), (5, .int (iI c5)), (6, .int (iI c6))]) dX0_sameNames_130 rfl (by decide) rfl ?_
      refine tn_goto (tgt := 41) dX0_sameNames_133 (by decide) ?_
      exact tn_sub [2, 3, 4, 5, 6, 7, 8, 0] rfl (ih _ (by omega) (i2) (i7 + 1) (sA 3 a (z11) σ) (hw.put (by decide) (by decide) (fo_3 (by omega))) ((FrC.rfl.trans (FrC.sub hF (by decide))).put (by decide) (by decide)) (by omega) (by omega) (hC.fld (by simp) (by decide)) rfl)
set_option maxHeartbeats 1000000 in
set_option maxRecDepth 20000 in
theorem l_X0_sameNames_h_41_1 (d : Nat) {T : CT} {σ0 : MS} {a : Nat} {rx1 : Nat} {rx3 : Nat} {c4 : Int} {c5 : Int} {c6 : Int} {post : Option Value → CT → MS → Prop} (h_a : OB T a 0) (h_rx1 : OB T rx1 10) (h_rx3 : OB T rx3 1) (r_c4 : -2147483648 ≤ c4 ∧ c4 ≤ 2147483647) (r_c5 : -2147483648 ≤ c5 ∧ c5 ≤ 2147483647) (r_c6 : 0 ≤ c6 ∧ c6 ≤ 12) (hw0 : WT T σ0) (hx_136 : ∀ (i2 : Int) (i7 : Int) (σ : MS) , (WT T σ) → (FrC T [2, 3] σ0 σ) → (0 ≤ i2 ∧ i2 ≤ 1) → (0 ≤ i7 ∧ i7 ≤ 2147483647) → (CHX [(2, a), (3, a)] [] [] σ0 σ) → Tn (d + 5) m_X0_sameNames 136 T σ [(0, .ref a), (1, .ref rx1), (2, .int (iI i2)), (3, .ref rx3), (4, .int (iI c4)), (5, .int (iI c5)), (6, .int (iI c6)), (7, .int (iI i7))] [] post) : ∀ (nq9 : Nat) (i2 : Int) (i7 : Int) (σ : MS) , (WT T σ) → (FrC T [2, 3] σ0 σ) → (0 ≤ i2 ∧ i2 ≤ 1) → (0 ≤ i7 ∧ i7 ≤ 2147483647) → (CHX [(2, a), (3, a)] [] [] σ0 σ) → (2147483700 - i7).toNat = nq9 → Tn (d + 5) m_X0_sameNames 41 T σ [(0, .ref a), (1, .ref rx1), (2, .int (iI i2)), (3, .ref rx3), (4, .int (iI c4)), (5, .int (iI c5)), (6, .int (iI c6)), (7, .int (iI i7))] [] post := by
  intro nq9
  induction nq9 using Nat.strongRecOn with
  | _ nq9 ih =>
    intro i2 i7 σ hw hF r_i2 r_i7 hC hm
    refine tn_iload dX0_sameNames_41 7 rfl ?_
    refine tn_iload dX0_sameNames_43 6 rfl ?_
    refine tn_icmp_ge (tgt := 136) dX0_sameNames_45 (by decide) ⟨by omega, by omega⟩ ⟨by omega, by omega⟩ (fun h1 => ?_) (fun h1 => ?_)
    · exact tn_sub [0, 1, 2, 3, 4, 5, 6, 7] rfl (hx_136 (i2) (i7) σ hw (FrC.rfl.trans (FrC.sub hF (by decide))) (by omega) (by omega) hC)
    · refine tn_aload_n dX0_sameNames_48 rfl 1 rfl ?_
      refine tn_iload dX0_sameNames_49 4 rfl ?_
      refine tn_iload dX0_sameNames_51 5 rfl ?_
      refine tn_iload dX0_sameNames_53 7 rfl ?_
      refine tn_iadd dX0_sameNames_55 ?_
      refine tn_any (fun z2 g3 => ?_)
      have g3r : -2147483648 ≤ z2 ∧ z2 ≤ 2147483647 := g3
      refine tn_callV (M := m_X0_sameNames) (pc := 56) (ix := 91) (ci := 10) (M' := m_X10_idIn) (As := [.int (iI c4), .int (iI z2)]) (rest := []) dX0_sameNames_56 ok_X10_idIn im_X10_idIn se_X10_idIn ml0_91 np_X10_idIn rfl rfl h_rx1 rfl (Nat.le_of_ble_eq_true rfl) (Nat.le_of_ble_eq_true rfl) rfl (k_X10_idIn (d + 2) (T := T) (σ := σ) (a := rx1) (p1 := c4) (p2 := z2) h_rx1 (by omega) (by omega) hw ) (fun r4 T6 σ5 gt7 hp => ?_)
      obtain ⟨v9, rfl, rfl, rfl, f8⟩ := hp
      clear gt7
      show Tn _ _ 59 T σ [(0, .ref a), (1, .ref rx1), (2, .int (iI i2)), (3, .ref rx3), (4, .int (iI c4)), (5, .int (iI c5)), (6, .int (iI c6)), (7, .int (iI i7))] [.int (iI v9)] _
      refine tn_istore (L' := [(8, .int (iI v9)), (0, .ref a), (1, .ref rx1), (2, .int (iI i2)), (3, .ref rx3), (4, .int (iI c4)), (5, .int (iI c5)), (6, .int (iI c6)), (7, .int (iI i7))]) dX0_sameNames_59 (by decide) rfl ?_
      refine tn_aload_n dX0_sameNames_61 rfl 4 rfl ?_
      refine tn_ifnull dX0_sameNames_62 ?_
      refine tn_aload_n dX0_sameNames_65 rfl 2 rfl ?_
      refine tn_aload_n dX0_sameNames_66 rfl 4 rfl ?_
      refine tn_iload dX0_sameNames_67 0 rfl ?_
      refine tn_callV (M := m_X0_sameNames) (pc := 69) (ix := 97) (ci := 10) (M' := m_X10_whereOf) (As := [.ref rx3, .int (iI v9)]) (rest := []) dX0_sameNames_69 ok_X10_whereOf im_X10_whereOf se_X10_whereOf ml0_97 np_X10_whereOf rfl rfl h_rx1 rfl (Nat.le_of_ble_eq_true rfl) (Nat.le_of_ble_eq_true rfl) rfl (k_X10_whereOf (d + 2) (T := T) (σ := σ) (a := rx1) (c := rx3) (i := v9) h_rx1 h_rx3 (by omega) hw ) (fun r10 T12 σ11 gt13 hp => ?_)
      obtain ⟨v15, rfl, rfl, rfl, f14⟩ := hp
      clear gt13
      show Tn _ _ 72 T σ [(8, .int (iI v9)), (0, .ref a), (1, .ref rx1), (2, .int (iI i2)), (3, .ref rx3), (4, .int (iI c4)), (5, .int (iI c5)), (6, .int (iI c6)), (7, .int (iI i7))] [.int (iI v15)] _
      refine tn_bipush dX0_sameNames_72 (by decide) ?_
      refine tn_icmp_lt (tgt := 90) dX0_sameNames_74 (by decide) ⟨by omega, by omega⟩ ⟨by decide, by decide⟩ (fun h16 => ?_) (fun h16 => ?_)
      · refine tn_aload_n dX0_sameNames_90 rfl 1 rfl ?_
        refine tn_dup dX0_sameNames_91 rfl ?_
        refine tn_getI (ci := 0) (i := 2) (n := 2) (t := σ.2.1 2 a) dX0_sameNames_92 rfl lay_0 (by decide) fl0_23 h_a rfl rfl (rfl) ?_
        have g17 : ((-2147483648 : Int) ≤ σ.2.1 2 a ∧ σ.2.1 2 a ≤ 2147483647) := wf_2 hw h_a
        refine tn_iconst dX0_sameNames_95 ?_
        refine tn_iadd dX0_sameNames_96 ?_
        refine tn_any (fun z18 g19 => ?_)
        have g19r : -2147483648 ≤ z18 ∧ z18 ≤ 2147483647 := g19
        refine tn_putV (ci := 0) (i := 2) (n := 2) (r := false) (v := z18) tyX0 tyX0_ok nmX0 dX0_sameNames_97 rfl lay_0 (by decide) fl0_23 rfl (tyX0_ok 2 (by decide)) rfl rfl rfl h_a rfl rfl ?_
        refine tn_iload_n dX0_sameNames_100 rfl 3 rfl ?_
        refine tn_aload_n dX0_sameNames_101 rfl 1 rfl ?_
        obtain ⟨xq20, hx21, hk22⟩ : ∃ x : Nat, σ0.2.1 0 a = (x : Int) ∧ (T x).1 = 37 := wf_0 hw0 h_a
        have hk22o : OB T xq20 7 := ⟨by omega, by rw [hk22]; rfl, by omega⟩
        refine tn_getR (ci := 0) (i := 0) (n := 0) (x := xq20) dX0_sameNames_102 rfl lay_0 (by decide) fl0_14 h_a rfl rfl (rc_o (by decide) (rc_F hF (Or.inl (by decide)) (by decide) (hx21))) ?_
        refine tn_aload_n dX0_sameNames_105 rfl 2 rfl ?_
        refine tn_iload dX0_sameNames_106 0 rfl ?_
        refine tn_callV (M := m_X0_sameNames) (pc := 108) (ix := 101) (ci := 7) (M' := m_X7_foundValue) (As := [.ref rx1, .int (iI v9)]) (rest := [.int (iI i2)]) dX0_sameNames_108 ok_X7_foundValue im_X7_foundValue se_X7_foundValue ml0_101 np_X7_foundValue rfl rfl hk22o rfl (Nat.le_of_ble_eq_true rfl) (Nat.le_of_ble_eq_true rfl) rfl (k_X7_foundValue (d) (T := T) (σ := (sA 2 a (z18) σ)) (a := xq20) (p1 := rx1) (p2 := v9) hk22o h_rx1 (by omega) (hw.put (by decide) (by decide) (fo_2 (by omega))) ) (fun r24 T26 σ25 gt27 hp => ?_)
        obtain ⟨v29, rfl, rfl, rfl, f28⟩ := hp
        clear gt27
        show Tn _ _ 111 T (sA 2 a (z18) σ) [(8, .int (iI v9)), (0, .ref a), (1, .ref rx1), (2, .int (iI i2)), (3, .ref rx3), (4, .int (iI c4)), (5, .int (iI c5)), (6, .int (iI c6)), (7, .int (iI i7))] [.int (iI v29), .int (iI i2)] _
        refine tn_aload_n dX0_sameNames_111 rfl 1 rfl ?_
        obtain ⟨xq30, hx31, hk32⟩ : ∃ x : Nat, σ0.2.1 1 a = (x : Int) ∧ (T x).1 = 57 := wf_1 hw0 h_a
        have hk32o : OB T xq30 7 := ⟨by omega, by rw [hk32]; rfl, by omega⟩
        refine tn_getR (ci := 0) (i := 1) (n := 1) (x := xq30) dX0_sameNames_112 rfl lay_0 (by decide) fl0_20 h_a rfl rfl (rc_o (by decide) (rc_F hF (Or.inl (by decide)) (by decide) (hx31))) ?_
        refine tn_iload dX0_sameNames_115 8 rfl ?_
        refine tn_callV (M := m_X0_sameNames) (pc := 117) (ix := 105) (ci := 7) (M' := m_X7_foundRegister) (As := [.int (iI i7)]) (rest := [.int (iI v29), .int (iI i2)]) dX0_sameNames_117 ok_X7_foundRegister im_X7_foundRegister se_X7_foundRegister ml0_105 np_X7_foundRegister rfl rfl hk32o rfl (Nat.le_of_ble_eq_true rfl) (Nat.le_of_ble_eq_true rfl) rfl (k_X7_foundRegister (d + 2) (T := T) (σ := (sA 2 a (z18) σ)) (a := xq30) (p1 := i7) hk32o (by omega) (hw.put (by decide) (by decide) (fo_2 (by omega))) ) (fun r34 T36 σ35 gt37 hp => ?_)
        obtain ⟨v39, rfl, rfl, rfl, f38⟩ := hp
        clear gt37
        show Tn _ _ 120 T (sA 2 a (z18) σ) [(8, .int (iI v9)), (0, .ref a), (1, .ref rx1), (2, .int (iI i2)), (3, .ref rx3), (4, .int (iI c4)), (5, .int (iI c5)), (6, .int (iI c6)), (7, .int (iI i7))] [.int (iI v39), .int (iI v29), .int (iI i2)] _
        refine tn_icmp_ne (tgt := 127) dX0_sameNames_120 (by decide) ⟨by omega, by omega⟩ ⟨by omega, by omega⟩ (fun h40 => ?_) (fun h40 => ?_)
        · refine tn_iconst dX0_sameNames_127 ?_
          refine tn_iand dX0_sameNames_128 ?_
          refine tn_bandX (x := i2) (y := 0) (by omega) (by omega) (fun z43 g44 g44w => ?_)
          refine tn_istore_n (L' := [(2, .int (iI z43)), (8, .int (iI v9)), (0, .ref a), (1, .ref rx1), (3, .ref rx3), (4, .int (iI c4)), (5, .int (iI c5)), (6, .int (iI c6)), (7, .int (iI i7))]) dX0_sameNames_129 rfl (by decide) rfl ?_
          refine tn_iinc (q0 := 8) (L' := [(7, .int (iI (i7 + 1))), (2, .int (iI z43)), (8, .int (iI v9)), (0, .ref a), (1, .ref rx1), (3, .ref rx3), (4, .int (iI c4)), (5, .int (iI c5)), (6, .int (iI c6))]) dX0_sameNames_130 rfl (by decide) rfl ?_
          refine tn_goto (tgt := 41) dX0_sameNames_133 (by decide) ?_
          exact tn_sub [3, 4, 1, 5, 6, 7, 8, 0] rfl (ih _ (by omega) (z43) (i7 + 1) (sA 2 a (z18) σ) (hw.put (by decide) (by decide) (fo_2 (by omega))) ((FrC.rfl.trans (FrC.sub hF (by decide))).put (by decide) (by decide)) (by omega) (by omega) (hC.fld (by simp) (by decide)) rfl)
        · refine tn_iconst dX0_sameNames_123 ?_
          refine tn_goto (tgt := 128) dX0_sameNames_124 (by decide) ?_
          refine tn_iand dX0_sameNames_128 ?_
          refine tn_bandX (x := i2) (y := 1) (by omega) (by omega) (fun z47 g48 g48w => ?_)
          refine tn_istore_n (L' := [(2, .int (iI z47)), (8, .int (iI v9)), (0, .ref a), (1, .ref rx1), (3, .ref rx3), (4, .int (iI c4)), (5, .int (iI c5)), (6, .int (iI c6)), (7, .int (iI i7))]) dX0_sameNames_129 rfl (by decide) rfl ?_
          refine tn_iinc (q0 := 8) (L' := [(7, .int (iI (i7 + 1))), (2, .int (iI z47)), (8, .int (iI v9)), (0, .ref a), (1, .ref rx1), (3, .ref rx3), (4, .int (iI c4)), (5, .int (iI c5)), (6, .int (iI c6))]) dX0_sameNames_130 rfl (by decide) rfl ?_
          refine tn_goto (tgt := 41) dX0_sameNames_133 (by decide) ?_
          exact tn_sub [3, 4, 1, 5, 6, 7, 8, 0] rfl (ih _ (by omega) (z47) (i7 + 1) (sA 2 a (z18) σ) (hw.put (by decide) (by decide) (fo_2 (by omega))) ((FrC.rfl.trans (FrC.sub hF (by decide))).put (by decide) (by decide)) (by omega) (by omega) (hC.fld (by simp) (by decide)) rfl)
      · refine tn_aload_n dX0_sameNames_77 rfl 1 rfl ?_
        refine tn_dup dX0_sameNames_78 rfl ?_
        refine tn_getI (ci := 0) (i := 3) (n := 3) (t := σ.2.1 3 a) dX0_sameNames_79 rfl lay_0 (by decide) fl0_27 h_a rfl rfl (rfl) ?_
        have g49 : ((-2147483648 : Int) ≤ σ.2.1 3 a ∧ σ.2.1 3 a ≤ 2147483647) := wf_3 hw h_a
        refine tn_iconst dX0_sameNames_82 ?_
        refine tn_iadd dX0_sameNames_83 ?_
        refine tn_any (fun z50 g51 => ?_)
        have g51r : -2147483648 ≤ z50 ∧ z50 ≤ 2147483647 := g51
        refine tn_putV (ci := 0) (i := 3) (n := 3) (r := false) (v := z50) tyX0 tyX0_ok nmX0 dX0_sameNames_84 rfl lay_0 (by decide) fl0_27 rfl (tyX0_ok 3 (by decide)) rfl rfl rfl h_a rfl rfl ?_
        refine tn_goto (tgt := 130) dX0_sameNames_87 (by decide) ?_
        refine tn_iinc (q0 := 8) (L' := [(7, .int (iI (i7 + 1))), (8, .int (iI v9)), (0, .ref a), (1, .ref rx1), (2, .int (iI i2)), (3, .ref rx3), (4, .int (iI c4)), (5, .int (iI c5)), (6, .int (iI c6))]) dX0_sameNames_130 rfl (by decide) rfl ?_
        refine tn_goto (tgt := 41) dX0_sameNames_133 (by decide) ?_
        exact tn_sub [2, 3, 4, 5, 6, 7, 8, 0] rfl (ih _ (by omega) (i2) (i7 + 1) (sA 3 a (z50) σ) (hw.put (by decide) (by decide) (fo_3 (by omega))) ((FrC.rfl.trans (FrC.sub hF (by decide))).put (by decide) (by decide)) (by omega) (by omega) (hC.fld (by simp) (by decide)) rfl)
set_option maxHeartbeats 1000000 in
set_option maxRecDepth 20000 in
theorem k_X0_sameNames_h (d : Nat) {T : CT} {σ : MS} {a : Nat} {p1 : Nat} (ha : OB T a 0) (h_p1 : OB T p1 10) (hw : WT T σ) : Tn (d + 5) m_X0_sameNames 0 T σ [(0, .ref a), (1, .ref p1)] [] (fun ro T2 σ2 => ∃ v : Int, ro = some (.int (iI v)) ∧ T = T2 ∧ WT T2 σ2 ∧ FrC T [2, 3] σ σ2 ∧ (v = 0 ∨ v = 1) ∧ (CHX [(2, a), (3, a)] [] [] σ σ2)) := by
  refine tn_iconst dX0_sameNames_0 ?_
  refine tn_istore_n (L' := [(2, .int (iI 1)), (0, .ref a), (1, .ref p1)]) dX0_sameNames_1 rfl (by decide) rfl ?_
  refine tn_aload_n dX0_sameNames_2 rfl 1 rfl ?_
  obtain ⟨xq1, hx2, hk3⟩ : ∃ x : Nat, σ.2.1 0 a = (x : Int) ∧ (T x).1 = 37 := wf_0 hw ha
  have hk3o : OB T xq1 7 := ⟨by omega, by rw [hk3]; rfl, by omega⟩
  refine tn_getR (ci := 0) (i := 0) (n := 0) (x := xq1) dX0_sameNames_3 rfl lay_0 (by decide) fl0_14 ha rfl rfl (hx2) ?_
  refine tn_callV (M := m_X0_sameNames) (pc := 6) (ix := 77) (ci := 7) (M' := m_X7_foundCode) (As := []) (rest := []) dX0_sameNames_6 ok_X7_foundCode im_X7_foundCode se_X7_foundCode ml0_77 np_X7_foundCode rfl rfl hk3o rfl (Nat.le_of_ble_eq_true rfl) (Nat.le_of_ble_eq_true rfl) rfl (k_X7_foundCode (d + 2) (T := T) (σ := σ) (a := xq1) hk3o hw ) (fun r5 T7 σ6 gt8 hp => ?_)
  obtain ⟨v10, rfl, rfl, rfl, rv11, f9⟩ := hp
  clear gt8
  clear f9
  rcases rv11 with rv11 | ⟨xq12, rfl, hk13⟩
  · show Tn _ _ 9 T σ [(2, .int (iI 1)), (0, .ref a), (1, .ref p1)] (vl true v10 :: []) _
    rw [vl_null rv11]
    refine tn_astore_nN (L' := [(3, .null), (2, .int (iI 1)), (0, .ref a), (1, .ref p1)]) dX0_sameNames_9 rfl (by decide) rfl ?_
    refine tn_aload_n dX0_sameNames_10 rfl 2 rfl ?_
    refine tn_getR (ci := 0) (i := 0) (n := 0) (x := xq1) dX0_sameNames_11 rfl lay_0 (by decide) fl0_14 ha rfl rfl (hx2) ?_
    refine tn_callV (M := m_X0_sameNames) (pc := 14) (ix := 81) (ci := 7) (M' := m_X7_foundSource) (As := []) (rest := []) dX0_sameNames_14 ok_X7_foundSource im_X7_foundSource se_X7_foundSource ml0_81 np_X7_foundSource rfl rfl hk3o rfl (Nat.le_of_ble_eq_true rfl) (Nat.le_of_ble_eq_true rfl) rfl (k_X7_foundSource (d + 2) (T := T) (σ := σ) (a := xq1) hk3o hw ) (fun r14 T16 σ15 gt17 hp => ?_)
    obtain ⟨v19, rfl, rfl, rfl, f18⟩ := hp
    clear gt17
    show Tn _ _ 17 T σ [(3, .null), (2, .int (iI 1)), (0, .ref a), (1, .ref p1)] [.int (iI v19)] _
    refine tn_istore (L' := [(4, .int (iI v19)), (3, .null), (2, .int (iI 1)), (0, .ref a), (1, .ref p1)]) dX0_sameNames_17 (by decide) rfl ?_
    refine tn_aload_n dX0_sameNames_19 rfl 3 rfl ?_
    refine tn_getR (ci := 0) (i := 0) (n := 0) (x := xq1) dX0_sameNames_20 rfl lay_0 (by decide) fl0_14 ha rfl rfl (hx2) ?_
    refine tn_aload_n dX0_sameNames_23 rfl 4 rfl ?_
    refine tn_callV (M := m_X0_sameNames) (pc := 24) (ix := 84) (ci := 7) (M' := m_X7_foundSlot) (As := [.ref p1]) (rest := []) dX0_sameNames_24 ok_X7_foundSlot im_X7_foundSlot se_X7_foundSlot ml0_84 np_X7_foundSlot rfl rfl hk3o rfl (Nat.le_of_ble_eq_true rfl) (Nat.le_of_ble_eq_true rfl) rfl (k_X7_foundSlot (d + 1) (T := T) (σ := σ) (a := xq1) (p1 := p1) hk3o h_p1 hw ) (fun r20 T22 σ21 gt23 hp => ?_)
    obtain ⟨v25, rfl, rfl, rfl, f24⟩ := hp
    clear gt23
    show Tn _ _ 27 T σ [(4, .int (iI v19)), (3, .null), (2, .int (iI 1)), (0, .ref a), (1, .ref p1)] [.int (iI v25)] _
    refine tn_istore (L' := [(5, .int (iI v25)), (4, .int (iI v19)), (3, .null), (2, .int (iI 1)), (0, .ref a), (1, .ref p1)]) dX0_sameNames_27 (by decide) rfl ?_
    refine tn_aload_n dX0_sameNames_29 rfl 4 rfl ?_
    refine tn_getR (ci := 0) (i := 0) (n := 0) (x := xq1) dX0_sameNames_30 rfl lay_0 (by decide) fl0_14 ha rfl rfl (hx2) ?_
    refine tn_callV (M := m_X0_sameNames) (pc := 33) (ix := 88) (ci := 7) (M' := m_X7_foundNames) (As := []) (rest := []) dX0_sameNames_33 ok_X7_foundNames im_X7_foundNames se_X7_foundNames ml0_88 np_X7_foundNames rfl rfl hk3o rfl (Nat.le_of_ble_eq_true rfl) (Nat.le_of_ble_eq_true rfl) rfl (k_X7_foundNames (d + 1) (T := T) (σ := σ) (a := xq1) hk3o hw ) (fun r26 T28 σ27 gt29 hp => ?_)
    obtain ⟨v31, rfl, rfl, rfl, f30⟩ := hp
    clear gt29
    show Tn _ _ 36 T σ [(5, .int (iI v25)), (4, .int (iI v19)), (3, .null), (2, .int (iI 1)), (0, .ref a), (1, .ref p1)] [.int (iI v31)] _
    refine tn_istore (L' := [(6, .int (iI v31)), (5, .int (iI v25)), (4, .int (iI v19)), (3, .null), (2, .int (iI 1)), (0, .ref a), (1, .ref p1)]) dX0_sameNames_36 (by decide) rfl ?_
    refine tn_iconst dX0_sameNames_38 ?_
    refine tn_istore (L' := [(7, .int (iI 0)), (6, .int (iI v31)), (5, .int (iI v25)), (4, .int (iI v19)), (3, .null), (2, .int (iI 1)), (0, .ref a), (1, .ref p1)]) dX0_sameNames_39 (by decide) rfl ?_
    refine tn_sub [6, 7, 5, 4, 3, 2, 1, 0] rfl (l_X0_sameNames_h_41 (d) (T := T) (σ0 := σ) (a := a) (rx1 := p1) (c4 := v19) (c5 := v25) (c6 := v31) ha h_p1 (by omega) (by omega) (by omega) hw (fun i232 i733 σ34 w37 F38 r39 r40 f41 => ?_) _ (1) (0) σ hw FrC.rfl (by omega) (by omega) CHX.rfl rfl)
    show Tn _ _ 136 T σ34 [(0, .ref a), (1, .ref p1), (2, .int (iI i232)), (3, .null), (4, .int (iI v19)), (5, .int (iI v25)), (6, .int (iI v31)), (7, .int (iI i733))] [] _
    refine tn_iload_n dX0_sameNames_136 rfl 2 rfl ?_
    exact tn_zret (v := i232) rfl (by omega) dX0_sameNames_137 ⟨_, rfl, rfl, w37, (FrC.rfl.trans (FrC.sub F38 (by decide))), by omega, (CHX.rfl.trans (CHX.sub f41 (by simp) (by simp) (by simp)))⟩
  · show Tn _ _ 9 T σ [(2, .int (iI 1)), (0, .ref a), (1, .ref p1)] (vl true (xq12 : Int) :: []) _
    rw [vl_ref rfl]
    have hk13o : OB T xq12 1 := hk13.1
    refine tn_astore_n (L' := [(3, .ref xq12), (2, .int (iI 1)), (0, .ref a), (1, .ref p1)]) dX0_sameNames_9 rfl (by decide) rfl ?_
    refine tn_aload_n dX0_sameNames_10 rfl 2 rfl ?_
    refine tn_getR (ci := 0) (i := 0) (n := 0) (x := xq1) dX0_sameNames_11 rfl lay_0 (by decide) fl0_14 ha rfl rfl (hx2) ?_
    refine tn_callV (M := m_X0_sameNames) (pc := 14) (ix := 81) (ci := 7) (M' := m_X7_foundSource) (As := []) (rest := []) dX0_sameNames_14 ok_X7_foundSource im_X7_foundSource se_X7_foundSource ml0_81 np_X7_foundSource rfl rfl hk3o rfl (Nat.le_of_ble_eq_true rfl) (Nat.le_of_ble_eq_true rfl) rfl (k_X7_foundSource (d + 2) (T := T) (σ := σ) (a := xq1) hk3o hw ) (fun r42 T44 σ43 gt45 hp => ?_)
    obtain ⟨v47, rfl, rfl, rfl, f46⟩ := hp
    clear gt45
    show Tn _ _ 17 T σ [(3, .ref xq12), (2, .int (iI 1)), (0, .ref a), (1, .ref p1)] [.int (iI v47)] _
    refine tn_istore (L' := [(4, .int (iI v47)), (3, .ref xq12), (2, .int (iI 1)), (0, .ref a), (1, .ref p1)]) dX0_sameNames_17 (by decide) rfl ?_
    refine tn_aload_n dX0_sameNames_19 rfl 3 rfl ?_
    refine tn_getR (ci := 0) (i := 0) (n := 0) (x := xq1) dX0_sameNames_20 rfl lay_0 (by decide) fl0_14 ha rfl rfl (hx2) ?_
    refine tn_aload_n dX0_sameNames_23 rfl 4 rfl ?_
    refine tn_callV (M := m_X0_sameNames) (pc := 24) (ix := 84) (ci := 7) (M' := m_X7_foundSlot) (As := [.ref p1]) (rest := []) dX0_sameNames_24 ok_X7_foundSlot im_X7_foundSlot se_X7_foundSlot ml0_84 np_X7_foundSlot rfl rfl hk3o rfl (Nat.le_of_ble_eq_true rfl) (Nat.le_of_ble_eq_true rfl) rfl (k_X7_foundSlot (d + 1) (T := T) (σ := σ) (a := xq1) (p1 := p1) hk3o h_p1 hw ) (fun r48 T50 σ49 gt51 hp => ?_)
    obtain ⟨v53, rfl, rfl, rfl, f52⟩ := hp
    clear gt51
    show Tn _ _ 27 T σ [(4, .int (iI v47)), (3, .ref xq12), (2, .int (iI 1)), (0, .ref a), (1, .ref p1)] [.int (iI v53)] _
    refine tn_istore (L' := [(5, .int (iI v53)), (4, .int (iI v47)), (3, .ref xq12), (2, .int (iI 1)), (0, .ref a), (1, .ref p1)]) dX0_sameNames_27 (by decide) rfl ?_
    refine tn_aload_n dX0_sameNames_29 rfl 4 rfl ?_
    refine tn_getR (ci := 0) (i := 0) (n := 0) (x := xq1) dX0_sameNames_30 rfl lay_0 (by decide) fl0_14 ha rfl rfl (hx2) ?_
    refine tn_callV (M := m_X0_sameNames) (pc := 33) (ix := 88) (ci := 7) (M' := m_X7_foundNames) (As := []) (rest := []) dX0_sameNames_33 ok_X7_foundNames im_X7_foundNames se_X7_foundNames ml0_88 np_X7_foundNames rfl rfl hk3o rfl (Nat.le_of_ble_eq_true rfl) (Nat.le_of_ble_eq_true rfl) rfl (k_X7_foundNames (d + 1) (T := T) (σ := σ) (a := xq1) hk3o hw ) (fun r54 T56 σ55 gt57 hp => ?_)
    obtain ⟨v59, rfl, rfl, rfl, f58⟩ := hp
    clear gt57
    show Tn _ _ 36 T σ [(5, .int (iI v53)), (4, .int (iI v47)), (3, .ref xq12), (2, .int (iI 1)), (0, .ref a), (1, .ref p1)] [.int (iI v59)] _
    refine tn_istore (L' := [(6, .int (iI v59)), (5, .int (iI v53)), (4, .int (iI v47)), (3, .ref xq12), (2, .int (iI 1)), (0, .ref a), (1, .ref p1)]) dX0_sameNames_36 (by decide) rfl ?_
    refine tn_iconst dX0_sameNames_38 ?_
    refine tn_istore (L' := [(7, .int (iI 0)), (6, .int (iI v59)), (5, .int (iI v53)), (4, .int (iI v47)), (3, .ref xq12), (2, .int (iI 1)), (0, .ref a), (1, .ref p1)]) dX0_sameNames_39 (by decide) rfl ?_
    refine tn_sub [6, 7, 5, 4, 3, 2, 1, 0] rfl (l_X0_sameNames_h_41_1 (d) (T := T) (σ0 := σ) (a := a) (rx1 := p1) (rx3 := xq12) (c4 := v47) (c5 := v53) (c6 := v59) ha h_p1 hk13o (by omega) (by omega) (by omega) hw (fun i260 i761 σ62 w65 F66 r67 r68 f69 => ?_) _ (1) (0) σ hw FrC.rfl (by omega) (by omega) CHX.rfl rfl)
    show Tn _ _ 136 T σ62 [(0, .ref a), (1, .ref p1), (2, .int (iI i260)), (3, .ref xq12), (4, .int (iI v47)), (5, .int (iI v53)), (6, .int (iI v59)), (7, .int (iI i761))] [] _
    refine tn_iload_n dX0_sameNames_136 rfl 2 rfl ?_
    exact tn_zret (v := i260) rfl (by omega) dX0_sameNames_137 ⟨_, rfl, rfl, w65, (FrC.rfl.trans (FrC.sub F66 (by decide))), by omega, (CHX.rfl.trans (CHX.sub f69 (by simp) (by simp) (by simp)))⟩
end
section
set_option maxHeartbeats 1000000 in
set_option maxRecDepth 20000 in
theorem l_X0_sameStack_h_25 (d : Nat) {T : CT} {σ0 : MS} {a : Nat} {rx1 : Nat} {to : Nat} {pl : Nat} {post : Option Value → CT → MS → Prop} (h_a : OB T a 0) (h_rx1 : OB T rx1 10) (hw0 : WT T σ0) (hto : σ0.2.1 0 a = (to : Int)) (hpl : σ0.2.1 1 a = (pl : Int)) (hx_114 : ∀ (i2 : Int) (i3 : Int) (σ : MS) , (WT T σ) → (FrC T [2, 3, 70, 71] σ0 σ) → (0 ≤ i2 ∧ i2 ≤ 1) → (0 ≤ i3 ∧ i3 ≤ 2147483647) → (CHX [(2, a), (3, a), (56, to), (57, to), (58, to), (65, to), (66, to), (67, to), (68, to), (69, to), (70, to), (71, to), (56, pl), (57, pl), (58, pl), (65, pl), (66, pl), (67, pl), (68, pl), (69, pl), (70, pl), (71, pl)] [] [] σ0 σ) → Tn (d + 6) m_X0_sameStack 114 T σ [(0, .ref a), (1, .ref rx1), (2, .int (iI i2)), (3, .int (iI i3))] [] post) : ∀ (nq9 : Nat) (i2 : Int) (i3 : Int) (σ : MS) , (WT T σ) → (FrC T [2, 3, 70, 71] σ0 σ) → (0 ≤ i2 ∧ i2 ≤ 1) → (0 ≤ i3 ∧ i3 ≤ 2147483647) → (CHX [(2, a), (3, a), (56, to), (57, to), (58, to), (65, to), (66, to), (67, to), (68, to), (69, to), (70, to), (71, to), (56, pl), (57, pl), (58, pl), (65, pl), (66, pl), (67, pl), (68, pl), (69, pl), (70, pl), (71, pl)] [] [] σ0 σ) → (2147483700 - i3).toNat = nq9 → Tn (d + 6) m_X0_sameStack 25 T σ [(0, .ref a), (1, .ref rx1), (2, .int (iI i2)), (3, .int (iI i3))] [] post := by
  intro nq9
  induction nq9 using Nat.strongRecOn with
  | _ nq9 ih =>
    intro i2 i3 σ hw hF r_i2 r_i3 hC hm
    refine tn_iload_n dX0_sameStack_25 rfl 3 rfl ?_
    refine tn_aload_n dX0_sameStack_26 rfl 0 rfl ?_
    have hk3 : (T to).1 = 37 := ob_of (wf_0 hw0 h_a) hto
    have hk3o : OB T to 7 := ⟨by omega, by rw [hk3]; rfl, by omega⟩
    refine tn_getR (ci := 0) (i := 0) (n := 0) (x := to) dX0_sameStack_27 rfl lay_0 (by decide) fl0_14 h_a rfl rfl (rc_F hF (Or.inl (by decide)) (by decide) (hto)) ?_
    refine tn_getI (ci := 7) (i := 3) (n := 58) (t := σ0.2.1 58 to) dX0_sameStack_30 rfl lay_7 (by decide) fl0_60 hk3o rfl rfl (rc_F hF (Or.inl (by decide)) (by decide) (rfl)) ?_
    have g5 : ((-2147483648 : Int) ≤ σ0.2.1 58 to ∧ σ0.2.1 58 to ≤ 2147483647) := wf_58 hw0 hk3o
    refine tn_icmp_ge (tgt := 114) dX0_sameStack_33 (by decide) ⟨by omega, by omega⟩ ⟨by omega, by omega⟩ (fun h6 => ?_) (fun h6 => ?_)
    · exact tn_sub [0, 1, 2, 3] rfl (hx_114 (i2) (i3) σ hw (FrC.rfl.trans (FrC.sub hF (by decide))) (by omega) (by omega) hC)
    · refine tn_iload_n dX0_sameStack_36 rfl 2 rfl ?_
      refine tn_aload_n dX0_sameStack_37 rfl 0 rfl ?_
      refine tn_getR (ci := 0) (i := 0) (n := 0) (x := to) dX0_sameStack_38 rfl lay_0 (by decide) fl0_14 h_a rfl rfl (rc_F hF (Or.inl (by decide)) (by decide) (hto)) ?_
      refine tn_iload_n dX0_sameStack_41 rfl 3 rfl ?_
      refine tn_callV (M := m_X0_sameStack) (pc := 42) (ix := 63) (ci := 7) (M' := m_X7_find) (As := [.int (iI i3)]) (rest := [.int (iI i2)]) dX0_sameStack_42 ok_X7_find im_X7_find se_X7_find ml0_63 np_X7_find rfl rfl hk3o rfl (Nat.le_of_ble_eq_true rfl) (Nat.le_of_ble_eq_true rfl) rfl (k_X7_find_h (d + 1) (T := T) (σ := σ) (a := to) (k := i3) hk3o (by omega) hw ) (fun r7 T9 σ8 gt10 hp => ?_)
      obtain ⟨v14, rfl, rfl, w15, F16, f11, f12, f13⟩ := hp
      clear gt10
      clear f13
      show Tn _ _ 45 T σ8 [(0, .ref a), (1, .ref rx1), (2, .int (iI i2)), (3, .int (iI i3))] [.int (iI v14), .int (iI i2)] _
      refine tn_if_eq (tgt := 97) dX0_sameStack_45 (by decide) ⟨by omega, by omega⟩ (fun h17 => ?_) (fun h17 => ?_)
      · refine tn_iconst dX0_sameStack_97 ?_
        refine tn_iand dX0_sameStack_98 ?_
        refine tn_bandX (x := i2) (y := 0) (by omega) (by omega) (fun z20 g21 g21w => ?_)
        refine tn_istore_n (L' := [(2, .int (iI z20)), (0, .ref a), (1, .ref rx1), (3, .int (iI i3))]) dX0_sameStack_99 rfl (by decide) rfl ?_
        refine tn_iload_n dX0_sameStack_100 rfl 0 rfl ?_
        refine tn_aload_n dX0_sameStack_101 rfl 1 rfl ?_
        refine tn_aload_n dX0_sameStack_102 rfl 2 rfl ?_
        refine tn_callV (M := m_X0_sameStack) (pc := 103) (ix := 74) (ci := 0) (M' := m_X0_sameNames) (As := [.ref rx1]) (rest := [.int (iI z20)]) dX0_sameStack_103 ok_X0_sameNames im_X0_sameNames se_X0_sameNames ml0_74 np_X0_sameNames rfl rfl h_a rfl (Nat.le_of_ble_eq_true rfl) (Nat.le_of_ble_eq_true rfl) rfl (k_X0_sameNames_h (d) (T := T) (σ := σ8) (a := a) (p1 := rx1) h_a h_rx1 w15 ) (fun r22 T24 σ23 gt25 hp => ?_)
        obtain ⟨v28, rfl, rfl, w29, F30, f26, f27⟩ := hp
        clear gt25
        show Tn _ _ 106 T σ23 [(2, .int (iI z20)), (0, .ref a), (1, .ref rx1), (3, .int (iI i3))] [.int (iI v28), .int (iI z20)] _
        refine tn_iand dX0_sameStack_106 ?_
        refine tn_bandX (x := z20) (y := v28) (by omega) (by omega) (fun z33 g34 g34w => ?_)
        refine tn_istore_n (L' := [(2, .int (iI z33)), (0, .ref a), (1, .ref rx1), (3, .int (iI i3))]) dX0_sameStack_107 rfl (by decide) rfl ?_
        refine tn_iinc (q0 := 3) (L' := [(3, .int (iI (i3 + 1))), (2, .int (iI z33)), (0, .ref a), (1, .ref rx1)]) dX0_sameStack_108 rfl (by decide) rfl ?_
        refine tn_goto (tgt := 25) dX0_sameStack_111 (by decide) ?_
        exact tn_sub [2, 3, 1, 0] rfl (ih _ (by omega) (z33) (i3 + 1) σ23 w29 (((FrC.rfl.trans (FrC.sub hF (by decide))).trans (FrC.sub F16 (by decide))).trans (FrC.sub F30 (by decide))) (by omega) (by omega) ((hC.trans (CHX.sub f12 (by simp) (by simp) (by simp))).trans (CHX.sub f27 (by simp) (by simp) (by simp))) rfl)
      · refine tn_aload_n dX0_sameStack_48 rfl 0 rfl ?_
        have hk37 : (T pl).1 = 57 := ob_of (wf_1 hw0 h_a) hpl
        have hk37o : OB T pl 7 := ⟨by omega, by rw [hk37]; rfl, by omega⟩
        refine tn_getR (ci := 0) (i := 1) (n := 1) (x := pl) dX0_sameStack_49 rfl lay_0 (by decide) fl0_20 h_a rfl rfl (rc_F F16 (Or.inl (by decide)) (by decide) (rc_F hF (Or.inl (by decide)) (by decide) (hpl))) ?_
        refine tn_iload_n dX0_sameStack_52 rfl 3 rfl ?_
        refine tn_callV (M := m_X0_sameStack) (pc := 53) (ix := 63) (ci := 7) (M' := m_X7_find) (As := [.int (iI i3)]) (rest := [.int (iI i2)]) dX0_sameStack_53 ok_X7_find im_X7_find se_X7_find ml0_63 np_X7_find rfl rfl hk37o rfl (Nat.le_of_ble_eq_true rfl) (Nat.le_of_ble_eq_true rfl) rfl (k_X7_find_h (d + 1) (T := T) (σ := σ8) (a := pl) (k := i3) hk37o (by omega) w15 ) (fun r39 T41 σ40 gt42 hp => ?_)
        obtain ⟨v46, rfl, rfl, w47, F48, f43, f44, f45⟩ := hp
        clear gt42
        clear f45
        show Tn _ _ 56 T σ40 [(0, .ref a), (1, .ref rx1), (2, .int (iI i2)), (3, .int (iI i3))] [.int (iI v46), .int (iI i2)] _
        refine tn_if_eq (tgt := 97) dX0_sameStack_56 (by decide) ⟨by omega, by omega⟩ (fun h49 => ?_) (fun h49 => ?_)
        · refine tn_iconst dX0_sameStack_97 ?_
          refine tn_iand dX0_sameStack_98 ?_
          refine tn_bandX (x := i2) (y := 0) (by omega) (by omega) (fun z52 g53 g53w => ?_)
          refine tn_istore_n (L' := [(2, .int (iI z52)), (0, .ref a), (1, .ref rx1), (3, .int (iI i3))]) dX0_sameStack_99 rfl (by decide) rfl ?_
          refine tn_iload_n dX0_sameStack_100 rfl 0 rfl ?_
          refine tn_aload_n dX0_sameStack_101 rfl 1 rfl ?_
          refine tn_aload_n dX0_sameStack_102 rfl 2 rfl ?_
          refine tn_callV (M := m_X0_sameStack) (pc := 103) (ix := 74) (ci := 0) (M' := m_X0_sameNames) (As := [.ref rx1]) (rest := [.int (iI z52)]) dX0_sameStack_103 ok_X0_sameNames im_X0_sameNames se_X0_sameNames ml0_74 np_X0_sameNames rfl rfl h_a rfl (Nat.le_of_ble_eq_true rfl) (Nat.le_of_ble_eq_true rfl) rfl (k_X0_sameNames_h (d) (T := T) (σ := σ40) (a := a) (p1 := rx1) h_a h_rx1 w47 ) (fun r54 T56 σ55 gt57 hp => ?_)
          obtain ⟨v60, rfl, rfl, w61, F62, f58, f59⟩ := hp
          clear gt57
          show Tn _ _ 106 T σ55 [(2, .int (iI z52)), (0, .ref a), (1, .ref rx1), (3, .int (iI i3))] [.int (iI v60), .int (iI z52)] _
          refine tn_iand dX0_sameStack_106 ?_
          refine tn_bandX (x := z52) (y := v60) (by omega) (by omega) (fun z65 g66 g66w => ?_)
          refine tn_istore_n (L' := [(2, .int (iI z65)), (0, .ref a), (1, .ref rx1), (3, .int (iI i3))]) dX0_sameStack_107 rfl (by decide) rfl ?_
          refine tn_iinc (q0 := 3) (L' := [(3, .int (iI (i3 + 1))), (2, .int (iI z65)), (0, .ref a), (1, .ref rx1)]) dX0_sameStack_108 rfl (by decide) rfl ?_
          refine tn_goto (tgt := 25) dX0_sameStack_111 (by decide) ?_
          exact tn_sub [2, 3, 1, 0] rfl (ih _ (by omega) (z65) (i3 + 1) σ55 w61 ((((FrC.rfl.trans (FrC.sub hF (by decide))).trans (FrC.sub F16 (by decide))).trans (FrC.sub F48 (by decide))).trans (FrC.sub F62 (by decide))) (by omega) (by omega) (((hC.trans (CHX.sub f12 (by simp) (by simp) (by simp))).trans (CHX.sub f44 (by simp) (by simp) (by simp))).trans (CHX.sub f59 (by simp) (by simp) (by simp))) rfl)
        · refine tn_aload_n dX0_sameStack_59 rfl 0 rfl ?_
          refine tn_getR (ci := 0) (i := 0) (n := 0) (x := to) dX0_sameStack_60 rfl lay_0 (by decide) fl0_14 h_a rfl rfl (rc_F F48 (Or.inl (by decide)) (by decide) (rc_F F16 (Or.inl (by decide)) (by decide) (rc_F hF (Or.inl (by decide)) (by decide) (hto)))) ?_
          refine tn_callV (M := m_X0_sameStack) (pc := 63) (ix := 67) (ci := 7) (M' := m_X7_foundRoutine) (As := []) (rest := [.int (iI i2)]) dX0_sameStack_63 ok_X7_foundRoutine im_X7_foundRoutine se_X7_foundRoutine ml0_67 np_X7_foundRoutine rfl rfl hk3o rfl (Nat.le_of_ble_eq_true rfl) (Nat.le_of_ble_eq_true rfl) rfl (k_X7_foundRoutine (d + 2) (T := T) (σ := σ40) (a := to) hk3o w47 ) (fun r67 T69 σ68 gt70 hp => ?_)
          obtain ⟨v72, rfl, rfl, rfl, f71⟩ := hp
          clear gt70
          show Tn _ _ 66 T σ40 [(0, .ref a), (1, .ref rx1), (2, .int (iI i2)), (3, .int (iI i3))] [.int (iI v72), .int (iI i2)] _
          refine tn_aload_n dX0_sameStack_66 rfl 0 rfl ?_
          refine tn_getR (ci := 0) (i := 1) (n := 1) (x := pl) dX0_sameStack_67 rfl lay_0 (by decide) fl0_20 h_a rfl rfl (rc_F F48 (Or.inl (by decide)) (by decide) (rc_F F16 (Or.inl (by decide)) (by decide) (rc_F hF (Or.inl (by decide)) (by decide) (hpl)))) ?_
          refine tn_callV (M := m_X0_sameStack) (pc := 70) (ix := 67) (ci := 7) (M' := m_X7_foundRoutine) (As := []) (rest := [.int (iI v72), .int (iI i2)]) dX0_sameStack_70 ok_X7_foundRoutine im_X7_foundRoutine se_X7_foundRoutine ml0_67 np_X7_foundRoutine rfl rfl hk37o rfl (Nat.le_of_ble_eq_true rfl) (Nat.le_of_ble_eq_true rfl) rfl (k_X7_foundRoutine (d + 2) (T := T) (σ := σ40) (a := pl) hk37o w47 ) (fun r73 T75 σ74 gt76 hp => ?_)
          obtain ⟨v78, rfl, rfl, rfl, f77⟩ := hp
          clear gt76
          show Tn _ _ 73 T σ40 [(0, .ref a), (1, .ref rx1), (2, .int (iI i2)), (3, .int (iI i3))] [.int (iI v78), .int (iI v72), .int (iI i2)] _
          refine tn_icmp_ne (tgt := 97) dX0_sameStack_73 (by decide) ⟨by omega, by omega⟩ ⟨by omega, by omega⟩ (fun h79 => ?_) (fun h79 => ?_)
          · refine tn_iconst dX0_sameStack_97 ?_
            refine tn_iand dX0_sameStack_98 ?_
            refine tn_bandX (x := i2) (y := 0) (by omega) (by omega) (fun z82 g83 g83w => ?_)
            refine tn_istore_n (L' := [(2, .int (iI z82)), (0, .ref a), (1, .ref rx1), (3, .int (iI i3))]) dX0_sameStack_99 rfl (by decide) rfl ?_
            refine tn_iload_n dX0_sameStack_100 rfl 0 rfl ?_
            refine tn_aload_n dX0_sameStack_101 rfl 1 rfl ?_
            refine tn_aload_n dX0_sameStack_102 rfl 2 rfl ?_
            refine tn_callV (M := m_X0_sameStack) (pc := 103) (ix := 74) (ci := 0) (M' := m_X0_sameNames) (As := [.ref rx1]) (rest := [.int (iI z82)]) dX0_sameStack_103 ok_X0_sameNames im_X0_sameNames se_X0_sameNames ml0_74 np_X0_sameNames rfl rfl h_a rfl (Nat.le_of_ble_eq_true rfl) (Nat.le_of_ble_eq_true rfl) rfl (k_X0_sameNames_h (d) (T := T) (σ := σ40) (a := a) (p1 := rx1) h_a h_rx1 w47 ) (fun r84 T86 σ85 gt87 hp => ?_)
            obtain ⟨v90, rfl, rfl, w91, F92, f88, f89⟩ := hp
            clear gt87
            show Tn _ _ 106 T σ85 [(2, .int (iI z82)), (0, .ref a), (1, .ref rx1), (3, .int (iI i3))] [.int (iI v90), .int (iI z82)] _
            refine tn_iand dX0_sameStack_106 ?_
            refine tn_bandX (x := z82) (y := v90) (by omega) (by omega) (fun z95 g96 g96w => ?_)
            refine tn_istore_n (L' := [(2, .int (iI z95)), (0, .ref a), (1, .ref rx1), (3, .int (iI i3))]) dX0_sameStack_107 rfl (by decide) rfl ?_
            refine tn_iinc (q0 := 3) (L' := [(3, .int (iI (i3 + 1))), (2, .int (iI z95)), (0, .ref a), (1, .ref rx1)]) dX0_sameStack_108 rfl (by decide) rfl ?_
            refine tn_goto (tgt := 25) dX0_sameStack_111 (by decide) ?_
            exact tn_sub [2, 3, 1, 0] rfl (ih _ (by omega) (z95) (i3 + 1) σ85 w91 ((((FrC.rfl.trans (FrC.sub hF (by decide))).trans (FrC.sub F16 (by decide))).trans (FrC.sub F48 (by decide))).trans (FrC.sub F92 (by decide))) (by omega) (by omega) (((hC.trans (CHX.sub f12 (by simp) (by simp) (by simp))).trans (CHX.sub f44 (by simp) (by simp) (by simp))).trans (CHX.sub f89 (by simp) (by simp) (by simp))) rfl)
          · refine tn_aload_n dX0_sameStack_76 rfl 0 rfl ?_
            refine tn_getR (ci := 0) (i := 0) (n := 0) (x := to) dX0_sameStack_77 rfl lay_0 (by decide) fl0_14 h_a rfl rfl (rc_F F48 (Or.inl (by decide)) (by decide) (rc_F F16 (Or.inl (by decide)) (by decide) (rc_F hF (Or.inl (by decide)) (by decide) (hto)))) ?_
            refine tn_callV (M := m_X0_sameStack) (pc := 80) (ix := 71) (ci := 7) (M' := m_X7_foundLine) (As := []) (rest := [.int (iI i2)]) dX0_sameStack_80 ok_X7_foundLine im_X7_foundLine se_X7_foundLine ml0_71 np_X7_foundLine rfl rfl hk3o rfl (Nat.le_of_ble_eq_true rfl) (Nat.le_of_ble_eq_true rfl) rfl (k_X7_foundLine (d + 3) (T := T) (σ := σ40) (a := to) hk3o w47 ) (fun r97 T99 σ98 gt100 hp => ?_)
            obtain ⟨v102, rfl, rfl, rfl, f101⟩ := hp
            clear gt100
            show Tn _ _ 83 T σ40 [(0, .ref a), (1, .ref rx1), (2, .int (iI i2)), (3, .int (iI i3))] [.int (iI v102), .int (iI i2)] _
            refine tn_aload_n dX0_sameStack_83 rfl 0 rfl ?_
            refine tn_getR (ci := 0) (i := 1) (n := 1) (x := pl) dX0_sameStack_84 rfl lay_0 (by decide) fl0_20 h_a rfl rfl (rc_F F48 (Or.inl (by decide)) (by decide) (rc_F F16 (Or.inl (by decide)) (by decide) (rc_F hF (Or.inl (by decide)) (by decide) (hpl)))) ?_
            refine tn_callV (M := m_X0_sameStack) (pc := 87) (ix := 71) (ci := 7) (M' := m_X7_foundLine) (As := []) (rest := [.int (iI v102), .int (iI i2)]) dX0_sameStack_87 ok_X7_foundLine im_X7_foundLine se_X7_foundLine ml0_71 np_X7_foundLine rfl rfl hk37o rfl (Nat.le_of_ble_eq_true rfl) (Nat.le_of_ble_eq_true rfl) rfl (k_X7_foundLine (d + 3) (T := T) (σ := σ40) (a := pl) hk37o w47 ) (fun r103 T105 σ104 gt106 hp => ?_)
            obtain ⟨v108, rfl, rfl, rfl, f107⟩ := hp
            clear gt106
            show Tn _ _ 90 T σ40 [(0, .ref a), (1, .ref rx1), (2, .int (iI i2)), (3, .int (iI i3))] [.int (iI v108), .int (iI v102), .int (iI i2)] _
            refine tn_icmp_ne (tgt := 97) dX0_sameStack_90 (by decide) ⟨by omega, by omega⟩ ⟨by omega, by omega⟩ (fun h109 => ?_) (fun h109 => ?_)
            · refine tn_iconst dX0_sameStack_97 ?_
              refine tn_iand dX0_sameStack_98 ?_
              refine tn_bandX (x := i2) (y := 0) (by omega) (by omega) (fun z112 g113 g113w => ?_)
              refine tn_istore_n (L' := [(2, .int (iI z112)), (0, .ref a), (1, .ref rx1), (3, .int (iI i3))]) dX0_sameStack_99 rfl (by decide) rfl ?_
              refine tn_iload_n dX0_sameStack_100 rfl 0 rfl ?_
              refine tn_aload_n dX0_sameStack_101 rfl 1 rfl ?_
              refine tn_aload_n dX0_sameStack_102 rfl 2 rfl ?_
              refine tn_callV (M := m_X0_sameStack) (pc := 103) (ix := 74) (ci := 0) (M' := m_X0_sameNames) (As := [.ref rx1]) (rest := [.int (iI z112)]) dX0_sameStack_103 ok_X0_sameNames im_X0_sameNames se_X0_sameNames ml0_74 np_X0_sameNames rfl rfl h_a rfl (Nat.le_of_ble_eq_true rfl) (Nat.le_of_ble_eq_true rfl) rfl (k_X0_sameNames_h (d) (T := T) (σ := σ40) (a := a) (p1 := rx1) h_a h_rx1 w47 ) (fun r114 T116 σ115 gt117 hp => ?_)
              obtain ⟨v120, rfl, rfl, w121, F122, f118, f119⟩ := hp
              clear gt117
              show Tn _ _ 106 T σ115 [(2, .int (iI z112)), (0, .ref a), (1, .ref rx1), (3, .int (iI i3))] [.int (iI v120), .int (iI z112)] _
              refine tn_iand dX0_sameStack_106 ?_
              refine tn_bandX (x := z112) (y := v120) (by omega) (by omega) (fun z125 g126 g126w => ?_)
              refine tn_istore_n (L' := [(2, .int (iI z125)), (0, .ref a), (1, .ref rx1), (3, .int (iI i3))]) dX0_sameStack_107 rfl (by decide) rfl ?_
              refine tn_iinc (q0 := 3) (L' := [(3, .int (iI (i3 + 1))), (2, .int (iI z125)), (0, .ref a), (1, .ref rx1)]) dX0_sameStack_108 rfl (by decide) rfl ?_
              refine tn_goto (tgt := 25) dX0_sameStack_111 (by decide) ?_
              exact tn_sub [2, 3, 1, 0] rfl (ih _ (by omega) (z125) (i3 + 1) σ115 w121 ((((FrC.rfl.trans (FrC.sub hF (by decide))).trans (FrC.sub F16 (by decide))).trans (FrC.sub F48 (by decide))).trans (FrC.sub F122 (by decide))) (by omega) (by omega) (((hC.trans (CHX.sub f12 (by simp) (by simp) (by simp))).trans (CHX.sub f44 (by simp) (by simp) (by simp))).trans (CHX.sub f119 (by simp) (by simp) (by simp))) rfl)
            · refine tn_iconst dX0_sameStack_93 ?_
              refine tn_goto (tgt := 98) dX0_sameStack_94 (by decide) ?_
              refine tn_iand dX0_sameStack_98 ?_
              refine tn_bandX (x := i2) (y := 1) (by omega) (by omega) (fun z129 g130 g130w => ?_)
              refine tn_istore_n (L' := [(2, .int (iI z129)), (0, .ref a), (1, .ref rx1), (3, .int (iI i3))]) dX0_sameStack_99 rfl (by decide) rfl ?_
              refine tn_iload_n dX0_sameStack_100 rfl 0 rfl ?_
              refine tn_aload_n dX0_sameStack_101 rfl 1 rfl ?_
              refine tn_aload_n dX0_sameStack_102 rfl 2 rfl ?_
              refine tn_callV (M := m_X0_sameStack) (pc := 103) (ix := 74) (ci := 0) (M' := m_X0_sameNames) (As := [.ref rx1]) (rest := [.int (iI z129)]) dX0_sameStack_103 ok_X0_sameNames im_X0_sameNames se_X0_sameNames ml0_74 np_X0_sameNames rfl rfl h_a rfl (Nat.le_of_ble_eq_true rfl) (Nat.le_of_ble_eq_true rfl) rfl (k_X0_sameNames_h (d) (T := T) (σ := σ40) (a := a) (p1 := rx1) h_a h_rx1 w47 ) (fun r131 T133 σ132 gt134 hp => ?_)
              obtain ⟨v137, rfl, rfl, w138, F139, f135, f136⟩ := hp
              clear gt134
              show Tn _ _ 106 T σ132 [(2, .int (iI z129)), (0, .ref a), (1, .ref rx1), (3, .int (iI i3))] [.int (iI v137), .int (iI z129)] _
              refine tn_iand dX0_sameStack_106 ?_
              refine tn_bandX (x := z129) (y := v137) (by omega) (by omega) (fun z142 g143 g143w => ?_)
              refine tn_istore_n (L' := [(2, .int (iI z142)), (0, .ref a), (1, .ref rx1), (3, .int (iI i3))]) dX0_sameStack_107 rfl (by decide) rfl ?_
              refine tn_iinc (q0 := 3) (L' := [(3, .int (iI (i3 + 1))), (2, .int (iI z142)), (0, .ref a), (1, .ref rx1)]) dX0_sameStack_108 rfl (by decide) rfl ?_
              refine tn_goto (tgt := 25) dX0_sameStack_111 (by decide) ?_
              exact tn_sub [2, 3, 1, 0] rfl (ih _ (by omega) (z142) (i3 + 1) σ132 w138 ((((FrC.rfl.trans (FrC.sub hF (by decide))).trans (FrC.sub F16 (by decide))).trans (FrC.sub F48 (by decide))).trans (FrC.sub F139 (by decide))) (by omega) (by omega) (((hC.trans (CHX.sub f12 (by simp) (by simp) (by simp))).trans (CHX.sub f44 (by simp) (by simp) (by simp))).trans (CHX.sub f136 (by simp) (by simp) (by simp))) rfl)
set_option maxHeartbeats 1000000 in
set_option maxRecDepth 20000 in
theorem k_X0_sameStack_h (d : Nat) {T : CT} {σ : MS} {a : Nat} {p1 : Nat} {to : Nat} {pl : Nat} (ha : OB T a 0) (h_p1 : OB T p1 10) (hw : WT T σ) (hto : σ.2.1 0 a = (to : Int)) (hpl : σ.2.1 1 a = (pl : Int)) : Tn (d + 6) m_X0_sameStack 0 T σ [(0, .ref a), (1, .ref p1)] [] (fun ro T2 σ2 => ∃ v : Int, ro = some (.int (iI v)) ∧ T = T2 ∧ WT T2 σ2 ∧ FrC T [2, 3, 70, 71] σ σ2 ∧ (v = 0 ∨ v = 1) ∧ (CHX [(2, a), (3, a), (56, to), (57, to), (58, to), (65, to), (66, to), (67, to), (68, to), (69, to), (70, to), (71, to), (56, pl), (57, pl), (58, pl), (65, pl), (66, pl), (67, pl), (68, pl), (69, pl), (70, pl), (71, pl)] [] [] σ σ2)) := by
  refine tn_aload_n dX0_sameStack_0 rfl 0 rfl ?_
  have hk3 : (T to).1 = 37 := ob_of (wf_0 hw ha) hto
  have hk3o : OB T to 7 := ⟨by omega, by rw [hk3]; rfl, by omega⟩
  refine tn_getR (ci := 0) (i := 0) (n := 0) (x := to) dX0_sameStack_1 rfl lay_0 (by decide) fl0_14 ha rfl rfl (hto) ?_
  refine tn_getI (ci := 7) (i := 3) (n := 58) (t := σ.2.1 58 to) dX0_sameStack_4 rfl lay_7 (by decide) fl0_60 hk3o rfl rfl (rfl) ?_
  have g5 : ((-2147483648 : Int) ≤ σ.2.1 58 to ∧ σ.2.1 58 to ≤ 2147483647) := wf_58 hw hk3o
  refine tn_aload_n dX0_sameStack_7 rfl 0 rfl ?_
  have hk8 : (T pl).1 = 57 := ob_of (wf_1 hw ha) hpl
  have hk8o : OB T pl 7 := ⟨by omega, by rw [hk8]; rfl, by omega⟩
  refine tn_getR (ci := 0) (i := 1) (n := 1) (x := pl) dX0_sameStack_8 rfl lay_0 (by decide) fl0_20 ha rfl rfl (hpl) ?_
  refine tn_getI (ci := 7) (i := 3) (n := 58) (t := σ.2.1 58 pl) dX0_sameStack_11 rfl lay_7 (by decide) fl0_60 hk8o rfl rfl (rfl) ?_
  have g10 : ((-2147483648 : Int) ≤ σ.2.1 58 pl ∧ σ.2.1 58 pl ≤ 2147483647) := wf_58 hw hk8o
  refine tn_icmp_ne (tgt := 21) dX0_sameStack_14 (by decide) ⟨by omega, by omega⟩ ⟨by omega, by omega⟩ (fun h11 => ?_) (fun h11 => ?_)
  · refine tn_iconst dX0_sameStack_21 ?_
    refine tn_istore_n (L' := [(2, .int (iI 0)), (0, .ref a), (1, .ref p1)]) dX0_sameStack_22 rfl (by decide) rfl ?_
    refine tn_iconst dX0_sameStack_23 ?_
    refine tn_istore_n (L' := [(3, .int (iI 0)), (2, .int (iI 0)), (0, .ref a), (1, .ref p1)]) dX0_sameStack_24 rfl (by decide) rfl ?_
    refine tn_sub [2, 3, 1, 0] rfl (l_X0_sameStack_h_25 (d) (T := T) (σ0 := σ) (a := a) (rx1 := p1) (to := to) (pl := pl) ha h_p1 hw (hto) (hpl) (fun i212 i313 σ14 w17 F18 r19 r20 f21 => ?_) _ (0) (0) σ hw FrC.rfl (by omega) (by omega) CHX.rfl rfl)
    show Tn _ _ 114 T σ14 [(0, .ref a), (1, .ref p1), (2, .int (iI i212)), (3, .int (iI i313))] [] _
    refine tn_iload_n dX0_sameStack_114 rfl 2 rfl ?_
    exact tn_zret (v := i212) rfl (by omega) dX0_sameStack_115 ⟨_, rfl, rfl, w17, (FrC.rfl.trans (FrC.sub F18 (by decide))), by omega, (CHX.rfl.trans (CHX.sub f21 (by simp) (by simp) (by simp)))⟩
  · refine tn_iconst dX0_sameStack_17 ?_
    refine tn_goto (tgt := 22) dX0_sameStack_18 (by decide) ?_
    refine tn_istore_n (L' := [(2, .int (iI 1)), (0, .ref a), (1, .ref p1)]) dX0_sameStack_22 rfl (by decide) rfl ?_
    refine tn_iconst dX0_sameStack_23 ?_
    refine tn_istore_n (L' := [(3, .int (iI 0)), (2, .int (iI 1)), (0, .ref a), (1, .ref p1)]) dX0_sameStack_24 rfl (by decide) rfl ?_
    refine tn_sub [2, 3, 1, 0] rfl (l_X0_sameStack_h_25 (d) (T := T) (σ0 := σ) (a := a) (rx1 := p1) (to := to) (pl := pl) ha h_p1 hw (hto) (hpl) (fun i222 i323 σ24 w27 F28 r29 r30 f31 => ?_) _ (1) (0) σ hw FrC.rfl (by omega) (by omega) CHX.rfl rfl)
    show Tn _ _ 114 T σ24 [(0, .ref a), (1, .ref p1), (2, .int (iI i222)), (3, .int (iI i323))] [] _
    refine tn_iload_n dX0_sameStack_114 rfl 2 rfl ?_
    exact tn_zret (v := i222) rfl (by omega) dX0_sameStack_115 ⟨_, rfl, rfl, w27, (FrC.rfl.trans (FrC.sub F28 (by decide))), by omega, (CHX.rfl.trans (CHX.sub f31 (by simp) (by simp) (by simp)))⟩
end
section
set_option maxHeartbeats 1000000 in
set_option maxRecDepth 20000 in
theorem l_X0_plainLine_h_2 (d : Nat) {T : CT} {σ0 : MS} {a : Nat} {pl : Nat} {pxa : Nat} {pxb : Nat} {pxc : Nat} {pxd : Nat} {pxe : Nat} {pxf : Nat} {post : Option Value → CT → MS → Prop} (h_a : OB T a 0) (hw0 : WT T σ0) (hpl : σ0.2.1 1 a = (pl : Int)) (hpxa : σ0.2.1 59 pl = (pxa : Int)) (hpxb : σ0.2.1 60 pl = (pxb : Int)) (hpxc : σ0.2.1 61 pl = (pxc : Int)) (hpxd : σ0.2.1 62 pl = (pxd : Int)) (hpxe : σ0.2.1 63 pl = (pxe : Int)) (hpxf : σ0.2.1 64 pl = (pxf : Int)) (hx_29 : ∀ (i1 : Int) (σ : MS) , (WT T σ) → (FrC T [56, 57, 58, 65, 66, 67, 68, 69, 515] σ0 σ) → (0 ≤ i1 ∧ i1 ≤ 2147483647) → (CHX [(56, pl), (57, pl), (58, pl), (65, pl), (66, pl), (67, pl), (68, pl), (69, pl), (70, pl), (71, pl)] [pxa, pxb, pxc, pxd, pxe, pxf] [] σ0 σ) → (PB σ a) → (FA (σ0.2.1 1 a).toNat σ0 σ) → Tn (d + 6) m_X0_plainLine 29 T σ [(0, .ref a), (1, .int (iI i1))] [] post) (hx_37 : ∀ (i1 : Int) (σ : MS) , (WT T σ) → (FrC T [56, 57, 58, 65, 66, 67, 68, 69, 515] σ0 σ) → (0 ≤ i1 ∧ i1 ≤ 2147483647) → (CHX [(56, pl), (57, pl), (58, pl), (65, pl), (66, pl), (67, pl), (68, pl), (69, pl), (70, pl), (71, pl)] [pxa, pxb, pxc, pxd, pxe, pxf] [] σ0 σ) → (PB σ a) → (FA (σ0.2.1 1 a).toNat σ0 σ) → Tn (d + 6) m_X0_plainLine 37 T σ [(0, .ref a), (1, .int (iI i1))] [] post) : ∀ (nq9 : Nat) (i1 : Int) (σ : MS) , (WT T σ) → (FrC T [56, 57, 58, 65, 66, 67, 68, 69, 515] σ0 σ) → (0 ≤ i1 ∧ i1 ≤ 2147483647) → (CHX [(56, pl), (57, pl), (58, pl), (65, pl), (66, pl), (67, pl), (68, pl), (69, pl), (70, pl), (71, pl)] [pxa, pxb, pxc, pxd, pxe, pxf] [] σ0 σ) → (PB σ a) → (FA (σ0.2.1 1 a).toNat σ0 σ) → (2147483700 - i1).toNat = nq9 → Tn (d + 6) m_X0_plainLine 2 T σ [(0, .ref a), (1, .int (iI i1))] [] post := by
  intro nq9
  induction nq9 using Nat.strongRecOn with
  | _ nq9 ih =>
    intro i1 σ hw hF r_i1 hC hb hfa hm
    refine tn_iload_n dX0_plainLine_2 rfl 1 rfl ?_
    refine tn_ldc (n := 1000000) dX0_plainLine_3 cst0_53 rfl ?_
    refine tn_icmp_ge (tgt := 37) dX0_plainLine_5 (by decide) ⟨by omega, by omega⟩ ⟨by decide, by decide⟩ (fun h1 => ?_) (fun h1 => ?_)
    · exact tn_sub [0, 1] rfl (hx_37 (i1) σ hw (FrC.rfl.trans (FrC.sub hF (by decide))) (by omega) hC hb hfa)
    · refine tn_aload_n dX0_plainLine_8 rfl 0 rfl ?_
      have hk4 : (T pl).1 = 57 := ob_of (wf_1 hw0 h_a) hpl
      have hk4o : OB T pl 7 := ⟨by omega, by rw [hk4]; rfl, by omega⟩
      refine tn_getR (ci := 0) (i := 1) (n := 1) (x := pl) dX0_plainLine_9 rfl lay_0 (by decide) fl0_20 h_a rfl rfl (rc_F hF (Or.inl (by decide)) (by decide) (hpl)) ?_
      refine tn_getI (ci := 7) (i := 1) (n := 56) (t := σ.2.1 56 pl) dX0_plainLine_12 rfl lay_7 (by decide) fl0_33 hk4o rfl rfl (rfl) ?_
      have g6 : ((-2147483648 : Int) ≤ σ.2.1 56 pl ∧ σ.2.1 56 pl ≤ 2147483647) := wf_56 hw hk4o
      refine tn_iconst dX0_plainLine_15 ?_
      refine tn_icmp_ne (tgt := 37) dX0_plainLine_16 (by decide) ⟨by omega, by omega⟩ ⟨by decide, by decide⟩ (fun h7 => ?_) (fun h7 => ?_)
      · exact tn_sub [0, 1] rfl (hx_37 (i1) σ hw (FrC.rfl.trans (FrC.sub hF (by decide))) (by omega) hC hb hfa)
      · refine tn_aload_n dX0_plainLine_19 rfl 0 rfl ?_
        refine tn_getR (ci := 0) (i := 1) (n := 1) (x := pl) dX0_plainLine_20 rfl lay_0 (by decide) fl0_20 h_a rfl rfl (rc_F hF (Or.inl (by decide)) (by decide) (hpl)) ?_
        obtain ⟨hk10, hl11⟩ : AR T pxa 15 9 9 := ar_of (wf_59 hw0 hk4o) hpxa
        have hk10i : IA T pxa := by unfold IA; omega
        obtain ⟨hk14, hl15⟩ : AR T pxb 1 9 9 := ar_of (wf_60 hw0 hk4o) hpxb
        have hk14i : IA T pxb := by unfold IA; omega
        obtain ⟨hl19, hk18a, hk18b⟩ := ex_at (wf_61 hw0 hk4o) hpxc
        have hk18 : (T pxc).1 = 14 := hk18a (by omega)
        clear hk18a hk18b
        have hk18i : IA T pxc := by unfold IA; omega
        obtain ⟨hk22, hl23⟩ : AR T pxd 1 108 108 := ar_of (wf_62 hw0 hk4o) hpxd
        have hk22i : IA T pxd := by unfold IA; omega
        obtain ⟨hk26, hl27⟩ : AR T pxe 1 1728 1728 := ar_of (wf_63 hw0 hk4o) hpxe
        have hk26i : IA T pxe := by unfold IA; omega
        obtain ⟨hk30, hl31⟩ : AR T pxf 1 200 200 := ar_of (wf_64 hw0 hk4o) hpxf
        have hk30i : IA T pxf := by unfold IA; omega
        refine tn_callV (M := m_X0_plainLine) (pc := 23) (ix := 36) (ci := 7) (M' := m_X7_step) (As := []) (rest := []) dX0_plainLine_23 ok_X7_step im_X7_step se_X7_step ml0_36 np_X7_step rfl rfl hk4o rfl (Nat.le_of_ble_eq_true rfl) (Nat.le_of_ble_eq_true rfl) rfl (k_X7_step_h57 (d) (T := T) (σ := σ) (a := pl) (xa := pxa) (xb := pxb) (xc := pxc) (xd := pxd) (xe := pxe) (xf := pxf) hk4o hk4 hw (rc_F hF (Or.inl (by decide)) (by decide) (hpxa)) (rc_F hF (Or.inl (by decide)) (by decide) (hpxb)) (rc_F hF (Or.inl (by decide)) (by decide) (hpxc)) (rc_F hF (Or.inl (by decide)) (by decide) (hpxd)) (rc_F hF (Or.inl (by decide)) (by decide) (hpxe)) (rc_F hF (Or.inl (by decide)) (by decide) (hpxf)) (by have q9 := hb pl (rc_F hF (Or.inl (by decide)) (by decide) (hpl)); unfold PIv at q9; omega)) (fun r32 T34 σ33 gt35 hp => ?_)
        obtain ⟨v40, rfl, rfl, w41, F42, f36, f37, f38, f39⟩ := hp
        clear gt35
        show Tn _ _ 26 T σ33 [(0, .ref a), (1, .int (iI i1))] [.int (iI v40)] _
        refine tn_if_eq (tgt := 31) dX0_plainLine_26 (by decide) ⟨by omega, by omega⟩ (fun h43 => ?_) (fun h43 => ?_)
        · refine tn_iinc (q0 := 1) (L' := [(1, .int (iI (i1 + 1))), (0, .ref a)]) dX0_plainLine_31 rfl (by decide) rfl ?_
          refine tn_goto (tgt := 2) dX0_plainLine_34 (by decide) ?_
          exact tn_sub [1, 0] rfl (ih _ (by omega) (i1 + 1) σ33 w41 ((FrC.rfl.trans (FrC.sub hF (by decide))).trans (FrC.sub F42 (by decide))) (by omega) (hC.trans (CHX.sub f37 (by simp) (by simp) (by simp))) (PB.of (rc_F F42 (Or.inl (by decide)) (by decide) (rc_F hF (Or.inl (by decide)) (by decide) (hpl))) f38) (hfa.trans (FA.at hpl f39)) rfl)
        · exact tn_sub [0, 1] rfl (hx_29 (i1) σ33 w41 ((FrC.rfl.trans (FrC.sub hF (by decide))).trans (FrC.sub F42 (by decide))) (by omega) (hC.trans (CHX.sub f37 (by simp) (by simp) (by simp))) (PB.of (rc_F F42 (Or.inl (by decide)) (by decide) (rc_F hF (Or.inl (by decide)) (by decide) (hpl))) f38) (hfa.trans (FA.at hpl f39)))
set_option maxHeartbeats 1000000 in
set_option maxRecDepth 20000 in
theorem k_X0_plainLine_h (d : Nat) {T : CT} {σ : MS} {a : Nat} {pl : Nat} {pxa : Nat} {pxb : Nat} {pxc : Nat} {pxd : Nat} {pxe : Nat} {pxf : Nat} (ha : OB T a 0) (hw : WT T σ) (hpl : σ.2.1 1 a = (pl : Int)) (hpxa : σ.2.1 59 pl = (pxa : Int)) (hpxb : σ.2.1 60 pl = (pxb : Int)) (hpxc : σ.2.1 61 pl = (pxc : Int)) (hpxd : σ.2.1 62 pl = (pxd : Int)) (hpxe : σ.2.1 63 pl = (pxe : Int)) (hpxf : σ.2.1 64 pl = (pxf : Int)) (hb : PB σ a) : Tn (d + 6) m_X0_plainLine 0 T σ [(0, .ref a)] [] (fun ro T2 σ2 => ∃ v : Int, ro = some (.int (iI v)) ∧ T = T2 ∧ WT T2 σ2 ∧ FrC T [56, 57, 58, 65, 66, 67, 68, 69, 515] σ σ2 ∧ (v = 0 ∨ v = 1) ∧ (CHX [(56, pl), (57, pl), (58, pl), (65, pl), (66, pl), (67, pl), (68, pl), (69, pl), (70, pl), (71, pl)] [pxa, pxb, pxc, pxd, pxe, pxf] [] σ σ2) ∧ (PB σ2 a) ∧ (FA (σ.2.1 1 a).toNat σ σ2)) := by
  refine tn_iconst dX0_plainLine_0 ?_
  refine tn_istore_n (L' := [(1, .int (iI 0)), (0, .ref a)]) dX0_plainLine_1 rfl (by decide) rfl ?_
  refine tn_sub [1, 0] rfl (l_X0_plainLine_h_2 (d) (T := T) (σ0 := σ) (a := a) (pl := pl) (pxa := pxa) (pxb := pxb) (pxc := pxc) (pxd := pxd) (pxe := pxe) (pxf := pxf) ha hw (hpl) (hpxa) (hpxb) (hpxc) (hpxd) (hpxe) (hpxf) (fun i11 σ2 w5 F6 r7 f8 f9 f10 => ?_) (fun i111 σ12 w15 F16 r17 f18 f19 f20 => ?_) _ (0) σ hw FrC.rfl (by omega) CHX.rfl hb FA.rfl rfl)
  · show Tn _ _ 29 T σ2 [(0, .ref a), (1, .int (iI i11))] [] _
    refine tn_iconst dX0_plainLine_29 ?_
    exact tn_zret (v := 1) rfl (by decide) dX0_plainLine_30 ⟨_, rfl, rfl, w5, (FrC.rfl.trans (FrC.sub F6 (by decide))), by omega, (CHX.rfl.trans (CHX.sub f8 (by simp) (by simp) (by simp))), f9, f10⟩
  · show Tn _ _ 37 T σ12 [(0, .ref a), (1, .int (iI i111))] [] _
    refine tn_iconst dX0_plainLine_37 ?_
    exact tn_zret (v := 0) rfl (by decide) dX0_plainLine_38 ⟨_, rfl, rfl, w15, (FrC.rfl.trans (FrC.sub F16 (by decide))), by omega, (CHX.rfl.trans (CHX.sub f18 (by simp) (by simp) (by simp))), f19, f20⟩
end
section
set_option maxHeartbeats 1000000 in
set_option maxRecDepth 20000 in
theorem l_X0_together_hf_20 (d : Nat) {T : CT} {σ0 : MS} {a : Nat} {rx1 : Nat} {c2 : Int} {to : Nat} {pl : Nat} {txa : Nat} {txb : Nat} {txc : Nat} {txd : Nat} {txe : Nat} {txf : Nat} {pxa : Nat} {pxb : Nat} {pxc : Nat} {pxd : Nat} {pxe : Nat} {pxf : Nat} {post : Option Value → CT → MS → Prop} (h_a : OB T a 0) (h_rx1 : OB T rx1 10) (r_c2 : -2147483648 ≤ c2 ∧ c2 ≤ 20000) (hw0 : WT T σ0) (hto : σ0.2.1 0 a = (to : Int)) (hpl : σ0.2.1 1 a = (pl : Int)) (htxa : σ0.2.1 59 to = (txa : Int)) (htxb : σ0.2.1 60 to = (txb : Int)) (htxc : σ0.2.1 61 to = (txc : Int)) (htxd : σ0.2.1 62 to = (txd : Int)) (htxe : σ0.2.1 63 to = (txe : Int)) (htxf : σ0.2.1 64 to = (txf : Int)) (hpxa : σ0.2.1 59 pl = (pxa : Int)) (hpxb : σ0.2.1 60 pl = (pxb : Int)) (hpxc : σ0.2.1 61 pl = (pxc : Int)) (hpxd : σ0.2.1 62 pl = (pxd : Int)) (hpxe : σ0.2.1 63 pl = (pxe : Int)) (hpxf : σ0.2.1 64 pl = (pxf : Int)) (hx_69 : ∀ (i3 : Int) (i4 : Int) (σ : MS) , (WT T σ) → (FrC T [2, 3, 56, 57, 58, 65, 66, 67, 68, 69, 70, 71, 515] σ0 σ) → (-2147483648 ≤ i3 ∧ i3 ≤ 2147483647) → (0 ≤ i4 ∧ i4 ≤ 20000) → (CHX [(2, a), (3, a), (4, a), (56, to), (57, to), (58, to), (65, to), (66, to), (67, to), (68, to), (69, to), (70, to), (71, to), (56, pl), (57, pl), (58, pl), (65, pl), (66, pl), (67, pl), (68, pl), (69, pl), (70, pl), (71, pl)] [txa, txb, txc, txd, txe, txf, pxa, pxb, pxc, pxd, pxe, pxf] [] σ0 σ) → (TB σ a (i4 + 1)) → (PB σ a) → (F57 a σ0 σ) → Tn (d + 7) m_X0_together 69 T σ [(0, .ref a), (1, .ref rx1), (2, .int (iI c2)), (3, .int (iI i3)), (4, .int (iI i4))] [] post) (hx_83 : ∀ (i3 : Int) (i4 : Int) (σ : MS) , (WT T σ) → (FrC T [2, 3, 56, 57, 58, 65, 66, 67, 68, 69, 70, 71, 515] σ0 σ) → (-2147483648 ≤ i3 ∧ i3 ≤ 2147483647) → (0 ≤ i4 ∧ i4 ≤ 20000) → (CHX [(2, a), (3, a), (4, a), (56, to), (57, to), (58, to), (65, to), (66, to), (67, to), (68, to), (69, to), (70, to), (71, to), (56, pl), (57, pl), (58, pl), (65, pl), (66, pl), (67, pl), (68, pl), (69, pl), (70, pl), (71, pl)] [txa, txb, txc, txd, txe, txf, pxa, pxb, pxc, pxd, pxe, pxf] [] σ0 σ) → (TB σ a (i4 + 1)) → (PB σ a) → (F57 a σ0 σ) → Tn (d + 7) m_X0_together 83 T σ [(0, .ref a), (1, .ref rx1), (2, .int (iI c2)), (3, .int (iI i3)), (4, .int (iI i4))] [] post) : ∀ (nq9 : Nat) (i3 : Int) (i4 : Int) (σ : MS) , (WT T σ) → (FrC T [2, 3, 56, 57, 58, 65, 66, 67, 68, 69, 70, 71, 515] σ0 σ) → (-2147483648 ≤ i3 ∧ i3 ≤ 2147483647) → (0 ≤ i4 ∧ i4 ≤ 20000) → (CHX [(2, a), (3, a), (4, a), (56, to), (57, to), (58, to), (65, to), (66, to), (67, to), (68, to), (69, to), (70, to), (71, to), (56, pl), (57, pl), (58, pl), (65, pl), (66, pl), (67, pl), (68, pl), (69, pl), (70, pl), (71, pl)] [txa, txb, txc, txd, txe, txf, pxa, pxb, pxc, pxd, pxe, pxf] [] σ0 σ) → (TB σ a i4) → (PB σ a) → (F57 a σ0 σ) → (2147483700 - i4).toNat = nq9 → Tn (d + 7) m_X0_together 20 T σ [(0, .ref a), (1, .ref rx1), (2, .int (iI c2)), (3, .int (iI i3)), (4, .int (iI i4))] [] post := by
  intro nq9
  induction nq9 using Nat.strongRecOn with
  | _ nq9 ih =>
    intro i3 i4 σ hw hF r_i3 r_i4 hC ht hb hf2 hm
    refine tn_iload dX0_together_20 4 rfl ?_
    refine tn_iload_n dX0_together_22 rfl 2 rfl ?_
    refine tn_icmp_ge (tgt := 83) dX0_together_23 (by decide) ⟨by omega, by omega⟩ ⟨by omega, by omega⟩ (fun h1 => ?_) (fun h1 => ?_)
    · exact tn_sub [0, 1, 2, 3, 4] rfl (hx_83 (i3) (i4) σ hw (FrC.rfl.trans (FrC.sub hF (by decide))) (by omega) (by omega) hC (ht.up (by omega)) hb hf2)
    · refine tn_aload_n dX0_together_26 rfl 0 rfl ?_
      have hk4 : (T to).1 = 37 := ob_of (wf_0 hw0 h_a) hto
      have hk4o : OB T to 7 := ⟨by omega, by rw [hk4]; rfl, by omega⟩
      refine tn_getR (ci := 0) (i := 0) (n := 0) (x := to) dX0_together_27 rfl lay_0 (by decide) fl0_14 h_a rfl rfl (rc_F hF (Or.inl (by decide)) (by decide) (hto)) ?_
      refine tn_getI (ci := 7) (i := 1) (n := 56) (t := σ.2.1 56 to) dX0_together_30 rfl lay_7 (by decide) fl0_33 hk4o rfl rfl (rfl) ?_
      have g6 : ((-2147483648 : Int) ≤ σ.2.1 56 to ∧ σ.2.1 56 to ≤ 2147483647) := wf_56 hw hk4o
      refine tn_iconst dX0_together_33 ?_
      refine tn_icmp_ne (tgt := 83) dX0_together_34 (by decide) ⟨by omega, by omega⟩ ⟨by decide, by decide⟩ (fun h7 => ?_) (fun h7 => ?_)
      · exact tn_sub [0, 1, 2, 3, 4] rfl (hx_83 (i3) (i4) σ hw (FrC.rfl.trans (FrC.sub hF (by decide))) (by omega) (by omega) hC (ht.up (by omega)) hb hf2)
      · refine tn_aload_n dX0_together_37 rfl 0 rfl ?_
        refine tn_getR (ci := 0) (i := 0) (n := 0) (x := to) dX0_together_38 rfl lay_0 (by decide) fl0_14 h_a rfl rfl (rc_F hF (Or.inl (by decide)) (by decide) (hto)) ?_
        obtain ⟨hk10, hl11⟩ : AR T txa 15 9 9 := ar_of (wf_59 hw0 hk4o) htxa
        have hk10i : IA T txa := by unfold IA; omega
        obtain ⟨hk14, hl15⟩ : AR T txb 1 9 9 := ar_of (wf_60 hw0 hk4o) htxb
        have hk14i : IA T txb := by unfold IA; omega
        obtain ⟨hl19, hk18a, hk18b⟩ := ex_at (wf_61 hw0 hk4o) htxc
        have hk18 : (T txc).1 = 1 := hk18b (by omega)
        clear hk18a hk18b
        have hk18i : IA T txc := by unfold IA; omega
        obtain ⟨hk22, hl23⟩ : AR T txd 1 108 108 := ar_of (wf_62 hw0 hk4o) htxd
        have hk22i : IA T txd := by unfold IA; omega
        obtain ⟨hk26, hl27⟩ : AR T txe 1 1728 1728 := ar_of (wf_63 hw0 hk4o) htxe
        have hk26i : IA T txe := by unfold IA; omega
        obtain ⟨hk30, hl31⟩ : AR T txf 1 200 200 := ar_of (wf_64 hw0 hk4o) htxf
        have hk30i : IA T txf := by unfold IA; omega
        refine tn_callV (M := m_X0_together) (pc := 41) (ix := 36) (ci := 7) (M' := m_X7_step) (As := []) (rest := []) dX0_together_41 ok_X7_step im_X7_step se_X7_step ml0_36 np_X7_step rfl rfl hk4o rfl (Nat.le_of_ble_eq_true rfl) (Nat.le_of_ble_eq_true rfl) rfl (k_X7_step_h (d + 1) (T := T) (σ := σ) (a := to) (xa := txa) (xb := txb) (xc := txc) (xd := txd) (xe := txe) (xf := txf) hk4o hk4 hw (rc_F hF (Or.inl (by decide)) (by decide) (htxa)) (rc_F hF (Or.inl (by decide)) (by decide) (htxb)) (rc_F hF (Or.inl (by decide)) (by decide) (htxc)) (rc_F hF (Or.inl (by decide)) (by decide) (htxd)) (rc_F hF (Or.inl (by decide)) (by decide) (htxe)) (rc_F hF (Or.inl (by decide)) (by decide) (htxf)) (by have q9 := ht to (rc_F hF (Or.inl (by decide)) (by decide) (hto)); omega)) (fun r32 T34 σ33 gt35 hp => ?_)
        obtain ⟨v40, rfl, rfl, w41, F42, f36, f37, f38, f39⟩ := hp
        clear gt35
        have hk45 : (T pl).1 = 57 := ob_of (wf_1 hw0 h_a) hpl
        have hk45o : OB T pl 7 := ⟨by omega, by rw [hk45]; rfl, by omega⟩
        have ne47 : to ≠ pl := fun e => by rw [e] at hk4; omega
        have hb48 : PB σ33 a := PB.torn hb (rc_F hF (Or.inl (by decide)) (by decide) (hpl)) ne47 f39 F42 (by decide)
        have ht49 : TB σ33 a (i4 + 1) := TB.of (rc_F F42 (Or.inl (by decide)) (by decide) (rc_F hF (Or.inl (by decide)) (by decide) (hto))) (by have q9 := ht to (rc_F hF (Or.inl (by decide)) (by decide) (hto)); omega)
        have f250 : F57 a σ0 σ33 := F57.fa hf2 (Or.inl hto) f39
        show Tn _ _ 44 T σ33 [(0, .ref a), (1, .ref rx1), (2, .int (iI c2)), (3, .int (iI i3)), (4, .int (iI i4))] [.int (iI v40)] _
        refine tn_if_eq (tgt := 77) dX0_together_44 (by decide) ⟨by omega, by omega⟩ (fun h51 => ?_) (fun h51 => ?_)
        · refine tn_iinc (q0 := 4) (L' := [(4, .int (iI (i4 + 1))), (0, .ref a), (1, .ref rx1), (2, .int (iI c2)), (3, .int (iI i3))]) dX0_together_77 rfl (by decide) rfl ?_
          refine tn_goto (tgt := 20) dX0_together_80 (by decide) ?_
          exact tn_sub [1, 2, 3, 4, 0] rfl (ih _ (by omega) (i3) (i4 + 1) σ33 w41 ((FrC.rfl.trans (FrC.sub hF (by decide))).trans (FrC.sub F42 (by decide))) (by omega) (by omega) (hC.trans (CHX.sub f37 (by simp) (by simp) (by simp))) ht49 hb48 f250 rfl)
        · refine tn_aload_n dX0_together_47 rfl 0 rfl ?_
          obtain ⟨hk54, hl55⟩ : AR T pxa 15 9 9 := ar_of (wf_59 hw0 hk45o) hpxa
          have hk54i : IA T pxa := by unfold IA; omega
          obtain ⟨hk58, hl59⟩ : AR T pxb 1 9 9 := ar_of (wf_60 hw0 hk45o) hpxb
          have hk58i : IA T pxb := by unfold IA; omega
          obtain ⟨hl63, hk62a, hk62b⟩ := ex_at (wf_61 hw0 hk45o) hpxc
          have hk62 : (T pxc).1 = 14 := hk62a (by omega)
          clear hk62a hk62b
          have hk62i : IA T pxc := by unfold IA; omega
          obtain ⟨hk66, hl67⟩ : AR T pxd 1 108 108 := ar_of (wf_62 hw0 hk45o) hpxd
          have hk66i : IA T pxd := by unfold IA; omega
          obtain ⟨hk70, hl71⟩ : AR T pxe 1 1728 1728 := ar_of (wf_63 hw0 hk45o) hpxe
          have hk70i : IA T pxe := by unfold IA; omega
          obtain ⟨hk74, hl75⟩ : AR T pxf 1 200 200 := ar_of (wf_64 hw0 hk45o) hpxf
          have hk74i : IA T pxf := by unfold IA; omega
          refine tn_callV (M := m_X0_together) (pc := 48) (ix := 40) (ci := 0) (M' := m_X0_plainLine) (As := []) (rest := []) dX0_together_48 ok_X0_plainLine im_X0_plainLine se_X0_plainLine ml0_40 np_X0_plainLine rfl rfl h_a rfl (Nat.le_of_ble_eq_true rfl) (Nat.le_of_ble_eq_true rfl) rfl (k_X0_plainLine_h (d) (T := T) (σ := σ33) (a := a) (pl := pl) (pxa := pxa) (pxb := pxb) (pxc := pxc) (pxd := pxd) (pxe := pxe) (pxf := pxf) h_a w41 (rc_F F42 (Or.inl (by decide)) (by decide) (rc_F hF (Or.inl (by decide)) (by decide) (hpl))) (rc_F F42 (Or.inl (by decide)) (by decide) (rc_F hF (Or.inl (by decide)) (by decide) (hpxa))) (rc_F F42 (Or.inl (by decide)) (by decide) (rc_F hF (Or.inl (by decide)) (by decide) (hpxb))) (rc_F F42 (Or.inl (by decide)) (by decide) (rc_F hF (Or.inl (by decide)) (by decide) (hpxc))) (rc_F F42 (Or.inl (by decide)) (by decide) (rc_F hF (Or.inl (by decide)) (by decide) (hpxd))) (rc_F F42 (Or.inl (by decide)) (by decide) (rc_F hF (Or.inl (by decide)) (by decide) (hpxe))) (rc_F F42 (Or.inl (by decide)) (by decide) (rc_F hF (Or.inl (by decide)) (by decide) (hpxf))) hb48) (fun r76 T78 σ77 gt79 hp => ?_)
          obtain ⟨v84, rfl, rfl, w85, F86, f80, f81, f82, f83⟩ := hp
          clear gt79
          have ht88 : TB σ77 a (i4 + 1) := TB.plain ht49 (rc_F F42 (Or.inl (by decide)) (by decide) (rc_F hF (Or.inl (by decide)) (by decide) (hto))) (rc_F F42 (Or.inl (by decide)) (by decide) (rc_F hF (Or.inl (by decide)) (by decide) (hpl))) ne47 f83 F86 (by decide)
          have f287 : F57 a σ0 σ77 := F57.fa f250 (Or.inr hpl) (FA.to (rc_F F42 (Or.inl (by decide)) (by decide) (rc_F hF (Or.inl (by decide)) (by decide) (hpl))) f83)
          show Tn _ _ 51 T σ77 [(0, .ref a), (1, .ref rx1), (2, .int (iI c2)), (3, .int (iI i3)), (4, .int (iI i4))] [.int (iI v84)] _
          refine tn_if_eq (tgt := 69) dX0_together_51 (by decide) ⟨by omega, by omega⟩ (fun h89 => ?_) (fun h89 => ?_)
          · exact tn_sub [0, 1, 2, 3, 4] rfl (hx_69 (i3) (i4) σ77 w85 (((FrC.rfl.trans (FrC.sub hF (by decide))).trans (FrC.sub F42 (by decide))).trans (FrC.sub F86 (by decide))) (by omega) (by omega) ((hC.trans (CHX.sub f37 (by simp) (by simp) (by simp))).trans (CHX.sub f81 (by simp) (by simp) (by simp))) ht88 f82 f287)
          · refine tn_aload_n dX0_together_54 rfl 0 rfl ?_
            refine tn_callV (M := m_X0_together) (pc := 55) (ix := 43) (ci := 0) (M' := m_X0_samePrints) (As := []) (rest := []) dX0_together_55 ok_X0_samePrints im_X0_samePrints se_X0_samePrints ml0_43 np_X0_samePrints rfl rfl h_a rfl (Nat.le_of_ble_eq_true rfl) (Nat.le_of_ble_eq_true rfl) rfl (k_X0_samePrints (d + 5) (T := T) (σ := σ77) (a := a) h_a w85 ) (fun r90 T92 σ91 gt93 hp => ?_)
            obtain ⟨v95, rfl, rfl, rfl, f94⟩ := hp
            clear gt93
            show Tn _ _ 58 T σ77 [(0, .ref a), (1, .ref rx1), (2, .int (iI c2)), (3, .int (iI i3)), (4, .int (iI i4))] [.int (iI v95)] _
            refine tn_if_eq (tgt := 69) dX0_together_58 (by decide) ⟨by omega, by omega⟩ (fun h96 => ?_) (fun h96 => ?_)
            · exact tn_sub [0, 1, 2, 3, 4] rfl (hx_69 (i3) (i4) σ77 w85 (((FrC.rfl.trans (FrC.sub hF (by decide))).trans (FrC.sub F42 (by decide))).trans (FrC.sub F86 (by decide))) (by omega) (by omega) ((hC.trans (CHX.sub f37 (by simp) (by simp) (by simp))).trans (CHX.sub f81 (by simp) (by simp) (by simp))) ht88 f82 f287)
            · refine tn_aload_n dX0_together_61 rfl 0 rfl ?_
              refine tn_aload_n dX0_together_62 rfl 1 rfl ?_
              refine tn_callV (M := m_X0_together) (pc := 63) (ix := 46) (ci := 0) (M' := m_X0_sameStack) (As := [.ref rx1]) (rest := []) dX0_together_63 ok_X0_sameStack im_X0_sameStack se_X0_sameStack ml0_46 np_X0_sameStack rfl rfl h_a rfl (Nat.le_of_ble_eq_true rfl) (Nat.le_of_ble_eq_true rfl) rfl (k_X0_sameStack_h (d) (T := T) (σ := σ77) (a := a) (p1 := rx1) (to := to) (pl := pl) h_a h_rx1 w85 (rc_F F86 (Or.inl (by decide)) (by decide) (rc_F F42 (Or.inl (by decide)) (by decide) (rc_F hF (Or.inl (by decide)) (by decide) (hto)))) (rc_F F86 (Or.inl (by decide)) (by decide) (rc_F F42 (Or.inl (by decide)) (by decide) (rc_F hF (Or.inl (by decide)) (by decide) (hpl))))) (fun r97 T99 σ98 gt100 hp => ?_)
              obtain ⟨v103, rfl, rfl, w104, F105, f101, f102⟩ := hp
              clear gt100
              have hb106 : PB σ98 a := PB.frc f82 F105 (by decide) (by decide) (by decide) (by decide)
              have ht107 : TB σ98 a (i4 + 1) := TB.frc ht88 F105 (by decide) (by decide)
              have f2108 : F57 a σ0 σ98 := F57.frc f287 F105 (by decide)
              show Tn _ _ 66 T σ98 [(0, .ref a), (1, .ref rx1), (2, .int (iI c2)), (3, .int (iI i3)), (4, .int (iI i4))] [.int (iI v103)] _
              refine tn_if_ne (tgt := 74) dX0_together_66 (by decide) ⟨by omega, by omega⟩ (fun h109 => ?_) (fun h109 => ?_)
              · refine tn_iinc (q0 := 3) (L' := [(3, .int (iI (i3 + 1))), (0, .ref a), (1, .ref rx1), (2, .int (iI c2)), (4, .int (iI i4))]) dX0_together_74 rfl (by decide) rfl ?_
                obtain ⟨z110, g111, g111e⟩ := wr_ex (i3 + 1)
                rw [g111e]
                have g111r : -2147483648 ≤ z110 ∧ z110 ≤ 2147483647 := g111
                refine tn_iinc (q0 := 4) (L' := [(4, .int (iI (i4 + 1))), (3, .int (iI z110)), (0, .ref a), (1, .ref rx1), (2, .int (iI c2))]) dX0_together_77 rfl (by decide) rfl ?_
                refine tn_goto (tgt := 20) dX0_together_80 (by decide) ?_
                exact tn_sub [2, 3, 4, 1, 0] rfl (ih _ (by omega) (z110) (i4 + 1) σ98 w104 ((((FrC.rfl.trans (FrC.sub hF (by decide))).trans (FrC.sub F42 (by decide))).trans (FrC.sub F86 (by decide))).trans (FrC.sub F105 (by decide))) (by omega) (by omega) (((hC.trans (CHX.sub f37 (by simp) (by simp) (by simp))).trans (CHX.sub f81 (by simp) (by simp) (by simp))).trans (CHX.sub f102 (by simp) (by simp) (by simp))) ht107 hb106 f2108 rfl)
              · exact tn_sub [0, 1, 2, 3, 4] rfl (hx_69 (i3) (i4) σ98 w104 ((((FrC.rfl.trans (FrC.sub hF (by decide))).trans (FrC.sub F42 (by decide))).trans (FrC.sub F86 (by decide))).trans (FrC.sub F105 (by decide))) (by omega) (by omega) (((hC.trans (CHX.sub f37 (by simp) (by simp) (by simp))).trans (CHX.sub f81 (by simp) (by simp) (by simp))).trans (CHX.sub f102 (by simp) (by simp) (by simp))) ht107 hb106 f2108)
set_option maxHeartbeats 1000000 in
set_option maxRecDepth 20000 in
theorem k_X0_together_hf (d : Nat) {T : CT} {σ : MS} {a : Nat} {t : Nat} {n : Int} {to : Nat} {pl : Nat} {txa : Nat} {txb : Nat} {txc : Nat} {txd : Nat} {txe : Nat} {txf : Nat} {pxa : Nat} {pxb : Nat} {pxc : Nat} {pxd : Nat} {pxe : Nat} {pxf : Nat} (ha : OB T a 0) (h_t : OB T t 10) (h_n : -2147483648 ≤ n ∧ n ≤ 2147483647) (hw : WT T σ) (hto : σ.2.1 0 a = (to : Int)) (hpl : σ.2.1 1 a = (pl : Int)) (htxa : σ.2.1 59 to = (txa : Int)) (htxb : σ.2.1 60 to = (txb : Int)) (htxc : σ.2.1 61 to = (txc : Int)) (htxd : σ.2.1 62 to = (txd : Int)) (htxe : σ.2.1 63 to = (txe : Int)) (htxf : σ.2.1 64 to = (txf : Int)) (hpxa : σ.2.1 59 pl = (pxa : Int)) (hpxb : σ.2.1 60 pl = (pxb : Int)) (hpxc : σ.2.1 61 pl = (pxc : Int)) (hpxd : σ.2.1 62 pl = (pxd : Int)) (hpxe : σ.2.1 63 pl = (pxe : Int)) (hpxf : σ.2.1 64 pl = (pxf : Int)) (hn : n ≤ 20000) (ht : TB σ a 0) (hb : PB σ a) : Tn (d + 7) m_X0_together 0 T σ [(0, .ref a), (1, .ref t), (2, .int (iI n))] [] (fun ro T2 σ2 => ∃ v : Int, ro = some (.int (iI v)) ∧ T = T2 ∧ WT T2 σ2 ∧ FrC T [2, 3, 4, 56, 57, 58, 65, 66, 67, 68, 69, 70, 71, 515] σ σ2 ∧ (-2147483648 ≤ v ∧ v ≤ 2147483647) ∧ (CHX [(2, a), (3, a), (4, a), (56, to), (57, to), (58, to), (65, to), (66, to), (67, to), (68, to), (69, to), (70, to), (71, to), (56, pl), (57, pl), (58, pl), (65, pl), (66, pl), (67, pl), (68, pl), (69, pl), (70, pl), (71, pl)] [txa, txb, txc, txd, txe, txf, pxa, pxb, pxc, pxd, pxe, pxf] [] σ σ2) ∧ (F57 a σ σ2)) := by
  refine tn_iconst dX0_together_0 ?_
  refine tn_istore_n (L' := [(3, .int (iI 0)), (0, .ref a), (1, .ref t), (2, .int (iI n))]) dX0_together_1 rfl (by decide) rfl ?_
  refine tn_aload_n dX0_together_2 rfl 1 rfl ?_
  refine tn_iconst dX0_together_3 ?_
  refine tn_putV (ci := 0) (i := 2) (n := 2) (r := false) (v := 0) tyX0 tyX0_ok nmX0 dX0_together_4 rfl lay_0 (by decide) fl0_23 rfl (tyX0_ok 2 (by decide)) rfl rfl rfl ha rfl rfl ?_
  refine tn_aload_n dX0_together_7 rfl 1 rfl ?_
  refine tn_iconst dX0_together_8 ?_
  refine tn_putV (ci := 0) (i := 3) (n := 3) (r := false) (v := 0) tyX0 tyX0_ok nmX0 dX0_together_9 rfl lay_0 (by decide) fl0_27 rfl (tyX0_ok 3 (by decide)) rfl rfl rfl ha rfl rfl ?_
  refine tn_aload_n dX0_together_12 rfl 1 rfl ?_
  refine tn_iconst dX0_together_13 ?_
  refine tn_putV (ci := 0) (i := 4) (n := 4) (r := false) (v := 0) tyX0 tyX0_ok nmX0 dX0_together_14 rfl lay_0 (by decide) fl0_30 rfl (tyX0_ok 4 (by decide)) rfl rfl rfl ha rfl rfl ?_
  refine tn_iconst dX0_together_17 ?_
  refine tn_istore (L' := [(4, .int (iI 0)), (3, .int (iI 0)), (0, .ref a), (1, .ref t), (2, .int (iI n))]) dX0_together_18 (by decide) rfl ?_
  refine tn_sub [2, 3, 4, 1, 0] rfl (l_X0_together_hf_20 (d) (T := T) (σ0 := (sA 4 a (0) (sA 3 a (0) (sA 2 a (0) σ)))) (a := a) (rx1 := t) (c2 := n) (to := to) (pl := pl) (txa := txa) (txb := txb) (txc := txc) (txd := txd) (txe := txe) (txf := txf) (pxa := pxa) (pxb := pxb) (pxc := pxc) (pxd := pxd) (pxe := pxe) (pxf := pxf) ha h_t (by omega) (((hw.put (by decide) (by decide) (fo_2 (by omega))).put (by decide) (by decide) (fo_3 (by omega))).put (by decide) (by decide) (fo_4 (by omega))) (rc_o (by decide) (rc_o (by decide) (rc_o (by decide) (hto)))) (rc_o (by decide) (rc_o (by decide) (rc_o (by decide) (hpl)))) (rc_o (by decide) (rc_o (by decide) (rc_o (by decide) (htxa)))) (rc_o (by decide) (rc_o (by decide) (rc_o (by decide) (htxb)))) (rc_o (by decide) (rc_o (by decide) (rc_o (by decide) (htxc)))) (rc_o (by decide) (rc_o (by decide) (rc_o (by decide) (htxd)))) (rc_o (by decide) (rc_o (by decide) (rc_o (by decide) (htxe)))) (rc_o (by decide) (rc_o (by decide) (rc_o (by decide) (htxf)))) (rc_o (by decide) (rc_o (by decide) (rc_o (by decide) (hpxa)))) (rc_o (by decide) (rc_o (by decide) (rc_o (by decide) (hpxb)))) (rc_o (by decide) (rc_o (by decide) (rc_o (by decide) (hpxc)))) (rc_o (by decide) (rc_o (by decide) (rc_o (by decide) (hpxd)))) (rc_o (by decide) (rc_o (by decide) (rc_o (by decide) (hpxe)))) (rc_o (by decide) (rc_o (by decide) (rc_o (by decide) (hpxf)))) (fun i31 i42 σ3 w6 F7 r8 r9 f10 f11 f12 f13 => ?_) (fun i314 i415 σ16 w19 F20 r21 r22 f23 f24 f25 f26 => ?_) _ (0) (0) (sA 4 a (0) (sA 3 a (0) (sA 2 a (0) σ))) (((hw.put (by decide) (by decide) (fo_2 (by omega))).put (by decide) (by decide) (fo_3 (by omega))).put (by decide) (by decide) (fo_4 (by omega))) FrC.rfl (by omega) (by omega) CHX.rfl (TB.frc ht (show FrC T [2, 3, 4] σ (sA 4 a (0) (sA 3 a (0) (sA 2 a (0) σ))) from (((FrC.rfl.put (by decide) (by decide)).put (by decide) (by decide)).put (by decide) (by decide))) (by decide) (by decide) ) (PB.frc hb (show FrC T [2, 3, 4] σ (sA 4 a (0) (sA 3 a (0) (sA 2 a (0) σ))) from (((FrC.rfl.put (by decide) (by decide)).put (by decide) (by decide)).put (by decide) (by decide))) (by decide) (by decide) (by decide) (by decide) ) F57.rfl rfl)
  · have f227 : F57 a σ σ3 := F57.pre (show FrC T [2, 3, 4] σ _ from (((FrC.rfl.put (by decide) (by decide)).put (by decide) (by decide)).put (by decide) (by decide))) (by decide) (by decide) (by decide) f13
    show Tn _ _ 69 T σ3 [(0, .ref a), (1, .ref t), (2, .int (iI n)), (3, .int (iI i31)), (4, .int (iI i42))] [] _
    refine tn_bipush dX0_together_69 (by decide) ?_
    refine tn_iload_n dX0_together_71 rfl 3 rfl ?_
    refine tn_isub dX0_together_72 ?_
    refine tn_any (fun z28 g29 => ?_)
    have g29r : -2147483648 ≤ z28 ∧ z28 ≤ 2147483647 := g29
    exact tn_iret rfl dX0_together_73 ⟨_, rfl, rfl, w6, ((((FrC.rfl.put (by decide) (by decide)).put (by decide) (by decide)).put (by decide) (by decide)).trans (FrC.sub F7 (by decide))), by omega, ((((CHX.rfl.fld (by simp) (by decide)).fld (by simp) (by decide)).fld (by simp) (by decide)).trans (CHX.sub f10 (by simp) (by simp) (by simp))), f227⟩
  · have f230 : F57 a σ σ16 := F57.pre (show FrC T [2, 3, 4] σ _ from (((FrC.rfl.put (by decide) (by decide)).put (by decide) (by decide)).put (by decide) (by decide))) (by decide) (by decide) (by decide) f26
    show Tn _ _ 83 T σ16 [(0, .ref a), (1, .ref t), (2, .int (iI n)), (3, .int (iI i314)), (4, .int (iI i415))] [] _
    refine tn_aload_n dX0_together_83 rfl 0 rfl ?_
    have hk33 : (T to).1 = 37 := ob_of (wf_0 hw ha) hto
    have hk33o : OB T to 7 := ⟨by omega, by rw [hk33]; rfl, by omega⟩
    refine tn_getR (ci := 0) (i := 0) (n := 0) (x := to) dX0_together_84 rfl lay_0 (by decide) fl0_14 ha rfl rfl (rc_F F20 (Or.inl (by decide)) (by decide) (rc_o (by decide) (rc_o (by decide) (rc_o (by decide) (hto))))) ?_
    refine tn_getI (ci := 7) (i := 1) (n := 56) (t := σ16.2.1 56 to) dX0_together_87 rfl lay_7 (by decide) fl0_33 hk33o rfl rfl (rfl) ?_
    have g35 : ((-2147483648 : Int) ≤ σ16.2.1 56 to ∧ σ16.2.1 56 to ≤ 2147483647) := wf_56 w19 hk33o
    refine tn_iconst dX0_together_90 ?_
    refine tn_icmp_ne (tgt := 96) dX0_together_91 (by decide) ⟨by omega, by omega⟩ ⟨by decide, by decide⟩ (fun h36 => ?_) (fun h36 => ?_)
    · refine tn_aload_n dX0_together_96 rfl 0 rfl ?_
      have hk39 : (T pl).1 = 57 := ob_of (wf_1 hw ha) hpl
      have hk39o : OB T pl 7 := ⟨by omega, by rw [hk39]; rfl, by omega⟩
      obtain ⟨hk43, hl44⟩ : AR T pxa 15 9 9 := ar_of (wf_59 hw hk39o) hpxa
      have hk43i : IA T pxa := by unfold IA; omega
      obtain ⟨hk47, hl48⟩ : AR T pxb 1 9 9 := ar_of (wf_60 hw hk39o) hpxb
      have hk47i : IA T pxb := by unfold IA; omega
      obtain ⟨hl52, hk51a, hk51b⟩ := ex_at (wf_61 hw hk39o) hpxc
      have hk51 : (T pxc).1 = 14 := hk51a (by omega)
      clear hk51a hk51b
      have hk51i : IA T pxc := by unfold IA; omega
      obtain ⟨hk55, hl56⟩ : AR T pxd 1 108 108 := ar_of (wf_62 hw hk39o) hpxd
      have hk55i : IA T pxd := by unfold IA; omega
      obtain ⟨hk59, hl60⟩ : AR T pxe 1 1728 1728 := ar_of (wf_63 hw hk39o) hpxe
      have hk59i : IA T pxe := by unfold IA; omega
      obtain ⟨hk63, hl64⟩ : AR T pxf 1 200 200 := ar_of (wf_64 hw hk39o) hpxf
      have hk63i : IA T pxf := by unfold IA; omega
      refine tn_callV (M := m_X0_together) (pc := 97) (ix := 40) (ci := 0) (M' := m_X0_plainLine) (As := []) (rest := []) dX0_together_97 ok_X0_plainLine im_X0_plainLine se_X0_plainLine ml0_40 np_X0_plainLine rfl rfl ha rfl (Nat.le_of_ble_eq_true rfl) (Nat.le_of_ble_eq_true rfl) rfl (k_X0_plainLine_h (d) (T := T) (σ := σ16) (a := a) (pl := pl) (pxa := pxa) (pxb := pxb) (pxc := pxc) (pxd := pxd) (pxe := pxe) (pxf := pxf) ha w19 (rc_F F20 (Or.inl (by decide)) (by decide) (rc_o (by decide) (rc_o (by decide) (rc_o (by decide) (hpl))))) (rc_F F20 (Or.inl (by decide)) (by decide) (rc_o (by decide) (rc_o (by decide) (rc_o (by decide) (hpxa))))) (rc_F F20 (Or.inl (by decide)) (by decide) (rc_o (by decide) (rc_o (by decide) (rc_o (by decide) (hpxb))))) (rc_F F20 (Or.inl (by decide)) (by decide) (rc_o (by decide) (rc_o (by decide) (rc_o (by decide) (hpxc))))) (rc_F F20 (Or.inl (by decide)) (by decide) (rc_o (by decide) (rc_o (by decide) (rc_o (by decide) (hpxd))))) (rc_F F20 (Or.inl (by decide)) (by decide) (rc_o (by decide) (rc_o (by decide) (rc_o (by decide) (hpxe))))) (rc_F F20 (Or.inl (by decide)) (by decide) (rc_o (by decide) (rc_o (by decide) (rc_o (by decide) (hpxf))))) f25) (fun r65 T67 σ66 gt68 hp => ?_)
      obtain ⟨v73, rfl, rfl, w74, F75, f69, f70, f71, f72⟩ := hp
      clear gt68
      have f276 : F57 a σ σ66 := F57.fa f230 (Or.inr hpl) (FA.to (rc_F F20 (Or.inl (by decide)) (by decide) (rc_o (by decide) (rc_o (by decide) (rc_o (by decide) (hpl))))) f72)
      show Tn _ _ 100 T σ66 [(0, .ref a), (1, .ref t), (2, .int (iI n)), (3, .int (iI i314)), (4, .int (iI i415))] [.int (iI v73)] _
      refine tn_if_ne (tgt := 144) dX0_together_100 (by decide) ⟨by omega, by omega⟩ (fun h77 => ?_) (fun h77 => ?_)
      · refine tn_bipush dX0_together_144 (by decide) ?_
        refine tn_iload_n dX0_together_146 rfl 3 rfl ?_
        refine tn_isub dX0_together_147 ?_
        refine tn_any (fun z78 g79 => ?_)
        have g79r : -2147483648 ≤ z78 ∧ z78 ≤ 2147483647 := g79
        exact tn_iret rfl dX0_together_148 ⟨_, rfl, rfl, w74, (((((FrC.rfl.put (by decide) (by decide)).put (by decide) (by decide)).put (by decide) (by decide)).trans (FrC.sub F20 (by decide))).trans (FrC.sub F75 (by decide))), by omega, (((((CHX.rfl.fld (by simp) (by decide)).fld (by simp) (by decide)).fld (by simp) (by decide)).trans (CHX.sub f23 (by simp) (by simp) (by simp))).trans (CHX.sub f70 (by simp) (by simp) (by simp))), f276⟩
      · refine tn_aload_n dX0_together_103 rfl 0 rfl ?_
        refine tn_getR (ci := 0) (i := 1) (n := 1) (x := pl) dX0_together_104 rfl lay_0 (by decide) fl0_20 ha rfl rfl (rc_F F75 (Or.inl (by decide)) (by decide) (rc_F F20 (Or.inl (by decide)) (by decide) (rc_o (by decide) (rc_o (by decide) (rc_o (by decide) (hpl)))))) ?_
        refine tn_getI (ci := 7) (i := 1) (n := 56) (t := σ66.2.1 56 pl) dX0_together_107 rfl lay_7 (by decide) fl0_33 hk39o rfl rfl (rfl) ?_
        have g80 : ((-2147483648 : Int) ≤ σ66.2.1 56 pl ∧ σ66.2.1 56 pl ≤ 2147483647) := wf_56 w74 hk39o
        refine tn_aload_n dX0_together_110 rfl 0 rfl ?_
        refine tn_getR (ci := 0) (i := 0) (n := 0) (x := to) dX0_together_111 rfl lay_0 (by decide) fl0_14 ha rfl rfl (rc_F F75 (Or.inl (by decide)) (by decide) (rc_F F20 (Or.inl (by decide)) (by decide) (rc_o (by decide) (rc_o (by decide) (rc_o (by decide) (hto)))))) ?_
        refine tn_getI (ci := 7) (i := 1) (n := 56) (t := σ66.2.1 56 to) dX0_together_114 rfl lay_7 (by decide) fl0_33 hk33o rfl rfl (rfl) ?_
        have g81 : ((-2147483648 : Int) ≤ σ66.2.1 56 to ∧ σ66.2.1 56 to ≤ 2147483647) := wf_56 w74 hk33o
        refine tn_icmp_ne (tgt := 144) dX0_together_117 (by decide) ⟨by omega, by omega⟩ ⟨by omega, by omega⟩ (fun h82 => ?_) (fun h82 => ?_)
        · refine tn_bipush dX0_together_144 (by decide) ?_
          refine tn_iload_n dX0_together_146 rfl 3 rfl ?_
          refine tn_isub dX0_together_147 ?_
          refine tn_any (fun z83 g84 => ?_)
          have g84r : -2147483648 ≤ z83 ∧ z83 ≤ 2147483647 := g84
          exact tn_iret rfl dX0_together_148 ⟨_, rfl, rfl, w74, (((((FrC.rfl.put (by decide) (by decide)).put (by decide) (by decide)).put (by decide) (by decide)).trans (FrC.sub F20 (by decide))).trans (FrC.sub F75 (by decide))), by omega, (((((CHX.rfl.fld (by simp) (by decide)).fld (by simp) (by decide)).fld (by simp) (by decide)).trans (CHX.sub f23 (by simp) (by simp) (by simp))).trans (CHX.sub f70 (by simp) (by simp) (by simp))), f276⟩
        · refine tn_aload_n dX0_together_120 rfl 0 rfl ?_
          refine tn_callV (M := m_X0_together) (pc := 121) (ix := 43) (ci := 0) (M' := m_X0_samePrints) (As := []) (rest := []) dX0_together_121 ok_X0_samePrints im_X0_samePrints se_X0_samePrints ml0_43 np_X0_samePrints rfl rfl ha rfl (Nat.le_of_ble_eq_true rfl) (Nat.le_of_ble_eq_true rfl) rfl (k_X0_samePrints (d + 5) (T := T) (σ := σ66) (a := a) ha w74 ) (fun r85 T87 σ86 gt88 hp => ?_)
          obtain ⟨v90, rfl, rfl, rfl, f89⟩ := hp
          clear gt88
          show Tn _ _ 124 T σ66 [(0, .ref a), (1, .ref t), (2, .int (iI n)), (3, .int (iI i314)), (4, .int (iI i415))] [.int (iI v90)] _
          refine tn_if_eq (tgt := 144) dX0_together_124 (by decide) ⟨by omega, by omega⟩ (fun h91 => ?_) (fun h91 => ?_)
          · refine tn_bipush dX0_together_144 (by decide) ?_
            refine tn_iload_n dX0_together_146 rfl 3 rfl ?_
            refine tn_isub dX0_together_147 ?_
            refine tn_any (fun z92 g93 => ?_)
            have g93r : -2147483648 ≤ z92 ∧ z92 ≤ 2147483647 := g93
            exact tn_iret rfl dX0_together_148 ⟨_, rfl, rfl, w74, (((((FrC.rfl.put (by decide) (by decide)).put (by decide) (by decide)).put (by decide) (by decide)).trans (FrC.sub F20 (by decide))).trans (FrC.sub F75 (by decide))), by omega, (((((CHX.rfl.fld (by simp) (by decide)).fld (by simp) (by decide)).fld (by simp) (by decide)).trans (CHX.sub f23 (by simp) (by simp) (by simp))).trans (CHX.sub f70 (by simp) (by simp) (by simp))), f276⟩
          · refine tn_aload_n dX0_together_127 rfl 0 rfl ?_
            refine tn_getR (ci := 0) (i := 1) (n := 1) (x := pl) dX0_together_128 rfl lay_0 (by decide) fl0_20 ha rfl rfl (rc_F F75 (Or.inl (by decide)) (by decide) (rc_F F20 (Or.inl (by decide)) (by decide) (rc_o (by decide) (rc_o (by decide) (rc_o (by decide) (hpl)))))) ?_
            refine tn_getI (ci := 7) (i := 13) (n := 68) (t := σ66.2.1 68 pl) dX0_together_131 rfl lay_7 (by decide) fl0_50 hk39o rfl rfl (rfl) ?_
            have g94 : ((-2147483648 : Int) ≤ σ66.2.1 68 pl ∧ σ66.2.1 68 pl ≤ 2147483647) := wf_68 w74 hk39o
            refine tn_aload_n dX0_together_134 rfl 0 rfl ?_
            refine tn_getR (ci := 0) (i := 0) (n := 0) (x := to) dX0_together_135 rfl lay_0 (by decide) fl0_14 ha rfl rfl (rc_F F75 (Or.inl (by decide)) (by decide) (rc_F F20 (Or.inl (by decide)) (by decide) (rc_o (by decide) (rc_o (by decide) (rc_o (by decide) (hto)))))) ?_
            refine tn_getI (ci := 7) (i := 13) (n := 68) (t := σ66.2.1 68 to) dX0_together_138 rfl lay_7 (by decide) fl0_50 hk33o rfl rfl (rfl) ?_
            have g95 : ((-2147483648 : Int) ≤ σ66.2.1 68 to ∧ σ66.2.1 68 to ≤ 2147483647) := wf_68 w74 hk33o
            refine tn_icmp_eq (tgt := 149) dX0_together_141 (by decide) ⟨by omega, by omega⟩ ⟨by omega, by omega⟩ (fun h96 => ?_) (fun h96 => ?_)
            · refine tn_aload_n dX0_together_149 rfl 0 rfl ?_
              refine tn_aload_n dX0_together_150 rfl 0 rfl ?_
              refine tn_getR (ci := 0) (i := 0) (n := 0) (x := to) dX0_together_151 rfl lay_0 (by decide) fl0_14 ha rfl rfl (rc_F F75 (Or.inl (by decide)) (by decide) (rc_F F20 (Or.inl (by decide)) (by decide) (rc_o (by decide) (rc_o (by decide) (rc_o (by decide) (hto)))))) ?_
              refine tn_getI (ci := 7) (i := 1) (n := 56) (t := σ66.2.1 56 to) dX0_together_154 rfl lay_7 (by decide) fl0_33 hk33o rfl rfl (rfl) ?_
              refine tn_iconst dX0_together_157 ?_
              refine tn_icmp_ne (tgt := 165) dX0_together_158 (by decide) ⟨by omega, by omega⟩ ⟨by decide, by decide⟩ (fun h97 => ?_) (fun h97 => ?_)
              · refine tn_iconst dX0_together_165 ?_
                refine tn_putV (ci := 0) (i := 4) (n := 4) (r := false) (v := 2) tyX0 tyX0_ok nmX0 dX0_together_166 rfl lay_0 (by decide) fl0_30 rfl (tyX0_ok 4 (by decide)) rfl rfl rfl ha rfl rfl ?_
                refine tn_iload_n dX0_together_169 rfl 3 rfl ?_
                exact tn_iret rfl dX0_together_170 ⟨_, rfl, rfl, (w74.put (by decide) (by decide) (fo_4 (by omega))), ((((((FrC.rfl.put (by decide) (by decide)).put (by decide) (by decide)).put (by decide) (by decide)).trans (FrC.sub F20 (by decide))).trans (FrC.sub F75 (by decide))).put (by decide) (by decide)), by omega, ((((((CHX.rfl.fld (by simp) (by decide)).fld (by simp) (by decide)).fld (by simp) (by decide)).trans (CHX.sub f23 (by simp) (by simp) (by simp))).trans (CHX.sub f70 (by simp) (by simp) (by simp))).fld (by simp) (by decide)), (f276.put (by decide))⟩
              · refine tn_iconst dX0_together_161 ?_
                refine tn_goto (tgt := 166) dX0_together_162 (by decide) ?_
                refine tn_putV (ci := 0) (i := 4) (n := 4) (r := false) (v := 1) tyX0 tyX0_ok nmX0 dX0_together_166 rfl lay_0 (by decide) fl0_30 rfl (tyX0_ok 4 (by decide)) rfl rfl rfl ha rfl rfl ?_
                refine tn_iload_n dX0_together_169 rfl 3 rfl ?_
                exact tn_iret rfl dX0_together_170 ⟨_, rfl, rfl, (w74.put (by decide) (by decide) (fo_4 (by omega))), ((((((FrC.rfl.put (by decide) (by decide)).put (by decide) (by decide)).put (by decide) (by decide)).trans (FrC.sub F20 (by decide))).trans (FrC.sub F75 (by decide))).put (by decide) (by decide)), by omega, ((((((CHX.rfl.fld (by simp) (by decide)).fld (by simp) (by decide)).fld (by simp) (by decide)).trans (CHX.sub f23 (by simp) (by simp) (by simp))).trans (CHX.sub f70 (by simp) (by simp) (by simp))).fld (by simp) (by decide)), (f276.put (by decide))⟩
            · refine tn_bipush dX0_together_144 (by decide) ?_
              refine tn_iload_n dX0_together_146 rfl 3 rfl ?_
              refine tn_isub dX0_together_147 ?_
              refine tn_any (fun z98 g99 => ?_)
              have g99r : -2147483648 ≤ z98 ∧ z98 ≤ 2147483647 := g99
              exact tn_iret rfl dX0_together_148 ⟨_, rfl, rfl, w74, (((((FrC.rfl.put (by decide) (by decide)).put (by decide) (by decide)).put (by decide) (by decide)).trans (FrC.sub F20 (by decide))).trans (FrC.sub F75 (by decide))), by omega, (((((CHX.rfl.fld (by simp) (by decide)).fld (by simp) (by decide)).fld (by simp) (by decide)).trans (CHX.sub f23 (by simp) (by simp) (by simp))).trans (CHX.sub f70 (by simp) (by simp) (by simp))), f276⟩
    · refine tn_iload_n dX0_together_94 rfl 3 rfl ?_
      exact tn_iret rfl dX0_together_95 ⟨_, rfl, rfl, w19, ((((FrC.rfl.put (by decide) (by decide)).put (by decide) (by decide)).put (by decide) (by decide)).trans (FrC.sub F20 (by decide))), by omega, ((((CHX.rfl.fld (by simp) (by decide)).fld (by simp) (by decide)).fld (by simp) (by decide)).trans (CHX.sub f23 (by simp) (by simp) (by simp))), f230⟩
end
section

def QF (f : Nat) : Prop := (2 ≤ f ∧ f ≤ 4) ∨ (56 ≤ f ∧ f ≤ 58) ∨ (65 ≤ f ∧ f ≤ 71) ∨ (92 ≤ f ∧ f ≤ 94) ∨ f = 96 ∨ f = 900
def QRW (f : Nat) : Prop := (59 ≤ f ∧ f ≤ 64) ∨ (89 ≤ f ∧ f ≤ 91) ∨ f = 95
def QFR (S : Nat → Prop) (T : CT) (σ σ2 : MS) : Prop := (∀ (f : Nat) (b : Int), f < 1000 → ¬ QF f → σ2.2.1 f b = σ.2.1 f b) ∧ (∀ f b, f ∈ AFL → ¬ QRW f → S b → OB T b (cls f) → σ2.2.1 (1000 + adN σ f b) = σ.2.1 (1000 + adN σ f b)) ∧ ∀ x, (T x).1 = 4 ∨ (T x).1 = 5 → σ2.2.1 (1000 + x) = σ.2.1 (1000 + x)
def TBJ (S : Nat → Prop) (T : CT) (σ : MS) : Prop := ∀ i (t : Nat), 0 ≤ i → i < 6 → σ.2.1 900 i = (t : Int) → ∀ f b, f ∈ AFL → S b → OB T b (cls f) → t ≠ adN σ f b
section QFRS
variable {S : Nat → Prop} {T T1 T2 : CT} {σ σ1 σ2 : MS} {a b t : Nat} {ks : List (Nat × Nat)} {rs ls : List Nat} {C E M : Int → Nat} {r : Int} {xs xb xf : Nat}
theorem afl_q {f : Nat} (h : f ∈ AFL) : ¬ QF f ∧ f < 1000 := by
  simp only [List.mem_cons, List.not_mem_nil, or_false] at h
  unfold QF
  omega
theorem QFR.rf : QFR S T σ σ := ⟨fun _ _ _ _ => Eq.refl _, fun _ _ _ _ _ _ => Eq.refl _, fun _ _ => Eq.refl _⟩
theorem QFR.eq (h : σ2.2.1 = σ.2.1) : QFR S T σ σ2 := ⟨fun _ _ _ _ => by rw [h], fun _ _ _ _ _ _ => by rw [h], fun _ _ => by rw [h]⟩
theorem QFR.ad (h : QFR S T σ σ2) {f : Nat} (hf : f < 1000) (hq : ¬ QF f) : adN σ2 f b = adN σ f b := by unfold adN; rw [h.1 f b hf hq]
theorem QFR.trans (h : QFR S T σ σ1) (gt : GT T T1) (g : QFR S T1 σ1 σ2) : QFR S T σ σ2 := ⟨fun f b hf hq => (g.1 f b hf hq).trans (h.1 f b hf hq), fun f b hf hq sb ob => by
  have z := g.2.1 f b hf hq sb (gt.ob ob)
  rw [h.ad (afl_q hf).2 (afl_q hf).1] at z
  exact z.trans (h.2.1 f b hf hq sb ob), fun x hx => (g.2.2 x (by rw [gt x (by omega) (by omega)]; exact hx)).trans (h.2.2 x hx)⟩
theorem QFR.chx (hI : INJ S T σ) (hw : WT T σ) (ch : CHX ks rs ls σ σ2) (hk : ∀ p, p ∈ ks → QF p.1) (hr : ∀ x, x ∈ rs → ∃ f b, f ∈ AFL ∧ QRW f ∧ S b ∧ OB T b (cls f) ∧ x = adN σ f b) : QFR S T σ σ2 := ⟨fun f b hf hq => ch.1 f b hf (fun p hp e => absurd (hk p hp) (by rw [e]; exact hq)), fun f b hf hq sb ob => ch.2.1 _ (fun q => by
  obtain ⟨g, c, hg, qg, sc, oc, e⟩ := hr _ q
  have z := (hI.2 f g b c hf hg sb sc ob oc e).1
  rw [z] at hq
  exact hq qg), fun x hx => ch.2.1 x (fun q => by
  obtain ⟨g, c, hg, qg, sc, oc, e⟩ := hr _ q
  exact r45 hw hx hg oc e)⟩
theorem afk_t (hw : WT T σ) {f : Nat} (hf : f ∈ AFL) (ob : OB T b (cls f)) : (T (adN σ f b)).1 ≠ 0 ∧ (T (adN σ f b)).1 < 80 := by
  have z := (af_k hw hf ob).2
  unfold AFK at z
  omega
theorem QFR.chn (hI : INJ S T σ) (hw : WT T σ) (ch : CHN T ks rs ls σ σ2) (hk : ∀ p, p ∈ ks → QF p.1) (hr : ∀ x, x ∈ rs → (∃ f b, f ∈ AFL ∧ QRW f ∧ S b ∧ OB T b (cls f) ∧ x = adN σ f b) ∨ ((∀ f b, f ∈ AFL → S b → OB T b (cls f) → x ≠ adN σ f b) ∧ ¬ ((T x).1 = 4 ∨ (T x).1 = 5))) : QFR S T σ σ2 := ⟨fun f b hf hq => ch.1 f b hf (fun p hp e => absurd (hk p hp) (by rw [e]; exact hq)), fun f b hf hq sb ob => ch.2.1 _ (fun q => by
  rcases hr _ q with ⟨g, c, hg, qg, sc, oc, e⟩ | z
  · have z := (hI.2 f g b c hf hg sb sc ob oc e).1
    rw [z] at hq
    exact hq qg
  · exact z.1 f b hf sb ob (Eq.refl _)) (afk_t hw hf ob), fun x hx => ch.2.1 x (fun q => by
  rcases hr _ q with ⟨g, c, hg, qg, sc, oc, e⟩ | z
  · exact r45 hw hx hg oc e
  · exact z.2 hx) (by omega)⟩
theorem INJ.q (hI : INJ S T σ) (gt : GT T T2) (h : QFR S T σ σ2) : INJ S T2 σ2 := by
  have e : ∀ b, S b → T2 b = T b := fun b sb => gt b (by have z := hI.1 b sb; omega) (hI.1 b sb).2
  refine ⟨fun b sb => by rw [e b sb]; exact hI.1 b sb, fun f g a b hf hg sa sb oa ob q => ?_⟩
  rw [h.ad (afl_q hf).2 (afl_q hf).1, h.ad (afl_q hg).2 (afl_q hg).1] at q
  exact hI.2 f g a b hf hg sa sb (by unfold OB at *; rw [e a sa] at oa; exact oa) (by unfold OB at *; rw [e b sb] at ob; exact ob) q
theorem CSM.q (h : QFR S T σ σ2) (sb : S b) (ob : OB T b 1) : CSM σ σ2 b := ⟨fun f h0 h1 => h.1 f b (by omega) (by unfold QF; omega), fun f hf => by
  have c1 : f ∈ AFL ∧ ¬ QRW f ∧ cls f = 1 := by
    simp only [List.mem_cons, List.not_mem_nil, or_false] at hf
    rcases hf with rfl | rfl | rfl | rfl | rfl | rfl <;> exact ⟨by decide, by unfold QRW; omega, by decide⟩
  exact h.2.1 f b c1.1 c1.2.1 sb (by rw [c1.2.2]; exact ob)⟩
theorem tb_tag (hw : WT T σ) {i : Int} (i0 : 0 ≤ i) (i1 : i < 6) (h : σ.2.1 900 i = (t : Int)) : (T t).1 = 1 := by
  rcases hw.2.2.2.2.1.2 i i0 i1 with z | ⟨x, hx, hk, hl⟩
  · omega
  · rw [show t = x by omega]; exact hk
theorem TBJ.q (hI : INJ S T σ) (hb : TBJ S T σ) (gt : GT T T2) (hq : QFR S T σ σ2) (h9 : ∀ i, 0 ≤ i → i < 6 → σ2.2.1 900 i = σ.2.1 900 i) : TBJ S T2 σ2 := fun i t i0 i1 q f b hf sb ob => by
  rw [h9 i i0 i1] at q
  rw [hq.ad (afl_q hf).2 (afl_q hf).1]
  have e : T2 b = T b := gt b (by have z := hI.1 b sb; omega) (hI.1 b sb).2
  exact hb i t i0 i1 q f b hf sb (by unfold OB at *; rw [e] at ob; exact ob)
theorem TBJ.rfq (hI : INJ S T σ) (hw : WT T σ) (hb : TBJ S T σ) (gt : GT T T2) (sa : S a) (oa : OB T a 10) (e0 : σ.2.1 90 a = (xb : Int)) (e1 : σ.2.1 91 a = (xs : Int)) (e2 : σ.2.1 89 a = (xf : Int)) (h : RFQ T σ σ2 a r xs xb xf) : QFR S T σ σ2 ∧ TBJ S T2 σ2 := by
  rcases h with h | ⟨r0, t, h1, h2, h3⟩
  · have hq : QFR S T σ σ2 := QFR.eq h.1
    exact ⟨hq, hb.q hI gt hq (fun i _ _ => by rw [h.1])⟩
  · have ht : (∀ f b, f ∈ AFL → S b → OB T b (cls f) → t ≠ adN σ f b) ∧ ¬ ((T t).1 = 4 ∨ (T t).1 = 5) := by
      rcases h1 with q | q
      · exact ⟨hb r t r0.1 r0.2 q, by have z := tb_tag hw r0.1 r0.2 q; omega⟩
      · exact ⟨fun f b hf sb ob e => by have z := (afk_t hw hf ob).1; rw [← e] at z; exact z q, by omega⟩
    have hq : QFR S T σ σ2 := QFR.chn hI hw h3 (fun p hp => by
      simp only [List.mem_cons, List.not_mem_nil, or_false] at hp
      rcases hp with rfl | rfl | rfl | rfl <;> (unfold QF; simp)) (fun x hx => by
      simp only [List.mem_cons, List.not_mem_nil, or_false] at hx
      rcases hx with rfl | rfl | rfl | rfl
      · exact Or.inr ht
      · exact Or.inl ⟨91, a, by decide, by unfold QRW; omega, sa, oa, (adN_of e1).symm⟩
      · exact Or.inl ⟨90, a, by decide, by unfold QRW; omega, sa, oa, (adN_of e0).symm⟩
      · exact Or.inl ⟨89, a, by decide, by unfold QRW; omega, sa, oa, (adN_of e2).symm⟩)
    refine ⟨hq, fun i t2 i0 i1 q f b hf sb ob => ?_⟩
    have za : adN σ2 f b = adN σ f b := hq.ad (afl_q hf).2 (afl_q hf).1
    have e : T2 b = T b := gt b (by have z := hI.1 b sb; omega) (hI.1 b sb).2
    have ob1 : OB T b (cls f) := by unfold OB at *; rw [e] at ob; exact ob
    rw [za]
    by_cases ei : i = r
    · rw [ei, h2] at q
      have e9 : t2 = t := by omega
      rw [e9]
      exact ht.1 f b hf sb ob1
    · have q2 : σ2.2.1 900 i = σ.2.1 900 i := h3.1 900 i (by decide) (fun p hp e => by
        simp only [List.mem_cons, List.not_mem_nil, or_false] at hp
        rcases hp with rfl | rfl | rfl | rfl <;> simp only at e <;> omega)
      rw [q2] at q
      exact hb i t2 i0 i1 q f b hf sb ob1
theorem KEM.q (h : KEM S T σ a C E M) (oa : OB T a 11) (hw : WT T σ) (gt : GT T T2) (g : QFR S T σ σ2) : KEM S T2 σ2 a C E M := by
  obtain ⟨⟨hI, hS, hX⟩, h1, h2, h3⟩ := h
  have ad : ∀ f b, f < 1000 → ¬ QF f → adN σ2 f b = adN σ f b := fun f b hf hq => g.ad hf hq
  have te : ∀ b, S b → T2 b = T b := fun b sb => gt b (by have z := hI.1 b sb; omega) (hI.1 b sb).2
  have n98 : (T (adN σ 98 a)).1 = 4 := ((ad_ex (Q := fun x => AR T x 4 6 6) (wf_98 hw oa)).2).1
  have n99 : (T (adN σ 99 a)).1 = 5 := ((ad_ex (Q := fun x => AR T x 5 6 6) (wf_99 hw oa)).2).1
  have o100 : OB T (adN σ 100 a) 5 := by
    have z := (ad_ex (Q := fun x => (T x).1 = 35) (wf_100 hw oa)).2
    exact ⟨by omega, by rw [z]; rfl, by omega⟩
  have n34 : (T (adN σ 34 (adN σ 100 a))).1 = 4 := ((ad_ex (Q := fun x => AR T x 4 7 7) (wf_34 hw o100)).2).1
  refine ⟨⟨hI.q gt g, ?_, ?_⟩, fun q q0 q1 => ?_, h2, h3⟩
  · unfold KST at hS ⊢
    rw [ad 106 a (by decide) (by unfold QF; omega), ad 107 a (by decide) (by unfold QF; omega), ad 108 a (by decide) (by unfold QF; omega), ad 109 a (by decide) (by unfold QF; omega), ad 102 a (by decide) (by unfold QF; omega), ad 17 _ (by decide) (by unfold QF; omega), ad 23 _ (by decide) (by unfold QF; omega), ad 72 _ (by decide) (by unfold QF; omega)]
    exact hS
  · unfold SPX at hX ⊢
    rw [ad 100 a (by decide) (by unfold QF; omega), ad 34 _ (by decide) (by unfold QF; omega)]
    refine ⟨hX.1, fun q q0 q1 => ?_, hX.2.2⟩
    have z := hX.2.1 q q0 q1
    rw [g.2.2 _ (Or.inl n34), te _ z.2.1]
    exact z
  · have z := h1 q q0 q1
    rw [ad 99 a (by decide) (by unfold QF; omega), ad 98 a (by decide) (by unfold QF; omega), g.2.2 _ (Or.inr n99), g.2.2 _ (Or.inl n98), te _ z.1.2.1, te _ z.2.2.1]
    exact z
end QFRS
end
section

def BSQ (S : Nat → Prop) (T : CT) (σ : MS) (a : Nat) : Prop := INJ S T σ ∧ TBJ S T σ ∧ S (adN σ 102 a) ∧ ∀ p : Nat, σ.2.1 110 a = (p : Int) → S (adN σ 0 p) ∧ S (adN σ 1 p)
section BSQS
variable {S : Nat → Prop} {T T1 T2 : CT} {σ σ1 σ2 : MS} {a b t : Nat} {ks : List (Nat × Nat)} {rs ls : List Nat} {r : Int} {xs xb xf tl : Nat}
theorem BSQ.st (h : BSQ S T σ a) (gt : GT T T2) (g : QFR S T σ σ2) (hb : TBJ S T2 σ2) : BSQ S T2 σ2 a := by
  refine ⟨h.1.q gt g, hb, ?_, fun p hp => ?_⟩
  · rw [g.ad (by decide) (by unfold QF; omega)]; exact h.2.2.1
  · rw [g.1 110 a (by decide) (by unfold QF; omega)] at hp
    rw [g.ad (f := 0) (by decide) (by unfold QF; omega), g.ad (f := 1) (by decide) (by unfold QF; omega)]
    exact h.2.2.2 p hp
theorem BSQ.rf (h : BSQ S T σ a) (hw : WT T σ) (gt : GT T T2) (e : σ.2.1 102 a = (tl : Int)) (ot : OB T tl 10) (e0 : σ.2.1 90 tl = (xb : Int)) (e1 : σ.2.1 91 tl = (xs : Int)) (e2 : σ.2.1 89 tl = (xf : Int)) (q : RFQ T σ σ2 tl r xs xb xf) : QFR S T σ σ2 ∧ BSQ S T2 σ2 a := by
  have st : S tl := by have z := h.2.2.1; rw [adN_of e] at z; exact z
  have w := TBJ.rfq h.1 hw h.2.1 gt st ot e0 e1 e2 q
  exact ⟨w.1, h.st gt w.1 w.2⟩
theorem BSQ.chx (h : BSQ S T σ a) (hw : WT T σ) (ch : CHX ks rs ls σ σ2) (hk : ∀ p, p ∈ ks → QF p.1 ∧ p.1 ≠ 900) (hr : ∀ x, x ∈ rs → ∃ f b, f ∈ AFL ∧ QRW f ∧ S b ∧ OB T b (cls f) ∧ x = adN σ f b) : QFR S T σ σ2 ∧ BSQ S T σ2 a := by
  have w := QFR.chx h.1 hw ch (fun p hp => (hk p hp).1) hr
  exact ⟨w, h.st GT.rfl w (h.2.1.q h.1 GT.rfl w (fun i _ _ => ch.1 900 i (by decide) (fun p hp e => absurd e (hk p hp).2)))⟩
def RN6 (S : Nat → Prop) (T : CT) (σ : MS) (o : Nat) (l : List Nat) : Prop := S o ∧ OB T o 7 ∧ l = [adN σ 59 o, adN σ 60 o, adN σ 61 o, adN σ 62 o, adN σ 63 o, adN σ 64 o]
theorem RN6.own {o x : Nat} {l : List Nat} (h : RN6 S T σ o l) (hx : x ∈ l) : ∃ f b, f ∈ AFL ∧ QRW f ∧ S b ∧ OB T b (cls f) ∧ x = adN σ f b := by
  obtain ⟨so, oo, e⟩ := h
  rw [e] at hx
  simp only [List.mem_cons, List.not_mem_nil, or_false] at hx
  rcases hx with q | q | q | q | q | q
  · exact ⟨59, o, by decide, by unfold QRW; omega, so, oo, q⟩
  · exact ⟨60, o, by decide, by unfold QRW; omega, so, oo, q⟩
  · exact ⟨61, o, by decide, by unfold QRW; omega, so, oo, q⟩
  · exact ⟨62, o, by decide, by unfold QRW; omega, so, oo, q⟩
  · exact ⟨63, o, by decide, by unfold QRW; omega, so, oo, q⟩
  · exact ⟨64, o, by decide, by unfold QRW; omega, so, oo, q⟩
theorem RN6.mk {o xa xb xc xd xe xf : Nat} (so : S o) (oo : OB T o 7) (h1 : σ.2.1 59 o = (xa : Int)) (h2 : σ.2.1 60 o = (xb : Int)) (h3 : σ.2.1 61 o = (xc : Int)) (h4 : σ.2.1 62 o = (xd : Int)) (h5 : σ.2.1 63 o = (xe : Int)) (h6 : σ.2.1 64 o = (xf : Int)) : RN6 S T σ o [xa, xb, xc, xd, xe, xf] := ⟨so, oo, by rw [adN_of h1, adN_of h2, adN_of h3, adN_of h4, adN_of h5, adN_of h6]⟩
theorem BSQ.run {o : Nat} {l : List Nat} (h : BSQ S T σ a) (hw : WT T σ) (n : RN6 S T σ o l) (ch : CHX [(56, o), (57, o), (58, o), (65, o), (66, o), (67, o), (68, o), (69, o), (70, o), (71, o)] l [] σ σ2) : QFR S T σ σ2 ∧ BSQ S T σ2 a := h.chx hw ch (fun p hp => by
  simp only [List.mem_cons, List.not_mem_nil, or_false] at hp
  rcases hp with rfl | rfl | rfl | rfl | rfl | rfl | rfl | rfl | rfl | rfl <;> simp [QF]) (fun x hx => n.own hx)
theorem BSQ.two {o o2 p9 : Nat} {l l2 : List Nat} (h : BSQ S T σ a) (hw : WT T σ) (n : RN6 S T σ o l) (n2 : RN6 S T σ o2 l2) (ch : CHX [(2, p9), (3, p9), (4, p9), (56, o), (57, o), (58, o), (65, o), (66, o), (67, o), (68, o), (69, o), (70, o), (71, o), (56, o2), (57, o2), (58, o2), (65, o2), (66, o2), (67, o2), (68, o2), (69, o2), (70, o2), (71, o2)] (l ++ l2) [] σ σ2) : QFR S T σ σ2 ∧ BSQ S T σ2 a := h.chx hw ch (fun p hp => by
  simp only [List.mem_cons, List.not_mem_nil, or_false] at hp
  rcases hp with rfl | rfl | rfl | rfl | rfl | rfl | rfl | rfl | rfl | rfl | rfl | rfl | rfl | rfl | rfl | rfl | rfl | rfl | rfl | rfl | rfl | rfl | rfl <;> simp [QF]) (fun x hx => (List.mem_append.mp hx).elim n.own n2.own)
end BSQS
def RK7 (σ σ2 : MS) (a : Nat) : Prop := σ2.2.1 103 a = σ.2.1 103 a ∧ σ2.2.1 99 a = σ.2.1 99 a ∧ ∀ rn : Nat, σ.2.1 103 a = (rn : Int) → (∀ f : Nat, 55 ≤ f → f < 70 → σ2.2.1 f rn = σ.2.1 f rn) ∧ ∀ f, f ∈ RN59 → σ2.2.1 (1000 + adN σ f rn) = σ.2.1 (1000 + adN σ f rn)
theorem RK7.rf {σ : MS} {a : Nat} : RK7 σ σ a := ⟨Eq.refl _, Eq.refl _, fun _ _ => ⟨fun _ _ _ => Eq.refl _, fun _ _ => Eq.refl _⟩⟩
theorem RK7.eq {σ σ2 : MS} {a : Nat} (h : σ2.2.1 = σ.2.1) : RK7 σ σ2 a := by unfold RK7; rw [h]; exact ⟨Eq.refl _, Eq.refl _, fun _ _ => ⟨fun _ _ _ => Eq.refl _, fun _ _ => Eq.refl _⟩⟩
theorem rn_lt {f : Nat} (hf : f ∈ RN59) : (59 ≤ f ∧ f ≤ 64) ∧ f ∈ AFL ∧ cls f = 7 := by
  simp only [List.mem_cons, List.not_mem_nil, or_false] at hf
  rcases hf with e | e | e | e | e | e <;> rw [e] <;> exact ⟨by decide, by decide, Eq.refl _⟩
theorem RK7.trans {σ σ1 σ2 : MS} {a : Nat} (h : RK7 σ σ1 a) (g : RK7 σ1 σ2 a) : RK7 σ σ2 a := ⟨g.1.trans h.1, g.2.1.trans h.2.1, fun rn e => by
  have h3 := h.2.2 rn e
  have g3 := g.2.2 rn (h.1.trans e)
  refine ⟨fun f f0 f1 => (g3.1 f f0 f1).trans (h3.1 f f0 f1), fun f hf => ?_⟩
  have f5 := (rn_lt hf).1
  have q := g3.2 f hf
  rw [show adN σ1 f rn = adN σ f rn by unfold adN; rw [h3.1 f (by omega) (by omega)]] at q
  exact q.trans (h3.2 f hf)⟩
theorem RK7.of {σ σ2 : MS} {a rn : Nat} {ks : List (Nat × Nat)} {rs ls : List Nat} (hrn : σ.2.1 103 a = (rn : Int)) (ch : CHX ks rs ls σ σ2) (hk : ∀ p, p ∈ ks → (p.1 ≠ 103 ∧ p.1 ≠ 99) ∧ (p.2 = rn → 70 ≤ p.1)) (hr : ∀ x, x ∈ rs → ∀ f, f ∈ RN59 → x ≠ adN σ f rn) : RK7 σ σ2 a := ⟨ch.1 103 a (by decide) (fun p hp e => absurd e (hk p hp).1.1), ch.1 99 a (by decide) (fun p hp e => absurd e (hk p hp).1.2), fun r e => by
  have er : r = rn := by omega
  subst er
  exact ⟨fun f f0 f1 => ch.1 f r (by omega) (fun p hp e w => by have := (hk p hp).2 (by omega); omega), fun f hf => ch.r (fun q => hr _ q f hf (Eq.refl _))⟩⟩
section RK7S
variable {S : Nat → Prop} {T T2 : CT} {σ σ2 : MS} {a rn o o2 p9 : Nat} {l l2 : List Nat} {r : Int} {xs xb xf tl : Nat}
theorem RN6.ow7 {x : Nat} (h : RN6 S T σ o l) (hx : x ∈ l) : ∃ g, g ∈ AFL ∧ OB T o (cls g) ∧ x = adN σ g o := by
  obtain ⟨so, oo, e⟩ := h
  rw [e] at hx
  simp only [List.mem_cons, List.not_mem_nil, or_false] at hx
  rcases hx with q | q | q | q | q | q
  · exact ⟨59, by decide, oo, q⟩
  · exact ⟨60, by decide, oo, q⟩
  · exact ⟨61, by decide, oo, q⟩
  · exact ⟨62, by decide, oo, q⟩
  · exact ⟨63, by decide, oo, q⟩
  · exact ⟨64, by decide, oo, q⟩
theorem RN6.ne7 {x : Nat} (h : RN6 S T σ o l) (hI : INJ S T σ) (sr : S rn) (or : OB T rn 7) (ne : rn ≠ o) (hx : x ∈ l) (f : Nat) (hf : f ∈ RN59) : x ≠ adN σ f rn := fun e => by
  obtain ⟨g, hg, oo, q⟩ := h.ow7 hx
  obtain ⟨-, fa, fc⟩ := rn_lt hf
  exact hI.ne sr h.1 (by rw [fc]; exact or) oo fa hg (Or.inr ne) (e.symm.trans q)
theorem BSQ.runk (h : BSQ S T σ a) (n : RN6 S T σ o l) (hrn : σ.2.1 103 a = (rn : Int)) (sr : S rn) (or : OB T rn 7) (ne : rn ≠ o) (ch : CHX [(56, o), (57, o), (58, o), (65, o), (66, o), (67, o), (68, o), (69, o), (70, o), (71, o)] l [] σ σ2) : RK7 σ σ2 a := RK7.of hrn ch (fun p hp => by
  simp only [List.mem_cons, List.not_mem_nil, or_false] at hp
  rcases hp with rfl | rfl | rfl | rfl | rfl | rfl | rfl | rfl | rfl | rfl <;> exact ⟨⟨by simp, by simp⟩, fun e => absurd e.symm ne⟩) (fun x hx f hf => n.ne7 h.1 sr or ne hx f hf)
theorem BSQ.twok (h : BSQ S T σ a) (n : RN6 S T σ o l) (n2 : RN6 S T σ o2 l2) (hrn : σ.2.1 103 a = (rn : Int)) (sr : S rn) (or : OB T rn 7) (ne : rn ≠ o) (ne2 : rn ≠ o2) (np : rn ≠ p9) (ch : CHX [(2, p9), (3, p9), (4, p9), (56, o), (57, o), (58, o), (65, o), (66, o), (67, o), (68, o), (69, o), (70, o), (71, o), (56, o2), (57, o2), (58, o2), (65, o2), (66, o2), (67, o2), (68, o2), (69, o2), (70, o2), (71, o2)] (l ++ l2) [] σ σ2) : RK7 σ σ2 a := RK7.of hrn ch (fun p hp => by
  simp only [List.mem_cons, List.not_mem_nil, or_false] at hp
  rcases hp with rfl | rfl | rfl | rfl | rfl | rfl | rfl | rfl | rfl | rfl | rfl | rfl | rfl | rfl | rfl | rfl | rfl | rfl | rfl | rfl | rfl | rfl | rfl <;> exact ⟨⟨by simp, by simp⟩, fun e => by first | exact absurd e.symm ne | exact absurd e.symm ne2 | exact absurd e.symm np⟩) (fun x hx f hf => (List.mem_append.mp hx).elim (fun q => n.ne7 h.1 sr or ne q f hf) (fun q => n2.ne7 h.1 sr or ne2 q f hf))
theorem BSQ.rfk (h : BSQ S T σ a) (hw : WT T σ) (e : σ.2.1 102 a = (tl : Int)) (ot : OB T tl 10) (e0 : σ.2.1 90 tl = (xb : Int)) (e1 : σ.2.1 91 tl = (xs : Int)) (e2 : σ.2.1 89 tl = (xf : Int)) (hrn : σ.2.1 103 a = (rn : Int)) (sr : S rn) (or : OB T rn 7) (q : RFQ T σ σ2 tl r xs xb xf) : RK7 σ σ2 a := by
  rcases q with q | ⟨r0, t, h1, h2, h3⟩
  · exact RK7.eq q.1
  · have st : S tl := by have z := h.2.2.1; rw [adN_of e] at z; exact z
    have ne : rn ≠ tl := fun z => by
      have w := or.2.1
      rw [z, ot.2.1] at w
      exact absurd w (by decide)
    have ht : ∀ f, f ∈ RN59 → t ≠ adN σ f rn := fun f hf => by
      obtain ⟨-, fa, fc⟩ := rn_lt hf
      have ob : OB T rn (cls f) := by rw [fc]; exact or
      rcases h1 with w | w
      · exact h.2.1 r t r0.1 r0.2 w f rn fa sr ob
      · intro z
        have y := (afk_t hw fa ob).1
        rw [← z] at y
        exact y w
    have hr : ∀ x, x ∈ [t, xs, xb, xf] → ∀ f, f ∈ RN59 → x ≠ adN σ f rn := fun x hx f hf => by
      obtain ⟨-, fa, fc⟩ := rn_lt hf
      have ob : OB T rn (cls f) := by rw [fc]; exact or
      simp only [List.mem_cons, List.not_mem_nil, or_false] at hx
      rcases hx with z | z | z | z
      · rw [z]; exact ht f hf
      · rw [z, ← adN_of e1]; exact h.1.ne st sr ot ob (by decide) fa (Or.inr (fun w => ne w.symm))
      · rw [z, ← adN_of e0]; exact h.1.ne st sr ot ob (by decide) fa (Or.inr (fun w => ne w.symm))
      · rw [z, ← adN_of e2]; exact h.1.ne st sr ot ob (by decide) fa (Or.inr (fun w => ne w.symm))
    have hk : ∀ p, p ∈ [(92, tl), (93, tl), (94, tl), (900, r.toNat)] → (p.1 ≠ 103 ∧ p.1 ≠ 99) ∧ 70 ≤ p.1 := fun p hp => by
      simp only [List.mem_cons, List.not_mem_nil, or_false] at hp
      rcases hp with rfl | rfl | rfl | rfl <;> exact ⟨⟨by simp, by simp⟩, by simp⟩
    refine ⟨h3.1 103 a (by decide) (fun p hp z => absurd z (hk p hp).1.1), h3.1 99 a (by decide) (fun p hp z => absurd z (hk p hp).1.2), fun r9 z9 => ?_⟩
    have er : r9 = rn := by omega
    subst er
    refine ⟨fun f f0 f1 => h3.1 f r9 (by omega) (fun p hp z => by have := (hk p hp).2; omega), fun f hf => h3.2.1 _ (fun z => hr _ z f hf (Eq.refl _)) ?_⟩
    obtain ⟨-, fa, fc⟩ := rn_lt hf
    exact afk_t hw fa (by rw [fc]; exact or)
end RK7S
end
section

theorem gd_some {l : List Nat} {p : Nat} (hp : p < l.length) : l[p]? = some (l.getD p 0) := by
  rw [List.getD_eq_getElem?_getD, List.getElem?_eq_getElem hp]
  rfl
theorem DS.inj {l : List Nat} (h : DS l) {p q : Nat} (hp : p < l.length) (hq : q < l.length) (e : l.getD p 0 = l.getD q 0) : p = q := by
  by_cases c : p = q
  · exact c
  · exact absurd e (h p q _ _ (gd_some hp) (gd_some hq) c)
theorem KEM.first {T : CT} {σ : MS} {a : Nat} (hw : WT T σ) (oa : OB T a 11) (hi : INJT (fun _ => True) T σ) (hc : KCL a σ) : ∃ C E M, KEM (fun b => FIN T b ∧ True) T σ a C E M := by
  obtain ⟨r, q, x, y, LE, LM, LC, ⟨e1, e2, e3, e4⟩, ⟨l1, l2, l3⟩, ⟨d1, d2, d3, d4⟩, r1, r2, r3⟩ := hc
  have a100 : adN σ 100 a = r := adN_of e1
  have a34 : adN σ 34 r = q := adN_of e2
  have a98 : adN σ 98 a = x := adN_of e3
  have a99 : adN σ 99 a = y := adN_of e4
  have t100 : (T r).1 = 35 := by have z := (ad_ex (Q := fun x => (T x).1 = 35) (wf_100 hw oa)).2; rw [a100] at z; exact z
  have or : OB T r 5 := ⟨by omega, by rw [t100]; rfl, by omega⟩
  have t34 : AR T q 4 7 7 := by have z := (ad_ex (Q := fun x => AR T x 4 7 7) (wf_34 hw or)).2; rw [a34] at z; exact z
  have t98 : AR T x 4 6 6 := by have z := (ad_ex (Q := fun x => AR T x 4 6 6) (wf_98 hw oa)).2; rw [a98] at z; exact z
  have t99 : AR T y 5 6 6 := by have z := (ad_ex (Q := fun x => AR T x 5 6 6) (wf_99 hw oa)).2; rw [a99] at z; exact z
  have fin : ∀ b k, (T b).1 = k → 30 ≤ k → k < 80 → FIN T b ∧ True := fun b k h1 h2 h3 => ⟨⟨by omega, by omega⟩, trivial⟩
  have rw4 : ∀ (z : Nat) (N : Nat) (L : List Nat), AR T z 4 N N → (∀ i : Nat, i < N → σ.2.1 (1000 + z) (i : Int) = ((L.getD i 0 : Nat) : Int)) → ∀ i : Int, 0 ≤ i → i < (N : Int) → σ.2.1 (1000 + z) i = ((L.getD i.toNat 0 : Nat) : Int) ∧ (FIN T (L.getD i.toNat 0) ∧ True) ∧ (T (L.getD i.toNat 0)).1 = 31 := fun z N L hz hL i i0 i1 => by
    have w := hL i.toNat (by omega)
    rw [Int.toNat_of_nonneg i0] at w
    obtain ⟨u, u1, u2⟩ := hw.2.2.2.1.1 z hz.1 i i0 (by have := hz.2.1; omega)
    have e : L.getD i.toNat 0 = u := by omega
    rw [e] at w ⊢
    exact ⟨w, fin u 31 u2 (by decide) (by decide), u2⟩
  have rw5 : ∀ i : Int, 0 ≤ i → i < 6 → σ.2.1 (1000 + y) i = ((LC.getD i.toNat 0 : Nat) : Int) ∧ (FIN T (LC.getD i.toNat 0) ∧ True) ∧ (T (LC.getD i.toNat 0)).1 = 50 := fun i i0 i1 => by
    have w := r3 i.toNat (by omega)
    rw [Int.toNat_of_nonneg i0] at w
    obtain ⟨u, u1, u2⟩ := hw.2.2.2.1.2 y t99.1 i i0 (by have := t99.2.1; omega)
    have e : LC.getD i.toNat 0 = u := by omega
    rw [e] at w ⊢
    exact ⟨w, fin u 50 u2 (by decide) (by decide), u2⟩
  have o107 := (ad_ex (Q := fun x => (T x).1 = 32) (wf_107 hw oa)).2
  have o108 := (ad_ex (Q := fun x => (T x).1 = 34) (wf_108 hw oa)).2
  have o109 := (ad_ex (Q := fun x => (T x).1 = 38) (wf_109 hw oa)).2
  refine ⟨fun i => LC.getD i.toNat 0, fun i => LE.getD i.toNat 0, fun i => LM.getD i.toNat 0, ⟨hi, ?_, ?_⟩, fun i i0 i1 => ?_, fun i j i0 i1 j0 j1 => ⟨fun e => ?_, fun e => ?_⟩, fun i j i0 i1 j0 j1 => ?_⟩
  · refine ⟨fin _ 36 (ad_ex (Q := fun x => (T x).1 = 36) (wf_106 hw oa)).2 (by decide) (by decide), fin _ 32 o107 (by decide) (by decide), fin _ 34 o108 (by decide) (by decide), fin _ 38 o109 (by decide) (by decide), fin _ 33 (ad_ex (Q := fun x => (T x).1 = 33) (wf_17 hw ⟨by omega, by rw [o107]; rfl, by omega⟩)).2 (by decide) (by decide), fin _ 33 (ad_ex (Q := fun x => (T x).1 = 33) (wf_23 hw ⟨by omega, by rw [o108]; rfl, by omega⟩)).2 (by decide) (by decide), fin _ 33 (ad_ex (Q := fun x => (T x).1 = 33) (wf_72 hw ⟨by omega, by rw [o109]; rfl, by omega⟩)).2 (by decide) (by decide), fin _ 40 (ad_ex (Q := fun x => (T x).1 = 40) (wf_102 hw oa)).2 (by decide) (by decide)⟩
  · unfold SPX
    rw [a100, a34]
    refine ⟨fin r 35 t100 (by decide) (by decide), fun i i0 i1 => rw4 q 7 LE t34 r1 i i0 i1, fun i j i0 i1 j0 j1 e => ?_⟩
    have w := d1.inj (p := i.toNat) (q := j.toNat) (by omega) (by omega) e
    omega
  · rw [a99, a98]
    exact ⟨rw5 i i0 i1, rw4 x 6 LM t98 r2 i i0 i1⟩
  · have w := d3.inj (p := i.toNat) (q := j.toNat) (by omega) (by omega) e
    omega
  · have w := d2.inj (p := i.toNat) (q := j.toNat) (by omega) (by omega) e
    omega
  · exact d4 _ (List.mem_of_getElem? (gd_some (by omega))) _ (List.mem_of_getElem? (gd_some (by omega)))
end
section
section RTQ
variable {T : CT} {σ : MS} {a c : Nat} {NM : Int → Int}
theorem k_acts_c (d : Nat) (ha : OB T a 1) (hw : WT T σ) (hN : σ.2.1 6 a ≤ 200) (hwok : WOK (cdW σ a) (σ.2.1 6 a)) : Tn (d + 2) m_X1_acts 0 T σ [(0, .ref a)] [] (fun ro T2 σ2 => ∃ v : Int, ro = some (.int (iI v)) ∧ T = T2 ∧ σ = σ2 ∧ (0 ≤ v ∧ v ≤ 200) ∧ (v = cN (fun j => cdW σ a j 0 ≤ 10) 0 (σ.2.1 6 a).toNat)) := k_X1_acts_x d ha hw (ad_1 hw ha 5 (by decide)) rfl rfl hN hwok
theorem k_registers_c (d : Nat) (ha : OB T a 1) (hw : WT T σ) (hN : σ.2.1 6 a ≤ 200) (hwok : WOK (cdW σ a) (σ.2.1 6 a)) (hna : HNO (rwF σ 14 a) (rwF σ 15 a) (σ.2.1 10 a)) : Tn (d + 4) m_X1_registers 0 T σ [(0, .ref a)] [] (fun ro T2 σ2 => ∃ v : Int, ro = some (.int (iI v)) ∧ T = T2 ∧ σ = σ2 ∧ (0 ≤ v ∧ v ≤ 192) ∧ (mxV (rgV (vW (cdW σ a)) (σ.2.1 6 a) (hmC (σ.2.1 10 a) (rwF σ 14 a) (rwF σ 15 a))) v)) := k_X1_registers_x d ha hw (ad_1 hw ha 5 (by decide)) rfl rfl rfl (ad_1 hw ha 14 (by decide)) rfl (ad_1 hw ha 15 (by decide)) rfl hN hwok hna
theorem k_homeOf_c (d : Nat) {f m : Int} (ha : OB T a 1) (h_f : -2147483648 ≤ f ∧ f ≤ 2147483647) (h_m : -2147483648 ≤ m ∧ m ≤ 2147483647) (hw : WT T σ) (hfm : (-10000 ≤ f ∧ f ≤ 10000) ∧ -10000 ≤ m ∧ m ≤ 10000) : Tn (d + 2) m_X1_homeOf 0 T σ [(0, .ref a), (1, .int (iI f)), (2, .int (iI m))] [] (fun ro T2 σ2 => ∃ v : Int, ro = some (.int (iI v)) ∧ T = T2 ∧ σ = σ2 ∧ (-2147483648 ≤ v ∧ v ≤ 2147483647) ∧ (ATQ (rwF σ 15 a) 144 (12 * f + m) v)) := k_X1_homeOf_x d ha h_f h_m hw (ad_1 hw ha 15 (by decide)) rfl hfm
def CGW (σ : MS) (c : Nat) (NM : Int → Int) : Prop := ∃ R, cdG σ c NM R
theorem CGW.n (h : CGW σ c NM) : 0 ≤ σ.2.1 6 c ∧ σ.2.1 6 c ≤ 200 := by
  obtain ⟨R, h⟩ := h
  exact h.1.1
theorem CGW.w (h : CGW σ c NM) : WOK (cdW σ c) (σ.2.1 6 c) := by
  obtain ⟨R, h⟩ := h
  exact h.1.2.2.1.w
theorem CGW.h (h : CGW σ c NM) : HNO (rwF σ 14 c) (rwF σ 15 c) (σ.2.1 10 c) := by
  obtain ⟨R, h⟩ := h
  exact h.1.2.2.2.1
theorem rta_1 {v : Int} (h : v = cN (fun j => cdW σ c j 0 ≤ 10) 0 (σ.2.1 6 c).toNat) : v = cN (fun j => (cdS σ c).V j 0 ≤ 10) 0 (cdS σ c).n.toNat := by
  rw [h]
  show _ = cN (fun j => vW (cdW σ c) j 0 ≤ 10) 0 (σ.2.1 6 c).toNat
  simp only [vW_0]
theorem rta_4 {v : Int} {NM : Int → Int} (g : CGW σ c NM) (h : mxV (rgV (vW (cdW σ c)) (σ.2.1 6 c) (hmC (σ.2.1 10 c) (rwF σ 14 c) (rwF σ 15 c))) v) : mxV (rgV (cdS σ c).V (cdS σ c).n (hmS (cdS σ c) NM)) v := by
  obtain ⟨R, g⟩ := g
  have e : rgV (cdS σ c).V (cdS σ c).n (hmS (cdS σ c) NM) = rgV (vW (cdW σ c)) (σ.2.1 6 c) (hmC (σ.2.1 10 c) (rwF σ 14 c) (rwF σ 15 c)) := funext (fun B => propext (rgV_c (fun q => hm_c (fun f x y => (g.1.2.2.2.2.1 f x y).2))))
  rw [e]
  exact h
theorem rta_7 {v w : Int} {NM : Int → Int} (g : CGW σ c NM) (h7 : 7 ≤ w) (h8 : w - 7 < σ.2.1 7 c) (h : ATQ (rwF σ 15 c) 144 (12 * 0 + (w - 7)) v) : v = (cdS σ c).na 0 (w - 7) := by
  obtain ⟨R, g⟩ := g
  have e1 : rwF σ 14 c 0 = σ.2.1 7 c := g.2.2.2.2.2.2
  have e2 := g.1.2.1
  have e3 := g.2.2.2.2.2.1.2
  show v = if ((0 : Int) ≤ 0 ∧ (0 : Int) < σ.2.1 10 c) ∧ 0 ≤ w - 7 ∧ w - 7 < rwF σ 14 c 0 then rwF σ 15 c (12 * 0 + (w - 7)) else 0
  rw [if_pos ⟨⟨by omega, by omega⟩, by omega, by omega⟩]
  rcases h with ⟨a, b⟩ | ⟨a, b⟩
  · exact b
  · omega
theorem fra_0 {v f : Int} {NM : Int → Int} (g : CGW σ c NM) (hf : 0 ≤ f ∧ f < σ.2.1 10 c) {N : Int} (hN : 12 ≤ N) (h : ATQ (rwF σ 11 c) N f v) : v = (cdS σ c).fo f := by
  obtain ⟨R, g⟩ := g
  have e2 := g.1.2.1
  show v = if 0 ≤ f ∧ f < σ.2.1 10 c then rwF σ 11 c f else 0
  rw [if_pos hf]
  rcases h with ⟨a, b⟩ | ⟨a, b⟩
  · exact b
  · omega
theorem fra_2 {v f : Int} {NM : Int → Int} (g : CGW σ c NM) (hf : 0 ≤ f ∧ f < σ.2.1 10 c) {N : Int} (hN : 12 ≤ N) (h : ATQ (rwF σ 13 c) N f v) : v = (cdS σ c).fl f := by
  obtain ⟨R, g⟩ := g
  have e2 := g.1.2.1
  show v = if 0 ≤ f ∧ f < σ.2.1 10 c then rwF σ 13 c f else 0
  rw [if_pos hf]
  rcases h with ⟨a, b⟩ | ⟨a, b⟩
  · exact b
  · omega
theorem fra_1 {v f : Int} {NM : Int → Int} (g : CGW σ c NM) (hf : 0 ≤ f ∧ f < σ.2.1 10 c) {N : Int} (hN : 12 ≤ N) (h : ATQ (rwF σ 12 c) N f v) : v = (cdS σ c).fi f := by
  obtain ⟨R, g⟩ := g
  have e2 := g.1.2.1
  show v = if 0 ≤ f ∧ f < σ.2.1 10 c then rwF σ 12 c f else 0
  rw [if_pos hf]
  rcases h with ⟨a, b⟩ | ⟨a, b⟩
  · exact b
  · omega
end RTQ

def FRB9 (C : Int) (H : RTS) (r f w v : Int) : Prop := (¬ ((0 ≤ r ∧ r < C) ∧ 0 ≤ f ∧ f < H.F) ∧ v = -1) ∨ (((0 ≤ r ∧ r < C) ∧ 0 ≤ f ∧ f < H.F) ∧ ((w = 0 ∧ v = H.fo f) ∨ (w = 1 ∧ f = 0 ∧ v = -1) ∨ (w = 1 ∧ f ≠ 0 ∧ v = H.fi f) ∨ (w = 2 ∧ v = H.fl f) ∨ ((w < 0 ∨ 2 < w) ∧ v = -1)))
end
section
set_option maxHeartbeats 1000000 in
set_option maxRecDepth 20000 in
theorem k_X11_routine_x (d : Nat) {T : CT} {σ : MS} {a : Nat} {r : Int} {w : Int} {S : Nat → Prop} {C : Int → Nat} {NM PM : Int → Int} (ha : OB T a 11) (h_r : -2147483648 ≤ r ∧ r ≤ 2147483647) (h_w : -2147483648 ≤ w ∧ w ≤ 2147483647) (hw : WT T σ) (hK : KOK S T σ a C NM PM) : Tn (d + 5) m_X11_routine 0 T σ [(0, .ref a), (1, .int (iI r)), (2, .int (iI w))] [] (fun ro T2 σ2 => ∃ v : Int, ro = some (.int (iI v)) ∧ T = T2 ∧ σ = σ2 ∧ (-2147483648 ≤ v ∧ v ≤ 2147483647) ∧ (RTA (σ.2.1 97 a) (cdS σ (C r)) (σ.2.1 8 (C r)) (σ.2.1 7 (C r)) (σ.2.1 9 (C r)) NM r w v)) := by
  refine tn_aload_n dX11_routine_0 rfl 0 rfl ?_
  refine tn_iload_n dX11_routine_1 rfl 1 rfl ?_
  refine tn_callV (M := m_X11_routine) (pc := 2) (ix := 123) (ci := 11) (M' := m_X11_codeOf) (As := [.int (iI r)]) (rest := []) dX11_routine_2 ok_X11_codeOf im_X11_codeOf se_X11_codeOf ml11_123 np_X11_codeOf rfl rfl ha rfl (Nat.le_of_ble_eq_true rfl) (Nat.le_of_ble_eq_true rfl) rfl (k_X11_codeOf_x (d + 3) (T := T) (σ := σ) (a := a) (r := r) ha (by omega) hw ) (fun r1 T3 σ2 gt4 hp => ?_)
  obtain ⟨v6, rfl, rfl, rfl, rv7, f5⟩ := hp
  clear gt4
  rcases rv7 with rv7 | ⟨xq8, rfl, hk9⟩
  · show Tn _ _ 5 T σ [(0, .ref a), (1, .int (iI r)), (2, .int (iI w))] (vl true v6 :: []) _
    rw [vl_null rv7]
    have cd9 := f5
    unfold CDF at cd9
    have hR9 := hK.2.2.1.1
    refine tn_astore_nN (L' := [(3, .null), (0, .ref a), (1, .int (iI r)), (2, .int (iI w))]) dX11_routine_5 rfl (by decide) rfl ?_
    refine tn_aload_nN dX11_routine_6 rfl 0 rfl ?_
    refine tn_ifnullN (tgt := 14) dX11_routine_7 (by decide) ?_
    refine tn_iconst dX11_routine_14 ?_
    exact tn_iret rfl dX11_routine_15 ⟨_, rfl, rfl, rfl, by omega, (by by_cases hh : 0 ≤ r ∧ r < σ.2.1 97 a; have q := (hK.2.2.1.2.1 r hh.1 (by omega)).1; exact Or.inr ⟨hh, by (first | (exfalso; omega) | (refine Or.inr (Or.inr (Or.inr (Or.inr (Or.inr (Or.inr (Or.inr (Or.inr ⟨?_, ?_⟩))))))); omega; omega))⟩; exact Or.inl ⟨hh, by omega⟩)⟩
  · show Tn _ _ 5 T σ [(0, .ref a), (1, .int (iI r)), (2, .int (iI w))] (vl true (xq8 : Int) :: []) _
    rw [vl_ref rfl]
    have hk9o : OB T xq8 1 := ⟨by omega, by rw [hk9]; rfl, by omega⟩
    have cd9 := f5
    unfold CDF at cd9
    have hR9 := hK.2.2.1.1
    refine tn_astore_n (L' := [(3, .ref xq8), (0, .ref a), (1, .int (iI r)), (2, .int (iI w))]) dX11_routine_5 rfl (by decide) rfl ?_
    refine tn_aload_n dX11_routine_6 rfl 0 rfl ?_
    refine tn_ifnull dX11_routine_7 ?_
    refine tn_iload_n dX11_routine_10 rfl 3 rfl ?_
    refine tn_if_ge (tgt := 16) dX11_routine_11 (by decide) ⟨by omega, by omega⟩ (fun h10 => ?_) (fun h10 => ?_)
    · have rr9 : 0 ≤ r ∧ r < σ.2.1 97 a := by omega
      have hcr9 : xq8 = C r := by have z := (hK.2.2.1.2.1 r rr9.1 (by omega)).1; omega
      have g9 : CGW σ xq8 NM := by rw [hcr9]; exact ⟨_, (hK.2.2.2 r rr9.1 rr9.2).1⟩
      refine tn_iload_n dX11_routine_16 rfl 3 rfl ?_
      by_cases h11 : w < 0 ∨ 6 < w
      · refine tn_tableOut (tgt := 95) dX11_routine_17 (x := w) ⟨by omega, by omega⟩ h11 (by decide) ?_
        refine tn_iload_n dX11_routine_95 rfl 3 rfl ?_
        refine tn_bipush dX11_routine_96 (by decide) ?_
        refine tn_isub dX11_routine_98 ?_
        refine tn_aload_n dX11_routine_99 rfl 0 rfl ?_
        refine tn_getI (ci := 1) (i := 2) (n := 7) (t := σ.2.1 7 xq8) dX11_routine_100 rfl lay_1 (by decide) fl11_134 hk9o rfl rfl (rfl) ?_
        have g12 : ((0 : Int) ≤ σ.2.1 7 xq8 ∧ σ.2.1 7 xq8 ≤ 12) := wf_7 hw hk9o
        refine tn_icmp_ge (tgt := 118) dX11_routine_103 (by decide) ⟨by omega, by omega⟩ ⟨by omega, by omega⟩ (fun h13 => ?_) (fun h13 => ?_)
        · refine tn_iconst dX11_routine_118 ?_
          exact tn_iret rfl dX11_routine_119 ⟨_, rfl, rfl, rfl, by omega, (by rw [← hcr9]; refine Or.inr ⟨rr9, ?_⟩; first | (refine Or.inl ⟨?_, ?_⟩; omega; exact rfl) | (refine Or.inr (Or.inl ⟨?_, ?_⟩); omega; exact rta_1 f5) | (refine Or.inr (Or.inr (Or.inl ⟨?_, ?_⟩)); omega; exact rfl) | (refine Or.inr (Or.inr (Or.inr (Or.inl ⟨?_, ?_⟩))); omega; exact rfl) | (refine Or.inr (Or.inr (Or.inr (Or.inr (Or.inl ⟨?_, ?_⟩)))); omega; exact rta_4 g9 f5) | (refine Or.inr (Or.inr (Or.inr (Or.inr (Or.inr (Or.inl ⟨?_, ?_⟩))))); omega; exact rfl) | (refine Or.inr (Or.inr (Or.inr (Or.inr (Or.inr (Or.inr (Or.inl ⟨?_, ?_⟩)))))); omega; exact rfl) | (refine Or.inr (Or.inr (Or.inr (Or.inr (Or.inr (Or.inr (Or.inr (Or.inl ⟨?_, ?_⟩))))))); omega; exact rta_7 g9 (by omega) (by omega) f5) | (refine Or.inr (Or.inr (Or.inr (Or.inr (Or.inr (Or.inr (Or.inr (Or.inr (⟨?_, ?_⟩)))))))); omega; exact rfl))⟩
        · refine tn_aload_n dX11_routine_106 rfl 0 rfl ?_
          refine tn_iconst dX11_routine_107 ?_
          refine tn_iload_n dX11_routine_108 rfl 3 rfl ?_
          refine tn_bipush dX11_routine_109 (by decide) ?_
          refine tn_isub dX11_routine_111 ?_
          refine tn_callV (M := m_X11_routine) (pc := 112) (ix := 149) (ci := 1) (M' := m_X1_homeOf) (As := [.int (iI 0), .int (iI (w - 7))]) (rest := []) dX11_routine_112 ok_X1_homeOf im_X1_homeOf se_X1_homeOf ml11_149 np_X1_homeOf rfl rfl hk9o rfl (Nat.le_of_ble_eq_true rfl) (Nat.le_of_ble_eq_true rfl) rfl (k_homeOf_c (d + 2) (T := T) (σ := σ) (a := xq8) (f := 0) (m := w - 7) hk9o (by decide) (by omega) hw (by omega)) (fun r14 T16 σ15 gt17 hp => ?_)
          obtain ⟨v20, rfl, rfl, rfl, f18, f19⟩ := hp
          clear gt17
          show Tn _ _ 115 T σ [(3, .ref xq8), (0, .ref a), (1, .int (iI r)), (2, .int (iI w))] [.int (iI v20)] _
          refine tn_goto (tgt := 119) dX11_routine_115 (by decide) ?_
          exact tn_iret rfl dX11_routine_119 ⟨_, rfl, rfl, rfl, by omega, (by rw [← hcr9]; refine Or.inr ⟨rr9, ?_⟩; first | (refine Or.inl ⟨?_, ?_⟩; omega; exact rfl) | (refine Or.inr (Or.inl ⟨?_, ?_⟩); omega; exact rta_1 f19) | (refine Or.inr (Or.inr (Or.inl ⟨?_, ?_⟩)); omega; exact rfl) | (refine Or.inr (Or.inr (Or.inr (Or.inl ⟨?_, ?_⟩))); omega; exact rfl) | (refine Or.inr (Or.inr (Or.inr (Or.inr (Or.inl ⟨?_, ?_⟩)))); omega; exact rta_4 g9 f19) | (refine Or.inr (Or.inr (Or.inr (Or.inr (Or.inr (Or.inl ⟨?_, ?_⟩))))); omega; exact rfl) | (refine Or.inr (Or.inr (Or.inr (Or.inr (Or.inr (Or.inr (Or.inl ⟨?_, ?_⟩)))))); omega; exact rfl) | (refine Or.inr (Or.inr (Or.inr (Or.inr (Or.inr (Or.inr (Or.inr (Or.inl ⟨?_, ?_⟩))))))); omega; exact rta_7 g9 (by omega) (by omega) f19) | (refine Or.inr (Or.inr (Or.inr (Or.inr (Or.inr (Or.inr (Or.inr (Or.inr (⟨?_, ?_⟩)))))))); omega; exact rfl))⟩
      · have h21 : w = 0 ∨ w = 1 ∨ w = 2 ∨ w = 3 ∨ w = 4 ∨ w = 5 ∨ w = 6 := by omega
        rcases h21 with h21 | h21 | h21 | h21 | h21 | h21 | h21
        · refine tn_tableIn (tgt := 60) (off := 43) dX11_routine_17 (x := w) ⟨by omega, by omega⟩ (by omega) (by omega) (by rw [h21]; rfl) (by decide) ?_
          refine tn_aload_n dX11_routine_60 rfl 0 rfl ?_
          refine tn_getI (ci := 1) (i := 1) (n := 6) (t := σ.2.1 6 xq8) dX11_routine_61 rfl lay_1 (by decide) fl11_127 hk9o rfl rfl (rfl) ?_
          have g22 : ((0 : Int) ≤ σ.2.1 6 xq8 ∧ σ.2.1 6 xq8 ≤ 5000) ∧ ((T xq8).1 = 50 → σ.2.1 6 xq8 ≤ 200) := wf_6 hw hk9o
          have g22x := g22.2
          replace g22 := g22.1
          have g22x := g22x hk9
          exact tn_iret rfl dX11_routine_64 ⟨_, rfl, rfl, rfl, by omega, (by rw [← hcr9]; refine Or.inr ⟨rr9, ?_⟩; first | (refine Or.inl ⟨?_, ?_⟩; omega; exact rfl) | (refine Or.inr (Or.inl ⟨?_, ?_⟩); omega; exact rta_1 f5) | (refine Or.inr (Or.inr (Or.inl ⟨?_, ?_⟩)); omega; exact rfl) | (refine Or.inr (Or.inr (Or.inr (Or.inl ⟨?_, ?_⟩))); omega; exact rfl) | (refine Or.inr (Or.inr (Or.inr (Or.inr (Or.inl ⟨?_, ?_⟩)))); omega; exact rta_4 g9 f5) | (refine Or.inr (Or.inr (Or.inr (Or.inr (Or.inr (Or.inl ⟨?_, ?_⟩))))); omega; exact rfl) | (refine Or.inr (Or.inr (Or.inr (Or.inr (Or.inr (Or.inr (Or.inl ⟨?_, ?_⟩)))))); omega; exact rfl) | (refine Or.inr (Or.inr (Or.inr (Or.inr (Or.inr (Or.inr (Or.inr (Or.inl ⟨?_, ?_⟩))))))); omega; exact rta_7 g9 (by omega) (by omega) f5) | (refine Or.inr (Or.inr (Or.inr (Or.inr (Or.inr (Or.inr (Or.inr (Or.inr (⟨?_, ?_⟩)))))))); omega; exact rfl))⟩
        · refine tn_tableIn (tgt := 65) (off := 48) dX11_routine_17 (x := w) ⟨by omega, by omega⟩ (by omega) (by omega) (by rw [h21]; rfl) (by decide) ?_
          refine tn_aload_n dX11_routine_65 rfl 0 rfl ?_
          refine tn_callV (M := m_X11_routine) (pc := 66) (ix := 130) (ci := 1) (M' := m_X1_acts) (As := []) (rest := []) dX11_routine_66 ok_X1_acts im_X1_acts se_X1_acts ml11_130 np_X1_acts rfl rfl hk9o rfl (Nat.le_of_ble_eq_true rfl) (Nat.le_of_ble_eq_true rfl) rfl (k_acts_c (d + 2) (T := T) (σ := σ) (a := xq8) hk9o hw g9.n.2 g9.w) (fun r23 T25 σ24 gt26 hp => ?_)
          obtain ⟨v29, rfl, rfl, rfl, f27, f28⟩ := hp
          clear gt26
          show Tn _ _ 69 T σ [(3, .ref xq8), (0, .ref a), (1, .int (iI r)), (2, .int (iI w))] [.int (iI v29)] _
          exact tn_iret rfl dX11_routine_69 ⟨_, rfl, rfl, rfl, by omega, (by rw [← hcr9]; refine Or.inr ⟨rr9, ?_⟩; first | (refine Or.inl ⟨?_, ?_⟩; omega; exact rfl) | (refine Or.inr (Or.inl ⟨?_, ?_⟩); omega; exact rta_1 f28) | (refine Or.inr (Or.inr (Or.inl ⟨?_, ?_⟩)); omega; exact rfl) | (refine Or.inr (Or.inr (Or.inr (Or.inl ⟨?_, ?_⟩))); omega; exact rfl) | (refine Or.inr (Or.inr (Or.inr (Or.inr (Or.inl ⟨?_, ?_⟩)))); omega; exact rta_4 g9 f28) | (refine Or.inr (Or.inr (Or.inr (Or.inr (Or.inr (Or.inl ⟨?_, ?_⟩))))); omega; exact rfl) | (refine Or.inr (Or.inr (Or.inr (Or.inr (Or.inr (Or.inr (Or.inl ⟨?_, ?_⟩)))))); omega; exact rfl) | (refine Or.inr (Or.inr (Or.inr (Or.inr (Or.inr (Or.inr (Or.inr (Or.inl ⟨?_, ?_⟩))))))); omega; exact rta_7 g9 (by omega) (by omega) f28) | (refine Or.inr (Or.inr (Or.inr (Or.inr (Or.inr (Or.inr (Or.inr (Or.inr (⟨?_, ?_⟩)))))))); omega; exact rfl))⟩
        · refine tn_tableIn (tgt := 70) (off := 53) dX11_routine_17 (x := w) ⟨by omega, by omega⟩ (by omega) (by omega) (by rw [h21]; rfl) (by decide) ?_
          refine tn_aload_n dX11_routine_70 rfl 0 rfl ?_
          refine tn_getI (ci := 1) (i := 2) (n := 7) (t := σ.2.1 7 xq8) dX11_routine_71 rfl lay_1 (by decide) fl11_134 hk9o rfl rfl (rfl) ?_
          have g30 : ((0 : Int) ≤ σ.2.1 7 xq8 ∧ σ.2.1 7 xq8 ≤ 12) := wf_7 hw hk9o
          exact tn_iret rfl dX11_routine_74 ⟨_, rfl, rfl, rfl, by omega, (by rw [← hcr9]; refine Or.inr ⟨rr9, ?_⟩; first | (refine Or.inl ⟨?_, ?_⟩; omega; exact rfl) | (refine Or.inr (Or.inl ⟨?_, ?_⟩); omega; exact rta_1 f5) | (refine Or.inr (Or.inr (Or.inl ⟨?_, ?_⟩)); omega; exact rfl) | (refine Or.inr (Or.inr (Or.inr (Or.inl ⟨?_, ?_⟩))); omega; exact rfl) | (refine Or.inr (Or.inr (Or.inr (Or.inr (Or.inl ⟨?_, ?_⟩)))); omega; exact rta_4 g9 f5) | (refine Or.inr (Or.inr (Or.inr (Or.inr (Or.inr (Or.inl ⟨?_, ?_⟩))))); omega; exact rfl) | (refine Or.inr (Or.inr (Or.inr (Or.inr (Or.inr (Or.inr (Or.inl ⟨?_, ?_⟩)))))); omega; exact rfl) | (refine Or.inr (Or.inr (Or.inr (Or.inr (Or.inr (Or.inr (Or.inr (Or.inl ⟨?_, ?_⟩))))))); omega; exact rta_7 g9 (by omega) (by omega) f5) | (refine Or.inr (Or.inr (Or.inr (Or.inr (Or.inr (Or.inr (Or.inr (Or.inr (⟨?_, ?_⟩)))))))); omega; exact rfl))⟩
        · refine tn_tableIn (tgt := 75) (off := 58) dX11_routine_17 (x := w) ⟨by omega, by omega⟩ (by omega) (by omega) (by rw [h21]; rfl) (by decide) ?_
          refine tn_aload_n dX11_routine_75 rfl 0 rfl ?_
          refine tn_getI (ci := 1) (i := 3) (n := 8) (t := σ.2.1 8 xq8) dX11_routine_76 rfl lay_1 (by decide) fl11_137 hk9o rfl rfl (rfl) ?_
          have g31 : ((0 : Int) ≤ σ.2.1 8 xq8 ∧ σ.2.1 8 xq8 ≤ 4) := wf_8 hw hk9o
          exact tn_iret rfl dX11_routine_79 ⟨_, rfl, rfl, rfl, by omega, (by rw [← hcr9]; refine Or.inr ⟨rr9, ?_⟩; first | (refine Or.inl ⟨?_, ?_⟩; omega; exact rfl) | (refine Or.inr (Or.inl ⟨?_, ?_⟩); omega; exact rta_1 f5) | (refine Or.inr (Or.inr (Or.inl ⟨?_, ?_⟩)); omega; exact rfl) | (refine Or.inr (Or.inr (Or.inr (Or.inl ⟨?_, ?_⟩))); omega; exact rfl) | (refine Or.inr (Or.inr (Or.inr (Or.inr (Or.inl ⟨?_, ?_⟩)))); omega; exact rta_4 g9 f5) | (refine Or.inr (Or.inr (Or.inr (Or.inr (Or.inr (Or.inl ⟨?_, ?_⟩))))); omega; exact rfl) | (refine Or.inr (Or.inr (Or.inr (Or.inr (Or.inr (Or.inr (Or.inl ⟨?_, ?_⟩)))))); omega; exact rfl) | (refine Or.inr (Or.inr (Or.inr (Or.inr (Or.inr (Or.inr (Or.inr (Or.inl ⟨?_, ?_⟩))))))); omega; exact rta_7 g9 (by omega) (by omega) f5) | (refine Or.inr (Or.inr (Or.inr (Or.inr (Or.inr (Or.inr (Or.inr (Or.inr (⟨?_, ?_⟩)))))))); omega; exact rfl))⟩
        · refine tn_tableIn (tgt := 80) (off := 63) dX11_routine_17 (x := w) ⟨by omega, by omega⟩ (by omega) (by omega) (by rw [h21]; rfl) (by decide) ?_
          refine tn_aload_n dX11_routine_80 rfl 0 rfl ?_
          refine tn_callV (M := m_X11_routine) (pc := 81) (ix := 140) (ci := 1) (M' := m_X1_registers) (As := []) (rest := []) dX11_routine_81 ok_X1_registers im_X1_registers se_X1_registers ml11_140 np_X1_registers rfl rfl hk9o rfl (Nat.le_of_ble_eq_true rfl) (Nat.le_of_ble_eq_true rfl) rfl (k_registers_c (d) (T := T) (σ := σ) (a := xq8) hk9o hw g9.n.2 g9.w g9.h) (fun r32 T34 σ33 gt35 hp => ?_)
          obtain ⟨v38, rfl, rfl, rfl, f36, f37⟩ := hp
          clear gt35
          show Tn _ _ 84 T σ [(3, .ref xq8), (0, .ref a), (1, .int (iI r)), (2, .int (iI w))] [.int (iI v38)] _
          exact tn_iret rfl dX11_routine_84 ⟨_, rfl, rfl, rfl, by omega, (by rw [← hcr9]; refine Or.inr ⟨rr9, ?_⟩; first | (refine Or.inl ⟨?_, ?_⟩; omega; exact rfl) | (refine Or.inr (Or.inl ⟨?_, ?_⟩); omega; exact rta_1 f37) | (refine Or.inr (Or.inr (Or.inl ⟨?_, ?_⟩)); omega; exact rfl) | (refine Or.inr (Or.inr (Or.inr (Or.inl ⟨?_, ?_⟩))); omega; exact rfl) | (refine Or.inr (Or.inr (Or.inr (Or.inr (Or.inl ⟨?_, ?_⟩)))); omega; exact rta_4 g9 f37) | (refine Or.inr (Or.inr (Or.inr (Or.inr (Or.inr (Or.inl ⟨?_, ?_⟩))))); omega; exact rfl) | (refine Or.inr (Or.inr (Or.inr (Or.inr (Or.inr (Or.inr (Or.inl ⟨?_, ?_⟩)))))); omega; exact rfl) | (refine Or.inr (Or.inr (Or.inr (Or.inr (Or.inr (Or.inr (Or.inr (Or.inl ⟨?_, ?_⟩))))))); omega; exact rta_7 g9 (by omega) (by omega) f37) | (refine Or.inr (Or.inr (Or.inr (Or.inr (Or.inr (Or.inr (Or.inr (Or.inr (⟨?_, ?_⟩)))))))); omega; exact rfl))⟩
        · refine tn_tableIn (tgt := 85) (off := 68) dX11_routine_17 (x := w) ⟨by omega, by omega⟩ (by omega) (by omega) (by rw [h21]; rfl) (by decide) ?_
          refine tn_aload_n dX11_routine_85 rfl 0 rfl ?_
          refine tn_getI (ci := 1) (i := 5) (n := 10) (t := σ.2.1 10 xq8) dX11_routine_86 rfl lay_1 (by decide) fl11_143 hk9o rfl rfl (rfl) ?_
          have g39 : ((0 : Int) ≤ σ.2.1 10 xq8 ∧ σ.2.1 10 xq8 ≤ 12) := wf_10 hw hk9o
          exact tn_iret rfl dX11_routine_89 ⟨_, rfl, rfl, rfl, by omega, (by rw [← hcr9]; refine Or.inr ⟨rr9, ?_⟩; first | (refine Or.inl ⟨?_, ?_⟩; omega; exact rfl) | (refine Or.inr (Or.inl ⟨?_, ?_⟩); omega; exact rta_1 f5) | (refine Or.inr (Or.inr (Or.inl ⟨?_, ?_⟩)); omega; exact rfl) | (refine Or.inr (Or.inr (Or.inr (Or.inl ⟨?_, ?_⟩))); omega; exact rfl) | (refine Or.inr (Or.inr (Or.inr (Or.inr (Or.inl ⟨?_, ?_⟩)))); omega; exact rta_4 g9 f5) | (refine Or.inr (Or.inr (Or.inr (Or.inr (Or.inr (Or.inl ⟨?_, ?_⟩))))); omega; exact rfl) | (refine Or.inr (Or.inr (Or.inr (Or.inr (Or.inr (Or.inr (Or.inl ⟨?_, ?_⟩)))))); omega; exact rfl) | (refine Or.inr (Or.inr (Or.inr (Or.inr (Or.inr (Or.inr (Or.inr (Or.inl ⟨?_, ?_⟩))))))); omega; exact rta_7 g9 (by omega) (by omega) f5) | (refine Or.inr (Or.inr (Or.inr (Or.inr (Or.inr (Or.inr (Or.inr (Or.inr (⟨?_, ?_⟩)))))))); omega; exact rfl))⟩
        · refine tn_tableIn (tgt := 90) (off := 73) dX11_routine_17 (x := w) ⟨by omega, by omega⟩ (by omega) (by omega) (by rw [h21]; rfl) (by decide) ?_
          refine tn_aload_n dX11_routine_90 rfl 0 rfl ?_
          refine tn_getI (ci := 1) (i := 4) (n := 9) (t := σ.2.1 9 xq8) dX11_routine_91 rfl lay_1 (by decide) fl11_146 hk9o rfl rfl (rfl) ?_
          have g40 : ((-2147483648 : Int) ≤ σ.2.1 9 xq8 ∧ σ.2.1 9 xq8 ≤ 2147483647) := wf_9 hw hk9o
          exact tn_iret rfl dX11_routine_94 ⟨_, rfl, rfl, rfl, by omega, (by rw [← hcr9]; refine Or.inr ⟨rr9, ?_⟩; first | (refine Or.inl ⟨?_, ?_⟩; omega; exact rfl) | (refine Or.inr (Or.inl ⟨?_, ?_⟩); omega; exact rta_1 f5) | (refine Or.inr (Or.inr (Or.inl ⟨?_, ?_⟩)); omega; exact rfl) | (refine Or.inr (Or.inr (Or.inr (Or.inl ⟨?_, ?_⟩))); omega; exact rfl) | (refine Or.inr (Or.inr (Or.inr (Or.inr (Or.inl ⟨?_, ?_⟩)))); omega; exact rta_4 g9 f5) | (refine Or.inr (Or.inr (Or.inr (Or.inr (Or.inr (Or.inl ⟨?_, ?_⟩))))); omega; exact rfl) | (refine Or.inr (Or.inr (Or.inr (Or.inr (Or.inr (Or.inr (Or.inl ⟨?_, ?_⟩)))))); omega; exact rfl) | (refine Or.inr (Or.inr (Or.inr (Or.inr (Or.inr (Or.inr (Or.inr (Or.inl ⟨?_, ?_⟩))))))); omega; exact rta_7 g9 (by omega) (by omega) f5) | (refine Or.inr (Or.inr (Or.inr (Or.inr (Or.inr (Or.inr (Or.inr (Or.inr (⟨?_, ?_⟩)))))))); omega; exact rfl))⟩
    · refine tn_iconst dX11_routine_14 ?_
      exact tn_iret rfl dX11_routine_15 ⟨_, rfl, rfl, rfl, by omega, (by by_cases hh : 0 ≤ r ∧ r < σ.2.1 97 a; have q := (hK.2.2.1.2.1 r hh.1 (by omega)).1; exact Or.inr ⟨hh, by (first | (exfalso; omega) | (refine Or.inr (Or.inr (Or.inr (Or.inr (Or.inr (Or.inr (Or.inr (Or.inr ⟨?_, ?_⟩))))))); omega; omega))⟩; exact Or.inl ⟨hh, by omega⟩)⟩
end
section
set_option maxHeartbeats 1000000 in
set_option maxRecDepth 20000 in
theorem k_X11_frame_x (d : Nat) {T : CT} {σ : MS} {a : Nat} {r : Int} {f : Int} {w : Int} {S : Nat → Prop} {C : Int → Nat} {NM PM : Int → Int} (ha : OB T a 11) (h_r : -2147483648 ≤ r ∧ r ≤ 2147483647) (h_f : -2147483648 ≤ f ∧ f ≤ 2147483647) (h_w : -2147483648 ≤ w ∧ w ≤ 2147483647) (hw : WT T σ) (hK : KOK S T σ a C NM PM) : Tn (d + 2) m_X11_frame 0 T σ [(0, .ref a), (1, .int (iI r)), (2, .int (iI f)), (3, .int (iI w))] [] (fun ro T2 σ2 => ∃ v : Int, ro = some (.int (iI v)) ∧ T = T2 ∧ σ = σ2 ∧ (-2147483648 ≤ v ∧ v ≤ 2147483647) ∧ (FRB9 (σ.2.1 97 a) (cdS σ (C r)) r f w v)) := by
  refine tn_aload_n dX11_frame_0 rfl 0 rfl ?_
  refine tn_iload_n dX11_frame_1 rfl 1 rfl ?_
  refine tn_callV (M := m_X11_frame) (pc := 2) (ix := 123) (ci := 11) (M' := m_X11_codeOf) (As := [.int (iI r)]) (rest := []) dX11_frame_2 ok_X11_codeOf im_X11_codeOf se_X11_codeOf ml11_123 np_X11_codeOf rfl rfl ha rfl (Nat.le_of_ble_eq_true rfl) (Nat.le_of_ble_eq_true rfl) rfl (k_X11_codeOf_x (d) (T := T) (σ := σ) (a := a) (r := r) ha (by omega) hw ) (fun r1 T3 σ2 gt4 hp => ?_)
  obtain ⟨v6, rfl, rfl, rfl, rv7, f5⟩ := hp
  clear gt4
  rcases rv7 with rv7 | ⟨xq8, rfl, hk9⟩
  · show Tn _ _ 5 T σ [(0, .ref a), (1, .int (iI r)), (2, .int (iI f)), (3, .int (iI w))] (vl true v6 :: []) _
    rw [vl_null rv7]
    have cd9 := f5
    unfold CDF at cd9
    have hR9 := hK.2.2.1.1
    refine tn_astoreN (L' := [(4, .null), (0, .ref a), (1, .int (iI r)), (2, .int (iI f)), (3, .int (iI w))]) dX11_frame_5 (by decide) rfl ?_
    refine tn_aloadN dX11_frame_7 0 rfl ?_
    refine tn_ifnullN (tgt := 25) dX11_frame_9 (by decide) ?_
    refine tn_iconst dX11_frame_25 ?_
    exact tn_iret rfl dX11_frame_26 ⟨_, rfl, rfl, rfl, by omega, (by exact Or.inl ⟨fun hh => by have q := (hK.2.2.1.2.1 r hh.1.1 (by omega)).1; omega, rfl⟩)⟩
  · show Tn _ _ 5 T σ [(0, .ref a), (1, .int (iI r)), (2, .int (iI f)), (3, .int (iI w))] (vl true (xq8 : Int) :: []) _
    rw [vl_ref rfl]
    have hk9o : OB T xq8 1 := ⟨by omega, by rw [hk9]; rfl, by omega⟩
    have cd9 := f5
    unfold CDF at cd9
    have hR9 := hK.2.2.1.1
    refine tn_astore (L' := [(4, .ref xq8), (0, .ref a), (1, .int (iI r)), (2, .int (iI f)), (3, .int (iI w))]) dX11_frame_5 (by decide) rfl ?_
    refine tn_aload dX11_frame_7 0 rfl ?_
    refine tn_ifnull dX11_frame_9 ?_
    have rr9 : 0 ≤ r ∧ r < σ.2.1 97 a := by omega
    have hcr9 : xq8 = C r := by have z := (hK.2.2.1.2.1 r rr9.1 (by omega)).1; omega
    have g9 : CGW σ xq8 NM := by rw [hcr9]; exact ⟨_, (hK.2.2.2 r rr9.1 rr9.2).1⟩
    refine tn_iload_n dX11_frame_12 rfl 3 rfl ?_
    refine tn_if_lt (tgt := 25) dX11_frame_13 (by decide) ⟨by omega, by omega⟩ (fun h10 => ?_) (fun h10 => ?_)
    · refine tn_iconst dX11_frame_25 ?_
      exact tn_iret rfl dX11_frame_26 ⟨_, rfl, rfl, rfl, by omega, (by rw [← hcr9]; exact Or.inl ⟨fun z => by have z2 : f < σ.2.1 10 xq8 := z.2.2; omega, rfl⟩)⟩
    · refine tn_iload_n dX11_frame_16 rfl 3 rfl ?_
      refine tn_aload dX11_frame_17 0 rfl ?_
      refine tn_getI (ci := 1) (i := 5) (n := 10) (t := σ.2.1 10 xq8) dX11_frame_19 rfl lay_1 (by decide) fl11_143 hk9o rfl rfl (rfl) ?_
      have g11 : ((0 : Int) ≤ σ.2.1 10 xq8 ∧ σ.2.1 10 xq8 ≤ 12) := wf_10 hw hk9o
      refine tn_icmp_lt (tgt := 27) dX11_frame_22 (by decide) ⟨by omega, by omega⟩ ⟨by omega, by omega⟩ (fun h12 => ?_) (fun h12 => ?_)
      · have ff9 : 0 ≤ f ∧ f < σ.2.1 10 xq8 := ⟨by omega, by omega⟩
        refine tn_iload_n dX11_frame_27 rfl 4 rfl ?_
        by_cases h13 : w < 0 ∨ 2 < w
        · refine tn_tableOut (tgt := 94) dX11_frame_28 (x := w) ⟨by omega, by omega⟩ h13 (by decide) ?_
          refine tn_iconst dX11_frame_94 ?_
          exact tn_iret rfl dX11_frame_95 ⟨_, rfl, rfl, rfl, by omega, (by rw [← hcr9]; refine Or.inr ⟨⟨rr9, ff9⟩, ?_⟩; first | (refine Or.inl ⟨?_, ?_⟩; omega; exact fra_0 g9 ff9 (by omega) f5) | (refine Or.inr (Or.inl ⟨?_, ?_, ?_⟩); omega; omega; exact rfl) | (refine Or.inr (Or.inr (Or.inl ⟨?_, ?_, ?_⟩)); omega; omega; exact fra_1 g9 ff9 (by omega) f5) | (refine Or.inr (Or.inr (Or.inr (Or.inl ⟨?_, ?_⟩))); omega; exact fra_2 g9 ff9 (by omega) f5) | (refine Or.inr (Or.inr (Or.inr (Or.inr (⟨?_, ?_⟩)))); omega; exact rfl))⟩
        · have h14 : w = 0 ∨ w = 1 ∨ w = 2 := by omega
          rcases h14 with h14 | h14 | h14
          · refine tn_tableIn (tgt := 56) (off := 28) dX11_frame_28 (x := w) ⟨by omega, by omega⟩ (by omega) (by omega) (by rw [h14]; rfl) (by decide) ?_
            refine tn_aload dX11_frame_56 0 rfl ?_
            obtain ⟨xq15, hx16, hk17, hl18⟩ : ∃ x : Nat, σ.2.1 11 xq8 = (x : Int) ∧ AR T x 1 12 12 := wf_11 hw hk9o
            have hk17i : IA T xq15 := by unfold IA; omega
            refine tn_getR (ci := 1) (i := 6) (n := 11) (x := xq15) dX11_frame_58 rfl lay_1 (by decide) fl11_159 hk9o rfl rfl (hx16) ?_
            refine tn_iload_n dX11_frame_61 rfl 3 rfl ?_
            refine tn_callS (M := m_X11_frame) (pc := 62) (ix := 162) (M' := m_X11_at) (As := [.ref xq15, .int (iI f)]) (rest := []) dX11_frame_62 ok_X11_at stt_X11_at ml11_162 np_X11_at rfl (Nat.le_of_ble_eq_true rfl) (Nat.le_of_ble_eq_true rfl) rfl (k_X11_at_x (d) (T := T) (σ := σ) (x := xq15) (i := f) (R := σ.2.1 (1000 + xq15)) hk17i (by omega) (by omega) hw rfl) (fun r19 T21 σ20 gt22 hp => ?_)
            obtain ⟨v26, rfl, rfl, rfl, f23, f24, f25⟩ := hp
            clear gt22
            clear f24
            have f25u := f25
            unfold ATQ at f25u
            show Tn _ _ 65 T σ [(4, .ref xq8), (0, .ref a), (1, .int (iI r)), (2, .int (iI f)), (3, .int (iI w))] [.int (iI v26)] _
            have fq27 := f25
            rw [show σ.2.1 (1000 + xq15) = rwF σ 11 xq8 by unfold rwF; rw [adN_of hx16]] at fq27
            exact tn_iret rfl dX11_frame_65 ⟨_, rfl, rfl, rfl, by omega, (by rw [← hcr9]; refine Or.inr ⟨⟨rr9, ff9⟩, ?_⟩; first | (refine Or.inl ⟨?_, ?_⟩; omega; exact fra_0 g9 ff9 (by omega) fq27) | (refine Or.inr (Or.inl ⟨?_, ?_, ?_⟩); omega; omega; exact rfl) | (refine Or.inr (Or.inr (Or.inl ⟨?_, ?_, ?_⟩)); omega; omega; exact fra_1 g9 ff9 (by omega) fq27) | (refine Or.inr (Or.inr (Or.inr (Or.inl ⟨?_, ?_⟩))); omega; exact fra_2 g9 ff9 (by omega) fq27) | (refine Or.inr (Or.inr (Or.inr (Or.inr (⟨?_, ?_⟩)))); omega; exact rfl))⟩
          · refine tn_tableIn (tgt := 66) (off := 38) dX11_frame_28 (x := w) ⟨by omega, by omega⟩ (by omega) (by omega) (by rw [h14]; rfl) (by decide) ?_
            refine tn_iload_n dX11_frame_66 rfl 3 rfl ?_
            refine tn_if_ne (tgt := 74) dX11_frame_67 (by decide) ⟨by omega, by omega⟩ (fun h28 => ?_) (fun h28 => ?_)
            · refine tn_aload dX11_frame_74 0 rfl ?_
              obtain ⟨xq29, hx30, hk31, hl32⟩ : ∃ x : Nat, σ.2.1 12 xq8 = (x : Int) ∧ AR T x 1 12 12 := wf_12 hw hk9o
              have hk31i : IA T xq29 := by unfold IA; omega
              refine tn_getR (ci := 1) (i := 7) (n := 12) (x := xq29) dX11_frame_76 rfl lay_1 (by decide) fl11_166 hk9o rfl rfl (hx30) ?_
              refine tn_iload_n dX11_frame_79 rfl 3 rfl ?_
              refine tn_callS (M := m_X11_frame) (pc := 80) (ix := 162) (M' := m_X11_at) (As := [.ref xq29, .int (iI f)]) (rest := []) dX11_frame_80 ok_X11_at stt_X11_at ml11_162 np_X11_at rfl (Nat.le_of_ble_eq_true rfl) (Nat.le_of_ble_eq_true rfl) rfl (k_X11_at_x (d) (T := T) (σ := σ) (x := xq29) (i := f) (R := σ.2.1 (1000 + xq29)) hk31i (by omega) (by omega) hw rfl) (fun r33 T35 σ34 gt36 hp => ?_)
              obtain ⟨v40, rfl, rfl, rfl, f37, f38, f39⟩ := hp
              clear gt36
              clear f38
              have f39u := f39
              unfold ATQ at f39u
              show Tn _ _ 83 T σ [(4, .ref xq8), (0, .ref a), (1, .int (iI r)), (2, .int (iI f)), (3, .int (iI w))] [.int (iI v40)] _
              have fq41 := f39
              rw [show σ.2.1 (1000 + xq29) = rwF σ 12 xq8 by unfold rwF; rw [adN_of hx30]] at fq41
              exact tn_iret rfl dX11_frame_83 ⟨_, rfl, rfl, rfl, by omega, (by rw [← hcr9]; refine Or.inr ⟨⟨rr9, ff9⟩, ?_⟩; first | (refine Or.inl ⟨?_, ?_⟩; omega; exact fra_0 g9 ff9 (by omega) fq41) | (refine Or.inr (Or.inl ⟨?_, ?_, ?_⟩); omega; omega; exact rfl) | (refine Or.inr (Or.inr (Or.inl ⟨?_, ?_, ?_⟩)); omega; omega; exact fra_1 g9 ff9 (by omega) fq41) | (refine Or.inr (Or.inr (Or.inr (Or.inl ⟨?_, ?_⟩))); omega; exact fra_2 g9 ff9 (by omega) fq41) | (refine Or.inr (Or.inr (Or.inr (Or.inr (⟨?_, ?_⟩)))); omega; exact rfl))⟩
            · refine tn_iconst dX11_frame_70 ?_
              refine tn_goto (tgt := 83) dX11_frame_71 (by decide) ?_
              exact tn_iret rfl dX11_frame_83 ⟨_, rfl, rfl, rfl, by omega, (by rw [← hcr9]; refine Or.inr ⟨⟨rr9, ff9⟩, ?_⟩; first | (refine Or.inl ⟨?_, ?_⟩; omega; exact fra_0 g9 ff9 (by omega) f5) | (refine Or.inr (Or.inl ⟨?_, ?_, ?_⟩); omega; omega; exact rfl) | (refine Or.inr (Or.inr (Or.inl ⟨?_, ?_, ?_⟩)); omega; omega; exact fra_1 g9 ff9 (by omega) f5) | (refine Or.inr (Or.inr (Or.inr (Or.inl ⟨?_, ?_⟩))); omega; exact fra_2 g9 ff9 (by omega) f5) | (refine Or.inr (Or.inr (Or.inr (Or.inr (⟨?_, ?_⟩)))); omega; exact rfl))⟩
          · refine tn_tableIn (tgt := 84) (off := 56) dX11_frame_28 (x := w) ⟨by omega, by omega⟩ (by omega) (by omega) (by rw [h14]; rfl) (by decide) ?_
            refine tn_aload dX11_frame_84 0 rfl ?_
            obtain ⟨xq42, hx43, hk44, hl45⟩ : ∃ x : Nat, σ.2.1 13 xq8 = (x : Int) ∧ AR T x 1 12 12 := wf_13 hw hk9o
            have hk44i : IA T xq42 := by unfold IA; omega
            refine tn_getR (ci := 1) (i := 8) (n := 13) (x := xq42) dX11_frame_86 rfl lay_1 (by decide) fl11_169 hk9o rfl rfl (hx43) ?_
            refine tn_iload_n dX11_frame_89 rfl 3 rfl ?_
            refine tn_callS (M := m_X11_frame) (pc := 90) (ix := 162) (M' := m_X11_at) (As := [.ref xq42, .int (iI f)]) (rest := []) dX11_frame_90 ok_X11_at stt_X11_at ml11_162 np_X11_at rfl (Nat.le_of_ble_eq_true rfl) (Nat.le_of_ble_eq_true rfl) rfl (k_X11_at_x (d) (T := T) (σ := σ) (x := xq42) (i := f) (R := σ.2.1 (1000 + xq42)) hk44i (by omega) (by omega) hw rfl) (fun r46 T48 σ47 gt49 hp => ?_)
            obtain ⟨v53, rfl, rfl, rfl, f50, f51, f52⟩ := hp
            clear gt49
            clear f51
            have f52u := f52
            unfold ATQ at f52u
            show Tn _ _ 93 T σ [(4, .ref xq8), (0, .ref a), (1, .int (iI r)), (2, .int (iI f)), (3, .int (iI w))] [.int (iI v53)] _
            have fq54 := f52
            rw [show σ.2.1 (1000 + xq42) = rwF σ 13 xq8 by unfold rwF; rw [adN_of hx43]] at fq54
            exact tn_iret rfl dX11_frame_93 ⟨_, rfl, rfl, rfl, by omega, (by rw [← hcr9]; refine Or.inr ⟨⟨rr9, ff9⟩, ?_⟩; first | (refine Or.inl ⟨?_, ?_⟩; omega; exact fra_0 g9 ff9 (by omega) fq54) | (refine Or.inr (Or.inl ⟨?_, ?_, ?_⟩); omega; omega; exact rfl) | (refine Or.inr (Or.inr (Or.inl ⟨?_, ?_, ?_⟩)); omega; omega; exact fra_1 g9 ff9 (by omega) fq54) | (refine Or.inr (Or.inr (Or.inr (Or.inl ⟨?_, ?_⟩))); omega; exact fra_2 g9 ff9 (by omega) fq54) | (refine Or.inr (Or.inr (Or.inr (Or.inr (⟨?_, ?_⟩)))); omega; exact rfl))⟩
      · refine tn_iconst dX11_frame_25 ?_
        exact tn_iret rfl dX11_frame_26 ⟨_, rfl, rfl, rfl, by omega, (by rw [← hcr9]; exact Or.inl ⟨fun z => by have z2 : f < σ.2.1 10 xq8 := z.2.2; omega, rfl⟩)⟩
end
section
set_option maxHeartbeats 1000000 in
theorem af_t2 {T : CT} {σ : MS} {f b : Nat} (hw : WT T σ) (hf : f ∈ AFL) (h95 : f ≠ 95) (ob : OB T b (cls f)) : (T (adN σ f b)).1 ≠ 2 := by
  simp only [List.mem_cons, List.not_mem_nil, or_false] at hf
  rcases hf with rfl | rfl | rfl | rfl | rfl | rfl | rfl | rfl | rfl | rfl | rfl | rfl | rfl | rfl | rfl | rfl | rfl | rfl | rfl | rfl | rfl | rfl | rfl | rfl | rfl | rfl | rfl | rfl | rfl | rfl | rfl | rfl | rfl | rfl | rfl | rfl | rfl | rfl | rfl | rfl | rfl | rfl
  · have z := (ad_ex (Q := fun x => (208 ≤ (T x).2 ∧ (T x).2 ≤ 2600) ∧ ((T b).1 = 50 → (T x).1 = 1) ∧ ((T b).1 ≠ 50 → (T x).1 = 13)) (wf_5 hw ob)).2.2
    omega
  · have z := (ad_ex (Q := fun x => AR T x 1 12 12) (wf_11 hw ob)).2.1
    omega
  · have z := (ad_ex (Q := fun x => AR T x 1 12 12) (wf_12 hw ob)).2.1
    omega
  · have z := (ad_ex (Q := fun x => AR T x 1 12 12) (wf_13 hw ob)).2.1
    omega
  · have z := (ad_ex (Q := fun x => AR T x 11 12 12) (wf_14 hw ob)).2.1
    omega
  · have z := (ad_ex (Q := fun x => AR T x 1 144 144) (wf_15 hw ob)).2.1
    omega
  · have z := (ad_ex (Q := fun x => AR T x 1 13 13) (wf_16 hw ob)).2.1
    omega
  · have z := (ad_ex (Q := fun x => AR T x 3 603 603) (wf_18 hw ob)).2.1
    omega
  · have z := (ad_ex (Q := fun x => AR T x 3 3 3) (wf_19 hw ob)).2.1
    omega
  · have z := (ad_ex (Q := fun x => AR T x 1 201 201) (wf_20 hw ob)).2.1
    omega
  · have z := (ad_ex (Q := fun x => AR T x 1 201 201) (wf_21 hw ob)).2.1
    omega
  · have z := (ad_ex (Q := fun x => AR T x 1 8 8) (wf_24 hw ob)).2.1
    omega
  · have z := (ad_ex (Q := fun x => AR T x 16 256 256) (wf_36 hw ob)).2.1
    omega
  · have z := (ad_ex (Q := fun x => AR T x 17 256 256) (wf_37 hw ob)).2.1
    omega
  · have z := (ad_ex (Q := fun x => AR T x 18 256 256) (wf_39 hw ob)).2.1
    omega
  · have z := (ad_ex (Q := fun x => AR T x 19 256 256) (wf_40 hw ob)).2.1
    omega
  · have z := (ad_ex (Q := fun x => AR T x 20 256 256) (wf_41 hw ob)).2.1
    omega
  · have z := (ad_ex (Q := fun x => AR T x 21 12 12) (wf_48 hw ob)).2.1
    omega
  · have z := (ad_ex (Q := fun x => AR T x 1 8 8) (wf_49 hw ob)).2.1
    omega
  · have z := (ad_ex (Q := fun x => AR T x 1 192 192) (wf_52 hw ob)).2.1
    omega
  · have z := (ad_ex (Q := fun x => AR T x 1 192 192) (wf_53 hw ob)).2.1
    omega
  · have z := (ad_ex (Q := fun x => AR T x 3 3 3) (wf_54 hw ob)).2.1
    omega
  · have z := (ad_ex (Q := fun x => AR T x 15 9 9) (wf_59 hw ob)).2.1
    omega
  · have z := (ad_ex (Q := fun x => AR T x 1 9 9) (wf_60 hw ob)).2.1
    omega
  · have z := (ad_ex (Q := fun x => (T x).2 = 9 ∧ ((T b).1 = 57 → (T x).1 = 14) ∧ ((T b).1 ≠ 57 → (T x).1 = 1)) (wf_61 hw ob)).2.2
    omega
  · have z := (ad_ex (Q := fun x => AR T x 1 108 108) (wf_62 hw ob)).2.1
    omega
  · have z := (ad_ex (Q := fun x => AR T x 1 1728 1728) (wf_63 hw ob)).2.1
    omega
  · have z := (ad_ex (Q := fun x => AR T x 1 200 200) (wf_64 hw ob)).2.1
    omega
  · have z := (ad_ex (Q := fun x => AR T x 3 576 576) (wf_73 hw ob)).2.1
    omega
  · have z := (ad_ex (Q := fun x => AR T x 3 3 3) (wf_74 hw ob)).2.1
    omega
  · have z := (ad_ex (Q := fun x => AR T x 1 192 192) (wf_75 hw ob)).2.1
    omega
  · have z := (ad_ex (Q := fun x => AR T x 3 576 576) (wf_76 hw ob)).2.1
    omega
  · have z := (ad_ex (Q := fun x => AR T x 3 603 603) (wf_77 hw ob)).2.1
    omega
  · have z := (ad_ex (Q := fun x => AR T x 1 201 201) (wf_78 hw ob)).2.1
    omega
  · have z := (ad_ex (Q := fun x => AR T x 3 3 3) (wf_79 hw ob)).2.1
    omega
  · have z := (ad_ex (Q := fun x => AR T x 12 1201 1201) (wf_81 hw ob)).2.1
    omega
  · have z := (ad_ex (Q := fun x => AR T x 22 1201 1201) (wf_82 hw ob)).2.1
    omega
  · have z := (ad_ex (Q := fun x => AR T x 23 1201 1201) (wf_83 hw ob)).2.1
    omega
  · have z := (ad_ex (Q := fun x => AR T x 1 6 6) (wf_89 hw ob)).2.1
    omega
  · have z := (ad_ex (Q := fun x => AR T x 1 200 200) (wf_90 hw ob)).2.1
    omega
  · have z := (ad_ex (Q := fun x => AR T x 1 145 145) (wf_91 hw ob)).2.1
    omega
  · exact absurd rfl h95
def KB6 (S : Nat → Prop) (T : CT) (σ : MS) (a : Nat) (C E M : Int → Nat) : Prop := KEM S T σ a C E M ∧ BSQ S T σ a ∧ S (adN σ 103 a)
def L6Q (T : CT) (σ : MS) (T2 : CT) (σ2 : MS) (a : Nat) : Prop := ∀ S C E M, KB6 S T σ a C E M → ∃ S2, KB6 S2 T2 σ2 a C E M ∧ ∀ r, 0 ≤ r → r < 6 → CSM σ σ2 (C r)
section L6S
variable {S : Nat → Prop} {T T1 T2 : CT} {σ σ1 σ2 : MS} {a rn : Nat} {ks : List (Nat × Nat)} {rs ls : List Nat} {C E M : Int → Nat}
theorem L6Q.rf : L6Q T σ T σ a := fun S C E M h => ⟨S, h, fun _ _ _ => CSM.rf⟩
theorem L6Q.trans (h : L6Q T σ T1 σ1 a) (g : L6Q T1 σ1 T2 σ2 a) : L6Q T σ T2 σ2 a := fun S C E M k => by
  obtain ⟨S1, k1, c1⟩ := h S C E M k
  obtain ⟨S2, k2, c2⟩ := g S1 C E M k1
  exact ⟨S2, k2, fun r x y => (c1 r x y).trans (c2 r x y)⟩
theorem KB6.co (h : KB6 S T σ a C E M) {r : Int} (r0 : 0 ≤ r) (r6 : r < 6) : S (C r) ∧ (T (C r)).1 = 50 := ⟨(h.1.2.1 r r0 r6).1.2.1, (h.1.2.1 r r0 r6).1.2.2⟩
theorem L6Q.of (oa : OB T a 11) (hw : WT T σ) (gt : GT T T2) (h : ∀ S C E M, KB6 S T σ a C E M → QFR S T σ σ2 ∧ BSQ S T2 σ2 a) : L6Q T σ T2 σ2 a := fun S C E M k => by
  obtain ⟨q, b⟩ := h S C E M k
  refine ⟨S, ⟨k.1.q oa hw gt q, b, ?_⟩, fun r x y => CSM.q q (k.co x y).1 (ob50 (k.co x y).2)⟩
  rw [q.ad (by decide) (by unfold QF; omega)]
  exact k.2.2
theorem L6Q.run (oa : OB T a 11) (hw : WT T σ) {xa xb xc xd xe xf : Nat} (hrn : σ.2.1 103 a = (rn : Int)) (h1 : σ.2.1 59 rn = (xa : Int)) (h2 : σ.2.1 60 rn = (xb : Int)) (h3 : σ.2.1 61 rn = (xc : Int)) (h4 : σ.2.1 62 rn = (xd : Int)) (h5 : σ.2.1 63 rn = (xe : Int)) (h6 : σ.2.1 64 rn = (xf : Int)) (ch : CHX [(56, rn), (57, rn), (58, rn), (65, rn), (66, rn), (67, rn), (68, rn), (69, rn), (70, rn), (71, rn)] [xa, xb, xc, xd, xe, xf] [] σ σ2) : L6Q T σ T σ2 a := L6Q.of oa hw GT.rfl (fun S C E M k => by
  have z := (ad_ex (Q := fun x => (T x).1 = 37) (wf_103 hw oa)).2
  rw [adN_of hrn] at z
  have on : OB T rn 7 := ⟨by omega, by rw [z]; rfl, by omega⟩
  have sn := k.2.2
  rw [adN_of hrn] at sn
  exact k.2.1.run hw (RN6.mk sn on h1 h2 h3 h4 h5 h6) ch)
theorem L6Q.fnd (oa : OB T a 11) (hw : WT T σ) (ch : CHX [(70, rn), (71, rn)] [] [] σ σ2) : L6Q T σ T σ2 a := L6Q.of oa hw GT.rfl (fun S C E M k => k.2.1.chx hw ch (fun p hp => by
  simp only [List.mem_cons, List.not_mem_nil, or_false] at hp
  rcases hp with rfl | rfl <;> simp [QF]) (fun x hx => absurd hx (by simp)))
theorem L6Q.tape (oa : OB T a 11) (hw : WT T σ) {xt : Nat} (hxt : σ.2.1 95 a = (xt : Int)) (ch : CHX [(96, a)] [xt] [] σ σ2) : L6Q T σ T σ2 a := fun S C E M k => by
  have tt : (T xt).1 = 2 := by
    have z := (ad_ex (Q := fun x => AR T x 2 1200 1200) (wf_95 hw oa)).2
    rw [adN_of hxt] at z
    exact z.1
  have nf : ∀ f b, f ∈ AFL → f ≠ 95 → OB T b (cls f) → xt ≠ adN σ f b := fun f b hf h95 ob e => af_t2 hw hf h95 ob (by rw [← e]; exact tt)
  have q : QFR S T σ σ2 := ⟨fun f b hf hq => ch.1 f b hf (fun p hp e => by
    rw [List.mem_singleton.mp hp] at e
    exact fun _ => hq (by rw [← e]; unfold QF; omega)), fun f b hf hq sb ob => ch.2.1 _ (fun y => by
    exact nf f b hf (fun e => hq (by rw [e]; unfold QRW; omega)) ob (List.mem_singleton.mp y).symm), fun x hx => ch.2.1 x (fun y => by
    rw [List.mem_singleton.mp y, tt] at hx
    omega)⟩
  refine ⟨S, ⟨k.1.q oa hw GT.rfl q, k.2.1.st GT.rfl q (k.2.1.2.1.q k.2.1.1 GT.rfl q (fun i _ _ => ch.1 900 i (by decide) (fun p hp e => by rw [List.mem_singleton.mp hp] at e; exact absurd e (by show ¬ (96 : Nat) = 900; decide)))), ?_⟩, fun r x y => CSM.q q (k.co x y).1 (ob50 (k.co x y).2)⟩
  rw [q.ad (by decide) (by unfold QF; omega)]
  exact k.2.2
theorem L6Q.fld (oa : OB T a 11) (hw : WT T σ) (ch : CHX [(96, a)] [] [] σ σ2) : L6Q T σ T σ2 a := L6Q.of oa hw GT.rfl (fun S C E M k => k.2.1.chx hw ch (fun p hp => by
  rw [List.mem_singleton.mp hp]
  exact ⟨by unfold QF; omega, by show (96 : Nat) ≠ 900; decide⟩) (fun x hx => absurd hx (by simp)))
theorem L6Q.tlq (oa : OB T a 11) (hw : WT T σ) (gt : GT T T2) (h : TLQ T σ σ2 a) : L6Q T σ T2 σ2 a := L6Q.of oa hw gt (fun S C E M k => by
  rcases h with ⟨e1, e2⟩ | ⟨tl, xs, xb, xf, r, ⟨q1, q2, q3, q4⟩, q⟩
  · have q : QFR S T σ σ2 := QFR.eq e1
    exact ⟨q, k.2.1.st gt q (k.2.1.2.1.q k.2.1.1 gt q (fun i _ _ => by rw [e1]))⟩
  · have z := (ad_ex (Q := fun x => (T x).1 = 40) (wf_102 hw oa)).2
    rw [adN_of q1] at z
    exact k.2.1.rf hw gt q1 ⟨by omega, by rw [z]; rfl, by omega⟩ q2 q3 q4 q)
theorem L6Q.knq (oa : OB T a 11) (hw : WT T σ) (gt : GT T T2) (h : KNQ T σ σ2 a) : L6Q T σ T2 σ2 a := by
  obtain ⟨σ1, rn, e, ch, hw1, q⟩ := h
  exact (L6Q.fnd oa hw ch).trans (L6Q.tlq oa hw1 gt q)
end L6S
end
