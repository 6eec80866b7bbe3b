section
set_option maxHeartbeats 1000000 in
set_option maxRecDepth 20000 in
theorem l_X7_climb_h_7 (d : Nat) {T : CT} {σ0 : MS} {a : Nat} {c1 : Int} {post : Option Value → CT → MS → Prop} (h_a : OB T a 7) (r_c1 : -2147483648 ≤ c1 ∧ c1 ≤ 2147483647) (hw0 : WT T σ0) (hx_37 : ∀ (i3 : Int) (σ : MS) , (WT T σ) → (FrC T [71] σ0 σ) → (0 ≤ i3 ∧ i3 ≤ 2147483647) → (CHX [(70, a), (71, a)] [] [] σ0 σ) → Tn (d + 3) m_X7_climb 37 T σ [(0, .ref a), (1, .int (iI c1)), (2, .null), (3, .int (iI i3))] [] post) : ∀ (nq9 : Nat) (i3 : Int) (σ : MS) , (WT T σ) → (FrC T [71] σ0 σ) → (0 ≤ i3 ∧ i3 ≤ 2147483647) → (CHX [(70, a), (71, a)] [] [] σ0 σ) → (2147483700 - i3).toNat = nq9 → Tn (d + 3) m_X7_climb 7 T σ [(0, .ref a), (1, .int (iI c1)), (2, .null), (3, .int (iI i3))] [] post := by
  intro nq9
  induction nq9 using Nat.strongRecOn with
  | _ nq9 ih =>
    intro i3 σ hw hF r_i3 hC hm
    refine tn_iload_n dX7_climb_7 rfl 3 rfl ?_
    refine tn_iload_n dX7_climb_8 rfl 1 rfl ?_
    refine tn_icmp_ge (tgt := 37) dX7_climb_9 (by decide) ⟨by omega, by omega⟩ ⟨by omega, by omega⟩ (fun h1 => ?_) (fun h1 => ?_)
    · exact tn_sub [0, 1, 2, 3] rfl (hx_37 (i3) σ hw (FrC.rfl.trans (FrC.sub hF (by decide))) (by omega) hC)
    · refine tn_aload_nN dX7_climb_12 rfl 2 rfl ?_
      refine tn_ifnullN (tgt := 37) dX7_climb_13 (by decide) ?_
      exact tn_sub [0, 1, 2, 3] rfl (hx_37 (i3) σ hw (FrC.rfl.trans (FrC.sub hF (by decide))) (by omega) hC)
set_option maxHeartbeats 1000000 in
set_option maxRecDepth 20000 in
theorem l_X7_climb_h_7_1 (d : Nat) {T : CT} {σ0 : MS} {a : Nat} {c1 : Int} {rx2 : Nat} {post : Option Value → CT → MS → Prop} (h_a : OB T a 7) (r_c1 : -2147483648 ≤ c1 ∧ c1 ≤ 2147483647) (h_rx2 : OB T rx2 1) (hw0 : WT T σ0) (hx_37 : ∀ (i3 : Int) (σ : MS) , (WT T σ) → (FrC T [71] σ0 σ) → (0 ≤ i3 ∧ i3 ≤ 2147483647) → (CHX [(70, a), (71, a)] [] [] σ0 σ) → Tn (d + 3) m_X7_climb 37 T σ [(0, .ref a), (1, .int (iI c1)), (2, .ref rx2), (3, .int (iI i3))] [] post) : ∀ (nq9 : Nat) (i3 : Int) (σ : MS) , (WT T σ) → (FrC T [71] σ0 σ) → (0 ≤ i3 ∧ i3 ≤ 2147483647) → (CHX [(70, a), (71, a)] [] [] σ0 σ) → (2147483700 - i3).toNat = nq9 → Tn (d + 3) m_X7_climb 7 T σ [(0, .ref a), (1, .int (iI c1)), (2, .ref rx2), (3, .int (iI i3))] [] post := by
  intro nq9
  induction nq9 using Nat.strongRecOn with
  | _ nq9 ih =>
    intro i3 σ hw hF r_i3 hC hm
    refine tn_iload_n dX7_climb_7 rfl 3 rfl ?_
    refine tn_iload_n dX7_climb_8 rfl 1 rfl ?_
    refine tn_icmp_ge (tgt := 37) dX7_climb_9 (by decide) ⟨by omega, by omega⟩ ⟨by omega, by omega⟩ (fun h1 => ?_) (fun h1 => ?_)
    · exact tn_sub [0, 1, 2, 3] rfl (hx_37 (i3) σ hw (FrC.rfl.trans (FrC.sub hF (by decide))) (by omega) hC)
    · refine tn_aload_n dX7_climb_12 rfl 2 rfl ?_
      refine tn_ifnull dX7_climb_13 ?_
      refine tn_aload_n dX7_climb_16 rfl 0 rfl ?_
      refine tn_aload_n dX7_climb_17 rfl 2 rfl ?_
      obtain ⟨xq2, hx3, hk4, hl5⟩ : ∃ x : Nat, σ0.2.1 12 rx2 = (x : Int) ∧ AR T x 1 12 12 := wf_12 hw0 h_rx2
      have hk4i : IA T xq2 := by unfold IA; omega
      refine tn_getR (ci := 1) (i := 7) (n := 12) (x := xq2) dX7_climb_18 rfl lay_1 (by decide) fl7_126 h_rx2 rfl rfl (rc_F hF (Or.inl (by decide)) (by decide) (hx3)) ?_
      refine tn_aload_n dX7_climb_21 rfl 0 rfl ?_
      refine tn_getI (ci := 7) (i := 16) (n := 71) (t := σ.2.1 71 a) dX7_climb_22 rfl lay_7 (by decide) fl7_146 h_a rfl rfl (rfl) ?_
      have g6 : ((-2147483648 : Int) ≤ σ.2.1 71 a ∧ σ.2.1 71 a ≤ 2147483647) := wf_71 hw h_a
      refine tn_callSN (M := m_X7_climb) (pc := 25) (ix := 91) (M' := m_X11_at) (As := [.ref xq2, .int (iI (σ.2.1 71 a))]) (rest := [.ref a]) dX7_climb_25 ok_X11_at stt_X11_at nl7_91 np_X11_at rfl (Nat.le_of_ble_eq_true rfl) (Nat.le_of_ble_eq_true rfl) rfl (k_X11_at (d + 1) (T := T) (σ := σ) (x := xq2) (i := σ.2.1 71 a) hk4i (by omega) (by omega) hw ) (fun r7 T9 σ8 gt10 hp => ?_)
      obtain ⟨v14, rfl, rfl, rfl, f11, f12, f13⟩ := hp
      clear gt10
      clear f12
      show Tn _ _ 28 T σ [(0, .ref a), (1, .int (iI c1)), (2, .ref rx2), (3, .int (iI i3))] [.int (iI v14), .ref a] _
      refine tn_putV (ci := 7) (i := 16) (n := 71) (r := false) (v := v14) tyX7 tyX7_ok nmX7 dX7_climb_28 rfl lay_7 (by decide) fl7_146 rfl (tyX7_ok 16 (by decide)) rfl rfl rfl h_a rfl rfl ?_
      refine tn_iinc (q0 := 3) (L' := [(3, .int (iI (i3 + 1))), (0, .ref a), (1, .int (iI c1)), (2, .ref rx2)]) dX7_climb_31 rfl (by decide) rfl ?_
      refine tn_goto (tgt := 7) dX7_climb_34 (by decide) ?_
      exact tn_sub [1, 2, 3, 0] rfl (ih _ (by omega) (i3 + 1) (sA 71 a (v14) σ) (hw.put (by decide) (by decide) (fo_71 (by omega))) ((FrC.rfl.trans (FrC.sub hF (by decide))).put (by decide) (by decide)) (by omega) (hC.fld (by simp) (by decide)) rfl)
set_option maxHeartbeats 1000000 in
set_option maxRecDepth 20000 in
theorem k_X7_climb_h (d : Nat) {T : CT} {σ : MS} {a : Nat} {p1 : Int} (ha : OB T a 7) (h_p1 : -2147483648 ≤ p1 ∧ p1 ≤ 2147483647) (hw : WT T σ) : Tn (d + 3) m_X7_climb 0 T σ [(0, .ref a), (1, .int (iI p1))] [] (fun ro T2 σ2 => ro = none ∧ T = T2 ∧ WT T2 σ2 ∧ FrC T [71] σ σ2 ∧ (CHX [(70, a), (71, a)] [] [] σ σ2)) := by
  refine tn_aload_n dX7_climb_0 rfl 0 rfl ?_
  refine tn_callV (M := m_X7_climb) (pc := 1) (ix := 152) (ci := 7) (M' := m_X7_foundCode) (As := []) (rest := []) dX7_climb_1 ok_X7_foundCode im_X7_foundCode se_X7_foundCode ml7_152 np_X7_foundCode rfl rfl ha rfl (Nat.le_of_ble_eq_true rfl) (Nat.le_of_ble_eq_true rfl) rfl (k_X7_foundCode (d) (T := T) (σ := σ) (a := a) ha hw ) (fun r1 T3 σ2 gt4 hp => ?_)
  obtain ⟨v6, rfl, rfl, rfl, rv7, f5⟩ := hp
  clear gt4
  clear f5
  rcases rv7 with rv7 | ⟨xq8, rfl, hk9⟩
  · show Tn _ _ 4 T σ [(0, .ref a), (1, .int (iI p1))] (vl true v6 :: []) _
    rw [vl_null rv7]
    refine tn_astore_nN (L' := [(2, .null), (0, .ref a), (1, .int (iI p1))]) dX7_climb_4 rfl (by decide) rfl ?_
    refine tn_iconst dX7_climb_5 ?_
    refine tn_istore_n (L' := [(3, .int (iI 0)), (2, .null), (0, .ref a), (1, .int (iI p1))]) dX7_climb_6 rfl (by decide) rfl ?_
    refine tn_sub [2, 3, 1, 0] rfl (l_X7_climb_h_7 (d) (T := T) (σ0 := σ) (a := a) (c1 := p1) ha (by omega) hw (fun i310 σ11 w14 F15 r16 f17 => ?_) _ (0) σ hw FrC.rfl (by omega) CHX.rfl rfl)
    show Tn _ _ 37 T σ11 [(0, .ref a), (1, .int (iI p1)), (2, .null), (3, .int (iI i310))] [] _
    exact tn_vret rfl dX7_climb_37 ⟨rfl, rfl, w14, (FrC.rfl.trans (FrC.sub F15 (by decide))), (CHX.rfl.trans (CHX.sub f17 (by simp) (by simp) (by simp)))⟩
  · show Tn _ _ 4 T σ [(0, .ref a), (1, .int (iI p1))] (vl true (xq8 : Int) :: []) _
    rw [vl_ref rfl]
    have hk9o : OB T xq8 1 := hk9.1
    refine tn_astore_n (L' := [(2, .ref xq8), (0, .ref a), (1, .int (iI p1))]) dX7_climb_4 rfl (by decide) rfl ?_
    refine tn_iconst dX7_climb_5 ?_
    refine tn_istore_n (L' := [(3, .int (iI 0)), (2, .ref xq8), (0, .ref a), (1, .int (iI p1))]) dX7_climb_6 rfl (by decide) rfl ?_
    refine tn_sub [2, 3, 1, 0] rfl (l_X7_climb_h_7_1 (d) (T := T) (σ0 := σ) (a := a) (c1 := p1) (rx2 := xq8) ha (by omega) hk9o hw (fun i318 σ19 w22 F23 r24 f25 => ?_) _ (0) σ hw FrC.rfl (by omega) CHX.rfl rfl)
    show Tn _ _ 37 T σ19 [(0, .ref a), (1, .int (iI p1)), (2, .ref xq8), (3, .int (iI i318))] [] _
    exact tn_vret rfl dX7_climb_37 ⟨rfl, rfl, w22, (FrC.rfl.trans (FrC.sub F23 (by decide))), (CHX.rfl.trans (CHX.sub f25 (by simp) (by simp) (by simp)))⟩
end
section
set_option maxHeartbeats 1000000 in
set_option maxRecDepth 20000 in
theorem l_X7_find_h_37 (d : Nat) {T : CT} {σ : MS} {a : Nat} {post : Option Value → CT → MS → Prop} (h_a : OB T a 7) (hw : WT T σ) (hx_54 : ∀ (i2 : Int) (i3 : Int) , (-2147483648 ≤ i2 ∧ i2 ≤ 2147483647) → (-1 ≤ i3 ∧ i3 ≤ 11184800) → Tn (d + 4) m_X7_find 54 T σ [(0, .ref a), (2, .int (iI i2)), (3, .int (iI i3))] [] post) (hx_100 : ∀ (i2 : Int) (i3 : Int) , (-2147483648 ≤ i2 ∧ i2 ≤ 2147483647) → (-1 ≤ i3 ∧ i3 ≤ 11184800) → Tn (d + 4) m_X7_find 100 T σ [(0, .ref a), (2, .int (iI i2)), (3, .int (iI i3))] [] post) : ∀ (nq9 : Nat) (i2 : Int) (i3 : Int) , (-2147483648 ≤ i2 ∧ i2 ≤ 2147483647) → (-1 ≤ i3 ∧ i3 ≤ 11184800) → (i3 + 20).toNat = nq9 → Tn (d + 4) m_X7_find 37 T σ [(0, .ref a), (2, .int (iI i2)), (3, .int (iI i3))] [] post := by
  intro nq9
  induction nq9 using Nat.strongRecOn with
  | _ nq9 ih =>
    intro i2 i3 r_i2 r_i3 hm
    refine tn_iload_n dX7_find_37 rfl 2 rfl ?_
    refine tn_if_lt (tgt := 100) dX7_find_38 (by decide) ⟨by omega, by omega⟩ (fun h1 => ?_) (fun h1 => ?_)
    · exact tn_sub [0, 1, 2] rfl (hx_100 (i2) (i3) (by omega) (by omega))
    · refine tn_aload_n dX7_find_41 rfl 0 rfl ?_
      refine tn_iload_n dX7_find_42 rfl 2 rfl ?_
      refine tn_callV (M := m_X7_find) (pc := 43) (ix := 140) (ci := 7) (M' := m_X7_chainOf) (As := [.int (iI i3)]) (rest := []) dX7_find_43 ok_X7_chainOf im_X7_chainOf se_X7_chainOf ml7_140 np_X7_chainOf rfl rfl h_a rfl (Nat.le_of_ble_eq_true rfl) (Nat.le_of_ble_eq_true rfl) rfl (k_X7_chainOf (d + 1) (T := T) (σ := σ) (a := a) (p1 := i3) h_a (by omega) hw ) (fun r2 T4 σ3 gt5 hp => ?_)
      obtain ⟨v7, rfl, rfl, rfl, f6⟩ := hp
      clear gt5
      show Tn _ _ 46 T σ [(0, .ref a), (2, .int (iI i2)), (3, .int (iI i3))] [.int (iI v7)] _
      refine tn_istore (L' := [(4, .int (iI v7)), (0, .ref a), (2, .int (iI i2)), (3, .int (iI i3))]) dX7_find_46 (by decide) rfl ?_
      refine tn_iload_n dX7_find_48 rfl 2 rfl ?_
      refine tn_iload dX7_find_49 0 rfl ?_
      refine tn_icmp_ge (tgt := 89) dX7_find_51 (by decide) ⟨by omega, by omega⟩ ⟨by omega, by omega⟩ (fun h8 => ?_) (fun h8 => ?_)
      · refine tn_iload_n dX7_find_89 rfl 2 rfl ?_
        refine tn_iload dX7_find_90 0 rfl ?_
        refine tn_isub dX7_find_92 ?_
        refine tn_any (fun z9 g10 => ?_)
        have g10r : -2147483648 ≤ z9 ∧ z9 ≤ 2147483647 := g10
        refine tn_istore_n (L' := [(2, .int (iI z9)), (4, .int (iI v7)), (0, .ref a), (3, .int (iI i3))]) dX7_find_93 rfl (by decide) rfl ?_
        refine tn_iinc (q0 := 3) (L' := [(3, .int (iI (i3 + (-1)))), (2, .int (iI z9)), (4, .int (iI v7)), (0, .ref a)]) dX7_find_94 rfl (by decide) rfl ?_
        refine tn_goto (tgt := 37) dX7_find_97 (by decide) ?_
        exact tn_sub [3, 1, 0] rfl (ih _ (by omega) (z9) (i3 + (-1)) (by omega) (by omega) rfl)
      · exact tn_sub [1, 2, 3] rfl (hx_54 (i2) (i3) (by omega) (by omega))
set_option maxHeartbeats 1000000 in
set_option maxRecDepth 20000 in
theorem k_X7_find_h (d : Nat) {T : CT} {σ : MS} {a : Nat} {k : Int} (ha : OB T a 7) (h_k : -2147483648 ≤ k ∧ k ≤ 2147483647) (hw : WT T σ) : Tn (d + 4) m_X7_find 0 T σ [(0, .ref a), (1, .int (iI k))] [] (fun ro T2 σ2 => ∃ v : Int, ro = some (.int (iI v)) ∧ T = T2 ∧ WT T2 σ2 ∧ FrC T [70, 71] σ σ2 ∧ (v = 0 ∨ v = 1) ∧ (CHX [(70, a), (71, a)] [] [] σ σ2) ∧ (v = 1 → 0 ≤ FRV T σ2 a ∧ FRV T σ2 a ≤ 5)) := by
  refine tn_iload_n dX7_find_0 rfl 1 rfl ?_
  refine tn_if_lt (tgt := 28) dX7_find_1 (by decide) ⟨by omega, by omega⟩ (fun h1 => ?_) (fun h1 => ?_)
  · refine tn_iconst dX7_find_28 ?_
    exact tn_zret (v := 0) rfl (by decide) dX7_find_29 ⟨_, rfl, rfl, hw, FrC.rfl, by omega, CHX.rfl, fun q => absurd q (by decide)⟩
  · refine tn_iload_n dX7_find_4 rfl 1 rfl ?_
    refine tn_aload_n dX7_find_5 rfl 0 rfl ?_
    refine tn_getI (ci := 7) (i := 3) (n := 58) (t := σ.2.1 58 a) dX7_find_6 rfl lay_7 (by decide) fl7_38 ha rfl rfl (rfl) ?_
    have g2 : ((-2147483648 : Int) ≤ σ.2.1 58 a ∧ σ.2.1 58 a ≤ 2147483647) := wf_58 hw ha
    refine tn_icmp_ge (tgt := 28) dX7_find_9 (by decide) ⟨by omega, by omega⟩ ⟨by omega, by omega⟩ (fun h3 => ?_) (fun h3 => ?_)
    · refine tn_iconst dX7_find_28 ?_
      exact tn_zret (v := 0) rfl (by decide) dX7_find_29 ⟨_, rfl, rfl, hw, FrC.rfl, by omega, CHX.rfl, fun q => absurd q (by decide)⟩
    · refine tn_aload_n dX7_find_12 rfl 0 rfl ?_
      refine tn_getI (ci := 7) (i := 1) (n := 56) (t := σ.2.1 56 a) dX7_find_13 rfl lay_7 (by decide) fl7_34 ha rfl rfl (rfl) ?_
      have g4 : ((-2147483648 : Int) ≤ σ.2.1 56 a ∧ σ.2.1 56 a ≤ 2147483647) := wf_56 hw ha
      refine tn_iconst dX7_find_16 ?_
      refine tn_icmp_eq (tgt := 30) dX7_find_17 (by decide) ⟨by omega, by omega⟩ ⟨by decide, by decide⟩ (fun h5 => ?_) (fun h5 => ?_)
      · refine tn_iload_n dX7_find_30 rfl 1 rfl ?_
        refine tn_istore_n (L' := [(2, .int (iI k)), (0, .ref a), (1, .int (iI k))]) dX7_find_31 rfl (by decide) rfl ?_
        refine tn_aload_n dX7_find_32 rfl 1 rfl ?_
        refine tn_getI (ci := 7) (i := 2) (n := 57) (t := σ.2.1 57 a) dX7_find_33 rfl lay_7 (by decide) fl7_65 ha rfl rfl (rfl) ?_
        have g6 : ((0 : Int) ≤ σ.2.1 57 a ∧ σ.2.1 57 a ≤ 11184800) ∧ ((T a).1 = 57 → σ.2.1 57 a ≤ 8) := wf_57 hw ha
        have g6x := g6.2
        replace g6 := g6.1
        clear g6x
        refine tn_istore_n (L' := [(3, .int (iI (σ.2.1 57 a))), (2, .int (iI k)), (0, .ref a), (1, .int (iI k))]) dX7_find_36 rfl (by decide) rfl ?_
        refine tn_sub [2, 1, 0] rfl (l_X7_find_h_37 (d) (T := T) (σ := σ) (a := a) ha hw (fun i27 i38 r14 r15 => ?_) (fun i216 i317 r23 r24 => ?_) _ (k) (σ.2.1 57 a) (by omega) (by omega) rfl)
        · show Tn _ _ 54 T σ [(0, .ref a), (2, .int (iI i27)), (3, .int (iI i38))] [] _
          refine tn_aload_n dX7_find_54 rfl 0 rfl ?_
          refine tn_iload_n dX7_find_55 rfl 2 rfl ?_
          refine tn_putV (ci := 7) (i := 15) (n := 70) (r := false) (v := i38) tyX7 tyX7_ok nmX7 dX7_find_56 rfl lay_7 (by decide) fl7_143 rfl (tyX7_ok 15 (by decide)) rfl rfl rfl ha rfl rfl ?_
          refine tn_aload_n dX7_find_59 rfl 0 rfl ?_
          refine tn_aload_n dX7_find_60 rfl 0 rfl ?_
          obtain ⟨xq25, hx26, hl28, hk27a, hk27b⟩ := wf_61 hw ha
          have hk27i : IA T xq25 := by unfold IA; omega
          have hk27n : NH T xq25 := by unfold NH HT; omega
          clear hk27a hk27b
          refine tn_getR (ci := 7) (i := 6) (n := 61) (x := xq25) dX7_find_61 rfl lay_7 (by decide) fl7_18 ha rfl rfl (rc_o (by decide) (hx26)) ?_
          refine tn_iload_n dX7_find_64 rfl 2 rfl ?_
          refine tn_callSN (M := m_X7_find) (pc := 65) (ix := 91) (M' := m_X11_at) (As := [.ref xq25, .int (iI i38)]) (rest := [.ref a]) dX7_find_65 ok_X11_at stt_X11_at nl7_91 np_X11_at rfl (Nat.le_of_ble_eq_true rfl) (Nat.le_of_ble_eq_true rfl) rfl (k_X11_at (d + 2) (T := T) (σ := (sA 70 a (i38) σ)) (x := xq25) (i := i38) hk27i (by omega) (by omega) (hw.put (by decide) (by decide) (fo_70 (by omega))) ) (fun r29 T31 σ30 gt32 hp => ?_)
          obtain ⟨v36, rfl, rfl, rfl, f33, f34, f35⟩ := hp
          clear gt32
          clear f34
          show Tn _ _ 68 T (sA 70 a (i38) σ) [(0, .ref a), (2, .int (iI i27)), (3, .int (iI i38))] [.int (iI v36), .ref a] _
          refine tn_putV (ci := 7) (i := 16) (n := 71) (r := false) (v := v36) tyX7 tyX7_ok nmX7 dX7_find_68 rfl lay_7 (by decide) fl7_146 rfl (tyX7_ok 16 (by decide)) rfl rfl rfl ha rfl rfl ?_
          refine tn_aload_n dX7_find_71 rfl 0 rfl ?_
          refine tn_iload_n dX7_find_72 rfl 1 rfl ?_
          refine tn_callV (M := m_X7_find) (pc := 73) (ix := 149) (ci := 7) (M' := m_X7_climb) (As := [.int (iI i27)]) (rest := []) dX7_find_73 ok_X7_climb im_X7_climb se_X7_climb ml7_149 np_X7_climb rfl rfl ha rfl (Nat.le_of_ble_eq_true rfl) (Nat.le_of_ble_eq_true rfl) rfl (k_X7_climb_h (d) (T := T) (σ := (sA 71 a (v36) (sA 70 a (i38) σ))) (a := a) (p1 := i27) ha (by omega) ((hw.put (by decide) (by decide) (fo_70 (by omega))).put (by decide) (by decide) (fo_71 (by omega))) ) (fun r37 T39 σ38 gt40 hp => ?_)
          obtain ⟨rfl, rfl, w43, F44, f41⟩ := hp
          clear gt40
          show Tn _ _ 76 T σ38 [(0, .ref a), (2, .int (iI i27)), (3, .int (iI i38))] [] _
          refine tn_aload_n dX7_find_76 rfl 0 rfl ?_
          refine tn_callV (M := m_X7_find) (pc := 77) (ix := 152) (ci := 7) (M' := m_X7_foundCode) (As := []) (rest := []) dX7_find_77 ok_X7_foundCode im_X7_foundCode se_X7_foundCode ml7_152 np_X7_foundCode rfl rfl ha rfl (Nat.le_of_ble_eq_true rfl) (Nat.le_of_ble_eq_true rfl) rfl (k_X7_foundCode (d + 1) (T := T) (σ := σ38) (a := a) ha w43 ) (fun r45 T47 σ46 gt48 hp => ?_)
          obtain ⟨v50, rfl, rfl, rfl, rv51, f49⟩ := hp
          clear gt48
          rcases rv51 with rv51 | ⟨xq52, rfl, hk53⟩
          · show Tn _ _ 80 T σ38 [(0, .ref a), (2, .int (iI i27)), (3, .int (iI i38))] (vl true v50 :: []) _
            rw [vl_null rv51]
            refine tn_ifnullN (tgt := 87) dX7_find_80 (by decide) ?_
            refine tn_iconst dX7_find_87 ?_
            exact tn_zret (v := 0) rfl (by decide) dX7_find_88 ⟨_, rfl, rfl, w43, (((FrC.rfl.put (by decide) (by decide)).put (by decide) (by decide)).trans (FrC.sub F44 (by decide))), by omega, (((CHX.rfl.fld (by simp) (by decide)).fld (by simp) (by decide)).trans (CHX.sub f41 (by simp) (by simp) (by simp))), fun q => absurd q (by decide)⟩
          · show Tn _ _ 80 T σ38 [(0, .ref a), (2, .int (iI i27)), (3, .int (iI i38))] (vl true (xq52 : Int) :: []) _
            rw [vl_ref rfl]
            have hk53o : OB T xq52 1 := hk53.1
            refine tn_ifnull dX7_find_80 ?_
            refine tn_iconst dX7_find_83 ?_
            refine tn_goto (tgt := 88) dX7_find_84 (by decide) ?_
            exact tn_zret (v := 1) rfl (by decide) dX7_find_88 ⟨_, rfl, rfl, w43, (((FrC.rfl.put (by decide) (by decide)).put (by decide) (by decide)).trans (FrC.sub F44 (by decide))), by omega, (((CHX.rfl.fld (by simp) (by decide)).fld (by simp) (by decide)).trans (CHX.sub f41 (by simp) (by simp) (by simp))), fun _ => by have q9 := f49; unfold CAT at q9; omega⟩
        · show Tn _ _ 100 T σ [(0, .ref a), (2, .int (iI i216)), (3, .int (iI i317))] [] _
          refine tn_iconst dX7_find_100 ?_
          exact tn_zret (v := 0) rfl (by decide) dX7_find_101 ⟨_, rfl, rfl, hw, FrC.rfl, by omega, CHX.rfl, fun q => absurd q (by decide)⟩
      · refine tn_aload_n dX7_find_20 rfl 0 rfl ?_
        refine tn_getI (ci := 7) (i := 1) (n := 56) (t := σ.2.1 56 a) dX7_find_21 rfl lay_7 (by decide) fl7_34 ha rfl rfl (rfl) ?_
        refine tn_iconst dX7_find_24 ?_
        refine tn_icmp_eq (tgt := 30) dX7_find_25 (by decide) ⟨by omega, by omega⟩ ⟨by decide, by decide⟩ (fun h54 => ?_) (fun h54 => ?_)
        · refine tn_iload_n dX7_find_30 rfl 1 rfl ?_
          refine tn_istore_n (L' := [(2, .int (iI k)), (0, .ref a), (1, .int (iI k))]) dX7_find_31 rfl (by decide) rfl ?_
          refine tn_aload_n dX7_find_32 rfl 1 rfl ?_
          refine tn_getI (ci := 7) (i := 2) (n := 57) (t := σ.2.1 57 a) dX7_find_33 rfl lay_7 (by decide) fl7_65 ha rfl rfl (rfl) ?_
          have g55 : ((0 : Int) ≤ σ.2.1 57 a ∧ σ.2.1 57 a ≤ 11184800) ∧ ((T a).1 = 57 → σ.2.1 57 a ≤ 8) := wf_57 hw ha
          have g55x := g55.2
          replace g55 := g55.1
          clear g55x
          refine tn_istore_n (L' := [(3, .int (iI (σ.2.1 57 a))), (2, .int (iI k)), (0, .ref a), (1, .int (iI k))]) dX7_find_36 rfl (by decide) rfl ?_
          refine tn_sub [2, 1, 0] rfl (l_X7_find_h_37 (d) (T := T) (σ := σ) (a := a) ha hw (fun i256 i357 r63 r64 => ?_) (fun i265 i366 r72 r73 => ?_) _ (k) (σ.2.1 57 a) (by omega) (by omega) rfl)
          · show Tn _ _ 54 T σ [(0, .ref a), (2, .int (iI i256)), (3, .int (iI i357))] [] _
            refine tn_aload_n dX7_find_54 rfl 0 rfl ?_
            refine tn_iload_n dX7_find_55 rfl 2 rfl ?_
            refine tn_putV (ci := 7) (i := 15) (n := 70) (r := false) (v := i357) tyX7 tyX7_ok nmX7 dX7_find_56 rfl lay_7 (by decide) fl7_143 rfl (tyX7_ok 15 (by decide)) rfl rfl rfl ha rfl rfl ?_
            refine tn_aload_n dX7_find_59 rfl 0 rfl ?_
            refine tn_aload_n dX7_find_60 rfl 0 rfl ?_
            obtain ⟨xq74, hx75, hl77, hk76a, hk76b⟩ := wf_61 hw ha
            have hk76i : IA T xq74 := by unfold IA; omega
            have hk76n : NH T xq74 := by unfold NH HT; omega
            clear hk76a hk76b
            refine tn_getR (ci := 7) (i := 6) (n := 61) (x := xq74) dX7_find_61 rfl lay_7 (by decide) fl7_18 ha rfl rfl (rc_o (by decide) (hx75)) ?_
            refine tn_iload_n dX7_find_64 rfl 2 rfl ?_
            refine tn_callSN (M := m_X7_find) (pc := 65) (ix := 91) (M' := m_X11_at) (As := [.ref xq74, .int (iI i357)]) (rest := [.ref a]) dX7_find_65 ok_X11_at stt_X11_at nl7_91 np_X11_at rfl (Nat.le_of_ble_eq_true rfl) (Nat.le_of_ble_eq_true rfl) rfl (k_X11_at (d + 2) (T := T) (σ := (sA 70 a (i357) σ)) (x := xq74) (i := i357) hk76i (by omega) (by omega) (hw.put (by decide) (by decide) (fo_70 (by omega))) ) (fun r78 T80 σ79 gt81 hp => ?_)
            obtain ⟨v85, rfl, rfl, rfl, f82, f83, f84⟩ := hp
            clear gt81
            clear f83
            show Tn _ _ 68 T (sA 70 a (i357) σ) [(0, .ref a), (2, .int (iI i256)), (3, .int (iI i357))] [.int (iI v85), .ref a] _
            refine tn_putV (ci := 7) (i := 16) (n := 71) (r := false) (v := v85) tyX7 tyX7_ok nmX7 dX7_find_68 rfl lay_7 (by decide) fl7_146 rfl (tyX7_ok 16 (by decide)) rfl rfl rfl ha rfl rfl ?_
            refine tn_aload_n dX7_find_71 rfl 0 rfl ?_
            refine tn_iload_n dX7_find_72 rfl 1 rfl ?_
            refine tn_callV (M := m_X7_find) (pc := 73) (ix := 149) (ci := 7) (M' := m_X7_climb) (As := [.int (iI i256)]) (rest := []) dX7_find_73 ok_X7_climb im_X7_climb se_X7_climb ml7_149 np_X7_climb rfl rfl ha rfl (Nat.le_of_ble_eq_true rfl) (Nat.le_of_ble_eq_true rfl) rfl (k_X7_climb_h (d) (T := T) (σ := (sA 71 a (v85) (sA 70 a (i357) σ))) (a := a) (p1 := i256) ha (by omega) ((hw.put (by decide) (by decide) (fo_70 (by omega))).put (by decide) (by decide) (fo_71 (by omega))) ) (fun r86 T88 σ87 gt89 hp => ?_)
            obtain ⟨rfl, rfl, w92, F93, f90⟩ := hp
            clear gt89
            show Tn _ _ 76 T σ87 [(0, .ref a), (2, .int (iI i256)), (3, .int (iI i357))] [] _
            refine tn_aload_n dX7_find_76 rfl 0 rfl ?_
            refine tn_callV (M := m_X7_find) (pc := 77) (ix := 152) (ci := 7) (M' := m_X7_foundCode) (As := []) (rest := []) dX7_find_77 ok_X7_foundCode im_X7_foundCode se_X7_foundCode ml7_152 np_X7_foundCode rfl rfl ha rfl (Nat.le_of_ble_eq_true rfl) (Nat.le_of_ble_eq_true rfl) rfl (k_X7_foundCode (d + 1) (T := T) (σ := σ87) (a := a) ha w92 ) (fun r94 T96 σ95 gt97 hp => ?_)
            obtain ⟨v99, rfl, rfl, rfl, rv100, f98⟩ := hp
            clear gt97
            rcases rv100 with rv100 | ⟨xq101, rfl, hk102⟩
            · show Tn _ _ 80 T σ87 [(0, .ref a), (2, .int (iI i256)), (3, .int (iI i357))] (vl true v99 :: []) _
              rw [vl_null rv100]
              refine tn_ifnullN (tgt := 87) dX7_find_80 (by decide) ?_
              refine tn_iconst dX7_find_87 ?_
              exact tn_zret (v := 0) rfl (by decide) dX7_find_88 ⟨_, rfl, rfl, w92, (((FrC.rfl.put (by decide) (by decide)).put (by decide) (by decide)).trans (FrC.sub F93 (by decide))), by omega, (((CHX.rfl.fld (by simp) (by decide)).fld (by simp) (by decide)).trans (CHX.sub f90 (by simp) (by simp) (by simp))), fun q => absurd q (by decide)⟩
            · show Tn _ _ 80 T σ87 [(0, .ref a), (2, .int (iI i256)), (3, .int (iI i357))] (vl true (xq101 : Int) :: []) _
              rw [vl_ref rfl]
              have hk102o : OB T xq101 1 := hk102.1
              refine tn_ifnull dX7_find_80 ?_
              refine tn_iconst dX7_find_83 ?_
              refine tn_goto (tgt := 88) dX7_find_84 (by decide) ?_
              exact tn_zret (v := 1) rfl (by decide) dX7_find_88 ⟨_, rfl, rfl, w92, (((FrC.rfl.put (by decide) (by decide)).put (by decide) (by decide)).trans (FrC.sub F93 (by decide))), by omega, (((CHX.rfl.fld (by simp) (by decide)).fld (by simp) (by decide)).trans (CHX.sub f90 (by simp) (by simp) (by simp))), fun _ => by have q9 := f98; unfold CAT at q9; omega⟩
          · show Tn _ _ 100 T σ [(0, .ref a), (2, .int (iI i265)), (3, .int (iI i366))] [] _
            refine tn_iconst dX7_find_100 ?_
            exact tn_zret (v := 0) rfl (by decide) dX7_find_101 ⟨_, rfl, rfl, hw, FrC.rfl, by omega, CHX.rfl, fun q => absurd q (by decide)⟩
        · refine tn_iconst dX7_find_28 ?_
          exact tn_zret (v := 0) rfl (by decide) dX7_find_29 ⟨_, rfl, rfl, hw, FrC.rfl, by omega, CHX.rfl, fun q => absurd q (by decide)⟩
end
section
set_option maxHeartbeats 1000000 in
set_option maxRecDepth 20000 in
theorem l_X10_nameBind_h_66 (d : Nat) {T : CT} {σ : MS} {a : Nat} {rx1 : Nat} {c2 : Int} {c3 : Int} {xb : Nat} {post : Option Value → CT → MS → Prop} (h_a : OB T a 10) (h_rx1 : OB T rx1 1) (t_rx1 : (T rx1).1 = 50) (r_c2 : -2147483648 ≤ c2 ∧ c2 ≤ 2147483647) (r_c3 : -2147483648 ≤ c3 ∧ c3 ≤ 9) (hw : WT T σ) (hxb : σ.2.1 90 a = (xb : Int)) (hx_96 : ∀ (i4 : Int) , (0 ≤ i4 ∧ i4 ≤ 2147483647) → Tn (d + 4) m_X10_nameBind 96 T σ [(0, .ref a), (1, .ref rx1), (2, .int (iI c2)), (3, .int (iI c3)), (4, .int (iI i4))] [] post) (hx_116 : ∀ (i4 : Int) , (0 ≤ i4 ∧ i4 ≤ 2147483647) → Tn (d + 4) m_X10_nameBind 116 T σ [(0, .ref a), (1, .ref rx1), (2, .int (iI c2)), (3, .int (iI c3)), (4, .int (iI i4))] [] post) : ∀ (nq9 : Nat) (i4 : Int) , (0 ≤ i4 ∧ i4 ≤ 2147483647) → (2147483700 - i4).toNat = nq9 → Tn (d + 4) m_X10_nameBind 66 T σ [(0, .ref a), (1, .ref rx1), (2, .int (iI c2)), (3, .int (iI c3)), (4, .int (iI i4))] [] post := by
  intro nq9
  induction nq9 using Nat.strongRecOn with
  | _ nq9 ih =>
    intro i4 r_i4 hm
    refine tn_iload_n dX10_nameBind_66 rfl 3 rfl ?_
    refine tn_iconst dX10_nameBind_67 ?_
    refine tn_icmp_ne (tgt := 116) dX10_nameBind_68 (by decide) ⟨by omega, by omega⟩ ⟨by decide, by decide⟩ (fun h1 => ?_) (fun h1 => ?_)
    · exact tn_sub [0, 1, 2, 3, 4] rfl (hx_116 (i4) (by omega))
    · refine tn_iload dX10_nameBind_71 4 rfl ?_
      refine tn_aload_n dX10_nameBind_73 rfl 1 rfl ?_
      refine tn_getI (ci := 1) (i := 3) (n := 8) (t := σ.2.1 8 rx1) dX10_nameBind_74 rfl lay_1 (by decide) fl10_86 h_rx1 rfl rfl (rfl) ?_
      have g2 : ((0 : Int) ≤ σ.2.1 8 rx1 ∧ σ.2.1 8 rx1 ≤ 4) := wf_8 hw h_rx1
      refine tn_icmp_ge (tgt := 116) dX10_nameBind_77 (by decide) ⟨by omega, by omega⟩ ⟨by omega, by omega⟩ (fun h3 => ?_) (fun h3 => ?_)
      · exact tn_sub [0, 1, 2, 3, 4] rfl (hx_116 (i4) (by omega))
      · refine tn_aload_n dX10_nameBind_80 rfl 1 rfl ?_
        refine tn_iconst dX10_nameBind_81 ?_
        refine tn_iload dX10_nameBind_82 4 rfl ?_
        refine tn_callV (M := m_X10_nameBind) (pc := 84) (ix := 47) (ci := 1) (M' := m_X1_homeOf) (As := [.int (iI 0), .int (iI i4)]) (rest := []) dX10_nameBind_84 ok_X1_homeOf im_X1_homeOf se_X1_homeOf ml10_47 np_X1_homeOf rfl rfl h_rx1 rfl (Nat.le_of_ble_eq_true rfl) (Nat.le_of_ble_eq_true rfl) rfl (k_X1_homeOf (d + 1) (T := T) (σ := σ) (a := rx1) (f := 0) (m := i4) h_rx1 (by decide) (by omega) hw ) (fun r4 T6 σ5 gt7 hp => ?_)
        obtain ⟨v9, rfl, rfl, rfl, f8⟩ := hp
        clear gt7
        show Tn _ _ 87 T σ [(0, .ref a), (1, .ref rx1), (2, .int (iI c2)), (3, .int (iI c3)), (4, .int (iI i4))] [.int (iI v9)] _
        refine tn_aload_n dX10_nameBind_87 rfl 1 rfl ?_
        refine tn_iload_n dX10_nameBind_88 rfl 2 rfl ?_
        refine tn_iconst dX10_nameBind_89 ?_
        refine tn_callV (M := m_X10_nameBind) (pc := 90) (ix := 44) (ci := 1) (M' := m_X1_get) (As := [.int (iI c2), .int (iI 4)]) (rest := [.int (iI v9)]) dX10_nameBind_90 ok_X1_get im_X1_get se_X1_get ml10_44 np_X1_get rfl rfl h_rx1 rfl (Nat.le_of_ble_eq_true rfl) (Nat.le_of_ble_eq_true rfl) rfl (k_X1_get (d + 2) (T := T) (σ := σ) (a := rx1) (k := c2) (c := 4) h_rx1 (by omega) (by decide) hw (by omega)) (fun r10 T12 σ11 gt13 hp => ?_)
        obtain ⟨v15, rfl, rfl, rfl, f14⟩ := hp
        clear gt13
        show Tn _ _ 93 T σ [(0, .ref a), (1, .ref rx1), (2, .int (iI c2)), (3, .int (iI c3)), (4, .int (iI i4))] [.int (iI v15), .int (iI v9)] _
        refine tn_icmp_ne (tgt := 110) dX10_nameBind_93 (by decide) ⟨by omega, by omega⟩ ⟨by omega, by omega⟩ (fun h16 => ?_) (fun h16 => ?_)
        · refine tn_iinc (q0 := 4) (L' := [(4, .int (iI (i4 + 1))), (0, .ref a), (1, .ref rx1), (2, .int (iI c2)), (3, .int (iI c3))]) dX10_nameBind_110 rfl (by decide) rfl ?_
          refine tn_goto (tgt := 66) dX10_nameBind_113 (by decide) ?_
          exact tn_sub [1, 2, 3, 4, 0] rfl (ih _ (by omega) (i4 + 1) (by omega) rfl)
        · exact tn_sub [0, 1, 2, 3, 4] rfl (hx_96 (i4) (by omega))
set_option maxHeartbeats 1000000 in
set_option maxRecDepth 20000 in
theorem l_X10_nameBind_h_119 (d : Nat) {T : CT} {σ : MS} {a : Nat} {rx1 : Nat} {c2 : Int} {xb : Nat} {post : Option Value → CT → MS → Prop} (h_a : OB T a 10) (h_rx1 : OB T rx1 1) (t_rx1 : (T rx1).1 = 50) (r_c2 : -2147483648 ≤ c2 ∧ c2 ≤ 2147483647) (hw : WT T σ) (hxb : σ.2.1 90 a = (xb : Int)) (hx_153 : ∀ (i4 : Int) , (0 ≤ i4 ∧ i4 ≤ 2147483647) → Tn (d + 4) m_X10_nameBind 153 T σ [(0, .ref a), (1, .ref rx1), (2, .int (iI c2)), (4, .int (iI i4))] [] post) : ∀ (nq9 : Nat) (i4 : Int) , (0 ≤ i4 ∧ i4 ≤ 2147483647) → (2147483700 - i4).toNat = nq9 → Tn (d + 4) m_X10_nameBind 119 T σ [(0, .ref a), (1, .ref rx1), (2, .int (iI c2)), (4, .int (iI i4))] [] post := by
  intro nq9
  induction nq9 using Nat.strongRecOn with
  | _ nq9 ih =>
    intro i4 r_i4 hm
    refine tn_iload dX10_nameBind_119 3 rfl ?_
    refine tn_iload_n dX10_nameBind_121 rfl 2 rfl ?_
    refine tn_icmp_ge (tgt := 153) dX10_nameBind_122 (by decide) ⟨by omega, by omega⟩ ⟨by omega, by omega⟩ (fun h1 => ?_) (fun h1 => ?_)
    · exact tn_sub [0, 1, 2, 3] rfl (hx_153 (i4) (by omega))
    · refine tn_aload_n dX10_nameBind_125 rfl 1 rfl ?_
      refine tn_iload dX10_nameBind_126 3 rfl ?_
      refine tn_iconst dX10_nameBind_128 ?_
      refine tn_callV (M := m_X10_nameBind) (pc := 129) (ix := 44) (ci := 1) (M' := m_X1_get) (As := [.int (iI i4), .int (iI 0)]) (rest := []) dX10_nameBind_129 ok_X1_get im_X1_get se_X1_get ml10_44 np_X1_get rfl rfl h_rx1 rfl (Nat.le_of_ble_eq_true rfl) (Nat.le_of_ble_eq_true rfl) rfl (k_X1_get (d + 2) (T := T) (σ := σ) (a := rx1) (k := i4) (c := 0) h_rx1 (by omega) (by decide) hw (by omega)) (fun r2 T4 σ3 gt5 hp => ?_)
      obtain ⟨v7, rfl, rfl, rfl, f6⟩ := hp
      clear gt5
      show Tn _ _ 132 T σ [(0, .ref a), (1, .ref rx1), (2, .int (iI c2)), (4, .int (iI i4))] [.int (iI v7)] _
      refine tn_bipush dX10_nameBind_132 (by decide) ?_
      refine tn_icmp_ne (tgt := 147) dX10_nameBind_134 (by decide) ⟨by omega, by omega⟩ ⟨by decide, by decide⟩ (fun h8 => ?_) (fun h8 => ?_)
      · refine tn_iinc (q0 := 3) (L' := [(4, .int (iI (i4 + 1))), (0, .ref a), (1, .ref rx1), (2, .int (iI c2))]) dX10_nameBind_147 rfl (by decide) rfl ?_
        refine tn_goto (tgt := 119) dX10_nameBind_150 (by decide) ?_
        exact tn_sub [1, 2, 3, 0] rfl (ih _ (by omega) (i4 + 1) (by omega) rfl)
      · refine tn_aload_n dX10_nameBind_137 rfl 1 rfl ?_
        refine tn_iload dX10_nameBind_138 3 rfl ?_
        refine tn_iload_n dX10_nameBind_140 rfl 2 rfl ?_
        refine tn_callV (M := m_X10_nameBind) (pc := 141) (ix := 89) (ci := 1) (M' := m_X1_sameWhere) (As := [.int (iI i4), .int (iI c2)]) (rest := []) dX10_nameBind_141 ok_X1_sameWhere im_X1_sameWhere se_X1_sameWhere ml10_89 np_X1_sameWhere rfl rfl h_rx1 rfl (Nat.le_of_ble_eq_true rfl) (Nat.le_of_ble_eq_true rfl) rfl (k_X1_sameWhere (d) (T := T) (σ := σ) (a := rx1) (k := i4) (j := c2) h_rx1 (by omega) (by omega) hw ) (fun r9 T11 σ10 gt12 hp => ?_)
        obtain ⟨v14, rfl, rfl, rfl, f13⟩ := hp
        clear gt12
        show Tn _ _ 144 T σ [(0, .ref a), (1, .ref rx1), (2, .int (iI c2)), (4, .int (iI i4))] [.int (iI v14)] _
        refine tn_if_ne (tgt := 153) dX10_nameBind_144 (by decide) ⟨by omega, by omega⟩ (fun h15 => ?_) (fun h15 => ?_)
        · exact tn_sub [0, 1, 2, 3] rfl (hx_153 (i4) (by omega))
        · refine tn_iinc (q0 := 3) (L' := [(4, .int (iI (i4 + 1))), (0, .ref a), (1, .ref rx1), (2, .int (iI c2))]) dX10_nameBind_147 rfl (by decide) rfl ?_
          refine tn_goto (tgt := 119) dX10_nameBind_150 (by decide) ?_
          exact tn_sub [1, 2, 3, 0] rfl (ih _ (by omega) (i4 + 1) (by omega) rfl)
set_option maxHeartbeats 1000000 in
set_option maxRecDepth 20000 in
theorem k_X10_nameBind_h (d : Nat) {T : CT} {σ : MS} {a : Nat} {p1 : Nat} {p2 : Int} {xb : Nat} (ha : OB T a 10) (h_p1 : OB T p1 1) (t_p1 : (T p1).1 = 50) (h_p2 : -2147483648 ≤ p2 ∧ p2 ≤ 2147483647) (hw : WT T σ) (hxb : σ.2.1 90 a = (xb : Int)) : Tn (d + 4) m_X10_nameBind 0 T σ [(0, .ref a), (1, .ref p1), (2, .int (iI p2))] [] (fun ro T2 σ2 => ro = none ∧ T = T2 ∧ WT T2 σ2 ∧ FrC T [] σ σ2 ∧ (CHX [] [xb] [] σ σ2)) := by
  refine tn_aload_n dX10_nameBind_0 rfl 1 rfl ?_
  refine tn_iload_n dX10_nameBind_1 rfl 2 rfl ?_
  refine tn_iconst dX10_nameBind_2 ?_
  refine tn_callV (M := m_X10_nameBind) (pc := 3) (ix := 44) (ci := 1) (M' := m_X1_get) (As := [.int (iI p2), .int (iI 0)]) (rest := []) dX10_nameBind_3 ok_X1_get im_X1_get se_X1_get ml10_44 np_X1_get rfl rfl h_p1 rfl (Nat.le_of_ble_eq_true rfl) (Nat.le_of_ble_eq_true rfl) rfl (k_X1_get (d + 2) (T := T) (σ := σ) (a := p1) (k := p2) (c := 0) h_p1 (by omega) (by decide) hw (by omega)) (fun r1 T3 σ2 gt4 hp => ?_)
  obtain ⟨v6, rfl, rfl, rfl, f5⟩ := hp
  clear gt4
  show Tn _ _ 6 T σ [(0, .ref a), (1, .ref p1), (2, .int (iI p2))] [.int (iI v6)] _
  refine tn_bipush dX10_nameBind_6 (by decide) ?_
  refine tn_icmp_eq (tgt := 12) dX10_nameBind_8 (by decide) ⟨by omega, by omega⟩ ⟨by decide, by decide⟩ (fun h7 => ?_) (fun h7 => ?_)
  · refine tn_aload_n dX10_nameBind_12 rfl 1 rfl ?_
    refine tn_iload_n dX10_nameBind_13 rfl 2 rfl ?_
    refine tn_bipush dX10_nameBind_14 (by decide) ?_
    refine tn_callV (M := m_X10_nameBind) (pc := 16) (ix := 44) (ci := 1) (M' := m_X1_get) (As := [.int (iI p2), .int (iI 11)]) (rest := []) dX10_nameBind_16 ok_X1_get im_X1_get se_X1_get ml10_44 np_X1_get rfl rfl h_p1 rfl (Nat.le_of_ble_eq_true rfl) (Nat.le_of_ble_eq_true rfl) rfl (k_X1_get (d + 2) (T := T) (σ := σ) (a := p1) (k := p2) (c := 11) h_p1 (by omega) (by decide) hw (by omega)) (fun r8 T10 σ9 gt11 hp => ?_)
    obtain ⟨v13, rfl, rfl, rfl, f12⟩ := hp
    clear gt11
    show Tn _ _ 19 T σ [(0, .ref a), (1, .ref p1), (2, .int (iI p2))] [.int (iI v13)] _
    refine tn_istore_n (L' := [(3, .int (iI v13)), (0, .ref a), (1, .ref p1), (2, .int (iI p2))]) dX10_nameBind_19 rfl (by decide) rfl ?_
    refine tn_iload_n dX10_nameBind_20 rfl 0 rfl ?_
    refine tn_bipush dX10_nameBind_21 (by decide) ?_
    refine tn_icmp_lt (tgt := 39) dX10_nameBind_23 (by decide) ⟨by omega, by omega⟩ ⟨by decide, by decide⟩ (fun h14 => ?_) (fun h14 => ?_)
    · refine tn_iload_n dX10_nameBind_39 rfl 0 rfl ?_
      refine tn_iconst dX10_nameBind_40 ?_
      refine tn_icmp_ne (tgt := 63) dX10_nameBind_41 (by decide) ⟨by omega, by omega⟩ ⟨by decide, by decide⟩ (fun h15 => ?_) (fun h15 => ?_)
      · refine tn_iconst dX10_nameBind_63 ?_
        refine tn_istore (L' := [(4, .int (iI 0)), (3, .int (iI v13)), (0, .ref a), (1, .ref p1), (2, .int (iI p2))]) dX10_nameBind_64 (by decide) rfl ?_
        refine tn_sub [2, 3, 4, 1, 0] rfl (l_X10_nameBind_h_66 (d) (T := T) (σ := σ) (a := a) (rx1 := p1) (c2 := p2) (c3 := v13) (xb := xb) ha h_p1 t_p1 (by omega) (by omega) hw (hxb) (fun i416 r22 => ?_) (fun i423 r29 => ?_) _ (0) (by omega) rfl)
        · show Tn _ _ 96 T σ [(0, .ref a), (1, .ref p1), (2, .int (iI p2)), (3, .int (iI v13)), (4, .int (iI i416))] [] _
          refine tn_aload_n dX10_nameBind_96 rfl 0 rfl ?_
          obtain ⟨hk32, hl33⟩ : AR T xb 1 200 200 := ar_of (wf_90 hw ha) hxb
          have hk32i : IA T xb := by unfold IA; omega
          refine tn_getR (ci := 10) (i := 2) (n := 90) (x := xb) dX10_nameBind_97 rfl lay_10 (by decide) fl10_20 ha rfl rfl (hxb) ?_
          refine tn_iload_n dX10_nameBind_100 rfl 2 rfl ?_
          refine tn_bipush dX10_nameBind_101 (by decide) ?_
          refine tn_iload dX10_nameBind_103 4 rfl ?_
          refine tn_iadd dX10_nameBind_105 ?_
          refine tn_any (fun z34 g35 => ?_)
          have g35r : -2147483648 ≤ z34 ∧ z34 ≤ 2147483647 := g35
          refine tn_callSN (M := m_X10_nameBind) (pc := 106) (ix := 26) (M' := m_X11_put) (As := [.ref xb, .int (iI p2), .int (iI z34)]) (rest := []) dX10_nameBind_106 ok_X11_put stt_X11_put nl10_26 np_X11_put rfl (Nat.le_of_ble_eq_true rfl) (Nat.le_of_ble_eq_true rfl) rfl (k_X11_put_x (d + 2) (T := T) (σ := σ) (x := xb) (i := p2) (y := z34) hk32i (by omega) (by omega) (by omega) hw (nh_k hk32 (by unfold HT; omega)) (vok_1 (by have q9 := hk32; omega) (by omega))) (fun r36 T38 σ37 gt39 hp => ?_)
          obtain ⟨rfl, rfl, w43, F44, f40, f41⟩ := hp
          clear gt39
          show Tn _ _ 109 T σ37 [(0, .ref a), (1, .ref p1), (2, .int (iI p2)), (3, .int (iI v13)), (4, .int (iI i416))] [] _
          exact tn_vret rfl dX10_nameBind_109 ⟨rfl, rfl, w43, (FrC.rfl.trans (FrC.sub F44 (by decide))), (CHX.rfl.trans (CHX.sub f40 (by simp) (by simp) (by simp)))⟩
        · show Tn _ _ 116 T σ [(0, .ref a), (1, .ref p1), (2, .int (iI p2)), (3, .int (iI v13)), (4, .int (iI i423))] [] _
          refine tn_iconst dX10_nameBind_116 ?_
          refine tn_istore (L' := [(4, .int (iI 0)), (0, .ref a), (1, .ref p1), (2, .int (iI p2)), (3, .int (iI v13))]) dX10_nameBind_117 (by decide) rfl ?_
          refine tn_sub [1, 2, 3, 0] rfl (l_X10_nameBind_h_119 (d) (T := T) (σ := σ) (a := a) (rx1 := p1) (c2 := p2) (xb := xb) ha h_p1 t_p1 (by omega) hw (hxb) (fun i445 r51 => ?_) _ (0) (by omega) rfl)
          show Tn _ _ 153 T σ [(0, .ref a), (1, .ref p1), (2, .int (iI p2)), (4, .int (iI i445))] [] _
          refine tn_aload_n dX10_nameBind_153 rfl 0 rfl ?_
          obtain ⟨hk54, hl55⟩ : AR T xb 1 200 200 := ar_of (wf_90 hw ha) hxb
          have hk54i : IA T xb := by unfold IA; omega
          refine tn_getR (ci := 10) (i := 2) (n := 90) (x := xb) dX10_nameBind_154 rfl lay_10 (by decide) fl10_20 ha rfl rfl (hxb) ?_
          refine tn_iload_n dX10_nameBind_157 rfl 2 rfl ?_
          refine tn_bipush dX10_nameBind_158 (by decide) ?_
          refine tn_iload dX10_nameBind_160 3 rfl ?_
          refine tn_iadd dX10_nameBind_162 ?_
          refine tn_any (fun z56 g57 => ?_)
          have g57r : -2147483648 ≤ z56 ∧ z56 ≤ 2147483647 := g57
          refine tn_callSN (M := m_X10_nameBind) (pc := 163) (ix := 26) (M' := m_X11_put) (As := [.ref xb, .int (iI p2), .int (iI z56)]) (rest := []) dX10_nameBind_163 ok_X11_put stt_X11_put nl10_26 np_X11_put rfl (Nat.le_of_ble_eq_true rfl) (Nat.le_of_ble_eq_true rfl) rfl (k_X11_put_x (d + 2) (T := T) (σ := σ) (x := xb) (i := p2) (y := z56) hk54i (by omega) (by omega) (by omega) hw (nh_k hk54 (by unfold HT; omega)) (vok_1 (by have q9 := hk54; omega) (by omega))) (fun r58 T60 σ59 gt61 hp => ?_)
          obtain ⟨rfl, rfl, w65, F66, f62, f63⟩ := hp
          clear gt61
          show Tn _ _ 166 T σ59 [(0, .ref a), (1, .ref p1), (2, .int (iI p2)), (4, .int (iI i445))] [] _
          exact tn_vret rfl dX10_nameBind_166 ⟨rfl, rfl, w65, (FrC.rfl.trans (FrC.sub F66 (by decide))), (CHX.rfl.trans (CHX.sub f62 (by simp) (by simp) (by simp)))⟩
      · refine tn_aload_n dX10_nameBind_44 rfl 2 rfl ?_
        refine tn_iload_n dX10_nameBind_45 rfl 3 rfl ?_
        refine tn_iconst dX10_nameBind_46 ?_
        refine tn_callV (M := m_X10_nameBind) (pc := 47) (ix := 44) (ci := 1) (M' := m_X1_get) (As := [.int (iI p2), .int (iI 4)]) (rest := []) dX10_nameBind_47 ok_X1_get im_X1_get se_X1_get ml10_44 np_X1_get rfl rfl h_p1 rfl (Nat.le_of_ble_eq_true rfl) (Nat.le_of_ble_eq_true rfl) rfl (k_X1_get (d + 2) (T := T) (σ := σ) (a := p1) (k := p2) (c := 4) h_p1 (by omega) (by decide) hw (by omega)) (fun r67 T69 σ68 gt70 hp => ?_)
        obtain ⟨v72, rfl, rfl, rfl, f71⟩ := hp
        clear gt70
        show Tn _ _ 50 T σ [(3, .int (iI v13)), (0, .ref a), (1, .ref p1), (2, .int (iI p2))] [.int (iI v72)] _
        refine tn_if_ne (tgt := 63) dX10_nameBind_50 (by decide) ⟨by omega, by omega⟩ (fun h73 => ?_) (fun h73 => ?_)
        · refine tn_iconst dX10_nameBind_63 ?_
          refine tn_istore (L' := [(4, .int (iI 0)), (3, .int (iI v13)), (0, .ref a), (1, .ref p1), (2, .int (iI p2))]) dX10_nameBind_64 (by decide) rfl ?_
          refine tn_sub [2, 3, 4, 1, 0] rfl (l_X10_nameBind_h_66 (d) (T := T) (σ := σ) (a := a) (rx1 := p1) (c2 := p2) (c3 := v13) (xb := xb) ha h_p1 t_p1 (by omega) (by omega) hw (hxb) (fun i474 r80 => ?_) (fun i481 r87 => ?_) _ (0) (by omega) rfl)
          · show Tn _ _ 96 T σ [(0, .ref a), (1, .ref p1), (2, .int (iI p2)), (3, .int (iI v13)), (4, .int (iI i474))] [] _
            refine tn_aload_n dX10_nameBind_96 rfl 0 rfl ?_
            obtain ⟨hk90, hl91⟩ : AR T xb 1 200 200 := ar_of (wf_90 hw ha) hxb
            have hk90i : IA T xb := by unfold IA; omega
            refine tn_getR (ci := 10) (i := 2) (n := 90) (x := xb) dX10_nameBind_97 rfl lay_10 (by decide) fl10_20 ha rfl rfl (hxb) ?_
            refine tn_iload_n dX10_nameBind_100 rfl 2 rfl ?_
            refine tn_bipush dX10_nameBind_101 (by decide) ?_
            refine tn_iload dX10_nameBind_103 4 rfl ?_
            refine tn_iadd dX10_nameBind_105 ?_
            refine tn_any (fun z92 g93 => ?_)
            have g93r : -2147483648 ≤ z92 ∧ z92 ≤ 2147483647 := g93
            refine tn_callSN (M := m_X10_nameBind) (pc := 106) (ix := 26) (M' := m_X11_put) (As := [.ref xb, .int (iI p2), .int (iI z92)]) (rest := []) dX10_nameBind_106 ok_X11_put stt_X11_put nl10_26 np_X11_put rfl (Nat.le_of_ble_eq_true rfl) (Nat.le_of_ble_eq_true rfl) rfl (k_X11_put_x (d + 2) (T := T) (σ := σ) (x := xb) (i := p2) (y := z92) hk90i (by omega) (by omega) (by omega) hw (nh_k hk90 (by unfold HT; omega)) (vok_1 (by have q9 := hk90; omega) (by omega))) (fun r94 T96 σ95 gt97 hp => ?_)
            obtain ⟨rfl, rfl, w101, F102, f98, f99⟩ := hp
            clear gt97
            show Tn _ _ 109 T σ95 [(0, .ref a), (1, .ref p1), (2, .int (iI p2)), (3, .int (iI v13)), (4, .int (iI i474))] [] _
            exact tn_vret rfl dX10_nameBind_109 ⟨rfl, rfl, w101, (FrC.rfl.trans (FrC.sub F102 (by decide))), (CHX.rfl.trans (CHX.sub f98 (by simp) (by simp) (by simp)))⟩
          · show Tn _ _ 116 T σ [(0, .ref a), (1, .ref p1), (2, .int (iI p2)), (3, .int (iI v13)), (4, .int (iI i481))] [] _
            refine tn_iconst dX10_nameBind_116 ?_
            refine tn_istore (L' := [(4, .int (iI 0)), (0, .ref a), (1, .ref p1), (2, .int (iI p2)), (3, .int (iI v13))]) dX10_nameBind_117 (by decide) rfl ?_
            refine tn_sub [1, 2, 3, 0] rfl (l_X10_nameBind_h_119 (d) (T := T) (σ := σ) (a := a) (rx1 := p1) (c2 := p2) (xb := xb) ha h_p1 t_p1 (by omega) hw (hxb) (fun i4103 r109 => ?_) _ (0) (by omega) rfl)
            show Tn _ _ 153 T σ [(0, .ref a), (1, .ref p1), (2, .int (iI p2)), (4, .int (iI i4103))] [] _
            refine tn_aload_n dX10_nameBind_153 rfl 0 rfl ?_
            obtain ⟨hk112, hl113⟩ : AR T xb 1 200 200 := ar_of (wf_90 hw ha) hxb
            have hk112i : IA T xb := by unfold IA; omega
            refine tn_getR (ci := 10) (i := 2) (n := 90) (x := xb) dX10_nameBind_154 rfl lay_10 (by decide) fl10_20 ha rfl rfl (hxb) ?_
            refine tn_iload_n dX10_nameBind_157 rfl 2 rfl ?_
            refine tn_bipush dX10_nameBind_158 (by decide) ?_
            refine tn_iload dX10_nameBind_160 3 rfl ?_
            refine tn_iadd dX10_nameBind_162 ?_
            refine tn_any (fun z114 g115 => ?_)
            have g115r : -2147483648 ≤ z114 ∧ z114 ≤ 2147483647 := g115
            refine tn_callSN (M := m_X10_nameBind) (pc := 163) (ix := 26) (M' := m_X11_put) (As := [.ref xb, .int (iI p2), .int (iI z114)]) (rest := []) dX10_nameBind_163 ok_X11_put stt_X11_put nl10_26 np_X11_put rfl (Nat.le_of_ble_eq_true rfl) (Nat.le_of_ble_eq_true rfl) rfl (k_X11_put_x (d + 2) (T := T) (σ := σ) (x := xb) (i := p2) (y := z114) hk112i (by omega) (by omega) (by omega) hw (nh_k hk112 (by unfold HT; omega)) (vok_1 (by have q9 := hk112; omega) (by omega))) (fun r116 T118 σ117 gt119 hp => ?_)
            obtain ⟨rfl, rfl, w123, F124, f120, f121⟩ := hp
            clear gt119
            show Tn _ _ 166 T σ117 [(0, .ref a), (1, .ref p1), (2, .int (iI p2)), (4, .int (iI i4103))] [] _
            exact tn_vret rfl dX10_nameBind_166 ⟨rfl, rfl, w123, (FrC.rfl.trans (FrC.sub F124 (by decide))), (CHX.rfl.trans (CHX.sub f120 (by simp) (by simp) (by simp)))⟩
        · refine tn_aload_n dX10_nameBind_53 rfl 1 rfl ?_
          obtain ⟨hk127, hl128⟩ : AR T xb 1 200 200 := ar_of (wf_90 hw ha) hxb
          have hk127i : IA T xb := by unfold IA; omega
          refine tn_getR (ci := 10) (i := 2) (n := 90) (x := xb) dX10_nameBind_54 rfl lay_10 (by decide) fl10_20 ha rfl rfl (hxb) ?_
          refine tn_iload_n dX10_nameBind_57 rfl 3 rfl ?_
          refine tn_iconst dX10_nameBind_58 ?_
          refine tn_callSN (M := m_X10_nameBind) (pc := 59) (ix := 26) (M' := m_X11_put) (As := [.ref xb, .int (iI p2), .int (iI 5)]) (rest := []) dX10_nameBind_59 ok_X11_put stt_X11_put nl10_26 np_X11_put rfl (Nat.le_of_ble_eq_true rfl) (Nat.le_of_ble_eq_true rfl) rfl (k_X11_put_x (d + 2) (T := T) (σ := σ) (x := xb) (i := p2) (y := 5) hk127i (by omega) (by omega) (by decide) hw (nh_k hk127 (by unfold HT; omega)) (vok_1 (by have q9 := hk127; omega) (by omega))) (fun r129 T131 σ130 gt132 hp => ?_)
          obtain ⟨rfl, rfl, w136, F137, f133, f134⟩ := hp
          clear gt132
          show Tn _ _ 62 T σ130 [(3, .int (iI v13)), (0, .ref a), (1, .ref p1), (2, .int (iI p2))] [] _
          exact tn_vret rfl dX10_nameBind_62 ⟨rfl, rfl, w136, (FrC.rfl.trans (FrC.sub F137 (by decide))), (CHX.rfl.trans (CHX.sub f133 (by simp) (by simp) (by simp)))⟩
    · refine tn_aload_n dX10_nameBind_26 rfl 1 rfl ?_
      obtain ⟨hk140, hl141⟩ : AR T xb 1 200 200 := ar_of (wf_90 hw ha) hxb
      have hk140i : IA T xb := by unfold IA; omega
      refine tn_getR (ci := 10) (i := 2) (n := 90) (x := xb) dX10_nameBind_27 rfl lay_10 (by decide) fl10_20 ha rfl rfl (hxb) ?_
      refine tn_iload_n dX10_nameBind_30 rfl 3 rfl ?_
      refine tn_iload_n dX10_nameBind_31 rfl 0 rfl ?_
      refine tn_bipush dX10_nameBind_32 (by decide) ?_
      refine tn_isub dX10_nameBind_34 ?_
      refine tn_callSN (M := m_X10_nameBind) (pc := 35) (ix := 26) (M' := m_X11_put) (As := [.ref xb, .int (iI p2), .int (iI (v13 - 10))]) (rest := []) dX10_nameBind_35 ok_X11_put stt_X11_put nl10_26 np_X11_put rfl (Nat.le_of_ble_eq_true rfl) (Nat.le_of_ble_eq_true rfl) rfl (k_X11_put_x (d + 2) (T := T) (σ := σ) (x := xb) (i := p2) (y := v13 - 10) hk140i (by omega) (by omega) (by omega) hw (nh_k hk140 (by unfold HT; omega)) (vok_1 (by have q9 := hk140; omega) (by omega))) (fun r142 T144 σ143 gt145 hp => ?_)
      obtain ⟨rfl, rfl, w149, F150, f146, f147⟩ := hp
      clear gt145
      show Tn _ _ 38 T σ143 [(3, .int (iI v13)), (0, .ref a), (1, .ref p1), (2, .int (iI p2))] [] _
      exact tn_vret rfl dX10_nameBind_38 ⟨rfl, rfl, w149, (FrC.rfl.trans (FrC.sub F150 (by decide))), (CHX.rfl.trans (CHX.sub f146 (by simp) (by simp) (by simp)))⟩
  · exact tn_vret rfl dX10_nameBind_11 ⟨rfl, rfl, hw, FrC.rfl, CHX.rfl⟩
end
section
set_option maxHeartbeats 1000000 in
set_option maxRecDepth 20000 in
theorem l_X10_begin_h_2 (d : Nat) {T : CT} {σ0 : MS} {a : Nat} {rx1 : Nat} {xt : Nat} {post : Option Value → CT → MS → Prop} (h_a : OB T a 10) (h_rx1 : OB T rx1 1) (t_rx1 : (T rx1).1 = 50) (hw0 : WT T σ0) (hxt : σ0.2.1 92 a = (xt : Int)) (hx_25 : ∀ (i2 : Int) (σ : MS) , (WT T σ) → (FrC T [] σ0 σ) → (0 ≤ i2 ∧ i2 ≤ 2147483647) → (CHX [] [xt] [] σ0 σ) → Tn (d + 2) m_X10_begin 25 T σ [(0, .ref a), (1, .ref rx1), (2, .int (iI i2))] [] post) : ∀ (nq9 : Nat) (i2 : Int) (σ : MS) , (WT T σ) → (FrC T [] σ0 σ) → (0 ≤ i2 ∧ i2 ≤ 2147483647) → (CHX [] [xt] [] σ0 σ) → (2147483700 - i2).toNat = nq9 → Tn (d + 2) m_X10_begin 2 T σ [(0, .ref a), (1, .ref rx1), (2, .int (iI i2))] [] post := by
  intro nq9
  induction nq9 using Nat.strongRecOn with
  | _ nq9 ih =>
    intro i2 σ hw hF r_i2 hC hm
    refine tn_iload_n dX10_begin_2 rfl 2 rfl ?_
    refine tn_aload_n dX10_begin_3 rfl 0 rfl ?_
    refine tn_getI (ci := 10) (i := 5) (n := 93) (t := σ0.2.1 93 a) dX10_begin_4 rfl lay_10 (by decide) fl10_50 h_a rfl rfl (rc_F hF (Or.inl (by decide)) (by decide) (rfl)) ?_
    have g1 : ((0 : Int) ≤ σ0.2.1 93 a ∧ σ0.2.1 93 a ≤ 145) := wf_93 hw0 h_a
    refine tn_icmp_ge (tgt := 25) dX10_begin_7 (by decide) ⟨by omega, by omega⟩ ⟨by omega, by omega⟩ (fun h2 => ?_) (fun h2 => ?_)
    · exact tn_sub [0, 1, 2] rfl (hx_25 (i2) σ hw (FrC.rfl.trans (FrC.sub hF (by decide))) (by omega) hC)
    · refine tn_aload_n dX10_begin_10 rfl 0 rfl ?_
      obtain ⟨hk5, hl6⟩ : AR T xt 1 0 32788 := ar_of ((wf_92 hw0 h_a).resolve_left (by omega)) hxt
      have hk5i : IA T xt := by unfold IA; omega
      refine tn_getR (ci := 10) (i := 4) (n := 92) (x := xt) dX10_begin_11 rfl lay_10 (by decide) fl10_61 h_a rfl rfl (rc_F hF (Or.inl (by decide)) (by decide) (hxt)) ?_
      refine tn_iload_n dX10_begin_14 rfl 2 rfl ?_
      refine tn_iconst dX10_begin_15 ?_
      refine tn_callSN (M := m_X10_begin) (pc := 16) (ix := 26) (M' := m_X11_put) (As := [.ref xt, .int (iI i2), .int (iI 1)]) (rest := []) dX10_begin_16 ok_X11_put stt_X11_put nl10_26 np_X11_put rfl (Nat.le_of_ble_eq_true rfl) (Nat.le_of_ble_eq_true rfl) rfl (k_X11_put_x (d) (T := T) (σ := σ) (x := xt) (i := i2) (y := 1) hk5i (by omega) (by omega) (by decide) hw (nh_k hk5 (by unfold HT; omega)) (vok_1 (by have q9 := hk5; omega) (by omega))) (fun r7 T9 σ8 gt10 hp => ?_)
      obtain ⟨rfl, rfl, w14, F15, f11, f12⟩ := hp
      clear gt10
      show Tn _ _ 19 T σ8 [(0, .ref a), (1, .ref rx1), (2, .int (iI i2))] [] _
      refine tn_iinc (q0 := 2) (L' := [(2, .int (iI (i2 + 1))), (0, .ref a), (1, .ref rx1)]) dX10_begin_19 rfl (by decide) rfl ?_
      refine tn_goto (tgt := 2) dX10_begin_22 (by decide) ?_
      exact tn_sub [1, 2, 0] rfl (ih _ (by omega) (i2 + 1) σ8 w14 ((FrC.rfl.trans (FrC.sub hF (by decide))).trans (FrC.sub F15 (by decide))) (by omega) (hC.trans (CHX.sub f11 (by simp) (by simp) (by simp))) rfl)
set_option maxHeartbeats 1000000 in
set_option maxRecDepth 20000 in
theorem l_X10_begin_h_27 (d : Nat) {T : CT} {σ0 : MS} {a : Nat} {rx1 : Nat} {xt : Nat} {post : Option Value → CT → MS → Prop} (h_a : OB T a 10) (h_rx1 : OB T rx1 1) (t_rx1 : (T rx1).1 = 50) (hw0 : WT T σ0) (hxt : σ0.2.1 92 a = (xt : Int)) (hx_70 : ∀ (i2 : Int) (σ : MS) , (WT T σ) → (FrC T [] σ0 σ) → (0 ≤ i2 ∧ i2 ≤ 2147483647) → (CHX [] [xt] [] σ0 σ) → Tn (d + 2) m_X10_begin 70 T σ [(0, .ref a), (1, .ref rx1), (2, .int (iI i2))] [] post) : ∀ (nq9 : Nat) (i2 : Int) (σ : MS) , (WT T σ) → (FrC T [] σ0 σ) → (0 ≤ i2 ∧ i2 ≤ 2147483647) → (CHX [] [xt] [] σ0 σ) → (2147483700 - i2).toNat = nq9 → Tn (d + 2) m_X10_begin 27 T σ [(0, .ref a), (1, .ref rx1), (2, .int (iI i2))] [] post := by
  intro nq9
  induction nq9 using Nat.strongRecOn with
  | _ nq9 ih =>
    intro i2 σ hw hF r_i2 hC hm
    refine tn_iload_n dX10_begin_27 rfl 2 rfl ?_
    refine tn_aload_n dX10_begin_28 rfl 1 rfl ?_
    refine tn_getI (ci := 1) (i := 2) (n := 7) (t := σ0.2.1 7 rx1) dX10_begin_29 rfl lay_1 (by decide) fl10_93 h_rx1 rfl rfl (rc_F hF (Or.inl (by decide)) (by decide) (rfl)) ?_
    have g1 : ((0 : Int) ≤ σ0.2.1 7 rx1 ∧ σ0.2.1 7 rx1 ≤ 12) := wf_7 hw0 h_rx1
    refine tn_icmp_ge (tgt := 70) dX10_begin_32 (by decide) ⟨by omega, by omega⟩ ⟨by omega, by omega⟩ (fun h2 => ?_) (fun h2 => ?_)
    · exact tn_sub [0, 1, 2] rfl (hx_70 (i2) σ hw (FrC.rfl.trans (FrC.sub hF (by decide))) (by omega) hC)
    · refine tn_aload_n dX10_begin_35 rfl 0 rfl ?_
      obtain ⟨hk5, hl6⟩ : AR T xt 1 0 32788 := ar_of ((wf_92 hw0 h_a).resolve_left (by omega)) hxt
      have hk5i : IA T xt := by unfold IA; omega
      refine tn_getR (ci := 10) (i := 4) (n := 92) (x := xt) dX10_begin_36 rfl lay_10 (by decide) fl10_61 h_a rfl rfl (rc_F hF (Or.inl (by decide)) (by decide) (hxt)) ?_
      refine tn_aload_n dX10_begin_39 rfl 1 rfl ?_
      refine tn_iconst dX10_begin_40 ?_
      refine tn_iload_n dX10_begin_41 rfl 2 rfl ?_
      refine tn_callV (M := m_X10_begin) (pc := 42) (ix := 36) (ci := 1) (M' := m_X1_slotOf) (As := [.int (iI 0), .int (iI i2)]) (rest := [.ref xt]) dX10_begin_42 ok_X1_slotOf im_X1_slotOf se_X1_slotOf ml10_36 np_X1_slotOf rfl rfl h_rx1 rfl (Nat.le_of_ble_eq_true rfl) (Nat.le_of_ble_eq_true rfl) rfl (k_X1_slotOf (d) (T := T) (σ := σ) (a := rx1) (f := 0) (m := i2) h_rx1 (by decide) (by omega) hw (by omega)) (fun r7 T9 σ8 gt10 hp => ?_)
      obtain ⟨v13, rfl, rfl, rfl, f11, f12⟩ := hp
      clear gt10
      show Tn _ _ 45 T σ [(0, .ref a), (1, .ref rx1), (2, .int (iI i2))] [.int (iI v13), .ref xt] _
      refine tn_iload_n dX10_begin_45 rfl 2 rfl ?_
      refine tn_aload_n dX10_begin_46 rfl 1 rfl ?_
      refine tn_getI (ci := 1) (i := 3) (n := 8) (t := σ0.2.1 8 rx1) dX10_begin_47 rfl lay_1 (by decide) fl10_86 h_rx1 rfl rfl (rc_F hF (Or.inl (by decide)) (by decide) (rfl)) ?_
      have g14 : ((0 : Int) ≤ σ0.2.1 8 rx1 ∧ σ0.2.1 8 rx1 ≤ 4) := wf_8 hw0 h_rx1
      refine tn_icmp_ge (tgt := 60) dX10_begin_50 (by decide) ⟨by omega, by omega⟩ ⟨by omega, by omega⟩ (fun h15 => ?_) (fun h15 => ?_)
      · refine tn_iconst dX10_begin_60 ?_
        refine tn_callSN (M := m_X10_begin) (pc := 61) (ix := 26) (M' := m_X11_put) (As := [.ref xt, .int (iI v13), .int (iI 5)]) (rest := []) dX10_begin_61 ok_X11_put stt_X11_put nl10_26 np_X11_put rfl (Nat.le_of_ble_eq_true rfl) (Nat.le_of_ble_eq_true rfl) rfl (k_X11_put_x (d) (T := T) (σ := σ) (x := xt) (i := v13) (y := 5) hk5i (by omega) (by omega) (by decide) hw (nh_k hk5 (by unfold HT; omega)) (vok_1 (by have q9 := hk5; omega) (by omega))) (fun r16 T18 σ17 gt19 hp => ?_)
        obtain ⟨rfl, rfl, w23, F24, f20, f21⟩ := hp
        clear gt19
        show Tn _ _ 64 T σ17 [(0, .ref a), (1, .ref rx1), (2, .int (iI i2))] [] _
        refine tn_iinc (q0 := 2) (L' := [(2, .int (iI (i2 + 1))), (0, .ref a), (1, .ref rx1)]) dX10_begin_64 rfl (by decide) rfl ?_
        refine tn_goto (tgt := 27) dX10_begin_67 (by decide) ?_
        exact tn_sub [1, 2, 0] rfl (ih _ (by omega) (i2 + 1) σ17 w23 ((FrC.rfl.trans (FrC.sub hF (by decide))).trans (FrC.sub F24 (by decide))) (by omega) (hC.trans (CHX.sub f20 (by simp) (by simp) (by simp))) rfl)
      · refine tn_bipush dX10_begin_53 (by decide) ?_
        refine tn_iload_n dX10_begin_55 rfl 2 rfl ?_
        refine tn_iadd dX10_begin_56 ?_
        refine tn_goto (tgt := 61) dX10_begin_57 (by decide) ?_
        refine tn_callSN (M := m_X10_begin) (pc := 61) (ix := 26) (M' := m_X11_put) (As := [.ref xt, .int (iI v13), .int (iI (6 + i2))]) (rest := []) dX10_begin_61 ok_X11_put stt_X11_put nl10_26 np_X11_put rfl (Nat.le_of_ble_eq_true rfl) (Nat.le_of_ble_eq_true rfl) rfl (k_X11_put_x (d) (T := T) (σ := σ) (x := xt) (i := v13) (y := 6 + i2) hk5i (by omega) (by omega) (by omega) hw (nh_k hk5 (by unfold HT; omega)) (vok_1 (by have q9 := hk5; omega) (by omega))) (fun r25 T27 σ26 gt28 hp => ?_)
        obtain ⟨rfl, rfl, w32, F33, f29, f30⟩ := hp
        clear gt28
        show Tn _ _ 64 T σ26 [(0, .ref a), (1, .ref rx1), (2, .int (iI i2))] [] _
        refine tn_iinc (q0 := 2) (L' := [(2, .int (iI (i2 + 1))), (0, .ref a), (1, .ref rx1)]) dX10_begin_64 rfl (by decide) rfl ?_
        refine tn_goto (tgt := 27) dX10_begin_67 (by decide) ?_
        exact tn_sub [1, 2, 0] rfl (ih _ (by omega) (i2 + 1) σ26 w32 ((FrC.rfl.trans (FrC.sub hF (by decide))).trans (FrC.sub F33 (by decide))) (by omega) (hC.trans (CHX.sub f29 (by simp) (by simp) (by simp))) rfl)
set_option maxHeartbeats 1000000 in
set_option maxRecDepth 20000 in
theorem k_X10_begin_h (d : Nat) {T : CT} {σ : MS} {a : Nat} {p1 : Nat} {xt : Nat} (ha : OB T a 10) (h_p1 : OB T p1 1) (t_p1 : (T p1).1 = 50) (hw : WT T σ) (hxt : σ.2.1 92 a = (xt : Int)) : Tn (d + 2) m_X10_begin 0 T σ [(0, .ref a), (1, .ref p1)] [] (fun ro T2 σ2 => ro = none ∧ T = T2 ∧ WT T2 σ2 ∧ FrC T [] σ σ2 ∧ (CHX [] [xt] [] σ σ2)) := by
  refine tn_iconst dX10_begin_0 ?_
  refine tn_istore_n (L' := [(2, .int (iI 0)), (0, .ref a), (1, .ref p1)]) dX10_begin_1 rfl (by decide) rfl ?_
  refine tn_sub [1, 2, 0] rfl (l_X10_begin_h_2 (d) (T := T) (σ0 := σ) (a := a) (rx1 := p1) (xt := xt) ha h_p1 t_p1 hw (hxt) (fun i21 σ2 w5 F6 r7 f8 => ?_) _ (0) σ hw FrC.rfl (by omega) CHX.rfl rfl)
  show Tn _ _ 25 T σ2 [(0, .ref a), (1, .ref p1), (2, .int (iI i21))] [] _
  refine tn_iconst dX10_begin_25 ?_
  refine tn_istore_n (L' := [(2, .int (iI 0)), (0, .ref a), (1, .ref p1)]) dX10_begin_26 rfl (by decide) rfl ?_
  refine tn_sub [1, 2, 0] rfl (l_X10_begin_h_27 (d) (T := T) (σ0 := σ2) (a := a) (rx1 := p1) (xt := xt) ha h_p1 t_p1 w5 (rc_F F6 (Or.inl (by decide)) (by decide) (hxt)) (fun i29 σ10 w13 F14 r15 f16 => ?_) _ (0) σ2 w5 FrC.rfl (by omega) CHX.rfl rfl)
  show Tn _ _ 70 T σ10 [(0, .ref a), (1, .ref p1), (2, .int (iI i29))] [] _
  exact tn_vret rfl dX10_begin_70 ⟨rfl, rfl, w13, ((FrC.rfl.trans (FrC.sub F6 (by decide))).trans (FrC.sub F14 (by decide))), ((CHX.rfl.trans (CHX.sub f8 (by simp) (by simp) (by simp))).trans (CHX.sub f16 (by simp) (by simp) (by simp)))⟩
end
section
set_option maxHeartbeats 1000000 in
set_option maxRecDepth 20000 in
theorem l_X10_comeTo_h_15 (d : Nat) {T : CT} {σ0 : MS} {a : Nat} {c2 : Int} {xt : Nat} {post : Option Value → CT → MS → Prop} (h_a : OB T a 10) (r_c2 : 0 ≤ c2 ∧ c2 ≤ 200) (hw0 : WT T σ0) (hxt : σ0.2.1 92 a = (xt : Int)) (hx_100 : ∀ (i3 : Int) (σ : MS) , (WT T σ) → (FrC T [94] σ0 σ) → (0 ≤ i3 ∧ i3 ≤ 2147483647) → (CHX [(94, a)] [xt] [] σ0 σ) → Tn (d + 2) m_X10_comeTo 100 T σ [(0, .ref a), (2, .int (iI c2)), (3, .int (iI i3))] [] post) : ∀ (nq9 : Nat) (i3 : Int) (σ : MS) , (WT T σ) → (FrC T [94] σ0 σ) → (0 ≤ i3 ∧ i3 ≤ 2147483647) → (CHX [(94, a)] [xt] [] σ0 σ) → (2147483700 - i3).toNat = nq9 → Tn (d + 2) m_X10_comeTo 15 T σ [(0, .ref a), (2, .int (iI c2)), (3, .int (iI i3))] [] post := by
  intro nq9
  induction nq9 using Nat.strongRecOn with
  | _ nq9 ih =>
    intro i3 σ hw hF r_i3 hC hm
    refine tn_iload_n dX10_comeTo_15 rfl 2 rfl ?_
    refine tn_aload_n dX10_comeTo_16 rfl 0 rfl ?_
    refine tn_getI (ci := 10) (i := 5) (n := 93) (t := σ0.2.1 93 a) dX10_comeTo_17 rfl lay_10 (by decide) fl10_50 h_a rfl rfl (rc_F hF (Or.inl (by decide)) (by decide) (rfl)) ?_
    have g1 : ((0 : Int) ≤ σ0.2.1 93 a ∧ σ0.2.1 93 a ≤ 145) := wf_93 hw0 h_a
    refine tn_icmp_ge (tgt := 100) dX10_comeTo_20 (by decide) ⟨by omega, by omega⟩ ⟨by omega, by omega⟩ (fun h2 => ?_) (fun h2 => ?_)
    · exact tn_sub [0, 1, 2] rfl (hx_100 (i3) σ hw (FrC.rfl.trans (FrC.sub hF (by decide))) (by omega) hC)
    · refine tn_aload_n dX10_comeTo_23 rfl 0 rfl ?_
      obtain ⟨hk5, hl6⟩ : AR T xt 1 0 32788 := ar_of ((wf_92 hw0 h_a).resolve_left (by omega)) hxt
      have hk5i : IA T xt := by unfold IA; omega
      refine tn_getR (ci := 10) (i := 4) (n := 92) (x := xt) dX10_comeTo_24 rfl lay_10 (by decide) fl10_61 h_a rfl rfl (rc_F hF (Or.inl (by decide)) (by decide) (hxt)) ?_
      refine tn_iload_n dX10_comeTo_27 rfl 1 rfl ?_
      refine tn_aload_n dX10_comeTo_28 rfl 0 rfl ?_
      refine tn_getI (ci := 10) (i := 5) (n := 93) (t := σ0.2.1 93 a) dX10_comeTo_29 rfl lay_10 (by decide) fl10_50 h_a rfl rfl (rc_F hF (Or.inl (by decide)) (by decide) (rfl)) ?_
      refine tn_imul dX10_comeTo_32 ?_
      have g8 : 0 ≤ c2 * (σ0.2.1 93 a) ∧ c2 * (σ0.2.1 93 a) ≤ 29000 := mul_rng (b := 200) (d := 145) (by omega) (by omega) (by omega) (by omega) (by decide) (by decide)
      generalize c2 * (σ0.2.1 93 a) = z7 at g8 ⊢
      refine tn_iload_n dX10_comeTo_33 rfl 2 rfl ?_
      refine tn_iadd dX10_comeTo_34 ?_
      refine tn_callSN (M := m_X10_comeTo) (pc := 35) (ix := 40) (M' := m_X11_at) (As := [.ref xt, .int (iI (z7 + i3))]) (rest := []) dX10_comeTo_35 ok_X11_at stt_X11_at nl10_40 np_X11_at rfl (Nat.le_of_ble_eq_true rfl) (Nat.le_of_ble_eq_true rfl) rfl (k_X11_at (d) (T := T) (σ := σ) (x := xt) (i := z7 + i3) hk5i (by omega) (by omega) hw ) (fun r9 T11 σ10 gt12 hp => ?_)
      obtain ⟨v16, rfl, rfl, rfl, f13, f14, f15⟩ := hp
      clear gt12
      clear f14
      show Tn _ _ 38 T σ [(0, .ref a), (2, .int (iI c2)), (3, .int (iI i3))] [.int (iI v16)] _
      refine tn_istore (L' := [(4, .int (iI v16)), (0, .ref a), (2, .int (iI c2)), (3, .int (iI i3))]) dX10_comeTo_38 (by decide) rfl ?_
      refine tn_aload_n dX10_comeTo_40 rfl 1 rfl ?_
      obtain ⟨xq17, hx18, hk19, hl20⟩ : ∃ x : Nat, σ0.2.1 91 a = (x : Int) ∧ AR T x 1 145 145 := wf_91 hw0 h_a
      have hk19i : IA T xq17 := by unfold IA; omega
      refine tn_getR (ci := 10) (i := 3) (n := 91) (x := xq17) dX10_comeTo_41 rfl lay_10 (by decide) fl10_23 h_a rfl rfl (rc_F hF (Or.inl (by decide)) (by decide) (hx18)) ?_
      refine tn_iload_n dX10_comeTo_44 rfl 3 rfl ?_
      refine tn_callSN (M := m_X10_comeTo) (pc := 45) (ix := 40) (M' := m_X11_at) (As := [.ref xq17, .int (iI i3)]) (rest := []) dX10_comeTo_45 ok_X11_at stt_X11_at nl10_40 np_X11_at rfl (Nat.le_of_ble_eq_true rfl) (Nat.le_of_ble_eq_true rfl) rfl (k_X11_at (d) (T := T) (σ := σ) (x := xq17) (i := i3) hk19i (by omega) (by omega) hw ) (fun r21 T23 σ22 gt24 hp => ?_)
      obtain ⟨v28, rfl, rfl, rfl, f25, f26, f27⟩ := hp
      clear gt24
      clear f26
      show Tn _ _ 48 T σ [(4, .int (iI v16)), (0, .ref a), (2, .int (iI c2)), (3, .int (iI i3))] [.int (iI v28)] _
      refine tn_istore (L' := [(5, .int (iI v28)), (4, .int (iI v16)), (0, .ref a), (2, .int (iI c2)), (3, .int (iI i3))]) dX10_comeTo_48 (by decide) rfl ?_
      refine tn_iload dX10_comeTo_50 1 rfl ?_
      refine tn_iload dX10_comeTo_52 0 rfl ?_
      refine tn_icmp_eq (tgt := 94) dX10_comeTo_54 (by decide) ⟨by omega, by omega⟩ ⟨by omega, by omega⟩ (fun h29 => ?_) (fun h29 => ?_)
      · refine tn_iinc (q0 := 4) (L' := [(3, .int (iI (i3 + 1))), (5, .int (iI v28)), (4, .int (iI v16)), (0, .ref a), (2, .int (iI c2))]) dX10_comeTo_94 rfl (by decide) rfl ?_
        refine tn_goto (tgt := 15) dX10_comeTo_97 (by decide) ?_
        exact tn_sub [3, 4, 0] rfl (ih _ (by omega) (i3 + 1) σ hw (FrC.rfl.trans (FrC.sub hF (by decide))) (by omega) hC rfl)
      · refine tn_iload dX10_comeTo_57 1 rfl ?_
        refine tn_iconst dX10_comeTo_59 ?_
        refine tn_icmp_eq (tgt := 94) dX10_comeTo_60 (by decide) ⟨by omega, by omega⟩ ⟨by decide, by decide⟩ (fun h30 => ?_) (fun h30 => ?_)
        · refine tn_iinc (q0 := 4) (L' := [(3, .int (iI (i3 + 1))), (5, .int (iI v28)), (4, .int (iI v16)), (0, .ref a), (2, .int (iI c2))]) dX10_comeTo_94 rfl (by decide) rfl ?_
          refine tn_goto (tgt := 15) dX10_comeTo_97 (by decide) ?_
          exact tn_sub [3, 4, 0] rfl (ih _ (by omega) (i3 + 1) σ hw (FrC.rfl.trans (FrC.sub hF (by decide))) (by omega) hC rfl)
        · refine tn_aload_n dX10_comeTo_63 rfl 2 rfl ?_
          refine tn_getR (ci := 10) (i := 4) (n := 92) (x := xt) dX10_comeTo_64 rfl lay_10 (by decide) fl10_61 h_a rfl rfl (rc_F hF (Or.inl (by decide)) (by decide) (hxt)) ?_
          refine tn_iload_n dX10_comeTo_67 rfl 3 rfl ?_
          refine tn_aload_n dX10_comeTo_68 rfl 2 rfl ?_
          refine tn_getI (ci := 10) (i := 5) (n := 93) (t := σ0.2.1 93 a) dX10_comeTo_69 rfl lay_10 (by decide) fl10_50 h_a rfl rfl (rc_F hF (Or.inl (by decide)) (by decide) (rfl)) ?_
          refine tn_imul dX10_comeTo_72 ?_
          have g32 : 0 ≤ c2 * (σ0.2.1 93 a) ∧ c2 * (σ0.2.1 93 a) ≤ 29000 := mul_rng (b := 200) (d := 145) (by omega) (by omega) (by omega) (by omega) (by decide) (by decide)
          generalize c2 * (σ0.2.1 93 a) = z31 at g32 ⊢
          refine tn_iload_n dX10_comeTo_73 rfl 4 rfl ?_
          refine tn_iadd dX10_comeTo_74 ?_
          refine tn_iload dX10_comeTo_75 1 rfl ?_
          refine tn_if_ne (tgt := 85) dX10_comeTo_77 (by decide) ⟨by omega, by omega⟩ (fun h33 => ?_) (fun h33 => ?_)
          · refine tn_iconst dX10_comeTo_85 ?_
            refine tn_callSN (M := m_X10_comeTo) (pc := 86) (ix := 26) (M' := m_X11_put) (As := [.ref xt, .int (iI (z31 + i3)), .int (iI 4)]) (rest := []) dX10_comeTo_86 ok_X11_put stt_X11_put nl10_26 np_X11_put rfl (Nat.le_of_ble_eq_true rfl) (Nat.le_of_ble_eq_true rfl) rfl (k_X11_put_x (d) (T := T) (σ := σ) (x := xt) (i := z31 + i3) (y := 4) hk5i (by omega) (by omega) (by decide) hw (nh_k hk5 (by unfold HT; omega)) (vok_1 (by have q9 := hk5; omega) (by omega))) (fun r34 T36 σ35 gt37 hp => ?_)
            obtain ⟨rfl, rfl, w41, F42, f38, f39⟩ := hp
            clear gt37
            show Tn _ _ 89 T σ35 [(5, .int (iI v28)), (4, .int (iI v16)), (0, .ref a), (2, .int (iI c2)), (3, .int (iI i3))] [] _
            refine tn_aload_n dX10_comeTo_89 rfl 2 rfl ?_
            refine tn_iconst dX10_comeTo_90 ?_
            refine tn_putV (ci := 10) (i := 6) (n := 94) (r := false) (v := 1) tyX10 tyX10_ok nmX10 dX10_comeTo_91 rfl lay_10 (by decide) fl10_78 rfl (tyX10_ok 6 (by decide)) rfl rfl rfl h_a rfl rfl ?_
            refine tn_iinc (q0 := 4) (L' := [(3, .int (iI (i3 + 1))), (5, .int (iI v28)), (4, .int (iI v16)), (0, .ref a), (2, .int (iI c2))]) dX10_comeTo_94 rfl (by decide) rfl ?_
            refine tn_goto (tgt := 15) dX10_comeTo_97 (by decide) ?_
            exact tn_sub [3, 4, 0] rfl (ih _ (by omega) (i3 + 1) (sA 94 a (1) σ35) (w41.put (by decide) (by decide) (fo_94 (by omega))) (((FrC.rfl.trans (FrC.sub hF (by decide))).trans (FrC.sub F42 (by decide))).put (by decide) (by decide)) (by omega) ((hC.trans (CHX.sub f38 (by simp) (by simp) (by simp))).fld (by simp) (by decide)) rfl)
          · refine tn_iload dX10_comeTo_80 0 rfl ?_
            refine tn_goto (tgt := 86) dX10_comeTo_82 (by decide) ?_
            refine tn_callSN (M := m_X10_comeTo) (pc := 86) (ix := 26) (M' := m_X11_put) (As := [.ref xt, .int (iI (z31 + i3)), .int (iI v28)]) (rest := []) dX10_comeTo_86 ok_X11_put stt_X11_put nl10_26 np_X11_put rfl (Nat.le_of_ble_eq_true rfl) (Nat.le_of_ble_eq_true rfl) rfl (k_X11_put_x (d) (T := T) (σ := σ) (x := xt) (i := z31 + i3) (y := v28) hk5i (by omega) (by omega) (by omega) hw (nh_k hk5 (by unfold HT; omega)) (vok_1 (by have q9 := hk5; omega) (by omega))) (fun r43 T45 σ44 gt46 hp => ?_)
            obtain ⟨rfl, rfl, w50, F51, f47, f48⟩ := hp
            clear gt46
            show Tn _ _ 89 T σ44 [(5, .int (iI v28)), (4, .int (iI v16)), (0, .ref a), (2, .int (iI c2)), (3, .int (iI i3))] [] _
            refine tn_aload_n dX10_comeTo_89 rfl 2 rfl ?_
            refine tn_iconst dX10_comeTo_90 ?_
            refine tn_putV (ci := 10) (i := 6) (n := 94) (r := false) (v := 1) tyX10 tyX10_ok nmX10 dX10_comeTo_91 rfl lay_10 (by decide) fl10_78 rfl (tyX10_ok 6 (by decide)) rfl rfl rfl h_a rfl rfl ?_
            refine tn_iinc (q0 := 4) (L' := [(3, .int (iI (i3 + 1))), (5, .int (iI v28)), (4, .int (iI v16)), (0, .ref a), (2, .int (iI c2))]) dX10_comeTo_94 rfl (by decide) rfl ?_
            refine tn_goto (tgt := 15) dX10_comeTo_97 (by decide) ?_
            exact tn_sub [3, 4, 0] rfl (ih _ (by omega) (i3 + 1) (sA 94 a (1) σ44) (w50.put (by decide) (by decide) (fo_94 (by omega))) (((FrC.rfl.trans (FrC.sub hF (by decide))).trans (FrC.sub F51 (by decide))).put (by decide) (by decide)) (by omega) ((hC.trans (CHX.sub f47 (by simp) (by simp) (by simp))).fld (by simp) (by decide)) rfl)
set_option maxHeartbeats 1000000 in
set_option maxRecDepth 20000 in
theorem k_X10_comeTo_h (d : Nat) {T : CT} {σ : MS} {a : Nat} {p1 : Nat} {p2 : Int} {xt : Nat} (ha : OB T a 10) (h_p1 : OB T p1 1) (t_p1 : (T p1).1 = 50) (h_p2 : -2147483648 ≤ p2 ∧ p2 ≤ 2147483647) (hw : WT T σ) (hxt : σ.2.1 92 a = (xt : Int)) : Tn (d + 2) m_X10_comeTo 0 T σ [(0, .ref a), (1, .ref p1), (2, .int (iI p2))] [] (fun ro T2 σ2 => ro = none ∧ T = T2 ∧ WT T2 σ2 ∧ FrC T [94] σ σ2 ∧ (CHX [(94, a)] [xt] [] σ σ2)) := by
  refine tn_iload_n dX10_comeTo_0 rfl 2 rfl ?_
  refine tn_if_lt (tgt := 12) dX10_comeTo_1 (by decide) ⟨by omega, by omega⟩ (fun h1 => ?_) (fun h1 => ?_)
  · exact tn_vret rfl dX10_comeTo_12 ⟨rfl, rfl, hw, FrC.rfl, CHX.rfl⟩
  · refine tn_iload_n dX10_comeTo_4 rfl 2 rfl ?_
    refine tn_aload_n dX10_comeTo_5 rfl 1 rfl ?_
    refine tn_getI (ci := 1) (i := 1) (n := 6) (t := σ.2.1 6 p1) dX10_comeTo_6 rfl lay_1 (by decide) fl10_53 h_p1 rfl rfl (rfl) ?_
    have g2 : ((0 : Int) ≤ σ.2.1 6 p1 ∧ σ.2.1 6 p1 ≤ 5000) ∧ ((T p1).1 = 50 → σ.2.1 6 p1 ≤ 200) := wf_6 hw h_p1
    have g2x := g2.2
    replace g2 := g2.1
    have g2x := g2x t_p1
    refine tn_icmp_le (tgt := 13) dX10_comeTo_9 (by decide) ⟨by omega, by omega⟩ ⟨by omega, by omega⟩ (fun h3 => ?_) (fun h3 => ?_)
    · refine tn_iconst dX10_comeTo_13 ?_
      refine tn_istore_n (L' := [(3, .int (iI 0)), (0, .ref a), (1, .ref p1), (2, .int (iI p2))]) dX10_comeTo_14 rfl (by decide) rfl ?_
      refine tn_sub [1, 3, 0] rfl (l_X10_comeTo_h_15 (d) (T := T) (σ0 := σ) (a := a) (c2 := p2) (xt := xt) ha (by omega) hw (hxt) (fun i34 σ5 w8 F9 r10 f11 => ?_) _ (0) σ hw FrC.rfl (by omega) CHX.rfl rfl)
      show Tn _ _ 100 T σ5 [(0, .ref a), (2, .int (iI p2)), (3, .int (iI i34))] [] _
      exact tn_vret rfl dX10_comeTo_100 ⟨rfl, rfl, w8, (FrC.rfl.trans (FrC.sub F9 (by decide))), (CHX.rfl.trans (CHX.sub f11 (by simp) (by simp) (by simp)))⟩
    · exact tn_vret rfl dX10_comeTo_12 ⟨rfl, rfl, hw, FrC.rfl, CHX.rfl⟩
end
section
set_option maxHeartbeats 1000000 in
set_option maxRecDepth 20000 in
theorem l_X10_goThrough_h_34 (d : Nat) {T : CT} {σ0 : MS} {a : Nat} {rx1 : Nat} {c2 : Int} {c3 : Int} {c4 : Int} {xs : Nat} {xt : Nat} {post : Option Value → CT → MS → Prop} (h_a : OB T a 10) (h_rx1 : OB T rx1 1) (t_rx1 : (T rx1).1 = 50) (r_c2 : -2147483648 ≤ c2 ∧ c2 ≤ 2147483647) (r_c3 : -2147483648 ≤ c3 ∧ c3 ≤ 2147483647) (r_c4 : -2147483648 ≤ c4 ∧ c4 ≤ 2147483647) (hw0 : WT T σ0) (hxs : σ0.2.1 91 a = (xs : Int)) (hxt : σ0.2.1 92 a = (xt : Int)) (hx_100 : ∀ (i5 : Int) (σ : MS) , (WT T σ) → (FrC T [] σ0 σ) → (0 ≤ i5 ∧ i5 ≤ 2147483647) → (CHX [(94, a)] [xs, xt] [] σ0 σ) → Tn (d + 4) m_X10_goThrough 100 T σ [(0, .ref a), (1, .ref rx1), (2, .int (iI c2)), (3, .int (iI c3)), (4, .int (iI c4)), (5, .int (iI i5))] [] post) : ∀ (nq9 : Nat) (i5 : Int) (σ : MS) , (WT T σ) → (FrC T [] σ0 σ) → (0 ≤ i5 ∧ i5 ≤ 2147483647) → (CHX [(94, a)] [xs, xt] [] σ0 σ) → (2147483700 - i5).toNat = nq9 → Tn (d + 4) m_X10_goThrough 34 T σ [(0, .ref a), (1, .ref rx1), (2, .int (iI c2)), (3, .int (iI c3)), (4, .int (iI c4)), (5, .int (iI i5))] [] post := by
  intro nq9
  induction nq9 using Nat.strongRecOn with
  | _ nq9 ih =>
    intro i5 σ hw hF r_i5 hC hm
    refine tn_iload dX10_goThrough_34 5 rfl ?_
    refine tn_aload_n dX10_goThrough_36 rfl 0 rfl ?_
    refine tn_getI (ci := 10) (i := 5) (n := 93) (t := σ0.2.1 93 a) dX10_goThrough_37 rfl lay_10 (by decide) fl10_50 h_a rfl rfl (rc_F hF (Or.inl (by decide)) (by decide) (rfl)) ?_
    have g1 : ((0 : Int) ≤ σ0.2.1 93 a ∧ σ0.2.1 93 a ≤ 145) := wf_93 hw0 h_a
    refine tn_icmp_ge (tgt := 100) dX10_goThrough_40 (by decide) ⟨by omega, by omega⟩ ⟨by omega, by omega⟩ (fun h2 => ?_) (fun h2 => ?_)
    · exact tn_sub [0, 1, 2, 3, 4, 5] rfl (hx_100 (i5) σ hw (FrC.rfl.trans (FrC.sub hF (by decide))) (by omega) hC)
    · refine tn_aload_n dX10_goThrough_43 rfl 0 rfl ?_
      obtain ⟨hk5, hl6⟩ : AR T xt 1 0 32788 := ar_of ((wf_92 hw0 h_a).resolve_left (by omega)) hxt
      have hk5i : IA T xt := by unfold IA; omega
      refine tn_getR (ci := 10) (i := 4) (n := 92) (x := xt) dX10_goThrough_44 rfl lay_10 (by decide) fl10_61 h_a rfl rfl (rc_F hF (Or.inl (by decide)) (by decide) (hxt)) ?_
      refine tn_iload_n dX10_goThrough_47 rfl 2 rfl ?_
      refine tn_aload_n dX10_goThrough_48 rfl 0 rfl ?_
      refine tn_getI (ci := 10) (i := 5) (n := 93) (t := σ0.2.1 93 a) dX10_goThrough_49 rfl lay_10 (by decide) fl10_50 h_a rfl rfl (rc_F hF (Or.inl (by decide)) (by decide) (rfl)) ?_
      refine tn_imul dX10_goThrough_52 ?_
      refine tn_any (fun z7 g8 => ?_)
      have g8r : -2147483648 ≤ z7 ∧ z7 ≤ 2147483647 := g8
      refine tn_iload dX10_goThrough_53 5 rfl ?_
      refine tn_iadd dX10_goThrough_55 ?_
      refine tn_any (fun z9 g10 => ?_)
      have g10r : -2147483648 ≤ z9 ∧ z9 ≤ 2147483647 := g10
      refine tn_callSN (M := m_X10_goThrough) (pc := 56) (ix := 40) (M' := m_X11_at) (As := [.ref xt, .int (iI z9)]) (rest := []) dX10_goThrough_56 ok_X11_at stt_X11_at nl10_40 np_X11_at rfl (Nat.le_of_ble_eq_true rfl) (Nat.le_of_ble_eq_true rfl) rfl (k_X11_at (d + 2) (T := T) (σ := σ) (x := xt) (i := z9) hk5i (by omega) (by omega) hw ) (fun r11 T13 σ12 gt14 hp => ?_)
      obtain ⟨v18, rfl, rfl, rfl, f15, f16, f17⟩ := hp
      clear gt14
      clear f16
      show Tn _ _ 59 T σ [(0, .ref a), (1, .ref rx1), (2, .int (iI c2)), (3, .int (iI c3)), (4, .int (iI c4)), (5, .int (iI i5))] [.int (iI v18)] _
      refine tn_istore (L' := [(6, .int (iI v18)), (0, .ref a), (1, .ref rx1), (2, .int (iI c2)), (3, .int (iI c3)), (4, .int (iI c4)), (5, .int (iI i5))]) dX10_goThrough_59 (by decide) rfl ?_
      refine tn_aload_n dX10_goThrough_61 rfl 1 rfl ?_
      obtain ⟨hk21, hl22⟩ : AR T xs 1 145 145 := ar_of (wf_91 hw0 h_a) hxs
      have hk21i : IA T xs := by unfold IA; omega
      refine tn_getR (ci := 10) (i := 3) (n := 91) (x := xs) dX10_goThrough_62 rfl lay_10 (by decide) fl10_23 h_a rfl rfl (rc_F hF (Or.inl (by decide)) (by decide) (hxs)) ?_
      refine tn_iload dX10_goThrough_65 6 rfl ?_
      refine tn_iload dX10_goThrough_67 5 rfl ?_
      refine tn_iconst dX10_goThrough_69 ?_
      refine tn_icmp_eq (tgt := 89) dX10_goThrough_70 (by decide) ⟨by omega, by omega⟩ ⟨by decide, by decide⟩ (fun h23 => ?_) (fun h23 => ?_)
      · refine tn_iload dX10_goThrough_89 0 rfl ?_
        refine tn_callSN (M := m_X10_goThrough) (pc := 91) (ix := 26) (M' := m_X11_put) (As := [.ref xs, .int (iI i5), .int (iI v18)]) (rest := []) dX10_goThrough_91 ok_X11_put stt_X11_put nl10_26 np_X11_put rfl (Nat.le_of_ble_eq_true rfl) (Nat.le_of_ble_eq_true rfl) rfl (k_X11_put_x (d + 2) (T := T) (σ := σ) (x := xs) (i := i5) (y := v18) hk21i (by omega) (by omega) (by omega) hw (nh_k hk21 (by unfold HT; omega)) (vok_1 (by have q9 := hk21; omega) (by omega))) (fun r24 T26 σ25 gt27 hp => ?_)
        obtain ⟨rfl, rfl, w31, F32, f28, f29⟩ := hp
        clear gt27
        show Tn _ _ 94 T σ25 [(6, .int (iI v18)), (0, .ref a), (1, .ref rx1), (2, .int (iI c2)), (3, .int (iI c3)), (4, .int (iI c4)), (5, .int (iI i5))] [] _
        refine tn_iinc (q0 := 6) (L' := [(5, .int (iI (i5 + 1))), (6, .int (iI v18)), (0, .ref a), (1, .ref rx1), (2, .int (iI c2)), (3, .int (iI c3)), (4, .int (iI c4))]) dX10_goThrough_94 rfl (by decide) rfl ?_
        refine tn_goto (tgt := 34) dX10_goThrough_97 (by decide) ?_
        exact tn_sub [2, 3, 4, 5, 6, 0] rfl (ih _ (by omega) (i5 + 1) σ25 w31 ((FrC.rfl.trans (FrC.sub hF (by decide))).trans (FrC.sub F32 (by decide))) (by omega) (hC.trans (CHX.sub f28 (by simp) (by simp) (by simp))) rfl)
      · refine tn_aload_n dX10_goThrough_73 rfl 1 rfl ?_
        refine tn_aload_n dX10_goThrough_74 rfl 2 rfl ?_
        refine tn_iload dX10_goThrough_75 0 rfl ?_
        refine tn_iload dX10_goThrough_77 5 rfl ?_
        refine tn_callV (M := m_X10_goThrough) (pc := 79) (ix := 100) (ci := 10) (M' := m_X10_leans) (As := [.ref rx1, .int (iI v18), .int (iI c4)]) (rest := [.int (iI i5), .ref xs]) dX10_goThrough_79 ok_X10_leans im_X10_leans se_X10_leans ml10_100 np_X10_leans rfl rfl h_a rfl (Nat.le_of_ble_eq_true rfl) (Nat.le_of_ble_eq_true rfl) rfl (k_X10_leans (d) (T := T) (σ := σ) (a := a) (p1 := rx1) (p2 := v18) (p3 := c4) h_a h_rx1 (by omega) (by omega) hw ) (fun r33 T35 σ34 gt36 hp => ?_)
        obtain ⟨v38, rfl, rfl, rfl, f37⟩ := hp
        clear gt36
        show Tn _ _ 82 T σ [(6, .int (iI v18)), (0, .ref a), (1, .ref rx1), (2, .int (iI c2)), (3, .int (iI c3)), (4, .int (iI c4)), (5, .int (iI i5))] [.int (iI v38), .int (iI i5), .ref xs] _
        refine tn_if_eq (tgt := 89) dX10_goThrough_82 (by decide) ⟨by omega, by omega⟩ (fun h39 => ?_) (fun h39 => ?_)
        · refine tn_iload dX10_goThrough_89 0 rfl ?_
          refine tn_callSN (M := m_X10_goThrough) (pc := 91) (ix := 26) (M' := m_X11_put) (As := [.ref xs, .int (iI i5), .int (iI v18)]) (rest := []) dX10_goThrough_91 ok_X11_put stt_X11_put nl10_26 np_X11_put rfl (Nat.le_of_ble_eq_true rfl) (Nat.le_of_ble_eq_true rfl) rfl (k_X11_put_x (d + 2) (T := T) (σ := σ) (x := xs) (i := i5) (y := v18) hk21i (by omega) (by omega) (by omega) hw (nh_k hk21 (by unfold HT; omega)) (vok_1 (by have q9 := hk21; omega) (by omega))) (fun r40 T42 σ41 gt43 hp => ?_)
          obtain ⟨rfl, rfl, w47, F48, f44, f45⟩ := hp
          clear gt43
          show Tn _ _ 94 T σ41 [(6, .int (iI v18)), (0, .ref a), (1, .ref rx1), (2, .int (iI c2)), (3, .int (iI c3)), (4, .int (iI c4)), (5, .int (iI i5))] [] _
          refine tn_iinc (q0 := 6) (L' := [(5, .int (iI (i5 + 1))), (6, .int (iI v18)), (0, .ref a), (1, .ref rx1), (2, .int (iI c2)), (3, .int (iI c3)), (4, .int (iI c4))]) dX10_goThrough_94 rfl (by decide) rfl ?_
          refine tn_goto (tgt := 34) dX10_goThrough_97 (by decide) ?_
          exact tn_sub [2, 3, 4, 5, 6, 0] rfl (ih _ (by omega) (i5 + 1) σ41 w47 ((FrC.rfl.trans (FrC.sub hF (by decide))).trans (FrC.sub F48 (by decide))) (by omega) (hC.trans (CHX.sub f44 (by simp) (by simp) (by simp))) rfl)
        · refine tn_iconst dX10_goThrough_85 ?_
          refine tn_goto (tgt := 91) dX10_goThrough_86 (by decide) ?_
          refine tn_callSN (M := m_X10_goThrough) (pc := 91) (ix := 26) (M' := m_X11_put) (As := [.ref xs, .int (iI i5), .int (iI 3)]) (rest := []) dX10_goThrough_91 ok_X11_put stt_X11_put nl10_26 np_X11_put rfl (Nat.le_of_ble_eq_true rfl) (Nat.le_of_ble_eq_true rfl) rfl (k_X11_put_x (d + 2) (T := T) (σ := σ) (x := xs) (i := i5) (y := 3) hk21i (by omega) (by omega) (by decide) hw (nh_k hk21 (by unfold HT; omega)) (vok_1 (by have q9 := hk21; omega) (by omega))) (fun r49 T51 σ50 gt52 hp => ?_)
          obtain ⟨rfl, rfl, w56, F57, f53, f54⟩ := hp
          clear gt52
          show Tn _ _ 94 T σ50 [(6, .int (iI v18)), (0, .ref a), (1, .ref rx1), (2, .int (iI c2)), (3, .int (iI c3)), (4, .int (iI c4)), (5, .int (iI i5))] [] _
          refine tn_iinc (q0 := 6) (L' := [(5, .int (iI (i5 + 1))), (6, .int (iI v18)), (0, .ref a), (1, .ref rx1), (2, .int (iI c2)), (3, .int (iI c3)), (4, .int (iI c4))]) dX10_goThrough_94 rfl (by decide) rfl ?_
          refine tn_goto (tgt := 34) dX10_goThrough_97 (by decide) ?_
          exact tn_sub [2, 3, 4, 5, 6, 0] rfl (ih _ (by omega) (i5 + 1) σ50 w56 ((FrC.rfl.trans (FrC.sub hF (by decide))).trans (FrC.sub F57 (by decide))) (by omega) (hC.trans (CHX.sub f53 (by simp) (by simp) (by simp))) rfl)
set_option maxHeartbeats 1000000 in
set_option maxRecDepth 20000 in
theorem l_X10_goThrough_h_148 (d : Nat) {T : CT} {σ0 : MS} {a : Nat} {rx1 : Nat} {c2 : Int} {c3 : Int} {c5 : Int} {xs : Nat} {xt : Nat} {post : Option Value → CT → MS → Prop} (h_a : OB T a 10) (h_rx1 : OB T rx1 1) (t_rx1 : (T rx1).1 = 50) (r_c2 : -2147483648 ≤ c2 ∧ c2 ≤ 2147483647) (r_c3 : -2147483648 ≤ c3 ∧ c3 ≤ 2147483647) (r_c5 : -2147483648 ≤ c5 ∧ c5 ≤ 2147483647) (hw0 : WT T σ0) (hxs : σ0.2.1 91 a = (xs : Int)) (hxt : σ0.2.1 92 a = (xt : Int)) (hx_190 : ∀ (i6 : Int) (σ : MS) , (WT T σ) → (FrC T [] σ0 σ) → (0 ≤ i6 ∧ i6 ≤ 2147483647) → (CHX [(94, a)] [xs, xt] [] σ0 σ) → Tn (d + 4) m_X10_goThrough 190 T σ [(0, .ref a), (1, .ref rx1), (2, .int (iI c2)), (3, .int (iI c3)), (5, .int (iI c5)), (6, .int (iI i6))] [] post) : ∀ (nq9 : Nat) (i6 : Int) (σ : MS) , (WT T σ) → (FrC T [] σ0 σ) → (0 ≤ i6 ∧ i6 ≤ 2147483647) → (CHX [(94, a)] [xs, xt] [] σ0 σ) → (2147483700 - i6).toNat = nq9 → Tn (d + 4) m_X10_goThrough 148 T σ [(0, .ref a), (1, .ref rx1), (2, .int (iI c2)), (3, .int (iI c3)), (5, .int (iI c5)), (6, .int (iI i6))] [] post := by
  intro nq9
  induction nq9 using Nat.strongRecOn with
  | _ nq9 ih =>
    intro i6 σ hw hF r_i6 hC hm
    refine tn_iload_n dX10_goThrough_148 rfl 3 rfl ?_
    refine tn_bipush dX10_goThrough_149 (by decide) ?_
    refine tn_icmp_ne (tgt := 190) dX10_goThrough_151 (by decide) ⟨by omega, by omega⟩ ⟨by decide, by decide⟩ (fun h1 => ?_) (fun h1 => ?_)
    · exact tn_sub [0, 1, 2, 3, 4, 5] rfl (hx_190 (i6) σ hw (FrC.rfl.trans (FrC.sub hF (by decide))) (by omega) hC)
    · refine tn_iload dX10_goThrough_154 5 rfl ?_
      refine tn_aload_n dX10_goThrough_156 rfl 1 rfl ?_
      obtain ⟨xq2, hx3, hk4, hl5⟩ : ∃ x : Nat, σ0.2.1 14 rx1 = (x : Int) ∧ AR T x 11 12 12 := wf_14 hw0 h_rx1
      have hk4i : IA T xq2 := by unfold IA; omega
      refine tn_getR (ci := 1) (i := 9) (n := 14) (x := xq2) dX10_goThrough_157 rfl lay_1 (by decide) fl10_104 h_rx1 rfl rfl (rc_F hF (Or.inl (by decide)) (by decide) (hx3)) ?_
      refine tn_iload dX10_goThrough_160 4 rfl ?_
      refine tn_callSN (M := m_X10_goThrough) (pc := 162) (ix := 40) (M' := m_X11_at) (As := [.ref xq2, .int (iI c5)]) (rest := [.int (iI i6)]) dX10_goThrough_162 ok_X11_at stt_X11_at nl10_40 np_X11_at rfl (Nat.le_of_ble_eq_true rfl) (Nat.le_of_ble_eq_true rfl) rfl (k_X11_at (d + 2) (T := T) (σ := σ) (x := xq2) (i := c5) hk4i (by omega) (by omega) hw ) (fun r6 T8 σ7 gt9 hp => ?_)
      obtain ⟨v13, rfl, rfl, rfl, f10, f11, f12⟩ := hp
      clear gt9
      have f11n := f11.2.1 hk4
      clear f11
      show Tn _ _ 165 T σ [(0, .ref a), (1, .ref rx1), (2, .int (iI c2)), (3, .int (iI c3)), (5, .int (iI c5)), (6, .int (iI i6))] [.int (iI v13), .int (iI i6)] _
      refine tn_icmp_ge (tgt := 190) dX10_goThrough_165 (by decide) ⟨by omega, by omega⟩ ⟨by omega, by omega⟩ (fun h14 => ?_) (fun h14 => ?_)
      · exact tn_sub [0, 1, 2, 3, 4, 5] rfl (hx_190 (i6) σ hw (FrC.rfl.trans (FrC.sub hF (by decide))) (by omega) hC)
      · refine tn_aload_n dX10_goThrough_168 rfl 0 rfl ?_
        obtain ⟨hk17, hl18⟩ : AR T xs 1 145 145 := ar_of (wf_91 hw0 h_a) hxs
        have hk17i : IA T xs := by unfold IA; omega
        refine tn_getR (ci := 10) (i := 3) (n := 91) (x := xs) dX10_goThrough_169 rfl lay_10 (by decide) fl10_23 h_a rfl rfl (rc_F hF (Or.inl (by decide)) (by decide) (hxs)) ?_
        refine tn_aload_n dX10_goThrough_172 rfl 1 rfl ?_
        refine tn_iload dX10_goThrough_173 4 rfl ?_
        refine tn_iload dX10_goThrough_175 5 rfl ?_
        refine tn_callV (M := m_X10_goThrough) (pc := 177) (ix := 36) (ci := 1) (M' := m_X1_slotOf) (As := [.int (iI c5), .int (iI i6)]) (rest := [.ref xs]) dX10_goThrough_177 ok_X1_slotOf im_X1_slotOf se_X1_slotOf ml10_36 np_X1_slotOf rfl rfl h_rx1 rfl (Nat.le_of_ble_eq_true rfl) (Nat.le_of_ble_eq_true rfl) rfl (k_X1_slotOf_any (d + 2) (T := T) (σ := σ) (a := rx1) (f := c5) (m := i6) h_rx1 (by omega) (by omega) hw ) (fun r19 T21 σ20 gt22 hp => ?_)
        obtain ⟨v24, rfl, rfl, rfl, f23⟩ := hp
        clear gt22
        show Tn _ _ 180 T σ [(0, .ref a), (1, .ref rx1), (2, .int (iI c2)), (3, .int (iI c3)), (5, .int (iI c5)), (6, .int (iI i6))] [.int (iI v24), .ref xs] _
        refine tn_iconst dX10_goThrough_180 ?_
        refine tn_callSN (M := m_X10_goThrough) (pc := 181) (ix := 26) (M' := m_X11_put) (As := [.ref xs, .int (iI v24), .int (iI 1)]) (rest := []) dX10_goThrough_181 ok_X11_put stt_X11_put nl10_26 np_X11_put rfl (Nat.le_of_ble_eq_true rfl) (Nat.le_of_ble_eq_true rfl) rfl (k_X11_put_x (d + 2) (T := T) (σ := σ) (x := xs) (i := v24) (y := 1) hk17i (by omega) (by omega) (by decide) hw (nh_k hk17 (by unfold HT; omega)) (vok_1 (by have q9 := hk17; omega) (by omega))) (fun r25 T27 σ26 gt28 hp => ?_)
        obtain ⟨rfl, rfl, w32, F33, f29, f30⟩ := hp
        clear gt28
        show Tn _ _ 184 T σ26 [(0, .ref a), (1, .ref rx1), (2, .int (iI c2)), (3, .int (iI c3)), (5, .int (iI c5)), (6, .int (iI i6))] [] _
        refine tn_iinc (q0 := 5) (L' := [(6, .int (iI (i6 + 1))), (0, .ref a), (1, .ref rx1), (2, .int (iI c2)), (3, .int (iI c3)), (5, .int (iI c5))]) dX10_goThrough_184 rfl (by decide) rfl ?_
        refine tn_goto (tgt := 148) dX10_goThrough_187 (by decide) ?_
        exact tn_sub [1, 2, 3, 4, 5, 0] rfl (ih _ (by omega) (i6 + 1) σ26 w32 ((FrC.rfl.trans (FrC.sub hF (by decide))).trans (FrC.sub F33 (by decide))) (by omega) (hC.trans (CHX.sub f29 (by simp) (by simp) (by simp))) rfl)
set_option maxHeartbeats 1000000 in
set_option maxRecDepth 20000 in
theorem k_X10_goThrough_h (d : Nat) {T : CT} {σ : MS} {a : Nat} {p1 : Nat} {p2 : Int} {xs : Nat} {xt : Nat} (ha : OB T a 10) (h_p1 : OB T p1 1) (t_p1 : (T p1).1 = 50) (h_p2 : -2147483648 ≤ p2 ∧ p2 ≤ 2147483647) (hw : WT T σ) (hxs : σ.2.1 91 a = (xs : Int)) (hxt : σ.2.1 92 a = (xt : Int)) : Tn (d + 4) m_X10_goThrough 0 T σ [(0, .ref a), (1, .ref p1), (2, .int (iI p2))] [] (fun ro T2 σ2 => ro = none ∧ T = T2 ∧ WT T2 σ2 ∧ FrC T [94] σ σ2 ∧ (CHX [(94, a)] [xs, xt] [] σ σ2)) := by
  refine tn_aload_n dX10_goThrough_0 rfl 0 rfl ?_
  obtain ⟨hk3, hl4⟩ : AR T xt 1 0 32788 := ar_of ((wf_92 hw ha).resolve_left (by omega)) hxt
  have hk3i : IA T xt := by unfold IA; omega
  refine tn_getR (ci := 10) (i := 4) (n := 92) (x := xt) dX10_goThrough_1 rfl lay_10 (by decide) fl10_61 ha rfl rfl (hxt) ?_
  refine tn_iload_n dX10_goThrough_4 rfl 2 rfl ?_
  refine tn_aload_n dX10_goThrough_5 rfl 0 rfl ?_
  refine tn_getI (ci := 10) (i := 5) (n := 93) (t := σ.2.1 93 a) dX10_goThrough_6 rfl lay_10 (by decide) fl10_50 ha rfl rfl (rfl) ?_
  have g5 : ((0 : Int) ≤ σ.2.1 93 a ∧ σ.2.1 93 a ≤ 145) := wf_93 hw ha
  refine tn_imul dX10_goThrough_9 ?_
  refine tn_any (fun z6 g7 => ?_)
  have g7r : -2147483648 ≤ z6 ∧ z6 ≤ 2147483647 := g7
  refine tn_callSN (M := m_X10_goThrough) (pc := 10) (ix := 40) (M' := m_X11_at) (As := [.ref xt, .int (iI z6)]) (rest := []) dX10_goThrough_10 ok_X11_at stt_X11_at nl10_40 np_X11_at rfl (Nat.le_of_ble_eq_true rfl) (Nat.le_of_ble_eq_true rfl) rfl (k_X11_at (d + 2) (T := T) (σ := σ) (x := xt) (i := z6) hk3i (by omega) (by omega) hw ) (fun r8 T10 σ9 gt11 hp => ?_)
  obtain ⟨v15, rfl, rfl, rfl, f12, f13, f14⟩ := hp
  clear gt11
  clear f13
  show Tn _ _ 13 T σ [(0, .ref a), (1, .ref p1), (2, .int (iI p2))] [.int (iI v15)] _
  refine tn_if_ne (tgt := 17) dX10_goThrough_13 (by decide) ⟨by omega, by omega⟩ (fun h16 => ?_) (fun h16 => ?_)
  · refine tn_aload_n dX10_goThrough_17 rfl 1 rfl ?_
    refine tn_iload_n dX10_goThrough_18 rfl 2 rfl ?_
    refine tn_iconst dX10_goThrough_19 ?_
    refine tn_callV (M := m_X10_goThrough) (pc := 20) (ix := 44) (ci := 1) (M' := m_X1_get) (As := [.int (iI p2), .int (iI 0)]) (rest := []) dX10_goThrough_20 ok_X1_get im_X1_get se_X1_get ml10_44 np_X1_get rfl rfl h_p1 rfl (Nat.le_of_ble_eq_true rfl) (Nat.le_of_ble_eq_true rfl) rfl (k_X1_get (d + 2) (T := T) (σ := σ) (a := p1) (k := p2) (c := 0) h_p1 (by omega) (by decide) hw (by omega)) (fun r17 T19 σ18 gt20 hp => ?_)
    obtain ⟨v22, rfl, rfl, rfl, f21⟩ := hp
    clear gt20
    show Tn _ _ 23 T σ [(0, .ref a), (1, .ref p1), (2, .int (iI p2))] [.int (iI v22)] _
    refine tn_istore_n (L' := [(3, .int (iI v22)), (0, .ref a), (1, .ref p1), (2, .int (iI p2))]) dX10_goThrough_23 rfl (by decide) rfl ?_
    refine tn_aload_n dX10_goThrough_24 rfl 2 rfl ?_
    refine tn_iload_n dX10_goThrough_25 rfl 3 rfl ?_
    refine tn_callV (M := m_X10_goThrough) (pc := 26) (ix := 96) (ci := 1) (M' := m_X1_writtenBy) (As := [.int (iI p2)]) (rest := []) dX10_goThrough_26 ok_X1_writtenBy im_X1_writtenBy se_X1_writtenBy ml10_96 np_X1_writtenBy rfl rfl h_p1 rfl (Nat.le_of_ble_eq_true rfl) (Nat.le_of_ble_eq_true rfl) rfl (k_X1_writtenBy (d + 1) (T := T) (σ := σ) (a := p1) (k := p2) h_p1 (by omega) hw ) (fun r23 T25 σ24 gt26 hp => ?_)
    obtain ⟨v28, rfl, rfl, rfl, f27⟩ := hp
    clear gt26
    show Tn _ _ 29 T σ [(3, .int (iI v22)), (0, .ref a), (1, .ref p1), (2, .int (iI p2))] [.int (iI v28)] _
    refine tn_istore (L' := [(4, .int (iI v28)), (3, .int (iI v22)), (0, .ref a), (1, .ref p1), (2, .int (iI p2))]) dX10_goThrough_29 (by decide) rfl ?_
    refine tn_iconst dX10_goThrough_31 ?_
    refine tn_istore (L' := [(5, .int (iI 0)), (4, .int (iI v28)), (3, .int (iI v22)), (0, .ref a), (1, .ref p1), (2, .int (iI p2))]) dX10_goThrough_32 (by decide) rfl ?_
    refine tn_sub [3, 4, 5, 2, 1, 0] rfl (l_X10_goThrough_h_34 (d) (T := T) (σ0 := σ) (a := a) (rx1 := p1) (c2 := p2) (c3 := v22) (c4 := v28) (xs := xs) (xt := xt) ha h_p1 t_p1 (by omega) (by omega) (by omega) hw (hxs) (hxt) (fun i529 σ30 w33 F34 r35 f36 => ?_) _ (0) σ hw FrC.rfl (by omega) CHX.rfl rfl)
    show Tn _ _ 100 T σ30 [(0, .ref a), (1, .ref p1), (2, .int (iI p2)), (3, .int (iI v22)), (4, .int (iI v28)), (5, .int (iI i529))] [] _
    refine tn_iload_n dX10_goThrough_100 rfl 3 rfl ?_
    refine tn_bipush dX10_goThrough_101 (by decide) ?_
    refine tn_icmp_ne (tgt := 137) dX10_goThrough_103 (by decide) ⟨by omega, by omega⟩ ⟨by decide, by decide⟩ (fun h37 => ?_) (fun h37 => ?_)
    · refine tn_aload_n dX10_goThrough_137 rfl 1 rfl ?_
      refine tn_iload_n dX10_goThrough_138 rfl 2 rfl ?_
      refine tn_iconst dX10_goThrough_139 ?_
      refine tn_callV (M := m_X10_goThrough) (pc := 140) (ix := 44) (ci := 1) (M' := m_X1_get) (As := [.int (iI p2), .int (iI 1)]) (rest := []) dX10_goThrough_140 ok_X1_get im_X1_get se_X1_get ml10_44 np_X1_get rfl rfl h_p1 rfl (Nat.le_of_ble_eq_true rfl) (Nat.le_of_ble_eq_true rfl) rfl (k_X1_get (d + 2) (T := T) (σ := σ30) (a := p1) (k := p2) (c := 1) h_p1 (by omega) (by decide) w33 (by omega)) (fun r38 T40 σ39 gt41 hp => ?_)
      obtain ⟨v43, rfl, rfl, rfl, f42⟩ := hp
      clear gt41
      show Tn _ _ 143 T σ30 [(0, .ref a), (1, .ref p1), (2, .int (iI p2)), (3, .int (iI v22)), (4, .int (iI v28)), (5, .int (iI i529))] [.int (iI v43)] _
      refine tn_istore (L' := [(5, .int (iI v43)), (0, .ref a), (1, .ref p1), (2, .int (iI p2)), (3, .int (iI v22)), (4, .int (iI v28))]) dX10_goThrough_143 (by decide) rfl ?_
      refine tn_iconst dX10_goThrough_145 ?_
      refine tn_istore (L' := [(6, .int (iI 0)), (5, .int (iI v43)), (0, .ref a), (1, .ref p1), (2, .int (iI p2)), (3, .int (iI v22)), (4, .int (iI v28))]) dX10_goThrough_146 (by decide) rfl ?_
      refine tn_sub [2, 3, 4, 5, 1, 0] rfl (l_X10_goThrough_h_148 (d) (T := T) (σ0 := σ30) (a := a) (rx1 := p1) (c2 := p2) (c3 := v22) (c5 := v43) (xs := xs) (xt := xt) ha h_p1 t_p1 (by omega) (by omega) (by omega) w33 (rc_F F34 (Or.inl (by decide)) (by decide) (hxs)) (rc_F F34 (Or.inl (by decide)) (by decide) (hxt)) (fun i644 σ45 w48 F49 r50 f51 => ?_) _ (0) σ30 w33 FrC.rfl (by omega) CHX.rfl rfl)
      show Tn _ _ 190 T σ45 [(0, .ref a), (1, .ref p1), (2, .int (iI p2)), (3, .int (iI v22)), (5, .int (iI v43)), (6, .int (iI i644))] [] _
      refine tn_aload_n dX10_goThrough_190 rfl 1 rfl ?_
      refine tn_iload_n dX10_goThrough_191 rfl 2 rfl ?_
      refine tn_callV (M := m_X10_goThrough) (pc := 192) (ix := 107) (ci := 1) (M' := m_X1_fallsOn) (As := [.int (iI p2)]) (rest := []) dX10_goThrough_192 ok_X1_fallsOn im_X1_fallsOn se_X1_fallsOn ml10_107 np_X1_fallsOn rfl rfl h_p1 rfl (Nat.le_of_ble_eq_true rfl) (Nat.le_of_ble_eq_true rfl) rfl (k_X1_fallsOn (d + 1) (T := T) (σ := σ45) (a := p1) (k := p2) h_p1 (by omega) w48 ) (fun r52 T54 σ53 gt55 hp => ?_)
      obtain ⟨v57, rfl, rfl, rfl, f56⟩ := hp
      clear gt55
      show Tn _ _ 195 T σ45 [(0, .ref a), (1, .ref p1), (2, .int (iI p2)), (3, .int (iI v22)), (5, .int (iI v43)), (6, .int (iI i644))] [.int (iI v57)] _
      refine tn_if_eq (tgt := 206) dX10_goThrough_195 (by decide) ⟨by omega, by omega⟩ (fun h58 => ?_) (fun h58 => ?_)
      · refine tn_aload_n dX10_goThrough_206 rfl 0 rfl ?_
        refine tn_aload_n dX10_goThrough_207 rfl 1 rfl ?_
        refine tn_aload_n dX10_goThrough_208 rfl 1 rfl ?_
        refine tn_iload_n dX10_goThrough_209 rfl 2 rfl ?_
        refine tn_callV (M := m_X10_goThrough) (pc := 210) (ix := 114) (ci := 1) (M' := m_X1_targetOf) (As := [.int (iI p2)]) (rest := [.ref p1, .ref a]) dX10_goThrough_210 ok_X1_targetOf im_X1_targetOf se_X1_targetOf ml10_114 np_X1_targetOf rfl rfl h_p1 rfl (Nat.le_of_ble_eq_true rfl) (Nat.le_of_ble_eq_true rfl) rfl (k_X1_targetOf (d + 1) (T := T) (σ := σ45) (a := p1) (k := p2) h_p1 (by omega) w48 ) (fun r59 T61 σ60 gt62 hp => ?_)
        obtain ⟨v64, rfl, rfl, rfl, f63⟩ := hp
        clear gt62
        show Tn _ _ 213 T σ45 [(0, .ref a), (1, .ref p1), (2, .int (iI p2)), (3, .int (iI v22)), (5, .int (iI v43)), (6, .int (iI i644))] [.int (iI v64), .ref p1, .ref a] _
        refine tn_callV (M := m_X10_goThrough) (pc := 213) (ix := 111) (ci := 10) (M' := m_X10_comeTo) (As := [.ref p1, .int (iI v64)]) (rest := []) dX10_goThrough_213 ok_X10_comeTo im_X10_comeTo se_X10_comeTo ml10_111 np_X10_comeTo rfl rfl ha rfl (Nat.le_of_ble_eq_true rfl) (Nat.le_of_ble_eq_true rfl) rfl (k_X10_comeTo_h (d + 1) (T := T) (σ := σ45) (a := a) (p1 := p1) (p2 := v64) (xt := xt) ha h_p1 t_p1 (by omega) w48 (rc_F F49 (Or.inl (by decide)) (by decide) (rc_F F34 (Or.inl (by decide)) (by decide) (hxt)))) (fun r65 T67 σ66 gt68 hp => ?_)
        obtain ⟨rfl, rfl, w71, F72, f69⟩ := hp
        clear gt68
        show Tn _ _ 216 T σ66 [(0, .ref a), (1, .ref p1), (2, .int (iI p2)), (3, .int (iI v22)), (5, .int (iI v43)), (6, .int (iI i644))] [] _
        exact tn_vret rfl dX10_goThrough_216 ⟨rfl, rfl, w71, (((FrC.rfl.trans (FrC.sub F34 (by decide))).trans (FrC.sub F49 (by decide))).trans (FrC.sub F72 (by decide))), (((CHX.rfl.trans (CHX.sub f36 (by simp) (by simp) (by simp))).trans (CHX.sub f51 (by simp) (by simp) (by simp))).trans (CHX.sub f69 (by simp) (by simp) (by simp)))⟩
      · refine tn_aload_n dX10_goThrough_198 rfl 0 rfl ?_
        refine tn_aload_n dX10_goThrough_199 rfl 1 rfl ?_
        refine tn_iload_n dX10_goThrough_200 rfl 2 rfl ?_
        refine tn_iconst dX10_goThrough_201 ?_
        refine tn_iadd dX10_goThrough_202 ?_
        refine tn_any (fun z73 g74 => ?_)
        have g74r : -2147483648 ≤ z73 ∧ z73 ≤ 2147483647 := g74
        refine tn_callV (M := m_X10_goThrough) (pc := 203) (ix := 111) (ci := 10) (M' := m_X10_comeTo) (As := [.ref p1, .int (iI z73)]) (rest := []) dX10_goThrough_203 ok_X10_comeTo im_X10_comeTo se_X10_comeTo ml10_111 np_X10_comeTo rfl rfl ha rfl (Nat.le_of_ble_eq_true rfl) (Nat.le_of_ble_eq_true rfl) rfl (k_X10_comeTo_h (d + 1) (T := T) (σ := σ45) (a := a) (p1 := p1) (p2 := z73) (xt := xt) ha h_p1 t_p1 (by omega) w48 (rc_F F49 (Or.inl (by decide)) (by decide) (rc_F F34 (Or.inl (by decide)) (by decide) (hxt)))) (fun r75 T77 σ76 gt78 hp => ?_)
        obtain ⟨rfl, rfl, w81, F82, f79⟩ := hp
        clear gt78
        show Tn _ _ 206 T σ76 [(0, .ref a), (1, .ref p1), (2, .int (iI p2)), (3, .int (iI v22)), (5, .int (iI v43)), (6, .int (iI i644))] [] _
        refine tn_aload_n dX10_goThrough_206 rfl 0 rfl ?_
        refine tn_aload_n dX10_goThrough_207 rfl 1 rfl ?_
        refine tn_aload_n dX10_goThrough_208 rfl 1 rfl ?_
        refine tn_iload_n dX10_goThrough_209 rfl 2 rfl ?_
        refine tn_callV (M := m_X10_goThrough) (pc := 210) (ix := 114) (ci := 1) (M' := m_X1_targetOf) (As := [.int (iI p2)]) (rest := [.ref p1, .ref a]) dX10_goThrough_210 ok_X1_targetOf im_X1_targetOf se_X1_targetOf ml10_114 np_X1_targetOf rfl rfl h_p1 rfl (Nat.le_of_ble_eq_true rfl) (Nat.le_of_ble_eq_true rfl) rfl (k_X1_targetOf (d + 1) (T := T) (σ := σ76) (a := p1) (k := p2) h_p1 (by omega) w81 ) (fun r83 T85 σ84 gt86 hp => ?_)
        obtain ⟨v88, rfl, rfl, rfl, f87⟩ := hp
        clear gt86
        show Tn _ _ 213 T σ76 [(0, .ref a), (1, .ref p1), (2, .int (iI p2)), (3, .int (iI v22)), (5, .int (iI v43)), (6, .int (iI i644))] [.int (iI v88), .ref p1, .ref a] _
        refine tn_callV (M := m_X10_goThrough) (pc := 213) (ix := 111) (ci := 10) (M' := m_X10_comeTo) (As := [.ref p1, .int (iI v88)]) (rest := []) dX10_goThrough_213 ok_X10_comeTo im_X10_comeTo se_X10_comeTo ml10_111 np_X10_comeTo rfl rfl ha rfl (Nat.le_of_ble_eq_true rfl) (Nat.le_of_ble_eq_true rfl) rfl (k_X10_comeTo_h (d + 1) (T := T) (σ := σ76) (a := a) (p1 := p1) (p2 := v88) (xt := xt) ha h_p1 t_p1 (by omega) w81 (rc_F F82 (Or.inl (by decide)) (by decide) (rc_F F49 (Or.inl (by decide)) (by decide) (rc_F F34 (Or.inl (by decide)) (by decide) (hxt))))) (fun r89 T91 σ90 gt92 hp => ?_)
        obtain ⟨rfl, rfl, w95, F96, f93⟩ := hp
        clear gt92
        show Tn _ _ 216 T σ90 [(0, .ref a), (1, .ref p1), (2, .int (iI p2)), (3, .int (iI v22)), (5, .int (iI v43)), (6, .int (iI i644))] [] _
        exact tn_vret rfl dX10_goThrough_216 ⟨rfl, rfl, w95, ((((FrC.rfl.trans (FrC.sub F34 (by decide))).trans (FrC.sub F49 (by decide))).trans (FrC.sub F82 (by decide))).trans (FrC.sub F96 (by decide))), ((((CHX.rfl.trans (CHX.sub f36 (by simp) (by simp) (by simp))).trans (CHX.sub f51 (by simp) (by simp) (by simp))).trans (CHX.sub f79 (by simp) (by simp) (by simp))).trans (CHX.sub f93 (by simp) (by simp) (by simp)))⟩
    · refine tn_aload_n dX10_goThrough_106 rfl 0 rfl ?_
      obtain ⟨hk99, hl100⟩ : AR T xs 1 145 145 := ar_of (wf_91 hw ha) hxs
      have hk99i : IA T xs := by unfold IA; omega
      refine tn_getR (ci := 10) (i := 3) (n := 91) (x := xs) dX10_goThrough_107 rfl lay_10 (by decide) fl10_23 ha rfl rfl (rc_F F34 (Or.inl (by decide)) (by decide) (hxs)) ?_
      refine tn_aload_n dX10_goThrough_110 rfl 1 rfl ?_
      refine tn_aload_n dX10_goThrough_111 rfl 1 rfl ?_
      refine tn_iload_n dX10_goThrough_112 rfl 2 rfl ?_
      refine tn_iconst dX10_goThrough_113 ?_
      refine tn_callV (M := m_X10_goThrough) (pc := 114) (ix := 44) (ci := 1) (M' := m_X1_get) (As := [.int (iI p2), .int (iI 2)]) (rest := [.ref p1, .ref xs]) dX10_goThrough_114 ok_X1_get im_X1_get se_X1_get ml10_44 np_X1_get rfl rfl h_p1 rfl (Nat.le_of_ble_eq_true rfl) (Nat.le_of_ble_eq_true rfl) rfl (k_X1_get (d + 2) (T := T) (σ := σ30) (a := p1) (k := p2) (c := 2) h_p1 (by omega) (by decide) w33 (by omega)) (fun r101 T103 σ102 gt104 hp => ?_)
      obtain ⟨v106, rfl, rfl, rfl, f105⟩ := hp
      clear gt104
      show Tn _ _ 117 T σ30 [(0, .ref a), (1, .ref p1), (2, .int (iI p2)), (3, .int (iI v22)), (4, .int (iI v28)), (5, .int (iI i529))] [.int (iI v106), .ref p1, .ref xs] _
      refine tn_aload_n dX10_goThrough_117 rfl 1 rfl ?_
      refine tn_iload_n dX10_goThrough_118 rfl 2 rfl ?_
      refine tn_iconst dX10_goThrough_119 ?_
      refine tn_callV (M := m_X10_goThrough) (pc := 120) (ix := 44) (ci := 1) (M' := m_X1_get) (As := [.int (iI p2), .int (iI 1)]) (rest := [.int (iI v106), .ref p1, .ref xs]) dX10_goThrough_120 ok_X1_get im_X1_get se_X1_get ml10_44 np_X1_get rfl rfl h_p1 rfl (Nat.le_of_ble_eq_true rfl) (Nat.le_of_ble_eq_true rfl) rfl (k_X1_get (d + 2) (T := T) (σ := σ30) (a := p1) (k := p2) (c := 1) h_p1 (by omega) (by decide) w33 (by omega)) (fun r107 T109 σ108 gt110 hp => ?_)
      obtain ⟨v112, rfl, rfl, rfl, f111⟩ := hp
      clear gt110
      show Tn _ _ 123 T σ30 [(0, .ref a), (1, .ref p1), (2, .int (iI p2)), (3, .int (iI v22)), (4, .int (iI v28)), (5, .int (iI i529))] [.int (iI v112), .int (iI v106), .ref p1, .ref xs] _
      refine tn_callV (M := m_X10_goThrough) (pc := 123) (ix := 36) (ci := 1) (M' := m_X1_slotOf) (As := [.int (iI v106), .int (iI v112)]) (rest := [.ref xs]) dX10_goThrough_123 ok_X1_slotOf im_X1_slotOf se_X1_slotOf ml10_36 np_X1_slotOf rfl rfl h_p1 rfl (Nat.le_of_ble_eq_true rfl) (Nat.le_of_ble_eq_true rfl) rfl (k_X1_slotOf_any (d + 2) (T := T) (σ := σ30) (a := p1) (f := v106) (m := v112) h_p1 (by omega) (by omega) w33 ) (fun r113 T115 σ114 gt116 hp => ?_)
      obtain ⟨v118, rfl, rfl, rfl, f117⟩ := hp
      clear gt116
      show Tn _ _ 126 T σ30 [(0, .ref a), (1, .ref p1), (2, .int (iI p2)), (3, .int (iI v22)), (4, .int (iI v28)), (5, .int (iI i529))] [.int (iI v118), .ref xs] _
      refine tn_aload_n dX10_goThrough_126 rfl 0 rfl ?_
      obtain ⟨xq119, hx120, hk121, hl122⟩ : ∃ x : Nat, σ.2.1 90 a = (x : Int) ∧ AR T x 1 200 200 := wf_90 hw ha
      have hk121i : IA T xq119 := by unfold IA; omega
      refine tn_getR (ci := 10) (i := 2) (n := 90) (x := xq119) dX10_goThrough_127 rfl lay_10 (by decide) fl10_20 ha rfl rfl (rc_F F34 (Or.inl (by decide)) (by decide) (hx120)) ?_
      refine tn_iload_n dX10_goThrough_130 rfl 2 rfl ?_
      refine tn_callSN (M := m_X10_goThrough) (pc := 131) (ix := 40) (M' := m_X11_at) (As := [.ref xq119, .int (iI p2)]) (rest := [.int (iI v118), .ref xs]) dX10_goThrough_131 ok_X11_at stt_X11_at nl10_40 np_X11_at rfl (Nat.le_of_ble_eq_true rfl) (Nat.le_of_ble_eq_true rfl) rfl (k_X11_at (d + 2) (T := T) (σ := σ30) (x := xq119) (i := p2) hk121i (by omega) (by omega) w33 ) (fun r123 T125 σ124 gt126 hp => ?_)
      obtain ⟨v130, rfl, rfl, rfl, f127, f128, f129⟩ := hp
      clear gt126
      clear f128
      show Tn _ _ 134 T σ30 [(0, .ref a), (1, .ref p1), (2, .int (iI p2)), (3, .int (iI v22)), (4, .int (iI v28)), (5, .int (iI i529))] [.int (iI v130), .int (iI v118), .ref xs] _
      refine tn_callSN (M := m_X10_goThrough) (pc := 134) (ix := 26) (M' := m_X11_put) (As := [.ref xs, .int (iI v118), .int (iI v130)]) (rest := []) dX10_goThrough_134 ok_X11_put stt_X11_put nl10_26 np_X11_put rfl (Nat.le_of_ble_eq_true rfl) (Nat.le_of_ble_eq_true rfl) rfl (k_X11_put_x (d + 2) (T := T) (σ := σ30) (x := xs) (i := v118) (y := v130) hk99i (by omega) (by omega) (by omega) w33 (nh_k hk99 (by unfold HT; omega)) (vok_1 (by have q9 := hk99; omega) (by omega))) (fun r131 T133 σ132 gt134 hp => ?_)
      obtain ⟨rfl, rfl, w138, F139, f135, f136⟩ := hp
      clear gt134
      show Tn _ _ 137 T σ132 [(0, .ref a), (1, .ref p1), (2, .int (iI p2)), (3, .int (iI v22)), (4, .int (iI v28)), (5, .int (iI i529))] [] _
      refine tn_aload_n dX10_goThrough_137 rfl 1 rfl ?_
      refine tn_iload_n dX10_goThrough_138 rfl 2 rfl ?_
      refine tn_iconst dX10_goThrough_139 ?_
      refine tn_callV (M := m_X10_goThrough) (pc := 140) (ix := 44) (ci := 1) (M' := m_X1_get) (As := [.int (iI p2), .int (iI 1)]) (rest := []) dX10_goThrough_140 ok_X1_get im_X1_get se_X1_get ml10_44 np_X1_get rfl rfl h_p1 rfl (Nat.le_of_ble_eq_true rfl) (Nat.le_of_ble_eq_true rfl) rfl (k_X1_get (d + 2) (T := T) (σ := σ132) (a := p1) (k := p2) (c := 1) h_p1 (by omega) (by decide) w138 (by omega)) (fun r140 T142 σ141 gt143 hp => ?_)
      obtain ⟨v145, rfl, rfl, rfl, f144⟩ := hp
      clear gt143
      show Tn _ _ 143 T σ132 [(0, .ref a), (1, .ref p1), (2, .int (iI p2)), (3, .int (iI v22)), (4, .int (iI v28)), (5, .int (iI i529))] [.int (iI v145)] _
      refine tn_istore (L' := [(5, .int (iI v145)), (0, .ref a), (1, .ref p1), (2, .int (iI p2)), (3, .int (iI v22)), (4, .int (iI v28))]) dX10_goThrough_143 (by decide) rfl ?_
      refine tn_iconst dX10_goThrough_145 ?_
      refine tn_istore (L' := [(6, .int (iI 0)), (5, .int (iI v145)), (0, .ref a), (1, .ref p1), (2, .int (iI p2)), (3, .int (iI v22)), (4, .int (iI v28))]) dX10_goThrough_146 (by decide) rfl ?_
      refine tn_sub [2, 3, 4, 5, 1, 0] rfl (l_X10_goThrough_h_148 (d) (T := T) (σ0 := σ132) (a := a) (rx1 := p1) (c2 := p2) (c3 := v22) (c5 := v145) (xs := xs) (xt := xt) ha h_p1 t_p1 (by omega) (by omega) (by omega) w138 (rc_F F139 (Or.inl (by decide)) (by decide) (rc_F F34 (Or.inl (by decide)) (by decide) (hxs))) (rc_F F139 (Or.inl (by decide)) (by decide) (rc_F F34 (Or.inl (by decide)) (by decide) (hxt))) (fun i6146 σ147 w150 F151 r152 f153 => ?_) _ (0) σ132 w138 FrC.rfl (by omega) CHX.rfl rfl)
      show Tn _ _ 190 T σ147 [(0, .ref a), (1, .ref p1), (2, .int (iI p2)), (3, .int (iI v22)), (5, .int (iI v145)), (6, .int (iI i6146))] [] _
      refine tn_aload_n dX10_goThrough_190 rfl 1 rfl ?_
      refine tn_iload_n dX10_goThrough_191 rfl 2 rfl ?_
      refine tn_callV (M := m_X10_goThrough) (pc := 192) (ix := 107) (ci := 1) (M' := m_X1_fallsOn) (As := [.int (iI p2)]) (rest := []) dX10_goThrough_192 ok_X1_fallsOn im_X1_fallsOn se_X1_fallsOn ml10_107 np_X1_fallsOn rfl rfl h_p1 rfl (Nat.le_of_ble_eq_true rfl) (Nat.le_of_ble_eq_true rfl) rfl (k_X1_fallsOn (d + 1) (T := T) (σ := σ147) (a := p1) (k := p2) h_p1 (by omega) w150 ) (fun r154 T156 σ155 gt157 hp => ?_)
      obtain ⟨v159, rfl, rfl, rfl, f158⟩ := hp
      clear gt157
      show Tn _ _ 195 T σ147 [(0, .ref a), (1, .ref p1), (2, .int (iI p2)), (3, .int (iI v22)), (5, .int (iI v145)), (6, .int (iI i6146))] [.int (iI v159)] _
      refine tn_if_eq (tgt := 206) dX10_goThrough_195 (by decide) ⟨by omega, by omega⟩ (fun h160 => ?_) (fun h160 => ?_)
      · refine tn_aload_n dX10_goThrough_206 rfl 0 rfl ?_
        refine tn_aload_n dX10_goThrough_207 rfl 1 rfl ?_
        refine tn_aload_n dX10_goThrough_208 rfl 1 rfl ?_
        refine tn_iload_n dX10_goThrough_209 rfl 2 rfl ?_
        refine tn_callV (M := m_X10_goThrough) (pc := 210) (ix := 114) (ci := 1) (M' := m_X1_targetOf) (As := [.int (iI p2)]) (rest := [.ref p1, .ref a]) dX10_goThrough_210 ok_X1_targetOf im_X1_targetOf se_X1_targetOf ml10_114 np_X1_targetOf rfl rfl h_p1 rfl (Nat.le_of_ble_eq_true rfl) (Nat.le_of_ble_eq_true rfl) rfl (k_X1_targetOf (d + 1) (T := T) (σ := σ147) (a := p1) (k := p2) h_p1 (by omega) w150 ) (fun r161 T163 σ162 gt164 hp => ?_)
        obtain ⟨v166, rfl, rfl, rfl, f165⟩ := hp
        clear gt164
        show Tn _ _ 213 T σ147 [(0, .ref a), (1, .ref p1), (2, .int (iI p2)), (3, .int (iI v22)), (5, .int (iI v145)), (6, .int (iI i6146))] [.int (iI v166), .ref p1, .ref a] _
        refine tn_callV (M := m_X10_goThrough) (pc := 213) (ix := 111) (ci := 10) (M' := m_X10_comeTo) (As := [.ref p1, .int (iI v166)]) (rest := []) dX10_goThrough_213 ok_X10_comeTo im_X10_comeTo se_X10_comeTo ml10_111 np_X10_comeTo rfl rfl ha rfl (Nat.le_of_ble_eq_true rfl) (Nat.le_of_ble_eq_true rfl) rfl (k_X10_comeTo_h (d + 1) (T := T) (σ := σ147) (a := a) (p1 := p1) (p2 := v166) (xt := xt) ha h_p1 t_p1 (by omega) w150 (rc_F F151 (Or.inl (by decide)) (by decide) (rc_F F139 (Or.inl (by decide)) (by decide) (rc_F F34 (Or.inl (by decide)) (by decide) (hxt))))) (fun r167 T169 σ168 gt170 hp => ?_)
        obtain ⟨rfl, rfl, w173, F174, f171⟩ := hp
        clear gt170
        show Tn _ _ 216 T σ168 [(0, .ref a), (1, .ref p1), (2, .int (iI p2)), (3, .int (iI v22)), (5, .int (iI v145)), (6, .int (iI i6146))] [] _
        exact tn_vret rfl dX10_goThrough_216 ⟨rfl, rfl, w173, ((((FrC.rfl.trans (FrC.sub F34 (by decide))).trans (FrC.sub F139 (by decide))).trans (FrC.sub F151 (by decide))).trans (FrC.sub F174 (by decide))), ((((CHX.rfl.trans (CHX.sub f36 (by simp) (by simp) (by simp))).trans (CHX.sub f135 (by simp) (by simp) (by simp))).trans (CHX.sub f153 (by simp) (by simp) (by simp))).trans (CHX.sub f171 (by simp) (by simp) (by simp)))⟩
      · refine tn_aload_n dX10_goThrough_198 rfl 0 rfl ?_
        refine tn_aload_n dX10_goThrough_199 rfl 1 rfl ?_
        refine tn_iload_n dX10_goThrough_200 rfl 2 rfl ?_
        refine tn_iconst dX10_goThrough_201 ?_
        refine tn_iadd dX10_goThrough_202 ?_
        refine tn_any (fun z175 g176 => ?_)
        have g176r : -2147483648 ≤ z175 ∧ z175 ≤ 2147483647 := g176
        refine tn_callV (M := m_X10_goThrough) (pc := 203) (ix := 111) (ci := 10) (M' := m_X10_comeTo) (As := [.ref p1, .int (iI z175)]) (rest := []) dX10_goThrough_203 ok_X10_comeTo im_X10_comeTo se_X10_comeTo ml10_111 np_X10_comeTo rfl rfl ha rfl (Nat.le_of_ble_eq_true rfl) (Nat.le_of_ble_eq_true rfl) rfl (k_X10_comeTo_h (d + 1) (T := T) (σ := σ147) (a := a) (p1 := p1) (p2 := z175) (xt := xt) ha h_p1 t_p1 (by omega) w150 (rc_F F151 (Or.inl (by decide)) (by decide) (rc_F F139 (Or.inl (by decide)) (by decide) (rc_F F34 (Or.inl (by decide)) (by decide) (hxt))))) (fun r177 T179 σ178 gt180 hp => ?_)
        obtain ⟨rfl, rfl, w183, F184, f181⟩ := hp
        clear gt180
        show Tn _ _ 206 T σ178 [(0, .ref a), (1, .ref p1), (2, .int (iI p2)), (3, .int (iI v22)), (5, .int (iI v145)), (6, .int (iI i6146))] [] _
        refine tn_aload_n dX10_goThrough_206 rfl 0 rfl ?_
        refine tn_aload_n dX10_goThrough_207 rfl 1 rfl ?_
        refine tn_aload_n dX10_goThrough_208 rfl 1 rfl ?_
        refine tn_iload_n dX10_goThrough_209 rfl 2 rfl ?_
        refine tn_callV (M := m_X10_goThrough) (pc := 210) (ix := 114) (ci := 1) (M' := m_X1_targetOf) (As := [.int (iI p2)]) (rest := [.ref p1, .ref a]) dX10_goThrough_210 ok_X1_targetOf im_X1_targetOf se_X1_targetOf ml10_114 np_X1_targetOf rfl rfl h_p1 rfl (Nat.le_of_ble_eq_true rfl) (Nat.le_of_ble_eq_true rfl) rfl (k_X1_targetOf (d + 1) (T := T) (σ := σ178) (a := p1) (k := p2) h_p1 (by omega) w183 ) (fun r185 T187 σ186 gt188 hp => ?_)
        obtain ⟨v190, rfl, rfl, rfl, f189⟩ := hp
        clear gt188
        show Tn _ _ 213 T σ178 [(0, .ref a), (1, .ref p1), (2, .int (iI p2)), (3, .int (iI v22)), (5, .int (iI v145)), (6, .int (iI i6146))] [.int (iI v190), .ref p1, .ref a] _
        refine tn_callV (M := m_X10_goThrough) (pc := 213) (ix := 111) (ci := 10) (M' := m_X10_comeTo) (As := [.ref p1, .int (iI v190)]) (rest := []) dX10_goThrough_213 ok_X10_comeTo im_X10_comeTo se_X10_comeTo ml10_111 np_X10_comeTo rfl rfl ha rfl (Nat.le_of_ble_eq_true rfl) (Nat.le_of_ble_eq_true rfl) rfl (k_X10_comeTo_h (d + 1) (T := T) (σ := σ178) (a := a) (p1 := p1) (p2 := v190) (xt := xt) ha h_p1 t_p1 (by omega) w183 (rc_F F184 (Or.inl (by decide)) (by decide) (rc_F F151 (Or.inl (by decide)) (by decide) (rc_F F139 (Or.inl (by decide)) (by decide) (rc_F F34 (Or.inl (by decide)) (by decide) (hxt)))))) (fun r191 T193 σ192 gt194 hp => ?_)
        obtain ⟨rfl, rfl, w197, F198, f195⟩ := hp
        clear gt194
        show Tn _ _ 216 T σ192 [(0, .ref a), (1, .ref p1), (2, .int (iI p2)), (3, .int (iI v22)), (5, .int (iI v145)), (6, .int (iI i6146))] [] _
        exact tn_vret rfl dX10_goThrough_216 ⟨rfl, rfl, w197, (((((FrC.rfl.trans (FrC.sub F34 (by decide))).trans (FrC.sub F139 (by decide))).trans (FrC.sub F151 (by decide))).trans (FrC.sub F184 (by decide))).trans (FrC.sub F198 (by decide))), (((((CHX.rfl.trans (CHX.sub f36 (by simp) (by simp) (by simp))).trans (CHX.sub f135 (by simp) (by simp) (by simp))).trans (CHX.sub f153 (by simp) (by simp) (by simp))).trans (CHX.sub f181 (by simp) (by simp) (by simp))).trans (CHX.sub f195 (by simp) (by simp) (by simp)))⟩
  · exact tn_vret rfl dX10_goThrough_16 ⟨rfl, rfl, hw, FrC.rfl, CHX.rfl⟩
end
section
def RFQ (T : CT) (σ σ2 : MS) (a : Nat) (r : Int) (xs xb xf : Nat) : Prop := (σ2.2.1 = σ.2.1 ∧ σ2.2.2 = σ.2.2) ∨ (0 ≤ r ∧ r < 6) ∧ ∃ t : Nat, (σ.2.1 900 r = (t : Int) ∨ (T t).1 = 0) ∧ σ2.2.1 900 r = (t : Int) ∧ CHN T [(92, a), (93, a), (94, a), (900, r.toNat)] [t, xs, xb, xf] [] σ σ2
theorem CHN.fld9 {T : CT} {ks : List (Nat × Nat)} {rs ls : List Nat} {σ τ : MS} {z v : Int} (h : CHN T ks rs ls σ τ) (hz : 0 ≤ z) (m : (900, z.toNat) ∈ ks) : CHN T ks rs ls σ (sA 900 z v τ) := by
  have q := CHN.fld (v := v) h m (by decide)
  rw [Int.toNat_of_nonneg hz] at q
  exact q
end
section
set_option maxHeartbeats 1000000 in
set_option maxRecDepth 20000 in
theorem l_X10_refresh_h9_122 (d : Nat) {T : CT} {σ0 : MS} {a : Nat} {c1 : Int} {rx2 : Nat} {xb : Nat} {xs : Nat} {xt : Nat} {xf : Nat} {post : Option Value → CT → MS → Prop} (h_a : OB T a 10) (r_c1 : 0 ≤ c1 ∧ c1 ≤ 5) (h_rx2 : OB T rx2 1) (t_rx2 : (T rx2).1 = 50) (hw0 : WT T σ0) (hxb : σ0.2.1 90 a = (xb : Int)) (hxs : σ0.2.1 91 a = (xs : Int)) (hxt : σ0.2.1 92 a = (xt : Int)) (hxf : σ0.2.1 89 a = (xf : Int)) (hx_144 : ∀ (i4 : Int) (σ : MS) , (WT T σ) → (FrC T [] σ0 σ) → (0 ≤ i4 ∧ i4 ≤ 2147483647) → (CHX [(94, a)] [xb, xs, xt, xf] [] σ0 σ) → Tn (d + 5) m_X10_refresh 144 T σ [(0, .ref a), (1, .int (iI c1)), (2, .ref rx2), (4, .int (iI i4))] [] post) : ∀ (nq9 : Nat) (i4 : Int) (σ : MS) , (WT T σ) → (FrC T [] σ0 σ) → (0 ≤ i4 ∧ i4 ≤ 2147483647) → (CHX [(94, a)] [xb, xs, xt, xf] [] σ0 σ) → (2147483700 - i4).toNat = nq9 → Tn (d + 5) m_X10_refresh 122 T σ [(0, .ref a), (1, .int (iI c1)), (2, .ref rx2), (4, .int (iI i4))] [] post := by
  intro nq9
  induction nq9 using Nat.strongRecOn with
  | _ nq9 ih =>
    intro i4 σ hw hF r_i4 hC hm
    refine tn_iload dX10_refresh_122 3 rfl ?_
    refine tn_aload_n dX10_refresh_124 rfl 2 rfl ?_
    refine tn_getI (ci := 1) (i := 1) (n := 6) (t := σ0.2.1 6 rx2) dX10_refresh_125 rfl lay_1 (by decide) fl10_53 h_rx2 rfl rfl (rc_F hF (Or.inl (by decide)) (by decide) (rfl)) ?_
    have g1 : ((0 : Int) ≤ σ0.2.1 6 rx2 ∧ σ0.2.1 6 rx2 ≤ 5000) ∧ ((T rx2).1 = 50 → σ0.2.1 6 rx2 ≤ 200) := wf_6 hw0 h_rx2
    have g1x := g1.2
    replace g1 := g1.1
    have g1x := g1x t_rx2
    refine tn_icmp_ge (tgt := 144) dX10_refresh_128 (by decide) ⟨by omega, by omega⟩ ⟨by omega, by omega⟩ (fun h2 => ?_) (fun h2 => ?_)
    · exact tn_sub [0, 1, 2, 3] rfl (hx_144 (i4) σ hw (FrC.rfl.trans (FrC.sub hF (by decide))) (by omega) hC)
    · refine tn_aload_n dX10_refresh_131 rfl 0 rfl ?_
      refine tn_aload_n dX10_refresh_132 rfl 2 rfl ?_
      refine tn_iload dX10_refresh_133 3 rfl ?_
      obtain ⟨hk5, hl6⟩ : AR T xb 1 200 200 := ar_of (wf_90 hw0 h_a) hxb
      have hk5i : IA T xb := by unfold IA; omega
      refine tn_callV (M := m_X10_refresh) (pc := 135) (ix := 70) (ci := 10) (M' := m_X10_nameBind) (As := [.ref rx2, .int (iI i4)]) (rest := []) dX10_refresh_135 ok_X10_nameBind im_X10_nameBind se_X10_nameBind ml10_70 np_X10_nameBind rfl rfl h_a rfl (Nat.le_of_ble_eq_true rfl) (Nat.le_of_ble_eq_true rfl) rfl (k_X10_nameBind_h (d) (T := T) (σ := σ) (a := a) (p1 := rx2) (p2 := i4) (xb := xb) h_a h_rx2 t_rx2 (by omega) hw (rc_F hF (Or.inl (by decide)) (by decide) (hxb))) (fun r7 T9 σ8 gt10 hp => ?_)
      obtain ⟨rfl, rfl, w13, F14, f11⟩ := hp
      clear gt10
      show Tn _ _ 138 T σ8 [(0, .ref a), (1, .int (iI c1)), (2, .ref rx2), (4, .int (iI i4))] [] _
      refine tn_iinc (q0 := 3) (L' := [(4, .int (iI (i4 + 1))), (0, .ref a), (1, .int (iI c1)), (2, .ref rx2)]) dX10_refresh_138 rfl (by decide) rfl ?_
      refine tn_goto (tgt := 122) dX10_refresh_141 (by decide) ?_
      exact tn_sub [1, 2, 3, 0] rfl (ih _ (by omega) (i4 + 1) σ8 w13 ((FrC.rfl.trans (FrC.sub hF (by decide))).trans (FrC.sub F14 (by decide))) (by omega) (hC.trans (CHX.sub f11 (by simp) (by simp) (by simp))) rfl)
set_option maxHeartbeats 1000000 in
set_option maxRecDepth 20000 in
theorem l_X10_refresh_h9_179 (d : Nat) {T : CT} {σ0 : MS} {a : Nat} {c1 : Int} {rx2 : Nat} {c4 : Int} {xb : Nat} {xs : Nat} {xt : Nat} {xf : Nat} {post : Option Value → CT → MS → Prop} (h_a : OB T a 10) (r_c1 : 0 ≤ c1 ∧ c1 ≤ 5) (h_rx2 : OB T rx2 1) (t_rx2 : (T rx2).1 = 50) (r_c4 : 0 ≤ c4 ∧ c4 ≤ 999999) (hw0 : WT T σ0) (hxb : σ0.2.1 90 a = (xb : Int)) (hxs : σ0.2.1 91 a = (xs : Int)) (hxt : σ0.2.1 92 a = (xt : Int)) (hxf : σ0.2.1 89 a = (xf : Int)) (hx_201 : ∀ (i5 : Int) (σ : MS) , (WT T σ) → (FrC T [94] σ0 σ) → (0 ≤ i5 ∧ i5 ≤ 2147483647) → (CHX [(94, a)] [xb, xs, xt, xf] [] σ0 σ) → Tn (d + 5) m_X10_refresh 201 T σ [(0, .ref a), (1, .int (iI c1)), (2, .ref rx2), (4, .int (iI c4)), (5, .int (iI i5))] [] post) : ∀ (nq9 : Nat) (i5 : Int) (σ : MS) , (WT T σ) → (FrC T [94] σ0 σ) → (0 ≤ i5 ∧ i5 ≤ 2147483647) → (CHX [(94, a)] [xb, xs, xt, xf] [] σ0 σ) → (2147483700 - i5).toNat = nq9 → Tn (d + 5) m_X10_refresh 179 T σ [(0, .ref a), (1, .int (iI c1)), (2, .ref rx2), (4, .int (iI c4)), (5, .int (iI i5))] [] post := by
  intro nq9
  induction nq9 using Nat.strongRecOn with
  | _ nq9 ih =>
    intro i5 σ hw hF r_i5 hC hm
    refine tn_iload dX10_refresh_179 4 rfl ?_
    refine tn_aload_n dX10_refresh_181 rfl 2 rfl ?_
    refine tn_getI (ci := 1) (i := 1) (n := 6) (t := σ0.2.1 6 rx2) dX10_refresh_182 rfl lay_1 (by decide) fl10_53 h_rx2 rfl rfl (rc_F hF (Or.inl (by decide)) (by decide) (rfl)) ?_
    have g1 : ((0 : Int) ≤ σ0.2.1 6 rx2 ∧ σ0.2.1 6 rx2 ≤ 5000) ∧ ((T rx2).1 = 50 → σ0.2.1 6 rx2 ≤ 200) := wf_6 hw0 h_rx2
    have g1x := g1.2
    replace g1 := g1.1
    have g1x := g1x t_rx2
    refine tn_icmp_ge (tgt := 201) dX10_refresh_185 (by decide) ⟨by omega, by omega⟩ ⟨by omega, by omega⟩ (fun h2 => ?_) (fun h2 => ?_)
    · exact tn_sub [0, 1, 2, 3, 4] rfl (hx_201 (i5) σ hw (FrC.rfl.trans (FrC.sub hF (by decide))) (by omega) hC)
    · refine tn_aload_n dX10_refresh_188 rfl 0 rfl ?_
      refine tn_aload_n dX10_refresh_189 rfl 2 rfl ?_
      refine tn_iload dX10_refresh_190 4 rfl ?_
      obtain ⟨hk5, hl6⟩ : AR T xs 1 145 145 := ar_of (wf_91 hw0 h_a) hxs
      have hk5i : IA T xs := by unfold IA; omega
      obtain ⟨hk9, hl10⟩ : AR T xt 1 0 32788 := ar_of ((wf_92 hw0 h_a).resolve_left (by omega)) hxt
      have hk9i : IA T xt := by unfold IA; omega
      refine tn_callV (M := m_X10_refresh) (pc := 192) (ix := 83) (ci := 10) (M' := m_X10_goThrough) (As := [.ref rx2, .int (iI i5)]) (rest := []) dX10_refresh_192 ok_X10_goThrough im_X10_goThrough se_X10_goThrough ml10_83 np_X10_goThrough rfl rfl h_a rfl (Nat.le_of_ble_eq_true rfl) (Nat.le_of_ble_eq_true rfl) rfl (k_X10_goThrough_h (d) (T := T) (σ := σ) (a := a) (p1 := rx2) (p2 := i5) (xs := xs) (xt := xt) h_a h_rx2 t_rx2 (by omega) hw (rc_F hF (Or.inl (by decide)) (by decide) (hxs)) (rc_F hF (Or.inl (by decide)) (by decide) (hxt))) (fun r11 T13 σ12 gt14 hp => ?_)
      obtain ⟨rfl, rfl, w17, F18, f15⟩ := hp
      clear gt14
      show Tn _ _ 195 T σ12 [(0, .ref a), (1, .int (iI c1)), (2, .ref rx2), (4, .int (iI c4)), (5, .int (iI i5))] [] _
      refine tn_iinc (q0 := 4) (L' := [(5, .int (iI (i5 + 1))), (0, .ref a), (1, .int (iI c1)), (2, .ref rx2), (4, .int (iI c4))]) dX10_refresh_195 rfl (by decide) rfl ?_
      refine tn_goto (tgt := 179) dX10_refresh_198 (by decide) ?_
      exact tn_sub [1, 2, 3, 4, 0] rfl (ih _ (by omega) (i5 + 1) σ12 w17 ((FrC.rfl.trans (FrC.sub hF (by decide))).trans (FrC.sub F18 (by decide))) (by omega) (hC.trans (CHX.sub f15 (by simp) (by simp) (by simp))) rfl)
set_option maxHeartbeats 1000000 in
set_option maxRecDepth 20000 in
theorem l_X10_refresh_h9_157 (d : Nat) {T : CT} {σ0 : MS} {a : Nat} {c1 : Int} {rx2 : Nat} {xb : Nat} {xs : Nat} {xt : Nat} {xf : Nat} {post : Option Value → CT → MS → Prop} (h_a : OB T a 10) (r_c1 : 0 ≤ c1 ∧ c1 ≤ 5) (h_rx2 : OB T rx2 1) (t_rx2 : (T rx2).1 = 50) (hw0 : WT T σ0) (hxb : σ0.2.1 90 a = (xb : Int)) (hxs : σ0.2.1 91 a = (xs : Int)) (hxt : σ0.2.1 92 a = (xt : Int)) (hxf : σ0.2.1 89 a = (xf : Int)) (hx_207 : ∀ (i4 : Int) (σ : MS) , (WT T σ) → (FrC T [94] σ0 σ) → (0 ≤ i4 ∧ i4 ≤ 2147483647) → (CHX [(94, a)] [xb, xs, xt, xf] [] σ0 σ) → Tn (d + 5) m_X10_refresh 207 T σ [(0, .ref a), (1, .int (iI c1)), (2, .ref rx2), (4, .int (iI i4))] [] post) : ∀ (nq9 : Nat) (i4 : Int) (σ : MS) , (WT T σ) → (FrC T [94] σ0 σ) → (0 ≤ i4 ∧ i4 ≤ 2147483647) → (CHX [(94, a)] [xb, xs, xt, xf] [] σ0 σ) → (2147483700 - i4).toNat = nq9 → Tn (d + 5) m_X10_refresh 157 T σ [(0, .ref a), (1, .int (iI c1)), (2, .ref rx2), (4, .int (iI i4))] [] post := by
  intro nq9
  induction nq9 using Nat.strongRecOn with
  | _ nq9 ih =>
    intro i4 σ hw hF r_i4 hC hm
    refine tn_aload_n dX10_refresh_157 rfl 0 rfl ?_
    refine tn_getI (ci := 10) (i := 6) (n := 94) (t := σ.2.1 94 a) dX10_refresh_158 rfl lay_10 (by decide) fl10_78 h_a rfl rfl (rfl) ?_
    have g1 : ((0 : Int) ≤ σ.2.1 94 a ∧ σ.2.1 94 a ≤ 1) := wf_94 hw h_a
    refine tn_if_eq (tgt := 207) dX10_refresh_161 (by decide) ⟨by omega, by omega⟩ (fun h2 => ?_) (fun h2 => ?_)
    · exact tn_sub [0, 1, 2, 3] rfl (hx_207 (i4) σ hw (FrC.rfl.trans (FrC.sub hF (by decide))) (by omega) hC)
    · refine tn_iload dX10_refresh_164 3 rfl ?_
      refine tn_ldc (n := 1000000) dX10_refresh_166 cst10_82 rfl ?_
      refine tn_icmp_ge (tgt := 207) dX10_refresh_168 (by decide) ⟨by omega, by omega⟩ ⟨by decide, by decide⟩ (fun h3 => ?_) (fun h3 => ?_)
      · exact tn_sub [0, 1, 2, 3] rfl (hx_207 (i4) σ hw (FrC.rfl.trans (FrC.sub hF (by decide))) (by omega) hC)
      · refine tn_aload_n dX10_refresh_171 rfl 0 rfl ?_
        refine tn_iconst dX10_refresh_172 ?_
        refine tn_putV (ci := 10) (i := 6) (n := 94) (r := false) (v := 0) tyX10 tyX10_ok nmX10 dX10_refresh_173 rfl lay_10 (by decide) fl10_78 rfl (tyX10_ok 6 (by decide)) rfl rfl rfl h_a rfl rfl ?_
        refine tn_iconst dX10_refresh_176 ?_
        refine tn_istore (L' := [(5, .int (iI 0)), (0, .ref a), (1, .int (iI c1)), (2, .ref rx2), (4, .int (iI i4))]) dX10_refresh_177 (by decide) rfl ?_
        refine tn_sub [1, 2, 3, 4, 0] rfl (l_X10_refresh_h9_179 (d) (T := T) (σ0 := (sA 94 a (0) σ)) (a := a) (c1 := c1) (rx2 := rx2) (c4 := i4) (xb := xb) (xs := xs) (xt := xt) (xf := xf) h_a (by omega) h_rx2 t_rx2 (by omega) (hw.put (by decide) (by decide) (fo_94 (by omega))) (rc_o (by decide) (rc_F hF (Or.inl (by decide)) (by decide) (hxb))) (rc_o (by decide) (rc_F hF (Or.inl (by decide)) (by decide) (hxs))) (rc_o (by decide) (rc_F hF (Or.inl (by decide)) (by decide) (hxt))) (rc_o (by decide) (rc_F hF (Or.inl (by decide)) (by decide) (hxf))) (fun i54 σ5 w8 F9 r10 f11 => ?_) _ (0) (sA 94 a (0) σ) (hw.put (by decide) (by decide) (fo_94 (by omega))) FrC.rfl (by omega) CHX.rfl rfl)
        show Tn _ _ 201 T σ5 [(0, .ref a), (1, .int (iI c1)), (2, .ref rx2), (4, .int (iI i4)), (5, .int (iI i54))] [] _
        refine tn_iinc (q0 := 3) (L' := [(4, .int (iI (i4 + 1))), (0, .ref a), (1, .int (iI c1)), (2, .ref rx2), (5, .int (iI i54))]) dX10_refresh_201 rfl (by decide) rfl ?_
        refine tn_goto (tgt := 157) dX10_refresh_204 (by decide) ?_
        exact tn_sub [1, 2, 3, 0] rfl (ih _ (by omega) (i4 + 1) σ5 w8 (((FrC.rfl.trans (FrC.sub hF (by decide))).put (by decide) (by decide)).trans (FrC.sub F9 (by decide))) (by omega) ((hC.fld (by simp) (by decide)).trans (CHX.sub f11 (by simp) (by simp) (by simp))) rfl)
set_option maxHeartbeats 1000000 in
set_option maxRecDepth 20000 in
theorem k_X10_refresh_h9 (d : Nat) {T : CT} {σ : MS} {a : Nat} {r : Int} {c : Nat} {z : Int} {xb : Nat} {xs : Nat} {xt : Nat} {xf : Nat} (ha : OB T a 10) (h_r : -2147483648 ≤ r ∧ r ≤ 2147483647) (h_c : OB T c 1) (t_c : (T c).1 = 50) (h_z : -2147483648 ≤ z ∧ z ≤ 2147483647) (hw : WT T σ) (hxb : σ.2.1 90 a = (xb : Int)) (hxs : σ.2.1 91 a = (xs : Int)) (hxt : σ.2.1 92 a = (xt : Int)) (hxf : σ.2.1 89 a = (xf : Int)) (hr : 0 ≤ r ∧ r < 6) (hz : 0 ≤ z ∧ z ≤ ((T xt).2 : Int)) : Tn (d + 5) m_X10_refresh 109 T σ [(0, .ref a), (1, .int (iI r)), (2, .ref c), (3, .int (iI z))] [] (fun ro T2 σ2 => ro = none ∧ T = T2 ∧ WT T2 σ2 ∧ FrC T [94] σ σ2 ∧ (CHX [(94, a)] [xb, xs, xt, xf] [] σ σ2)) := by
  refine tn_aload_n dX10_refresh_109 rfl 0 rfl ?_
  obtain ⟨hk3, hl4⟩ : AR T xt 1 0 32788 := ar_of ((wf_92 hw ha).resolve_left (by omega)) hxt
  have hk3i : IA T xt := by unfold IA; omega
  refine tn_getR (ci := 10) (i := 4) (n := 92) (x := xt) dX10_refresh_110 rfl lay_10 (by decide) fl10_61 ha rfl rfl (hxt) ?_
  refine tn_iconst dX10_refresh_113 ?_
  refine tn_iload_n dX10_refresh_114 rfl 3 rfl ?_
  refine tn_iconst dX10_refresh_115 ?_
  refine tn_callS (M := m_X10_refresh) (pc := 116) (ix := 64) (M' := m_J7_fill_fda19) (As := [.ref xt, .int (iI 0), .int (iI z), .int (iI 0)]) (rest := []) dX10_refresh_116 ok_J7_fill_fda19 stt_J7_fill_fda19 ml10_64 np_J7_fill_fda19 rfl (Nat.le_of_ble_eq_true rfl) (Nat.le_of_ble_eq_true rfl) rfl (k_J7_fill_fda19_x (d + 2) (T := T) (σ := σ) (x := xt) (f := 0) (t := z) (y := 0) hk3i (by omega) (by decide) (by omega) (by decide) hw (nh_k hk3 (by unfold HT; omega)) (by omega) (by omega)) (fun r5 T7 σ6 gt8 hp => ?_)
  obtain ⟨rfl, rfl, w12, F13, f9, f10⟩ := hp
  clear gt8
  show Tn _ _ 119 T σ6 [(0, .ref a), (1, .int (iI r)), (2, .ref c), (3, .int (iI z))] [] _
  refine tn_iconst dX10_refresh_119 ?_
  refine tn_istore (L' := [(4, .int (iI 0)), (0, .ref a), (1, .int (iI r)), (2, .ref c), (3, .int (iI z))]) dX10_refresh_120 (by decide) rfl ?_
  refine tn_sub [1, 2, 3, 0] rfl (l_X10_refresh_h9_122 (d) (T := T) (σ0 := σ6) (a := a) (c1 := r) (rx2 := c) (xb := xb) (xs := xs) (xt := xt) (xf := xf) ha (by omega) h_c t_c w12 (rc_F F13 (Or.inl (by decide)) (by decide) (hxb)) (rc_F F13 (Or.inl (by decide)) (by decide) (hxs)) (rc_F F13 (Or.inl (by decide)) (by decide) (hxt)) (rc_F F13 (Or.inl (by decide)) (by decide) (hxf)) (fun i414 σ15 w18 F19 r20 f21 => ?_) _ (0) σ6 w12 FrC.rfl (by omega) CHX.rfl rfl)
  show Tn _ _ 144 T σ15 [(0, .ref a), (1, .int (iI r)), (2, .ref c), (4, .int (iI i414))] [] _
  refine tn_aload_n dX10_refresh_144 rfl 0 rfl ?_
  refine tn_aload_n dX10_refresh_145 rfl 2 rfl ?_
  refine tn_callV (M := m_X10_refresh) (pc := 146) (ix := 74) (ci := 10) (M' := m_X10_begin) (As := [.ref c]) (rest := []) dX10_refresh_146 ok_X10_begin im_X10_begin se_X10_begin ml10_74 np_X10_begin rfl rfl ha rfl (Nat.le_of_ble_eq_true rfl) (Nat.le_of_ble_eq_true rfl) rfl (k_X10_begin_h (d + 2) (T := T) (σ := σ15) (a := a) (p1 := c) (xt := xt) ha h_c t_c w18 (rc_F F19 (Or.inl (by decide)) (by decide) (rc_F F13 (Or.inl (by decide)) (by decide) (hxt)))) (fun r22 T24 σ23 gt25 hp => ?_)
  obtain ⟨rfl, rfl, w28, F29, f26⟩ := hp
  clear gt25
  show Tn _ _ 149 T σ23 [(0, .ref a), (1, .int (iI r)), (2, .ref c), (4, .int (iI i414))] [] _
  refine tn_aload_n dX10_refresh_149 rfl 0 rfl ?_
  refine tn_iconst dX10_refresh_150 ?_
  refine tn_putV (ci := 10) (i := 6) (n := 94) (r := false) (v := 1) tyX10 tyX10_ok nmX10 dX10_refresh_151 rfl lay_10 (by decide) fl10_78 rfl (tyX10_ok 6 (by decide)) rfl rfl rfl ha rfl rfl ?_
  refine tn_iconst dX10_refresh_154 ?_
  refine tn_istore (L' := [(4, .int (iI 0)), (0, .ref a), (1, .int (iI r)), (2, .ref c)]) dX10_refresh_155 (by decide) rfl ?_
  refine tn_sub [1, 2, 3, 0] rfl (l_X10_refresh_h9_157 (d) (T := T) (σ0 := (sA 94 a (1) σ23)) (a := a) (c1 := r) (rx2 := c) (xb := xb) (xs := xs) (xt := xt) (xf := xf) ha (by omega) h_c t_c (w28.put (by decide) (by decide) (fo_94 (by omega))) (rc_o (by decide) (rc_F F29 (Or.inl (by decide)) (by decide) (rc_F F19 (Or.inl (by decide)) (by decide) (rc_F F13 (Or.inl (by decide)) (by decide) (hxb))))) (rc_o (by decide) (rc_F F29 (Or.inl (by decide)) (by decide) (rc_F F19 (Or.inl (by decide)) (by decide) (rc_F F13 (Or.inl (by decide)) (by decide) (hxs))))) (rc_o (by decide) (rc_F F29 (Or.inl (by decide)) (by decide) (rc_F F19 (Or.inl (by decide)) (by decide) (rc_F F13 (Or.inl (by decide)) (by decide) (hxt))))) (rc_o (by decide) (rc_F F29 (Or.inl (by decide)) (by decide) (rc_F F19 (Or.inl (by decide)) (by decide) (rc_F F13 (Or.inl (by decide)) (by decide) (hxf))))) (fun i430 σ31 w34 F35 r36 f37 => ?_) _ (0) (sA 94 a (1) σ23) (w28.put (by decide) (by decide) (fo_94 (by omega))) FrC.rfl (by omega) CHX.rfl rfl)
  show Tn _ _ 207 T σ31 [(0, .ref a), (1, .int (iI r)), (2, .ref c), (4, .int (iI i430))] [] _
  refine tn_aload_n dX10_refresh_207 rfl 0 rfl ?_
  obtain ⟨hk40, hl41⟩ : AR T xf 1 6 6 := ar_of (wf_89 hw ha) hxf
  have hk40i : IA T xf := by unfold IA; omega
  refine tn_getR (ci := 10) (i := 1) (n := 89) (x := xf) dX10_refresh_208 rfl lay_10 (by decide) fl10_17 ha rfl rfl (rc_F F35 (Or.inl (by decide)) (by decide) (rc_o (by decide) (rc_F F29 (Or.inl (by decide)) (by decide) (rc_F F19 (Or.inl (by decide)) (by decide) (rc_F F13 (Or.inl (by decide)) (by decide) (hxf)))))) ?_
  refine tn_iload_n dX10_refresh_211 rfl 1 rfl ?_
  refine tn_iconst dX10_refresh_212 ?_
  refine tn_iast (z := r) (v := 1) dX10_refresh_213 hk40i (by omega) (by omega) (by omega) ?_
  exact tn_vret rfl dX10_refresh_214 ⟨rfl, rfl, (w34.arr (Or.inl hk40i) (vok_1 (by have q9 := hk40; omega) (by omega))), ((((((FrC.rfl.trans (FrC.sub F13 (by decide))).trans (FrC.sub F19 (by decide))).trans (FrC.sub F29 (by decide))).put (by decide) (by decide)).trans (FrC.sub F35 (by decide))).arr (hk_no (nh_k hk40 (by unfold HT; omega)))), ((((((CHX.rfl.trans (CHX.sub f9 (by simp) (by simp) (by simp))).trans (CHX.sub f21 (by simp) (by simp) (by simp))).trans (CHX.sub f26 (by simp) (by simp) (by simp))).fld (by simp) (by decide)).trans (CHX.sub f37 (by simp) (by simp) (by simp))).arr (by simp))⟩
end
section
set_option maxHeartbeats 1000000 in
set_option maxRecDepth 20000 in
theorem k_X10_refresh_h (d : Nat) {T : CT} {σ : MS} {a : Nat} {r : Int} {c : Nat} {xb xs xf : Nat} (ha : OB T a 10) (h_r : -2147483648 ≤ r ∧ r ≤ 2147483647) (h_c : OB T c 1) (t_c : (T c).1 = 50) (hw : WT T σ) (hxb : σ.2.1 90 a = (xb : Int)) (hxs : σ.2.1 91 a = (xs : Int)) (hxf : σ.2.1 89 a = (xf : Int)) : Tn (d + 5) m_X10_refresh 0 T σ [(0, .ref a), (1, .int (iI r)), (2, .ref c)] [] (fun ro T2 σ2 => ro = none ∧ WT T2 σ2 ∧ FrC T [92, 93, 94, 900] σ σ2 ∧ (RFQ T σ σ2 a r xs xb xf)) := by
  refine tn_aload_n dX10_refresh_0 rfl 2 rfl ?_
  refine tn_ifnull dX10_refresh_1 ?_
  refine tn_iload_n dX10_refresh_4 rfl 1 rfl ?_
  refine tn_if_lt (tgt := 35) dX10_refresh_5 (by decide) ⟨by omega, by omega⟩ (fun h1 => ?_) (fun h1 => ?_)
  · exact tn_vret rfl dX10_refresh_35 ⟨rfl, hw, FrC.rfl, Or.inl ⟨rfl, rfl⟩⟩
  · refine tn_iload_n dX10_refresh_8 rfl 1 rfl ?_
    refine tn_aload_n dX10_refresh_9 rfl 0 rfl ?_
    obtain ⟨xq2, hx3, hk4, hl5⟩ : ∃ x : Nat, σ.2.1 88 a = (x : Int) ∧ AR T x 7 6 6 := wf_88 hw ha
    refine tn_getR (ci := 10) (i := 0) (n := 88) (x := xq2) dX10_refresh_10 rfl lay_10 (by decide) fl10_11 ha rfl rfl (hx3) ?_
    refine tn_alenX dX10_refresh_13 (Or.inr (Or.inr (Or.inr (Or.inr (Or.inr hk4))))) ?_
    refine tn_icmp_ge (tgt := 35) dX10_refresh_14 (by decide) ⟨by omega, by omega⟩ ⟨by omega, by omega⟩ (fun h6 => ?_) (fun h6 => ?_)
    · exact tn_vret rfl dX10_refresh_35 ⟨rfl, hw, FrC.rfl, Or.inl ⟨rfl, rfl⟩⟩
    · refine tn_iload_n dX10_refresh_17 rfl 1 rfl ?_
      refine tn_aload_n dX10_refresh_18 rfl 0 rfl ?_
      obtain ⟨xq7, hx8, hk9, hl10⟩ : ∃ x : Nat, σ.2.1 89 a = (x : Int) ∧ AR T x 1 6 6 := wf_89 hw ha
      have hk9i : IA T xq7 := by unfold IA; omega
      refine tn_getR (ci := 10) (i := 1) (n := 89) (x := xq7) dX10_refresh_19 rfl lay_10 (by decide) fl10_17 ha rfl rfl (hx8) ?_
      refine tn_alenX dX10_refresh_22 (Or.inl hk9i) ?_
      refine tn_icmp_ge (tgt := 35) dX10_refresh_23 (by decide) ⟨by omega, by omega⟩ ⟨by omega, by omega⟩ (fun h11 => absurd h11 (by omega)) (fun h11 => ?_)
      refine tn_aload_n dX10_refresh_26 rfl 0 rfl ?_
      refine tn_getR (ci := 10) (i := 1) (n := 89) (x := xq7) dX10_refresh_27 rfl lay_10 (by decide) fl10_17 ha rfl rfl (hx8) ?_
      refine tn_iload_n dX10_refresh_30 rfl 1 rfl ?_
      refine tn_ialdX (z := r) hw dX10_refresh_31 hk9i (by omega) (by omega) (by omega) (fun v12 g13q g13 g13k => ?_)
      clear g13k g13q
      refine tn_if_eq (tgt := 36) dX10_refresh_32 (by decide) ⟨by omega, by omega⟩ (fun h14 => ?_) (fun h14 => ?_)
      · refine tn_aload_n dX10_refresh_36 rfl 0 rfl ?_
        refine tn_aload_n dX10_refresh_37 rfl 2 rfl ?_
        refine tn_aload_n dX10_refresh_38 rfl 2 rfl ?_
        refine tn_getI (ci := 1) (i := 5) (n := 10) (t := σ.2.1 10 c) dX10_refresh_39 rfl lay_1 (by decide) fl10_30 h_c rfl rfl (rfl) ?_
        have g15 : ((0 : Int) ≤ σ.2.1 10 c ∧ σ.2.1 10 c ≤ 12) := wf_10 hw h_c
        refine tn_iconst dX10_refresh_42 ?_
        refine tn_callV (M := m_X10_refresh) (pc := 43) (ix := 36) (ci := 1) (M' := m_X1_slotOf) (As := [.int (iI (σ.2.1 10 c)), .int (iI 0)]) (rest := [.ref a]) dX10_refresh_43 ok_X1_slotOf im_X1_slotOf se_X1_slotOf ml10_36 np_X1_slotOf rfl rfl h_c rfl (Nat.le_of_ble_eq_true rfl) (Nat.le_of_ble_eq_true rfl) rfl (k_X1_slotOf (d + 3) (T := T) (σ := σ) (a := c) (f := σ.2.1 10 c) (m := 0) h_c (by omega) (by decide) hw (by omega)) (fun r16 T18 σ17 gt19 hp => ?_)
        obtain ⟨v22, rfl, rfl, rfl, f20, f21⟩ := hp
        clear gt19
        show Tn _ _ 46 T σ [(0, .ref a), (1, .int (iI r)), (2, .ref c)] [.int (iI v22), .ref a] _
        refine tn_putV (ci := 10) (i := 5) (n := 93) (r := false) (v := v22) tyX10 tyX10_ok nmX10 dX10_refresh_46 rfl lay_10 (by decide) fl10_50 rfl (tyX10_ok 5 (by decide)) rfl rfl rfl ha rfl rfl ?_
        refine tn_iconst dX10_refresh_49 ?_
        refine tn_aload_n dX10_refresh_50 rfl 2 rfl ?_
        refine tn_getI (ci := 1) (i := 1) (n := 6) (t := σ.2.1 6 c) dX10_refresh_51 rfl lay_1 (by decide) fl10_53 h_c rfl rfl (rc_o (by decide) (rfl)) ?_
        have g23 : ((0 : Int) ≤ σ.2.1 6 c ∧ σ.2.1 6 c ≤ 5000) ∧ ((T c).1 = 50 → σ.2.1 6 c ≤ 200) := wf_6 hw h_c
        have g23x := g23.2
        replace g23 := g23.1
        have g23x := g23x t_c
        refine tn_iconst dX10_refresh_54 ?_
        refine tn_iadd dX10_refresh_55 ?_
        refine tn_aload_n dX10_refresh_56 rfl 0 rfl ?_
        refine tn_getI (ci := 10) (i := 5) (n := 93) (t := v22) dX10_refresh_57 rfl lay_10 (by decide) fl10_50 ha rfl rfl (ra_eq) ?_
        refine tn_imul dX10_refresh_60 ?_
        have g25 : 1 ≤ ((σ.2.1 6 c) + 1) * v22 ∧ ((σ.2.1 6 c) + 1) * v22 ≤ 29145 := mul_rng1 (b := 201) (d := 145) (by omega) (by omega) (by omega) (by omega) (by decide)
        generalize ((σ.2.1 6 c) + 1) * v22 = z24 at g25 ⊢
        refine tn_mmax (x := 0) (y := z24) dX10_refresh_61 mlm10_56 stM_max iniM cdM_max (by omega) (Nat.le_of_ble_eq_true rfl) ⟨by omega, by omega⟩ ⟨by omega, by omega⟩ (fun z26 g27 => ?_)
        refine tn_istore_n (L' := [(3, .int (iI z26)), (0, .ref a), (1, .int (iI r)), (2, .ref c)]) dX10_refresh_64 rfl (by decide) rfl ?_
        refine tn_aload_n dX10_refresh_65 rfl 1 rfl ?_
        refine tn_getR (ci := 10) (i := 0) (n := 88) (x := xq2) dX10_refresh_66 rfl lay_10 (by decide) fl10_11 ha rfl rfl (rc_o (by decide) (hx3)) ?_
        refine tn_iload_n dX10_refresh_69 rfl 2 rfl ?_
        rcases hw.2.2.2.2.1.2 (r) (by omega) (by omega) with hx28 | ⟨xq29, hx28, hk30, hl31⟩
        · refine tn_aaldMN (z := r) dX10_refresh_70 hk4 (by omega) (by omega) (by omega) (Int.lt_of_le_of_lt (Int.le_of_eq (rc_o (by decide) (Eq.refl _))) hx28) ?_
          refine tn_ifnullN (tgt := 85) dX10_refresh_71 (by decide) ?_
          refine tn_aload_n dX10_refresh_85 rfl 1 rfl ?_
          refine tn_getR (ci := 10) (i := 0) (n := 88) (x := xq2) dX10_refresh_86 rfl lay_10 (by decide) fl10_11 ha rfl rfl (rc_o (by decide) (hx3)) ?_
          refine tn_iload_n dX10_refresh_89 rfl 2 rfl ?_
          refine tn_iload_n dX10_refresh_90 rfl 0 rfl ?_
          refine tn_iload_n dX10_refresh_91 rfl 0 rfl ?_
          refine tn_bipush dX10_refresh_92 (by decide) ?_
          refine tn_idivX dX10_refresh_94 (by decide) ?_
          obtain ⟨z32, g33, g33e⟩ := div8 (x := z26) (by omega) (by omega)
          rw [g33e]
          refine tn_iadd dX10_refresh_95 ?_
          obtain ⟨N34, N34e⟩ : ∃ N : Nat, z26 + z32 = (N : Int) := ⟨(z26 + z32).toNat, by omega⟩
          have ol47 : tLen T (sA 93 a (v22) σ) (r) = 0 := by unfold tLen; rw [if_pos (Int.lt_of_le_of_lt (Int.le_of_eq (rc_o (by decide) (Eq.refl _))) hx28)]
          refine tn_newI (N := N34) (k := 1) dX10_refresh_96 arC_int (Or.inl rfl) N34e (by omega) (fun xq35 hx36 => ?_)
          have w41 := WT.tab (T := T) (σ := (sA 93 a (v22) σ)) (hw.put (by decide) (by decide) (fo_93 (by omega))) hx36 (r := r) ⟨by omega, by omega⟩ (N := N34) (by omega) (by omega) (by omega) (by omega)
          have gt42 : GT T (tT T xq35 1 N34) := fun b p _ => tT_gt hx36 b p
          have l45 : (tT T xq35 1 N34 xq35) = (1, N34) := tT_eq
          have F43 : FrC T [92, 93, 94, 900] σ (sA 900 (r) (xq35 : Int) (rowS (1000 + xq35) (fun _ => 0) (gh N34 (sA 93 a (v22) σ)))) := FrC.put9 (FrC.row (FrC.gh (FrC.rfl.put (by decide) (by decide))) (hk_no (by unfold NH HT; omega))) (by decide)
          have C48 : CHN T [(92, a), (93, a), (94, a), (900, (r).toNat)] [xq35] [] σ (sA 900 (r) (xq35 : Int) (rowS (1000 + xq35) (fun _ => 0) (gh N34 (sA 93 a (v22) σ)))) := CHN.fld9 (CHN.row (CHN.gh (CHN.rfl.fld (by simp) (by decide))) (Or.inl (by simp))) (by omega) (by simp)
          have q44 : (sA 900 (r) (xq35 : Int) (rowS (1000 + xq35) (fun _ => 0) (gh N34 (sA 93 a (v22) σ)))).2.1 900 (r) = (xq35 : Int) := ra_eq
          have ix46 : IA (tT T xq35 1 N34) xq35 := by unfold IA; rw [l45]; exact Or.inl rfl
          refine tn_aastM (z := r) (v := xq35) (fun b q => (w41).2.2.2.2.1.1 b xq2 q (gt42.kk hk4 (by decide) (by decide))) dX10_refresh_98 (gt42.kk hk4 (by decide) (by decide)) ix46 (by omega) (by rw [gt42.lenK hk4 (by decide) (by decide)]; omega) (by rw [gt42.lenK hk4 (by decide) (by decide)]; omega) ?_
          generalize hT39 : tT T xq35 1 N34 = T37 at w41 gt42 l45 ix46 ⊢
          generalize h40 : (sA 900 (r) (xq35 : Int) (rowS (1000 + xq35) (fun _ => 0) (gh N34 (sA 93 a (v22) σ)))) = σ38 at w41 F43 q44 C48 ⊢
          replace ha : OB T37 a 10 := gt42.ob ha
          replace t_c : (T37 c).1 = 50 := gt42.kk t_c (by decide) (by decide)
          replace h_c : OB T37 c 1 := gt42.ob h_c
          have l45k : (T37 xq35).1 = 1 := by rw [l45]
          have l45n : (T37 xq35).2 = N34 := by rw [l45]
          show Tn _ _ 99 T37 σ38 [(3, .int (iI z26)), (0, .ref a), (1, .int (iI r)), (2, .ref c)] [] _
          refine tn_aload_n dX10_refresh_99 rfl 1 rfl ?_
          refine tn_aload_n dX10_refresh_100 rfl 1 rfl ?_
          obtain ⟨xq49, hx50, hk51, hl52⟩ : ∃ x : Nat, σ38.2.1 88 a = (x : Int) ∧ AR T37 x 7 6 6 := wf_88 w41 ha
          refine tn_getR (ci := 10) (i := 0) (n := 88) (x := xq49) dX10_refresh_101 rfl lay_10 (by decide) fl10_11 ha rfl rfl (hx50) ?_
          refine tn_iload_n dX10_refresh_104 rfl 2 rfl ?_
          refine tn_aaldM (z := r) (x := xq35) dX10_refresh_105 hk51 (by omega) (by omega) (by omega) (q44) ?_
          refine tn_putV (ci := 10) (i := 4) (n := 92) (r := true) (v := (xq35 : Int)) tyX10 tyX10_ok nmX10 dX10_refresh_106 rfl lay_10 (by decide) fl10_61 rfl (tyX10_ok 4 (by decide)) (vl_ref rfl).symm rfl rfl ha rfl rfl ?_
          exact tn_sub [1, 2, 3, 0] rfl (Tn.mono (k_X10_refresh_h9 d (T := T37) (σ := (sA 92 a ((xq35 : Int)) σ38)) (a := a) (r := r) (c := c) (z := z26) (xb := xb) (xs := xs) (xt := xq35) (xf := xf) ha h_r h_c t_c (by omega) (w41.put (by decide) (by decide) (fo_92 (Or.inr ⟨_, rfl, l45k, by omega, by omega⟩))) (rc_o (by decide) (rc_F F43 (Or.inl (by decide)) (by decide) (hxb))) (rc_o (by decide) (rc_F F43 (Or.inl (by decide)) (by decide) (hxs))) (ra_eq) (rc_o (by decide) (rc_F F43 (Or.inl (by decide)) (by decide) (hxf))) (by omega) (by omega)) (fun ro9 T9 σ9 h9 => by
            obtain ⟨q0, q1, q2, q3, q4⟩ := h9
            subst q1
            exact ⟨q0, q2, (((FrC.rfl.trans (FrC.sub F43 (by decide))).put (by decide) (by decide)).trans (FrC.sub (FrC.old q3 gt42) (by decide))), Or.inr ⟨by omega, xq35, Or.inr (by have q9 := hx36; first | exact q9 | omega | (rw [q9])), (q4.1 900 r (by decide) (fun p hp e => by rw [List.mem_singleton.mp hp] at e; exact absurd e (by simp))).trans (rc_o (by decide) (q44)), ((CHN.rfl.trans (CHN.sub C48 (by simp) (by simp) (by simp))).fld (by simp) (by decide)).trans (CHN.of q4 (by simp) (fun z q => Or.inl (by revert q; simp; try omega)) (by simp))⟩⟩))
        · refine tn_aaldM (z := r) (x := xq29) dX10_refresh_70 hk4 (by omega) (by omega) (by omega) (rc_o (by decide) (hx28)) ?_
          have hk30i : IA T xq29 := by unfold IA; omega
          refine tn_ifnull dX10_refresh_71 ?_
          refine tn_aload_n dX10_refresh_74 rfl 1 rfl ?_
          refine tn_getR (ci := 10) (i := 0) (n := 88) (x := xq2) dX10_refresh_75 rfl lay_10 (by decide) fl10_11 ha rfl rfl (rc_o (by decide) (hx3)) ?_
          refine tn_iload_n dX10_refresh_78 rfl 2 rfl ?_
          refine tn_aaldM (z := r) (x := xq29) dX10_refresh_79 hk4 (by omega) (by omega) (by omega) (rc_o (by decide) (hx28)) ?_
          refine tn_alenX dX10_refresh_80 (Or.inl hk30i) ?_
          refine tn_iload_n dX10_refresh_81 rfl 0 rfl ?_
          refine tn_icmp_ge (tgt := 99) dX10_refresh_82 (by decide) ⟨by omega, by omega⟩ ⟨by omega, by omega⟩ (fun h53 => ?_) (fun h53 => ?_)
          · refine tn_aload_n dX10_refresh_99 rfl 1 rfl ?_
            refine tn_aload_n dX10_refresh_100 rfl 1 rfl ?_
            refine tn_getR (ci := 10) (i := 0) (n := 88) (x := xq2) dX10_refresh_101 rfl lay_10 (by decide) fl10_11 ha rfl rfl (rc_o (by decide) (hx3)) ?_
            refine tn_iload_n dX10_refresh_104 rfl 2 rfl ?_
            refine tn_aaldM (z := r) (x := xq29) dX10_refresh_105 hk4 (by omega) (by omega) (by omega) (rc_o (by decide) (hx28)) ?_
            refine tn_putV (ci := 10) (i := 4) (n := 92) (r := true) (v := (xq29 : Int)) tyX10 tyX10_ok nmX10 dX10_refresh_106 rfl lay_10 (by decide) fl10_61 rfl (tyX10_ok 4 (by decide)) (vl_ref rfl).symm rfl rfl ha rfl rfl ?_
            exact tn_sub [1, 2, 3, 0] rfl (Tn.mono (k_X10_refresh_h9 d (T := T) (σ := (sA 92 a ((xq29 : Int)) (sA 93 a (v22) σ))) (a := a) (r := r) (c := c) (z := z26) (xb := xb) (xs := xs) (xt := xq29) (xf := xf) ha h_r h_c t_c (by omega) ((hw.put (by decide) (by decide) (fo_93 (by omega))).put (by decide) (by decide) (fo_92 (Or.inr ⟨_, rfl, hk30, by omega, by omega⟩))) (rc_o (by decide) (rc_o (by decide) (hxb))) (rc_o (by decide) (rc_o (by decide) (hxs))) (ra_eq) (rc_o (by decide) (rc_o (by decide) (hxf))) (by omega) (by omega)) (fun ro9 T9 σ9 h9 => by
              obtain ⟨q0, q1, q2, q3, q4⟩ := h9
              subst q1
              exact ⟨q0, q2, (((FrC.rfl.put (by decide) (by decide)).put (by decide) (by decide)).trans (FrC.sub q3 (by decide))), Or.inr ⟨by omega, xq29, Or.inl hx28, (q4.1 900 r (by decide) (fun p hp e => by rw [List.mem_singleton.mp hp] at e; exact absurd e (by simp))).trans (rc_o (by decide) (rc_o (by decide) (hx28))), ((CHN.rfl.fld (by simp) (by decide)).fld (by simp) (by decide)).trans (CHN.of q4 (by simp) (fun z q => Or.inl (by revert q; simp; try omega)) (by simp))⟩⟩))
          · refine tn_aload_n dX10_refresh_85 rfl 1 rfl ?_
            refine tn_getR (ci := 10) (i := 0) (n := 88) (x := xq2) dX10_refresh_86 rfl lay_10 (by decide) fl10_11 ha rfl rfl (rc_o (by decide) (hx3)) ?_
            refine tn_iload_n dX10_refresh_89 rfl 2 rfl ?_
            refine tn_iload_n dX10_refresh_90 rfl 0 rfl ?_
            refine tn_iload_n dX10_refresh_91 rfl 0 rfl ?_
            refine tn_bipush dX10_refresh_92 (by decide) ?_
            refine tn_idivX dX10_refresh_94 (by decide) ?_
            obtain ⟨z54, g55, g55e⟩ := div8 (x := z26) (by omega) (by omega)
            rw [g55e]
            refine tn_iadd dX10_refresh_95 ?_
            obtain ⟨N56, N56e⟩ : ∃ N : Nat, z26 + z54 = (N : Int) := ⟨(z26 + z54).toNat, by omega⟩
            have ol69 : tLen T (sA 93 a (v22) σ) (r) = (T xq29).2 := tLen_at (rc_o (by decide) (hx28))
            refine tn_newI (N := N56) (k := 1) dX10_refresh_96 arC_int (Or.inl rfl) N56e (by omega) (fun xq57 hx58 => ?_)
            have w63 := WT.tab (T := T) (σ := (sA 93 a (v22) σ)) (hw.put (by decide) (by decide) (fo_93 (by omega))) hx58 (r := r) ⟨by omega, by omega⟩ (N := N56) (by omega) (by omega) (by omega) (by omega)
            have gt64 : GT T (tT T xq57 1 N56) := fun b p _ => tT_gt hx58 b p
            have l67 : (tT T xq57 1 N56 xq57) = (1, N56) := tT_eq
            have F65 : FrC T [92, 93, 94, 900] σ (sA 900 (r) (xq57 : Int) (rowS (1000 + xq57) (fun _ => 0) (gh N56 (sA 93 a (v22) σ)))) := FrC.put9 (FrC.row (FrC.gh (FrC.rfl.put (by decide) (by decide))) (hk_no (by unfold NH HT; omega))) (by decide)
            have C70 : CHN T [(92, a), (93, a), (94, a), (900, (r).toNat)] [xq57] [] σ (sA 900 (r) (xq57 : Int) (rowS (1000 + xq57) (fun _ => 0) (gh N56 (sA 93 a (v22) σ)))) := CHN.fld9 (CHN.row (CHN.gh (CHN.rfl.fld (by simp) (by decide))) (Or.inl (by simp))) (by omega) (by simp)
            have q66 : (sA 900 (r) (xq57 : Int) (rowS (1000 + xq57) (fun _ => 0) (gh N56 (sA 93 a (v22) σ)))).2.1 900 (r) = (xq57 : Int) := ra_eq
            have ix68 : IA (tT T xq57 1 N56) xq57 := by unfold IA; rw [l67]; exact Or.inl rfl
            refine tn_aastM (z := r) (v := xq57) (fun b q => (w63).2.2.2.2.1.1 b xq2 q (gt64.kk hk4 (by decide) (by decide))) dX10_refresh_98 (gt64.kk hk4 (by decide) (by decide)) ix68 (by omega) (by rw [gt64.lenK hk4 (by decide) (by decide)]; omega) (by rw [gt64.lenK hk4 (by decide) (by decide)]; omega) ?_
            generalize hT61 : tT T xq57 1 N56 = T59 at w63 gt64 l67 ix68 ⊢
            generalize h62 : (sA 900 (r) (xq57 : Int) (rowS (1000 + xq57) (fun _ => 0) (gh N56 (sA 93 a (v22) σ)))) = σ60 at w63 F65 q66 C70 ⊢
            replace ha : OB T59 a 10 := gt64.ob ha
            replace t_c : (T59 c).1 = 50 := gt64.kk t_c (by decide) (by decide)
            replace h_c : OB T59 c 1 := gt64.ob h_c
            have l67k : (T59 xq57).1 = 1 := by rw [l67]
            have l67n : (T59 xq57).2 = N56 := by rw [l67]
            show Tn _ _ 99 T59 σ60 [(3, .int (iI z26)), (0, .ref a), (1, .int (iI r)), (2, .ref c)] [] _
            refine tn_aload_n dX10_refresh_99 rfl 1 rfl ?_
            refine tn_aload_n dX10_refresh_100 rfl 1 rfl ?_
            obtain ⟨xq71, hx72, hk73, hl74⟩ : ∃ x : Nat, σ60.2.1 88 a = (x : Int) ∧ AR T59 x 7 6 6 := wf_88 w63 ha
            refine tn_getR (ci := 10) (i := 0) (n := 88) (x := xq71) dX10_refresh_101 rfl lay_10 (by decide) fl10_11 ha rfl rfl (hx72) ?_
            refine tn_iload_n dX10_refresh_104 rfl 2 rfl ?_
            refine tn_aaldM (z := r) (x := xq57) dX10_refresh_105 hk73 (by omega) (by omega) (by omega) (q66) ?_
            refine tn_putV (ci := 10) (i := 4) (n := 92) (r := true) (v := (xq57 : Int)) tyX10 tyX10_ok nmX10 dX10_refresh_106 rfl lay_10 (by decide) fl10_61 rfl (tyX10_ok 4 (by decide)) (vl_ref rfl).symm rfl rfl ha rfl rfl ?_
            exact tn_sub [1, 2, 3, 0] rfl (Tn.mono (k_X10_refresh_h9 d (T := T59) (σ := (sA 92 a ((xq57 : Int)) σ60)) (a := a) (r := r) (c := c) (z := z26) (xb := xb) (xs := xs) (xt := xq57) (xf := xf) ha h_r h_c t_c (by omega) (w63.put (by decide) (by decide) (fo_92 (Or.inr ⟨_, rfl, l67k, by omega, by omega⟩))) (rc_o (by decide) (rc_F F65 (Or.inl (by decide)) (by decide) (hxb))) (rc_o (by decide) (rc_F F65 (Or.inl (by decide)) (by decide) (hxs))) (ra_eq) (rc_o (by decide) (rc_F F65 (Or.inl (by decide)) (by decide) (hxf))) (by omega) (by omega)) (fun ro9 T9 σ9 h9 => by
              obtain ⟨q0, q1, q2, q3, q4⟩ := h9
              subst q1
              exact ⟨q0, q2, (((FrC.rfl.trans (FrC.sub F65 (by decide))).put (by decide) (by decide)).trans (FrC.sub (FrC.old q3 gt64) (by decide))), Or.inr ⟨by omega, xq57, Or.inr (by have q9 := hx58; first | exact q9 | omega | (rw [q9])), (q4.1 900 r (by decide) (fun p hp e => by rw [List.mem_singleton.mp hp] at e; exact absurd e (by simp))).trans (rc_o (by decide) (q66)), ((CHN.rfl.trans (CHN.sub C70 (by simp) (by simp) (by simp))).fld (by simp) (by decide)).trans (CHN.of q4 (by simp) (fun z q => Or.inl (by revert q; simp; try omega)) (by simp))⟩⟩))
      · exact tn_vret rfl dX10_refresh_35 ⟨rfl, hw, FrC.rfl, Or.inl ⟨rfl, rfl⟩⟩
end
section
set_option maxHeartbeats 1000000 in
set_option maxRecDepth 20000 in
theorem k_X10_refresh_h0 (d : Nat) {T : CT} {σ : MS} {a : Nat} {r : Int} {xb xs xf : Nat} (ha : OB T a 10) (h_r : -2147483648 ≤ r ∧ r ≤ 2147483647) (hw : WT T σ) (hxb : σ.2.1 90 a = (xb : Int)) (hxs : σ.2.1 91 a = (xs : Int)) (hxf : σ.2.1 89 a = (xf : Int)) : Tn (d + 5) m_X10_refresh 0 T σ [(0, .ref a), (1, .int (iI r)), (2, .null)] [] (fun ro T2 σ2 => ro = none ∧ WT T2 σ2 ∧ FrC T [92, 93, 94, 900] σ σ2 ∧ (RFQ T σ σ2 a r xs xb xf)) := by
  refine tn_aload_nN dX10_refresh_0 rfl 2 rfl ?_
  refine tn_ifnullN (tgt := 35) dX10_refresh_1 (by decide) ?_
  exact tn_vret rfl dX10_refresh_35 ⟨rfl, hw, FrC.rfl, Or.inl ⟨rfl, rfl⟩⟩
end
section
def TLQ (T : CT) (σ σ2 : MS) (a : Nat) : Prop := (σ2.2.1 = σ.2.1 ∧ σ2.2.2 = σ.2.2) ∨ ∃ (tl xs xb xf : Nat) (r : Int), (σ.2.1 102 a = (tl : Int) ∧ σ.2.1 90 tl = (xb : Int) ∧ σ.2.1 91 tl = (xs : Int) ∧ σ.2.1 89 tl = (xf : Int)) ∧ RFQ T σ σ2 tl r xs xb xf
def KNQ (T : CT) (σ σ2 : MS) (a : Nat) : Prop := ∃ (σ1 : MS) (rn : Nat), σ.2.1 103 a = (rn : Int) ∧ CHX [(70, rn), (71, rn)] [] [] σ σ1 ∧ WT T σ1 ∧ TLQ T σ1 σ2 a
end
section
set_option maxHeartbeats 1000000 in
set_option maxRecDepth 20000 in
theorem k_X11_told_h (d : Nat) {T : CT} {σ : MS} {a : Nat} {r : Int} {k : Int} {f : Int} {m : Int} {w : Int} (ha : OB T a 11) (h_r : -2147483648 ≤ r ∧ r ≤ 2147483647) (h_k : -2147483648 ≤ k ∧ k ≤ 2147483647) (h_f : -2147483648 ≤ f ∧ f ≤ 2147483647) (h_m : -2147483648 ≤ m ∧ m ≤ 2147483647) (h_w : -2147483648 ≤ w ∧ w ≤ 2147483647) (hw : WT T σ) : Tn (d + 6) m_X11_told 0 T σ [(0, .ref a), (1, .int (iI r)), (2, .int (iI k)), (3, .int (iI f)), (4, .int (iI m)), (5, .int (iI w))] [] (fun ro T2 σ2 => ∃ v : Int, ro = some (.int (iI v)) ∧ WT T2 σ2 ∧ FrC T [92, 93, 94, 900] σ σ2 ∧ (-2147483648 ≤ v ∧ v ≤ 2147483647) ∧ (TLQ T σ σ2 a) ∧ (GT T T2)) := by
  refine tn_aload_n dX11_told_0 rfl 0 rfl ?_
  refine tn_iload_n dX11_told_1 rfl 1 rfl ?_
  refine tn_callV (M := m_X11_told) (pc := 2) (ix := 123) (ci := 11) (M' := m_X11_codeOf) (As := [.int (iI r)]) (rest := []) dX11_told_2 ok_X11_codeOf im_X11_codeOf se_X11_codeOf ml11_123 np_X11_codeOf rfl rfl ha rfl (Nat.le_of_ble_eq_true rfl) (Nat.le_of_ble_eq_true rfl) rfl (k_X11_codeOf (d + 4) (T := T) (σ := σ) (a := a) (r := r) ha (by omega) hw ) (fun r1 T3 σ2 gt4 hp => ?_)
  obtain ⟨v5, rfl, rfl, rfl, rv6⟩ := hp
  clear gt4
  rcases rv6 with rv6 | ⟨xq7, rfl, hk8⟩
  · show Tn _ _ 5 T σ [(0, .ref a), (1, .int (iI r)), (2, .int (iI k)), (3, .int (iI f)), (4, .int (iI m)), (5, .int (iI w))] (vl true v5 :: []) _
    rw [vl_null rv6]
    refine tn_astoreN (L' := [(6, .null), (0, .ref a), (1, .int (iI r)), (2, .int (iI k)), (3, .int (iI f)), (4, .int (iI m)), (5, .int (iI w))]) dX11_told_5 (by decide) rfl ?_
    refine tn_aloadN dX11_told_7 0 rfl ?_
    refine tn_ifnullN (tgt := 47) dX11_told_9 (by decide) ?_
    refine tn_iconst dX11_told_47 ?_
    exact tn_iret rfl dX11_told_48 ⟨_, rfl, hw, FrC.rfl, by omega, Or.inl ⟨rfl, rfl⟩, GT.rfl⟩
  · show Tn _ _ 5 T σ [(0, .ref a), (1, .int (iI r)), (2, .int (iI k)), (3, .int (iI f)), (4, .int (iI m)), (5, .int (iI w))] (vl true (xq7 : Int) :: []) _
    rw [vl_ref rfl]
    have hk8o : OB T xq7 1 := ⟨by omega, by rw [hk8]; rfl, by omega⟩
    refine tn_astore (L' := [(6, .ref xq7), (0, .ref a), (1, .int (iI r)), (2, .int (iI k)), (3, .int (iI f)), (4, .int (iI m)), (5, .int (iI w))]) dX11_told_5 (by decide) rfl ?_
    refine tn_aload dX11_told_7 0 rfl ?_
    refine tn_ifnull dX11_told_9 ?_
    refine tn_iload_n dX11_told_12 rfl 3 rfl ?_
    refine tn_if_lt (tgt := 47) dX11_told_13 (by decide) ⟨by omega, by omega⟩ (fun h9 => ?_) (fun h9 => ?_)
    · refine tn_iconst dX11_told_47 ?_
      exact tn_iret rfl dX11_told_48 ⟨_, rfl, hw, FrC.rfl, by omega, Or.inl ⟨rfl, rfl⟩, GT.rfl⟩
    · refine tn_iload_n dX11_told_16 rfl 3 rfl ?_
      refine tn_aload dX11_told_17 0 rfl ?_
      refine tn_getI (ci := 1) (i := 1) (n := 6) (t := σ.2.1 6 xq7) dX11_told_19 rfl lay_1 (by decide) fl11_127 hk8o rfl rfl (rfl) ?_
      have g10 : ((0 : Int) ≤ σ.2.1 6 xq7 ∧ σ.2.1 6 xq7 ≤ 5000) ∧ ((T xq7).1 = 50 → σ.2.1 6 xq7 ≤ 200) := wf_6 hw hk8o
      have g10x := g10.2
      replace g10 := g10.1
      have g10x := g10x hk8
      refine tn_icmp_gt (tgt := 47) dX11_told_22 (by decide) ⟨by omega, by omega⟩ ⟨by omega, by omega⟩ (fun h11 => ?_) (fun h11 => ?_)
      · refine tn_iconst dX11_told_47 ?_
        exact tn_iret rfl dX11_told_48 ⟨_, rfl, hw, FrC.rfl, by omega, Or.inl ⟨rfl, rfl⟩, GT.rfl⟩
      · refine tn_aload dX11_told_25 0 rfl ?_
        refine tn_iload_n dX11_told_27 rfl 4 rfl ?_
        refine tn_iload dX11_told_28 5 rfl ?_
        refine tn_callV (M := m_X11_told) (pc := 30) (ix := 172) (ci := 1) (M' := m_X1_hasName) (As := [.int (iI f), .int (iI m)]) (rest := []) dX11_told_30 ok_X1_hasName im_X1_hasName se_X1_hasName ml11_172 np_X1_hasName rfl rfl hk8o rfl (Nat.le_of_ble_eq_true rfl) (Nat.le_of_ble_eq_true rfl) rfl (k_X1_hasName (d + 3) (T := T) (σ := σ) (a := xq7) (f := f) (m := m) hk8o (by omega) (by omega) hw ) (fun r12 T14 σ13 gt15 hp => ?_)
        obtain ⟨v17, rfl, rfl, rfl, f16⟩ := hp
        clear gt15
        show Tn _ _ 33 T σ [(6, .ref xq7), (0, .ref a), (1, .int (iI r)), (2, .int (iI k)), (3, .int (iI f)), (4, .int (iI m)), (5, .int (iI w))] [.int (iI v17)] _
        refine tn_if_eq (tgt := 47) dX11_told_33 (by decide) ⟨by omega, by omega⟩ (fun h18 => ?_) (fun h18 => ?_)
        · refine tn_iconst dX11_told_47 ?_
          exact tn_iret rfl dX11_told_48 ⟨_, rfl, hw, FrC.rfl, by omega, Or.inl ⟨rfl, rfl⟩, GT.rfl⟩
        · refine tn_iload dX11_told_36 6 rfl ?_
          refine tn_if_lt (tgt := 47) dX11_told_38 (by decide) ⟨by omega, by omega⟩ (fun h19 => ?_) (fun h19 => ?_)
          · refine tn_iconst dX11_told_47 ?_
            exact tn_iret rfl dX11_told_48 ⟨_, rfl, hw, FrC.rfl, by omega, Or.inl ⟨rfl, rfl⟩, GT.rfl⟩
          · refine tn_iload dX11_told_41 6 rfl ?_
            refine tn_iconst dX11_told_43 ?_
            refine tn_icmp_le (tgt := 49) dX11_told_44 (by decide) ⟨by omega, by omega⟩ ⟨by decide, by decide⟩ (fun h20 => ?_) (fun h20 => ?_)
            · refine tn_aload_n dX11_told_49 rfl 1 rfl ?_
              obtain ⟨xq21, hx22, hk23⟩ : ∃ x : Nat, σ.2.1 102 a = (x : Int) ∧ (T x).1 = 40 := wf_102 hw ha
              have hk23o : OB T xq21 10 := ⟨by omega, by rw [hk23]; rfl, by omega⟩
              refine tn_getR (ci := 11) (i := 7) (n := 102) (x := xq21) dX11_told_50 rfl lay_11 (by decide) fl11_39 ha rfl rfl (hx22) ?_
              refine tn_iload_n dX11_told_53 rfl 2 rfl ?_
              refine tn_aload dX11_told_54 0 rfl ?_
              obtain ⟨xq25, hx26, hk27, hl28⟩ : ∃ x : Nat, σ.2.1 90 xq21 = (x : Int) ∧ AR T x 1 200 200 := wf_90 hw hk23o
              have hk27i : IA T xq25 := by unfold IA; omega
              obtain ⟨xq29, hx30, hk31, hl32⟩ : ∃ x : Nat, σ.2.1 91 xq21 = (x : Int) ∧ AR T x 1 145 145 := wf_91 hw hk23o
              have hk31i : IA T xq29 := by unfold IA; omega
              obtain ⟨xq33, hx34, hk35, hl36⟩ : ∃ x : Nat, σ.2.1 89 xq21 = (x : Int) ∧ AR T x 1 6 6 := wf_89 hw hk23o
              have hk35i : IA T xq33 := by unfold IA; omega
              refine tn_callV (M := m_X11_told) (pc := 56) (ix := 176) (ci := 10) (M' := m_X10_refresh) (As := [.int (iI r), .ref xq7]) (rest := []) dX11_told_56 ok_X10_refresh im_X10_refresh se_X10_refresh ml11_176 np_X10_refresh rfl rfl hk23o rfl (Nat.le_of_ble_eq_true rfl) (Nat.le_of_ble_eq_true rfl) rfl (k_X10_refresh_h (d) (T := T) (σ := σ) (a := xq21) (r := r) (c := xq7) hk23o (by omega) hk8o hk8 hw (hx26) (hx30) (hx34)) (fun r37 T39 σ38 gt40 hp => ?_)
              obtain ⟨rfl, w43, F44, f41⟩ := hp
              replace ha : OB T39 a 11 := gt40.ob ha
              replace hk8o : OB T39 xq7 1 := gt40.ob hk8o
              replace hk8 : (T39 xq7).1 = 50 := gt40.kk hk8 (by decide) (by decide)
              show Tn _ _ 59 T39 σ38 [(6, .ref xq7), (0, .ref a), (1, .int (iI r)), (2, .int (iI k)), (3, .int (iI f)), (4, .int (iI m)), (5, .int (iI w))] [] _
              refine tn_aload_n dX11_told_59 rfl 1 rfl ?_
              obtain ⟨xq45, hx46, hk47⟩ : ∃ x : Nat, σ38.2.1 102 a = (x : Int) ∧ (T39 x).1 = 40 := wf_102 w43 ha
              have hk47o : OB T39 xq45 10 := ⟨by omega, by rw [hk47]; rfl, by omega⟩
              refine tn_getR (ci := 11) (i := 7) (n := 102) (x := xq45) dX11_told_60 rfl lay_11 (by decide) fl11_39 ha rfl rfl (hx46) ?_
              refine tn_iload_n dX11_told_63 rfl 2 rfl ?_
              refine tn_aload_n dX11_told_64 rfl 1 rfl ?_
              refine tn_getR (ci := 11) (i := 7) (n := 102) (x := xq45) dX11_told_65 rfl lay_11 (by decide) fl11_39 ha rfl rfl (hx46) ?_
              refine tn_aload dX11_told_68 0 rfl ?_
              refine tn_iload_n dX11_told_70 rfl 3 rfl ?_
              refine tn_iload_n dX11_told_71 rfl 4 rfl ?_
              refine tn_callV (M := m_X11_told) (pc := 72) (ix := 180) (ci := 10) (M' := m_X10_slotAt) (As := [.ref xq7, .int (iI k), .int (iI f)]) (rest := [.int (iI r), .ref xq45]) dX11_told_72 ok_X10_slotAt im_X10_slotAt se_X10_slotAt ml11_180 np_X10_slotAt rfl rfl hk47o rfl (Nat.le_of_ble_eq_true rfl) (Nat.le_of_ble_eq_true rfl) rfl (k_X10_slotAt (d + 3) (T := T39) (σ := σ38) (a := xq45) (c := xq7) (k := k) (f := f) hk47o hk8o (by omega) (by omega) w43 ) (fun r49 T51 σ50 gt52 hp => ?_)
              obtain ⟨v54, rfl, rfl, rfl, f53⟩ := hp
              clear gt52
              show Tn _ _ 75 T39 σ38 [(6, .ref xq7), (0, .ref a), (1, .int (iI r)), (2, .int (iI k)), (3, .int (iI f)), (4, .int (iI m)), (5, .int (iI w))] [.int (iI v54), .int (iI r), .ref xq45] _
              refine tn_iload dX11_told_75 5 rfl ?_
              refine tn_iadd dX11_told_77 ?_
              refine tn_any (fun z55 g56 => ?_)
              have g56r : -2147483648 ≤ z55 ∧ z55 ≤ 2147483647 := g56
              refine tn_callV (M := m_X11_told) (pc := 78) (ix := 184) (ci := 10) (M' := m_X10_idIn) (As := [.int (iI r), .int (iI z55)]) (rest := []) dX11_told_78 ok_X10_idIn im_X10_idIn se_X10_idIn ml11_184 np_X10_idIn rfl rfl hk47o rfl (Nat.le_of_ble_eq_true rfl) (Nat.le_of_ble_eq_true rfl) rfl (k_X10_idIn (d + 3) (T := T39) (σ := σ38) (a := xq45) (p1 := r) (p2 := z55) hk47o (by omega) (by omega) w43 ) (fun r57 T59 σ58 gt60 hp => ?_)
              obtain ⟨v62, rfl, rfl, rfl, f61⟩ := hp
              clear gt60
              show Tn _ _ 81 T39 σ38 [(6, .ref xq7), (0, .ref a), (1, .int (iI r)), (2, .int (iI k)), (3, .int (iI f)), (4, .int (iI m)), (5, .int (iI w))] [.int (iI v62)] _
              refine tn_istore (L' := [(7, .int (iI v62)), (6, .ref xq7), (0, .ref a), (1, .int (iI r)), (2, .int (iI k)), (3, .int (iI f)), (4, .int (iI m)), (5, .int (iI w))]) dX11_told_81 (by decide) rfl ?_
              refine tn_iload dX11_told_83 7 rfl ?_
              by_cases h63 : w < 0 ∨ 3 < w
              · refine tn_tableOut (tgt := 167) dX11_told_85 (x := w) ⟨by omega, by omega⟩ h63 (by decide) ?_
                refine tn_aload_n dX11_told_167 rfl 2 rfl ?_
                refine tn_getR (ci := 11) (i := 7) (n := 102) (x := xq45) dX11_told_168 rfl lay_11 (by decide) fl11_39 ha rfl rfl (hx46) ?_
                refine tn_aload dX11_told_171 1 rfl ?_
                refine tn_iload dX11_told_173 0 rfl ?_
                refine tn_bipush dX11_told_175 (by decide) ?_
                refine tn_callV (M := m_X11_told) (pc := 177) (ix := 191) (ci := 10) (M' := m_X10_part) (As := [.ref xq7, .int (iI v62), .int (iI 6)]) (rest := []) dX11_told_177 ok_X10_part im_X10_part se_X10_part ml11_191 np_X10_part rfl rfl hk47o rfl (Nat.le_of_ble_eq_true rfl) (Nat.le_of_ble_eq_true rfl) rfl (k_X10_part (d + 2) (T := T39) (σ := σ38) (a := xq45) (c := xq7) (i := v62) (e := 6) hk47o hk8o (by omega) (by decide) w43 (by omega)) (fun r64 T66 σ65 gt67 hp => ?_)
                obtain ⟨v69, rfl, rfl, rfl, f68⟩ := hp
                clear gt67
                show Tn _ _ 180 T39 σ38 [(7, .int (iI v62)), (6, .ref xq7), (0, .ref a), (1, .int (iI r)), (2, .int (iI k)), (3, .int (iI f)), (4, .int (iI m)), (5, .int (iI w))] [.int (iI v69)] _
                exact tn_iret rfl dX11_told_180 ⟨_, rfl, w43, (FrC.rfl.trans (FrC.sub F44 (by decide))), by omega, Or.inr ⟨xq21, _, _, _, _, ⟨hx22, (hx26), (hx30), (hx34)⟩, f41⟩, gt40⟩
              · have h70 : w = 0 ∨ w = 1 ∨ w = 2 ∨ w = 3 := by omega
                rcases h70 with h70 | h70 | h70 | h70
                · refine tn_tableIn (tgt := 116) (off := 31) dX11_told_85 (x := w) ⟨by omega, by omega⟩ (by omega) (by omega) (by rw [h70]; rfl) (by decide) ?_
                  refine tn_aload_n dX11_told_116 rfl 2 rfl ?_
                  refine tn_getR (ci := 11) (i := 7) (n := 102) (x := xq45) dX11_told_117 rfl lay_11 (by decide) fl11_39 ha rfl rfl (hx46) ?_
                  refine tn_aload dX11_told_120 1 rfl ?_
                  refine tn_iload dX11_told_122 0 rfl ?_
                  refine tn_callV (M := m_X11_told) (pc := 124) (ix := 187) (ci := 10) (M' := m_X10_whereOf) (As := [.ref xq7, .int (iI v62)]) (rest := []) dX11_told_124 ok_X10_whereOf im_X10_whereOf se_X10_whereOf ml11_187 np_X10_whereOf rfl rfl hk47o rfl (Nat.le_of_ble_eq_true rfl) (Nat.le_of_ble_eq_true rfl) rfl (k_X10_whereOf (d + 3) (T := T39) (σ := σ38) (a := xq45) (c := xq7) (i := v62) hk47o hk8o (by omega) w43 ) (fun r71 T73 σ72 gt74 hp => ?_)
                  obtain ⟨v76, rfl, rfl, rfl, f75⟩ := hp
                  clear gt74
                  show Tn _ _ 127 T39 σ38 [(7, .int (iI v62)), (6, .ref xq7), (0, .ref a), (1, .int (iI r)), (2, .int (iI k)), (3, .int (iI f)), (4, .int (iI m)), (5, .int (iI w))] [.int (iI v76)] _
                  exact tn_iret rfl dX11_told_127 ⟨_, rfl, w43, (FrC.rfl.trans (FrC.sub F44 (by decide))), by omega, Or.inr ⟨xq21, _, _, _, _, ⟨hx22, (hx26), (hx30), (hx34)⟩, f41⟩, gt40⟩
                · refine tn_tableIn (tgt := 128) (off := 43) dX11_told_85 (x := w) ⟨by omega, by omega⟩ (by omega) (by omega) (by rw [h70]; rfl) (by decide) ?_
                  refine tn_aload_n dX11_told_128 rfl 2 rfl ?_
                  refine tn_getR (ci := 11) (i := 7) (n := 102) (x := xq45) dX11_told_129 rfl lay_11 (by decide) fl11_39 ha rfl rfl (hx46) ?_
                  refine tn_aload dX11_told_132 1 rfl ?_
                  refine tn_iload dX11_told_134 0 rfl ?_
                  refine tn_iconst dX11_told_136 ?_
                  refine tn_callV (M := m_X11_told) (pc := 137) (ix := 191) (ci := 10) (M' := m_X10_part) (As := [.ref xq7, .int (iI v62), .int (iI 3)]) (rest := []) dX11_told_137 ok_X10_part im_X10_part se_X10_part ml11_191 np_X10_part rfl rfl hk47o rfl (Nat.le_of_ble_eq_true rfl) (Nat.le_of_ble_eq_true rfl) rfl (k_X10_part (d + 2) (T := T39) (σ := σ38) (a := xq45) (c := xq7) (i := v62) (e := 3) hk47o hk8o (by omega) (by decide) w43 (by omega)) (fun r77 T79 σ78 gt80 hp => ?_)
                  obtain ⟨v82, rfl, rfl, rfl, f81⟩ := hp
                  clear gt80
                  show Tn _ _ 140 T39 σ38 [(7, .int (iI v62)), (6, .ref xq7), (0, .ref a), (1, .int (iI r)), (2, .int (iI k)), (3, .int (iI f)), (4, .int (iI m)), (5, .int (iI w))] [.int (iI v82)] _
                  exact tn_iret rfl dX11_told_140 ⟨_, rfl, w43, (FrC.rfl.trans (FrC.sub F44 (by decide))), by omega, Or.inr ⟨xq21, _, _, _, _, ⟨hx22, (hx26), (hx30), (hx34)⟩, f41⟩, gt40⟩
                · refine tn_tableIn (tgt := 141) (off := 56) dX11_told_85 (x := w) ⟨by omega, by omega⟩ (by omega) (by omega) (by rw [h70]; rfl) (by decide) ?_
                  refine tn_aload_n dX11_told_141 rfl 2 rfl ?_
                  refine tn_getR (ci := 11) (i := 7) (n := 102) (x := xq45) dX11_told_142 rfl lay_11 (by decide) fl11_39 ha rfl rfl (hx46) ?_
                  refine tn_aload dX11_told_145 1 rfl ?_
                  refine tn_iload dX11_told_147 0 rfl ?_
                  refine tn_iconst dX11_told_149 ?_
                  refine tn_callV (M := m_X11_told) (pc := 150) (ix := 191) (ci := 10) (M' := m_X10_part) (As := [.ref xq7, .int (iI v62), .int (iI 5)]) (rest := []) dX11_told_150 ok_X10_part im_X10_part se_X10_part ml11_191 np_X10_part rfl rfl hk47o rfl (Nat.le_of_ble_eq_true rfl) (Nat.le_of_ble_eq_true rfl) rfl (k_X10_part (d + 2) (T := T39) (σ := σ38) (a := xq45) (c := xq7) (i := v62) (e := 5) hk47o hk8o (by omega) (by decide) w43 (by omega)) (fun r83 T85 σ84 gt86 hp => ?_)
                  obtain ⟨v88, rfl, rfl, rfl, f87⟩ := hp
                  clear gt86
                  show Tn _ _ 153 T39 σ38 [(7, .int (iI v62)), (6, .ref xq7), (0, .ref a), (1, .int (iI r)), (2, .int (iI k)), (3, .int (iI f)), (4, .int (iI m)), (5, .int (iI w))] [.int (iI v88)] _
                  exact tn_iret rfl dX11_told_153 ⟨_, rfl, w43, (FrC.rfl.trans (FrC.sub F44 (by decide))), by omega, Or.inr ⟨xq21, _, _, _, _, ⟨hx22, (hx26), (hx30), (hx34)⟩, f41⟩, gt40⟩
                · refine tn_tableIn (tgt := 154) (off := 69) dX11_told_85 (x := w) ⟨by omega, by omega⟩ (by omega) (by omega) (by rw [h70]; rfl) (by decide) ?_
                  refine tn_aload_n dX11_told_154 rfl 2 rfl ?_
                  refine tn_getR (ci := 11) (i := 7) (n := 102) (x := xq45) dX11_told_155 rfl lay_11 (by decide) fl11_39 ha rfl rfl (hx46) ?_
                  refine tn_aload dX11_told_158 1 rfl ?_
                  refine tn_iload dX11_told_160 0 rfl ?_
                  refine tn_iconst dX11_told_162 ?_
                  refine tn_callV (M := m_X11_told) (pc := 163) (ix := 191) (ci := 10) (M' := m_X10_part) (As := [.ref xq7, .int (iI v62), .int (iI 4)]) (rest := []) dX11_told_163 ok_X10_part im_X10_part se_X10_part ml11_191 np_X10_part rfl rfl hk47o rfl (Nat.le_of_ble_eq_true rfl) (Nat.le_of_ble_eq_true rfl) rfl (k_X10_part (d + 2) (T := T39) (σ := σ38) (a := xq45) (c := xq7) (i := v62) (e := 4) hk47o hk8o (by omega) (by decide) w43 (by omega)) (fun r89 T91 σ90 gt92 hp => ?_)
                  obtain ⟨v94, rfl, rfl, rfl, f93⟩ := hp
                  clear gt92
                  show Tn _ _ 166 T39 σ38 [(7, .int (iI v62)), (6, .ref xq7), (0, .ref a), (1, .int (iI r)), (2, .int (iI k)), (3, .int (iI f)), (4, .int (iI m)), (5, .int (iI w))] [.int (iI v94)] _
                  exact tn_iret rfl dX11_told_166 ⟨_, rfl, w43, (FrC.rfl.trans (FrC.sub F44 (by decide))), by omega, Or.inr ⟨xq21, _, _, _, _, ⟨hx22, (hx26), (hx30), (hx34)⟩, f41⟩, gt40⟩
            · refine tn_iconst dX11_told_47 ?_
              exact tn_iret rfl dX11_told_48 ⟨_, rfl, hw, FrC.rfl, by omega, Or.inl ⟨rfl, rfl⟩, GT.rfl⟩
end
section
set_option maxHeartbeats 1000000 in
set_option maxRecDepth 20000 in
theorem k_X11_value_h (d : Nat) {T : CT} {σ : MS} {a : Nat} {k : Int} {m : Int} (ha : OB T a 11) (h_k : -2147483648 ≤ k ∧ k ≤ 2147483647) (h_m : -2147483648 ≤ m ∧ m ≤ 2147483647) (hw : WT T σ) : Tn (d + 6) m_X11_value 0 T σ [(0, .ref a), (1, .int (iI k)), (2, .int (iI m))] [] (fun ro T2 σ2 => ∃ v : Int, ro = some (.int (iI v)) ∧ WT T2 σ2 ∧ FrC T [70, 71, 92, 93, 94, 900] σ σ2 ∧ (-2147483648 ≤ v ∧ v ≤ 2147483647) ∧ (KNQ T σ σ2 a) ∧ (GT T T2)) := by
  refine tn_aload_n dX11_value_0 rfl 0 rfl ?_
  obtain ⟨xq1, hx2, hk3⟩ : ∃ x : Nat, σ.2.1 103 a = (x : Int) ∧ (T x).1 = 37 := wf_103 hw ha
  have hk3o : OB T xq1 7 := ⟨by omega, by rw [hk3]; rfl, by omega⟩
  refine tn_getR (ci := 11) (i := 8) (n := 103) (x := xq1) dX11_value_1 rfl lay_11 (by decide) fl11_83 ha rfl rfl (hx2) ?_
  refine tn_iload_n dX11_value_4 rfl 1 rfl ?_
  refine tn_callV (M := m_X11_value) (pc := 5) (ix := 214) (ci := 7) (M' := m_X7_find) (As := [.int (iI k)]) (rest := []) dX11_value_5 ok_X7_find im_X7_find se_X7_find ml11_214 np_X7_find rfl rfl hk3o rfl (Nat.le_of_ble_eq_true rfl) (Nat.le_of_ble_eq_true rfl) rfl (k_X7_find_h (d + 1) (T := T) (σ := σ) (a := xq1) (k := k) hk3o (by omega) hw ) (fun r5 T7 σ6 gt8 hp => ?_)
  obtain ⟨v12, rfl, rfl, w13, F14, f9, f10, f11⟩ := hp
  clear gt8
  clear f11
  show Tn _ _ 8 T σ6 [(0, .ref a), (1, .int (iI k)), (2, .int (iI m))] [.int (iI v12)] _
  refine tn_if_eq (tgt := 26) dX11_value_8 (by decide) ⟨by omega, by omega⟩ (fun h15 => ?_) (fun h15 => ?_)
  · refine tn_iconst dX11_value_26 ?_
    exact tn_iret rfl dX11_value_27 ⟨_, rfl, w13, (FrC.rfl.trans (FrC.sub F14 (by decide))), by omega, ⟨σ6, xq1, hx2, f10, w13, Or.inl ⟨rfl, rfl⟩⟩, GT.rfl⟩
  · refine tn_iload_n dX11_value_11 rfl 2 rfl ?_
    refine tn_if_lt (tgt := 26) dX11_value_12 (by decide) ⟨by omega, by omega⟩ (fun h16 => ?_) (fun h16 => ?_)
    · refine tn_iconst dX11_value_26 ?_
      exact tn_iret rfl dX11_value_27 ⟨_, rfl, w13, (FrC.rfl.trans (FrC.sub F14 (by decide))), by omega, ⟨σ6, xq1, hx2, f10, w13, Or.inl ⟨rfl, rfl⟩⟩, GT.rfl⟩
    · refine tn_iload_n dX11_value_15 rfl 2 rfl ?_
      refine tn_aload_n dX11_value_16 rfl 0 rfl ?_
      refine tn_getR (ci := 11) (i := 8) (n := 103) (x := xq1) dX11_value_17 rfl lay_11 (by decide) fl11_83 ha rfl rfl (rc_F F14 (Or.inl (by decide)) (by decide) (hx2)) ?_
      refine tn_callV (M := m_X11_value) (pc := 20) (ix := 224) (ci := 7) (M' := m_X7_foundNames) (As := []) (rest := [.int (iI m)]) dX11_value_20 ok_X7_foundNames im_X7_foundNames se_X7_foundNames ml11_224 np_X7_foundNames rfl rfl hk3o rfl (Nat.le_of_ble_eq_true rfl) (Nat.le_of_ble_eq_true rfl) rfl (k_X7_foundNames (d + 2) (T := T) (σ := σ6) (a := xq1) hk3o w13 ) (fun r17 T19 σ18 gt20 hp => ?_)
      obtain ⟨v22, rfl, rfl, rfl, f21⟩ := hp
      clear gt20
      show Tn _ _ 23 T σ6 [(0, .ref a), (1, .int (iI k)), (2, .int (iI m))] [.int (iI v22), .int (iI m)] _
      refine tn_icmp_lt (tgt := 28) dX11_value_23 (by decide) ⟨by omega, by omega⟩ ⟨by omega, by omega⟩ (fun h23 => ?_) (fun h23 => ?_)
      · refine tn_aload_n dX11_value_28 rfl 0 rfl ?_
        obtain ⟨xq24, hx25, hk26⟩ : ∃ x : Nat, σ.2.1 102 a = (x : Int) ∧ (T x).1 = 40 := wf_102 hw ha
        have hk26o : OB T xq24 10 := ⟨by omega, by rw [hk26]; rfl, by omega⟩
        refine tn_getR (ci := 11) (i := 7) (n := 102) (x := xq24) dX11_value_29 rfl lay_11 (by decide) fl11_39 ha rfl rfl (rc_F F14 (Or.inl (by decide)) (by decide) (hx25)) ?_
        refine tn_aload_n dX11_value_32 rfl 0 rfl ?_
        refine tn_getR (ci := 11) (i := 8) (n := 103) (x := xq1) dX11_value_33 rfl lay_11 (by decide) fl11_83 ha rfl rfl (rc_F F14 (Or.inl (by decide)) (by decide) (hx2)) ?_
        refine tn_callV (M := m_X11_value) (pc := 36) (ix := 227) (ci := 7) (M' := m_X7_foundSource) (As := []) (rest := [.ref xq24]) dX11_value_36 ok_X7_foundSource im_X7_foundSource se_X7_foundSource ml11_227 np_X7_foundSource rfl rfl hk3o rfl (Nat.le_of_ble_eq_true rfl) (Nat.le_of_ble_eq_true rfl) rfl (k_X7_foundSource (d + 3) (T := T) (σ := σ6) (a := xq1) hk3o w13 ) (fun r28 T30 σ29 gt31 hp => ?_)
        obtain ⟨v33, rfl, rfl, rfl, f32⟩ := hp
        clear gt31
        show Tn _ _ 39 T σ6 [(0, .ref a), (1, .int (iI k)), (2, .int (iI m))] [.int (iI v33), .ref xq24] _
        refine tn_aload_n dX11_value_39 rfl 0 rfl ?_
        refine tn_getR (ci := 11) (i := 8) (n := 103) (x := xq1) dX11_value_40 rfl lay_11 (by decide) fl11_83 ha rfl rfl (rc_F F14 (Or.inl (by decide)) (by decide) (hx2)) ?_
        refine tn_callV (M := m_X11_value) (pc := 43) (ix := 230) (ci := 7) (M' := m_X7_foundCode) (As := []) (rest := [.int (iI v33), .ref xq24]) dX11_value_43 ok_X7_foundCode im_X7_foundCode se_X7_foundCode ml11_230 np_X7_foundCode rfl rfl hk3o rfl (Nat.le_of_ble_eq_true rfl) (Nat.le_of_ble_eq_true rfl) rfl (k_X7_foundCode (d + 3) (T := T) (σ := σ6) (a := xq1) hk3o w13 ) (fun r34 T36 σ35 gt37 hp => ?_)
        obtain ⟨v39, rfl, rfl, rfl, rv40, f38⟩ := hp
        clear gt37
        clear f38
        rcases rv40 with rv40 | ⟨xq41, rfl, hk42⟩
        · show Tn _ _ 46 T σ6 [(0, .ref a), (1, .int (iI k)), (2, .int (iI m))] (vl true v39 :: [.int (iI v33), .ref xq24]) _
          rw [vl_null rv40]
          obtain ⟨xq43, hx44, hk45, hl46⟩ : ∃ x : Nat, σ.2.1 90 xq24 = (x : Int) ∧ AR T x 1 200 200 := wf_90 hw hk26o
          have hk45i : IA T xq43 := by unfold IA; omega
          obtain ⟨xq47, hx48, hk49, hl50⟩ : ∃ x : Nat, σ.2.1 91 xq24 = (x : Int) ∧ AR T x 1 145 145 := wf_91 hw hk26o
          have hk49i : IA T xq47 := by unfold IA; omega
          obtain ⟨xq51, hx52, hk53, hl54⟩ : ∃ x : Nat, σ.2.1 89 xq24 = (x : Int) ∧ AR T x 1 6 6 := wf_89 hw hk26o
          have hk53i : IA T xq51 := by unfold IA; omega
          refine tn_callV (M := m_X11_value) (pc := 46) (ix := 176) (ci := 10) (M' := m_X10_refresh) (As := [.int (iI v33), .null]) (rest := []) dX11_value_46 ok_X10_refresh im_X10_refresh se_X10_refresh ml11_176 np_X10_refresh rfl rfl hk26o rfl (Nat.le_of_ble_eq_true rfl) (Nat.le_of_ble_eq_true rfl) rfl (k_X10_refresh_h0 (d) (T := T) (σ := σ6) (a := xq24) (r := v33) hk26o (by omega) w13 (rc_F F14 (Or.inl (by decide)) (by decide) (hx44)) (rc_F F14 (Or.inl (by decide)) (by decide) (hx48)) (rc_F F14 (Or.inl (by decide)) (by decide) (hx52))) (fun r55 T57 σ56 gt58 hp => ?_)
          obtain ⟨rfl, w61, F62, f59⟩ := hp
          replace ha : OB T57 a 11 := gt58.ob ha
          show Tn _ _ 49 T57 σ56 [(0, .ref a), (1, .int (iI k)), (2, .int (iI m))] [] _
          refine tn_aload_n dX11_value_49 rfl 0 rfl ?_
          obtain ⟨xq63, hx64, hk65⟩ : ∃ x : Nat, σ56.2.1 103 a = (x : Int) ∧ (T57 x).1 = 37 := wf_103 w61 ha
          have hk65o : OB T57 xq63 7 := ⟨by omega, by rw [hk65]; rfl, by omega⟩
          refine tn_getR (ci := 11) (i := 8) (n := 103) (x := xq63) dX11_value_50 rfl lay_11 (by decide) fl11_83 ha rfl rfl (hx64) ?_
          refine tn_aload_n dX11_value_53 rfl 0 rfl ?_
          obtain ⟨xq67, hx68, hk69⟩ : ∃ x : Nat, σ56.2.1 102 a = (x : Int) ∧ (T57 x).1 = 40 := wf_102 w61 ha
          have hk69o : OB T57 xq67 10 := ⟨by omega, by rw [hk69]; rfl, by omega⟩
          refine tn_getR (ci := 11) (i := 7) (n := 102) (x := xq67) dX11_value_54 rfl lay_11 (by decide) fl11_39 ha rfl rfl (hx68) ?_
          refine tn_aload_n dX11_value_57 rfl 0 rfl ?_
          refine tn_getR (ci := 11) (i := 8) (n := 103) (x := xq63) dX11_value_58 rfl lay_11 (by decide) fl11_83 ha rfl rfl (hx64) ?_
          refine tn_aload_n dX11_value_61 rfl 0 rfl ?_
          refine tn_getR (ci := 11) (i := 7) (n := 102) (x := xq67) dX11_value_62 rfl lay_11 (by decide) fl11_39 ha rfl rfl (hx68) ?_
          refine tn_iload_n dX11_value_65 rfl 2 rfl ?_
          refine tn_callV (M := m_X11_value) (pc := 66) (ix := 234) (ci := 7) (M' := m_X7_foundId) (As := [.ref xq67, .int (iI m)]) (rest := [.ref xq67, .ref xq63]) dX11_value_66 ok_X7_foundId im_X7_foundId se_X7_foundId ml11_234 np_X7_foundId rfl rfl hk65o rfl (Nat.le_of_ble_eq_true rfl) (Nat.le_of_ble_eq_true rfl) rfl (k_X7_foundId (d + 1) (T := T57) (σ := σ56) (a := xq63) (p1 := xq67) (p2 := m) hk65o hk69o (by omega) w61 ) (fun r71 T73 σ72 gt74 hp => ?_)
          obtain ⟨v76, rfl, rfl, rfl, f75⟩ := hp
          clear gt74
          show Tn _ _ 69 T57 σ56 [(0, .ref a), (1, .int (iI k)), (2, .int (iI m))] [.int (iI v76), .ref xq67, .ref xq63] _
          refine tn_callV (M := m_X11_value) (pc := 69) (ix := 238) (ci := 7) (M' := m_X7_foundValue) (As := [.ref xq67, .int (iI v76)]) (rest := []) dX11_value_69 ok_X7_foundValue im_X7_foundValue se_X7_foundValue ml11_238 np_X7_foundValue rfl rfl hk65o rfl (Nat.le_of_ble_eq_true rfl) (Nat.le_of_ble_eq_true rfl) rfl (k_X7_foundValue (d + 1) (T := T57) (σ := σ56) (a := xq63) (p1 := xq67) (p2 := v76) hk65o hk69o (by omega) w61 ) (fun r77 T79 σ78 gt80 hp => ?_)
          obtain ⟨v82, rfl, rfl, rfl, f81⟩ := hp
          clear gt80
          show Tn _ _ 72 T57 σ56 [(0, .ref a), (1, .int (iI k)), (2, .int (iI m))] [.int (iI v82)] _
          exact tn_iret rfl dX11_value_72 ⟨_, rfl, w61, ((FrC.rfl.trans (FrC.sub F14 (by decide))).trans (FrC.sub F62 (by decide))), by omega, ⟨σ6, xq1, hx2, f10, w13, Or.inr ⟨xq24, _, _, _, _, ⟨rc_F F14 (Or.inl (by decide)) (by decide) (hx25), (rc_F F14 (Or.inl (by decide)) (by decide) (hx44)), (rc_F F14 (Or.inl (by decide)) (by decide) (hx48)), (rc_F F14 (Or.inl (by decide)) (by decide) (hx52))⟩, f59⟩⟩, gt58⟩
        · show Tn _ _ 46 T σ6 [(0, .ref a), (1, .int (iI k)), (2, .int (iI m))] (vl true (xq41 : Int) :: [.int (iI v33), .ref xq24]) _
          rw [vl_ref rfl]
          have hk42t : (T xq41).1 = 50 := hk42.2.2 (by have q9 := hk3; omega)
          have hk42to : OB T xq41 1 := ⟨by omega, by rw [hk42t]; rfl, by omega⟩
          obtain ⟨xq83, hx84, hk85, hl86⟩ : ∃ x : Nat, σ.2.1 90 xq24 = (x : Int) ∧ AR T x 1 200 200 := wf_90 hw hk26o
          have hk85i : IA T xq83 := by unfold IA; omega
          obtain ⟨xq87, hx88, hk89, hl90⟩ : ∃ x : Nat, σ.2.1 91 xq24 = (x : Int) ∧ AR T x 1 145 145 := wf_91 hw hk26o
          have hk89i : IA T xq87 := by unfold IA; omega
          obtain ⟨xq91, hx92, hk93, hl94⟩ : ∃ x : Nat, σ.2.1 89 xq24 = (x : Int) ∧ AR T x 1 6 6 := wf_89 hw hk26o
          have hk93i : IA T xq91 := by unfold IA; omega
          refine tn_callV (M := m_X11_value) (pc := 46) (ix := 176) (ci := 10) (M' := m_X10_refresh) (As := [.int (iI v33), .ref xq41]) (rest := []) dX11_value_46 ok_X10_refresh im_X10_refresh se_X10_refresh ml11_176 np_X10_refresh rfl rfl hk26o rfl (Nat.le_of_ble_eq_true rfl) (Nat.le_of_ble_eq_true rfl) rfl (k_X10_refresh_h (d) (T := T) (σ := σ6) (a := xq24) (r := v33) (c := xq41) hk26o (by omega) hk42to hk42t w13 (rc_F F14 (Or.inl (by decide)) (by decide) (hx84)) (rc_F F14 (Or.inl (by decide)) (by decide) (hx88)) (rc_F F14 (Or.inl (by decide)) (by decide) (hx92))) (fun r95 T97 σ96 gt98 hp => ?_)
          obtain ⟨rfl, w101, F102, f99⟩ := hp
          replace ha : OB T97 a 11 := gt98.ob ha
          show Tn _ _ 49 T97 σ96 [(0, .ref a), (1, .int (iI k)), (2, .int (iI m))] [] _
          refine tn_aload_n dX11_value_49 rfl 0 rfl ?_
          obtain ⟨xq103, hx104, hk105⟩ : ∃ x : Nat, σ96.2.1 103 a = (x : Int) ∧ (T97 x).1 = 37 := wf_103 w101 ha
          have hk105o : OB T97 xq103 7 := ⟨by omega, by rw [hk105]; rfl, by omega⟩
          refine tn_getR (ci := 11) (i := 8) (n := 103) (x := xq103) dX11_value_50 rfl lay_11 (by decide) fl11_83 ha rfl rfl (hx104) ?_
          refine tn_aload_n dX11_value_53 rfl 0 rfl ?_
          obtain ⟨xq107, hx108, hk109⟩ : ∃ x : Nat, σ96.2.1 102 a = (x : Int) ∧ (T97 x).1 = 40 := wf_102 w101 ha
          have hk109o : OB T97 xq107 10 := ⟨by omega, by rw [hk109]; rfl, by omega⟩
          refine tn_getR (ci := 11) (i := 7) (n := 102) (x := xq107) dX11_value_54 rfl lay_11 (by decide) fl11_39 ha rfl rfl (hx108) ?_
          refine tn_aload_n dX11_value_57 rfl 0 rfl ?_
          refine tn_getR (ci := 11) (i := 8) (n := 103) (x := xq103) dX11_value_58 rfl lay_11 (by decide) fl11_83 ha rfl rfl (hx104) ?_
          refine tn_aload_n dX11_value_61 rfl 0 rfl ?_
          refine tn_getR (ci := 11) (i := 7) (n := 102) (x := xq107) dX11_value_62 rfl lay_11 (by decide) fl11_39 ha rfl rfl (hx108) ?_
          refine tn_iload_n dX11_value_65 rfl 2 rfl ?_
          refine tn_callV (M := m_X11_value) (pc := 66) (ix := 234) (ci := 7) (M' := m_X7_foundId) (As := [.ref xq107, .int (iI m)]) (rest := [.ref xq107, .ref xq103]) dX11_value_66 ok_X7_foundId im_X7_foundId se_X7_foundId ml11_234 np_X7_foundId rfl rfl hk105o rfl (Nat.le_of_ble_eq_true rfl) (Nat.le_of_ble_eq_true rfl) rfl (k_X7_foundId (d + 1) (T := T97) (σ := σ96) (a := xq103) (p1 := xq107) (p2 := m) hk105o hk109o (by omega) w101 ) (fun r111 T113 σ112 gt114 hp => ?_)
          obtain ⟨v116, rfl, rfl, rfl, f115⟩ := hp
          clear gt114
          show Tn _ _ 69 T97 σ96 [(0, .ref a), (1, .int (iI k)), (2, .int (iI m))] [.int (iI v116), .ref xq107, .ref xq103] _
          refine tn_callV (M := m_X11_value) (pc := 69) (ix := 238) (ci := 7) (M' := m_X7_foundValue) (As := [.ref xq107, .int (iI v116)]) (rest := []) dX11_value_69 ok_X7_foundValue im_X7_foundValue se_X7_foundValue ml11_238 np_X7_foundValue rfl rfl hk105o rfl (Nat.le_of_ble_eq_true rfl) (Nat.le_of_ble_eq_true rfl) rfl (k_X7_foundValue (d + 1) (T := T97) (σ := σ96) (a := xq103) (p1 := xq107) (p2 := v116) hk105o hk109o (by omega) w101 ) (fun r117 T119 σ118 gt120 hp => ?_)
          obtain ⟨v122, rfl, rfl, rfl, f121⟩ := hp
          clear gt120
          show Tn _ _ 72 T97 σ96 [(0, .ref a), (1, .int (iI k)), (2, .int (iI m))] [.int (iI v122)] _
          exact tn_iret rfl dX11_value_72 ⟨_, rfl, w101, ((FrC.rfl.trans (FrC.sub F14 (by decide))).trans (FrC.sub F102 (by decide))), by omega, ⟨σ6, xq1, hx2, f10, w13, Or.inr ⟨xq24, _, _, _, _, ⟨rc_F F14 (Or.inl (by decide)) (by decide) (hx25), (rc_F F14 (Or.inl (by decide)) (by decide) (hx84)), (rc_F F14 (Or.inl (by decide)) (by decide) (hx88)), (rc_F F14 (Or.inl (by decide)) (by decide) (hx92))⟩, f99⟩⟩, gt98⟩
      · refine tn_iconst dX11_value_26 ?_
        exact tn_iret rfl dX11_value_27 ⟨_, rfl, w13, (FrC.rfl.trans (FrC.sub F14 (by decide))), by omega, ⟨σ6, xq1, hx2, f10, w13, Or.inl ⟨rfl, rfl⟩⟩, GT.rfl⟩
end
section
set_option maxHeartbeats 1000000 in
set_option maxRecDepth 20000 in
theorem k_X11_known_h (d : Nat) {T : CT} {σ : MS} {a : Nat} {k : Int} {m : Int} (ha : OB T a 11) (h_k : -2147483648 ≤ k ∧ k ≤ 2147483647) (h_m : -2147483648 ≤ m ∧ m ≤ 2147483647) (hw : WT T σ) : Tn (d + 6) m_X11_known 0 T σ [(0, .ref a), (1, .int (iI k)), (2, .int (iI m))] [] (fun ro T2 σ2 => ∃ v : Int, ro = some (.int (iI v)) ∧ WT T2 σ2 ∧ FrC T [70, 71, 92, 93, 94, 900] σ σ2 ∧ (-2147483648 ≤ v ∧ v ≤ 2147483647) ∧ (KNQ T σ σ2 a) ∧ (GT T T2)) := by
  refine tn_aload_n dX11_known_0 rfl 0 rfl ?_
  obtain ⟨xq1, hx2, hk3⟩ : ∃ x : Nat, σ.2.1 103 a = (x : Int) ∧ (T x).1 = 37 := wf_103 hw ha
  have hk3o : OB T xq1 7 := ⟨by omega, by rw [hk3]; rfl, by omega⟩
  refine tn_getR (ci := 11) (i := 8) (n := 103) (x := xq1) dX11_known_1 rfl lay_11 (by decide) fl11_83 ha rfl rfl (hx2) ?_
  refine tn_iload_n dX11_known_4 rfl 1 rfl ?_
  refine tn_callV (M := m_X11_known) (pc := 5) (ix := 214) (ci := 7) (M' := m_X7_find) (As := [.int (iI k)]) (rest := []) dX11_known_5 ok_X7_find im_X7_find se_X7_find ml11_214 np_X7_find rfl rfl hk3o rfl (Nat.le_of_ble_eq_true rfl) (Nat.le_of_ble_eq_true rfl) rfl (k_X7_find_h (d + 1) (T := T) (σ := σ) (a := xq1) (k := k) hk3o (by omega) hw ) (fun r5 T7 σ6 gt8 hp => ?_)
  obtain ⟨v12, rfl, rfl, w13, F14, f9, f10, f11⟩ := hp
  clear gt8
  show Tn _ _ 8 T σ6 [(0, .ref a), (1, .int (iI k)), (2, .int (iI m))] [.int (iI v12)] _
  refine tn_if_eq (tgt := 26) dX11_known_8 (by decide) ⟨by omega, by omega⟩ (fun h15 => ?_) (fun h15 => ?_)
  · refine tn_iconst dX11_known_26 ?_
    exact tn_iret rfl dX11_known_27 ⟨_, rfl, w13, (FrC.rfl.trans (FrC.sub F14 (by decide))), by omega, ⟨σ6, xq1, hx2, f10, w13, Or.inl ⟨rfl, rfl⟩⟩, GT.rfl⟩
  · refine tn_iload_n dX11_known_11 rfl 2 rfl ?_
    refine tn_if_lt (tgt := 26) dX11_known_12 (by decide) ⟨by omega, by omega⟩ (fun h16 => ?_) (fun h16 => ?_)
    · refine tn_iconst dX11_known_26 ?_
      exact tn_iret rfl dX11_known_27 ⟨_, rfl, w13, (FrC.rfl.trans (FrC.sub F14 (by decide))), by omega, ⟨σ6, xq1, hx2, f10, w13, Or.inl ⟨rfl, rfl⟩⟩, GT.rfl⟩
    · refine tn_iload_n dX11_known_15 rfl 2 rfl ?_
      refine tn_aload_n dX11_known_16 rfl 0 rfl ?_
      refine tn_getR (ci := 11) (i := 8) (n := 103) (x := xq1) dX11_known_17 rfl lay_11 (by decide) fl11_83 ha rfl rfl (rc_F F14 (Or.inl (by decide)) (by decide) (hx2)) ?_
      refine tn_callV (M := m_X11_known) (pc := 20) (ix := 224) (ci := 7) (M' := m_X7_foundNames) (As := []) (rest := [.int (iI m)]) dX11_known_20 ok_X7_foundNames im_X7_foundNames se_X7_foundNames ml11_224 np_X7_foundNames rfl rfl hk3o rfl (Nat.le_of_ble_eq_true rfl) (Nat.le_of_ble_eq_true rfl) rfl (k_X7_foundNames (d + 2) (T := T) (σ := σ6) (a := xq1) hk3o w13 ) (fun r17 T19 σ18 gt20 hp => ?_)
      obtain ⟨v22, rfl, rfl, rfl, f21⟩ := hp
      clear gt20
      show Tn _ _ 23 T σ6 [(0, .ref a), (1, .int (iI k)), (2, .int (iI m))] [.int (iI v22), .int (iI m)] _
      refine tn_icmp_lt (tgt := 28) dX11_known_23 (by decide) ⟨by omega, by omega⟩ ⟨by omega, by omega⟩ (fun h23 => ?_) (fun h23 => ?_)
      · refine tn_aload_n dX11_known_28 rfl 0 rfl ?_
        obtain ⟨xq24, hx25, hk26⟩ : ∃ x : Nat, σ.2.1 102 a = (x : Int) ∧ (T x).1 = 40 := wf_102 hw ha
        have hk26o : OB T xq24 10 := ⟨by omega, by rw [hk26]; rfl, by omega⟩
        refine tn_getR (ci := 11) (i := 7) (n := 102) (x := xq24) dX11_known_29 rfl lay_11 (by decide) fl11_39 ha rfl rfl (rc_F F14 (Or.inl (by decide)) (by decide) (hx25)) ?_
        refine tn_aload_n dX11_known_32 rfl 0 rfl ?_
        refine tn_getR (ci := 11) (i := 8) (n := 103) (x := xq1) dX11_known_33 rfl lay_11 (by decide) fl11_83 ha rfl rfl (rc_F F14 (Or.inl (by decide)) (by decide) (hx2)) ?_
        refine tn_callV (M := m_X11_known) (pc := 36) (ix := 227) (ci := 7) (M' := m_X7_foundSource) (As := []) (rest := [.ref xq24]) dX11_known_36 ok_X7_foundSource im_X7_foundSource se_X7_foundSource ml11_227 np_X7_foundSource rfl rfl hk3o rfl (Nat.le_of_ble_eq_true rfl) (Nat.le_of_ble_eq_true rfl) rfl (k_X7_foundSource (d + 3) (T := T) (σ := σ6) (a := xq1) hk3o w13 ) (fun r28 T30 σ29 gt31 hp => ?_)
        obtain ⟨v33, rfl, rfl, rfl, f32⟩ := hp
        clear gt31
        show Tn _ _ 39 T σ6 [(0, .ref a), (1, .int (iI k)), (2, .int (iI m))] [.int (iI v33), .ref xq24] _
        refine tn_aload_n dX11_known_39 rfl 0 rfl ?_
        refine tn_getR (ci := 11) (i := 8) (n := 103) (x := xq1) dX11_known_40 rfl lay_11 (by decide) fl11_83 ha rfl rfl (rc_F F14 (Or.inl (by decide)) (by decide) (hx2)) ?_
        refine tn_callV (M := m_X11_known) (pc := 43) (ix := 230) (ci := 7) (M' := m_X7_foundCode) (As := []) (rest := [.int (iI v33), .ref xq24]) dX11_known_43 ok_X7_foundCode im_X7_foundCode se_X7_foundCode ml11_230 np_X7_foundCode rfl rfl hk3o rfl (Nat.le_of_ble_eq_true rfl) (Nat.le_of_ble_eq_true rfl) rfl (k_X7_foundCode (d + 3) (T := T) (σ := σ6) (a := xq1) hk3o w13 ) (fun r34 T36 σ35 gt37 hp => ?_)
        obtain ⟨v39, rfl, rfl, rfl, rv40, f38⟩ := hp
        clear gt37
        rcases rv40 with rv40 | ⟨xq41, rfl, hk42⟩
        · exact absurd True.intro (by have q9 := f38; have q8 := f11 (by omega); unfold CAT at q9; omega)
        · show Tn _ _ 46 T σ6 [(0, .ref a), (1, .int (iI k)), (2, .int (iI m))] (vl true (xq41 : Int) :: [.int (iI v33), .ref xq24]) _
          rw [vl_ref rfl]
          have hk42t : (T xq41).1 = 50 := hk42.2.2 (by have q9 := hk3; omega)
          have hk42to : OB T xq41 1 := ⟨by omega, by rw [hk42t]; rfl, by omega⟩
          obtain ⟨xq43, hx44, hk45, hl46⟩ : ∃ x : Nat, σ.2.1 90 xq24 = (x : Int) ∧ AR T x 1 200 200 := wf_90 hw hk26o
          have hk45i : IA T xq43 := by unfold IA; omega
          obtain ⟨xq47, hx48, hk49, hl50⟩ : ∃ x : Nat, σ.2.1 91 xq24 = (x : Int) ∧ AR T x 1 145 145 := wf_91 hw hk26o
          have hk49i : IA T xq47 := by unfold IA; omega
          obtain ⟨xq51, hx52, hk53, hl54⟩ : ∃ x : Nat, σ.2.1 89 xq24 = (x : Int) ∧ AR T x 1 6 6 := wf_89 hw hk26o
          have hk53i : IA T xq51 := by unfold IA; omega
          refine tn_callV (M := m_X11_known) (pc := 46) (ix := 176) (ci := 10) (M' := m_X10_refresh) (As := [.int (iI v33), .ref xq41]) (rest := []) dX11_known_46 ok_X10_refresh im_X10_refresh se_X10_refresh ml11_176 np_X10_refresh rfl rfl hk26o rfl (Nat.le_of_ble_eq_true rfl) (Nat.le_of_ble_eq_true rfl) rfl (k_X10_refresh_h (d) (T := T) (σ := σ6) (a := xq24) (r := v33) (c := xq41) hk26o (by omega) hk42to hk42t w13 (rc_F F14 (Or.inl (by decide)) (by decide) (hx44)) (rc_F F14 (Or.inl (by decide)) (by decide) (hx48)) (rc_F F14 (Or.inl (by decide)) (by decide) (hx52))) (fun r55 T57 σ56 gt58 hp => ?_)
          obtain ⟨rfl, w61, F62, f59⟩ := hp
          replace ha : OB T57 a 11 := gt58.ob ha
          have kp63 : FRV T57 σ56 xq1 = FRV T σ6 xq1 := FRV.keep w13 hk3o gt58 F62 (by decide) (by decide) (by decide)
          show Tn _ _ 49 T57 σ56 [(0, .ref a), (1, .int (iI k)), (2, .int (iI m))] [] _
          refine tn_aload_n dX11_known_49 rfl 0 rfl ?_
          obtain ⟨xq64, hx65, hk66⟩ : ∃ x : Nat, σ56.2.1 102 a = (x : Int) ∧ (T57 x).1 = 40 := wf_102 w61 ha
          have hk66o : OB T57 xq64 10 := ⟨by omega, by rw [hk66]; rfl, by omega⟩
          refine tn_getR (ci := 11) (i := 7) (n := 102) (x := xq64) dX11_known_50 rfl lay_11 (by decide) fl11_39 ha rfl rfl (hx65) ?_
          refine tn_aload_n dX11_known_53 rfl 0 rfl ?_
          obtain ⟨xq68, hx69, hk70⟩ : ∃ x : Nat, σ56.2.1 103 a = (x : Int) ∧ (T57 x).1 = 37 := wf_103 w61 ha
          have hk70o : OB T57 xq68 7 := ⟨by omega, by rw [hk70]; rfl, by omega⟩
          refine tn_getR (ci := 11) (i := 8) (n := 103) (x := xq68) dX11_known_54 rfl lay_11 (by decide) fl11_83 ha rfl rfl (hx69) ?_
          refine tn_callV (M := m_X11_known) (pc := 57) (ix := 230) (ci := 7) (M' := m_X7_foundCode) (As := []) (rest := [.ref xq64]) dX11_known_57 ok_X7_foundCode im_X7_foundCode se_X7_foundCode ml11_230 np_X7_foundCode rfl rfl hk70o rfl (Nat.le_of_ble_eq_true rfl) (Nat.le_of_ble_eq_true rfl) rfl (k_X7_foundCode (d + 3) (T := T57) (σ := σ56) (a := xq68) hk70o w61 ) (fun r72 T74 σ73 gt75 hp => ?_)
          obtain ⟨v77, rfl, rfl, rfl, rv78, f76⟩ := hp
          clear gt75
          rcases rv78 with rv78 | ⟨xq79, rfl, hk80⟩
          · exact absurd True.intro (by have e9 : xq68 = xq1 := by { have w1 := hx69; have w2 := rc_F F62 (Or.inl (by decide)) (by decide) (rc_F F14 (Or.inl (by decide)) (by decide) (hx2)); omega }; have q9 := f76; rw [e9, kp63] at q9; have q8 := f11 (by omega); unfold CAT at q9; omega)
          · show Tn _ _ 60 T57 σ56 [(0, .ref a), (1, .int (iI k)), (2, .int (iI m))] (vl true (xq79 : Int) :: [.ref xq64]) _
            rw [vl_ref rfl]
            have hk80t : (T57 xq79).1 = 50 := hk80.2.2 (by have q9 := hk70; omega)
            have hk80to : OB T57 xq79 1 := ⟨by omega, by rw [hk80t]; rfl, by omega⟩
            refine tn_aload_n dX11_known_60 rfl 0 rfl ?_
            refine tn_getR (ci := 11) (i := 8) (n := 103) (x := xq68) dX11_known_61 rfl lay_11 (by decide) fl11_83 ha rfl rfl (hx69) ?_
            refine tn_aload_n dX11_known_64 rfl 0 rfl ?_
            refine tn_getR (ci := 11) (i := 7) (n := 102) (x := xq64) dX11_known_65 rfl lay_11 (by decide) fl11_39 ha rfl rfl (hx65) ?_
            refine tn_iload_n dX11_known_68 rfl 2 rfl ?_
            refine tn_callV (M := m_X11_known) (pc := 69) (ix := 234) (ci := 7) (M' := m_X7_foundId) (As := [.ref xq64, .int (iI m)]) (rest := [.ref xq79, .ref xq64]) dX11_known_69 ok_X7_foundId im_X7_foundId se_X7_foundId ml11_234 np_X7_foundId rfl rfl hk70o rfl (Nat.le_of_ble_eq_true rfl) (Nat.le_of_ble_eq_true rfl) rfl (k_X7_foundId (d + 1) (T := T57) (σ := σ56) (a := xq68) (p1 := xq64) (p2 := m) hk70o hk66o (by omega) w61 ) (fun r81 T83 σ82 gt84 hp => ?_)
            obtain ⟨v86, rfl, rfl, rfl, f85⟩ := hp
            clear gt84
            show Tn _ _ 72 T57 σ56 [(0, .ref a), (1, .int (iI k)), (2, .int (iI m))] [.int (iI v86), .ref xq79, .ref xq64] _
            refine tn_callV (M := m_X11_known) (pc := 72) (ix := 187) (ci := 10) (M' := m_X10_whereOf) (As := [.ref xq79, .int (iI v86)]) (rest := []) dX11_known_72 ok_X10_whereOf im_X10_whereOf se_X10_whereOf ml11_187 np_X10_whereOf rfl rfl hk66o rfl (Nat.le_of_ble_eq_true rfl) (Nat.le_of_ble_eq_true rfl) rfl (k_X10_whereOf (d + 3) (T := T57) (σ := σ56) (a := xq64) (c := xq79) (i := v86) hk66o hk80to (by omega) w61 ) (fun r87 T89 σ88 gt90 hp => ?_)
            obtain ⟨v92, rfl, rfl, rfl, f91⟩ := hp
            clear gt90
            show Tn _ _ 75 T57 σ56 [(0, .ref a), (1, .int (iI k)), (2, .int (iI m))] [.int (iI v92)] _
            refine tn_istore_n (L' := [(3, .int (iI v92)), (0, .ref a), (1, .int (iI k)), (2, .int (iI m))]) dX11_known_75 rfl (by decide) rfl ?_
            refine tn_iload_n dX11_known_76 rfl 0 rfl ?_
            refine tn_bipush dX11_known_77 (by decide) ?_
            refine tn_icmp_lt (tgt := 86) dX11_known_79 (by decide) ⟨by omega, by omega⟩ ⟨by decide, by decide⟩ (fun h93 => ?_) (fun h93 => ?_)
            · refine tn_iconst dX11_known_86 ?_
              exact tn_iret rfl dX11_known_87 ⟨_, rfl, w61, ((FrC.rfl.trans (FrC.sub F14 (by decide))).trans (FrC.sub F62 (by decide))), by omega, ⟨σ6, xq1, hx2, f10, w13, Or.inr ⟨xq24, _, _, _, _, ⟨rc_F F14 (Or.inl (by decide)) (by decide) (hx25), (rc_F F14 (Or.inl (by decide)) (by decide) (hx44)), (rc_F F14 (Or.inl (by decide)) (by decide) (hx48)), (rc_F F14 (Or.inl (by decide)) (by decide) (hx52))⟩, f59⟩⟩, gt58⟩
            · refine tn_iload_n dX11_known_82 rfl 0 rfl ?_
              refine tn_goto (tgt := 87) dX11_known_83 (by decide) ?_
              exact tn_iret rfl dX11_known_87 ⟨_, rfl, w61, ((FrC.rfl.trans (FrC.sub F14 (by decide))).trans (FrC.sub F62 (by decide))), by omega, ⟨σ6, xq1, hx2, f10, w13, Or.inr ⟨xq24, _, _, _, _, ⟨rc_F F14 (Or.inl (by decide)) (by decide) (hx25), (rc_F F14 (Or.inl (by decide)) (by decide) (hx44)), (rc_F F14 (Or.inl (by decide)) (by decide) (hx48)), (rc_F F14 (Or.inl (by decide)) (by decide) (hx52))⟩, f59⟩⟩, gt58⟩
      · refine tn_iconst dX11_known_26 ?_
        exact tn_iret rfl dX11_known_27 ⟨_, rfl, w13, (FrC.rfl.trans (FrC.sub F14 (by decide))), by omega, ⟨σ6, xq1, hx2, f10, w13, Or.inl ⟨rfl, rfl⟩⟩, GT.rfl⟩
end
