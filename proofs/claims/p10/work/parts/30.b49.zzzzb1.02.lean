set_option maxHeartbeats 1000000 in
set_option maxRecDepth 20000 in
theorem l_X7_climb_j_7 (d : Nat) {T : CT} {σ0 : MS} {a : Nat} {c1 : Int} {V0 : Int} {xa : Nat} {y : Nat} {post : Option Value → CT → MS → Prop} (h_a : OB T a 7) (r_c1 : -2147483648 ≤ c1 ∧ c1 ≤ 2147483647) (hw0 : WT T σ0) (hxa : σ0.2.1 59 a = (xa : Int)) (hy : σ0.2.1 55 a = (y : Int)) (hx_37 : ∀ (i3 : Int) (σ : MS) , (WT T σ) → (FrC T [71] σ0 σ) → (0 ≤ i3 ∧ i3 ≤ 2147483647) → (CHX [(71, a)] [] [] σ0 σ) → (σ.2.1 71 a = V0) → Tn (d + 3) m_X7_climb 37 T σ [(0, .ref a), (1, .int (iI c1)), (2, .null), (3, .int (iI i3))] [] post) : ∀ (nq9 : Nat) (i3 : Int) (σ : MS) , (WT T σ) → (FrC T [71] σ0 σ) → (0 ≤ i3 ∧ i3 ≤ 2147483647) → (CHX [(71, a)] [] [] σ0 σ) → (σ.2.1 71 a = V0) → (2147483700 - i3).toNat = nq9 → Tn (d + 3) m_X7_climb 7 T σ [(0, .ref a), (1, .int (iI c1)), (2, .null), (3, .int (iI i3))] [] post := by
  intro nq9
  induction nq9 using Nat.strongRecOn with
  | _ nq9 ih =>
    intro i3 σ hw hF r_i3 hC hL hm
    refine tn_iload_n dX7_climb_7 rfl 3 rfl ?_
    refine tn_iload_n dX7_climb_8 rfl 1 rfl ?_
    refine tn_icmp_ge (tgt := 37) dX7_climb_9 (by decide) ⟨by omega, by omega⟩ ⟨by omega, by omega⟩ (fun h1 => ?_) (fun h1 => ?_)
    · exact tn_sub [0, 1, 2, 3] rfl (hx_37 (i3) σ hw (FrC.rfl.trans (FrC.sub hF (by decide))) (by omega) hC hL)
    · refine tn_aload_nN dX7_climb_12 rfl 2 rfl ?_
      refine tn_ifnullN (tgt := 37) dX7_climb_13 (by decide) ?_
      exact tn_sub [0, 1, 2, 3] rfl (hx_37 (i3) σ hw (FrC.rfl.trans (FrC.sub hF (by decide))) (by omega) hC hL)
set_option maxHeartbeats 1000000 in
set_option maxRecDepth 20000 in
theorem l_X7_climb_j_7_1 (d : Nat) {T : CT} {σ0 : MS} {a : Nat} {c1 : Int} {rx2 : Nat} {V0 : Int} {xa : Nat} {y : Nat} {post : Option Value → CT → MS → Prop} (h_a : OB T a 7) (r_c1 : -2147483648 ≤ c1 ∧ c1 ≤ 2147483647) (h_rx2 : OB T rx2 1) (hw0 : WT T σ0) (hxa : σ0.2.1 59 a = (xa : Int)) (hy : σ0.2.1 55 a = (y : Int)) (hx_37 : ∀ (i3 : Int) (σ : MS) , (WT T σ) → (FrC T [71] σ0 σ) → (0 ≤ i3 ∧ i3 ≤ 2147483647) → (CHX [(71, a)] [] [] σ0 σ) → (σ.2.1 71 a = V0) → Tn (d + 3) m_X7_climb 37 T σ [(0, .ref a), (1, .int (iI c1)), (2, .ref rx2), (3, .int (iI i3))] [] post) : ∀ (nq9 : Nat) (i3 : Int) (σ : MS) , (WT T σ) → (FrC T [71] σ0 σ) → (0 ≤ i3 ∧ i3 ≤ 2147483647) → (CHX [(71, a)] [] [] σ0 σ) → (jU (fun f => jA T (adN σ0 12 rx2) f σ0) (c1 - i3).toNat (σ.2.1 71 a) = V0) → (2147483700 - i3).toNat = nq9 → Tn (d + 3) m_X7_climb 7 T σ [(0, .ref a), (1, .int (iI c1)), (2, .ref rx2), (3, .int (iI i3))] [] post := by
  intro nq9
  induction nq9 using Nat.strongRecOn with
  | _ nq9 ih =>
    intro i3 σ hw hF r_i3 hC hL hm
    refine tn_iload_n dX7_climb_7 rfl 3 rfl ?_
    refine tn_iload_n dX7_climb_8 rfl 1 rfl ?_
    refine tn_icmp_ge (tgt := 37) dX7_climb_9 (by decide) ⟨by omega, by omega⟩ ⟨by omega, by omega⟩ (fun h1 => ?_) (fun h1 => ?_)
    · exact tn_sub [0, 1, 2, 3] rfl (hx_37 (i3) σ hw (FrC.rfl.trans (FrC.sub hF (by decide))) (by omega) hC (jU_e hL (by omega)))
    · refine tn_aload_n dX7_climb_12 rfl 2 rfl ?_
      refine tn_ifnull dX7_climb_13 ?_
      refine tn_aload_n dX7_climb_16 rfl 0 rfl ?_
      refine tn_aload_n dX7_climb_17 rfl 2 rfl ?_
      obtain ⟨xq2, hx3, hk4, hl5⟩ : ∃ x : Nat, σ0.2.1 12 rx2 = (x : Int) ∧ AR T x 1 12 12 := wf_12 hw0 h_rx2
      have hk4i : IA T xq2 := by unfold IA; omega
      refine tn_getR (ci := 1) (i := 7) (n := 12) (x := xq2) dX7_climb_18 rfl lay_1 (by decide) fl7_126 h_rx2 rfl rfl (rc_F hF (Or.inl (by decide)) (by decide) (hx3)) ?_
      refine tn_aload_n dX7_climb_21 rfl 0 rfl ?_
      refine tn_getI (ci := 7) (i := 16) (n := 71) (t := σ.2.1 71 a) dX7_climb_22 rfl lay_7 (by decide) fl7_146 h_a rfl rfl (rfl) ?_
      have g6 : ((-2147483648 : Int) ≤ σ.2.1 71 a ∧ σ.2.1 71 a ≤ 2147483647) := wf_71 hw h_a
      refine tn_callSN (M := m_X7_climb) (pc := 25) (ix := 91) (M' := m_X11_at) (As := [.ref xq2, .int (iI (σ.2.1 71 a))]) (rest := [.ref a]) dX7_climb_25 ok_X11_at stt_X11_at nl7_91 np_X11_at rfl (Nat.le_of_ble_eq_true rfl) (Nat.le_of_ble_eq_true rfl) rfl (k_X11_at_j (d + 1) (T := T) (σ := σ) (x := xq2) (i := σ.2.1 71 a) hk4i (by omega) (by omega) hw ) (fun r7 T9 σ8 gt10 hp => ?_)
      obtain ⟨v14, rfl, rfl, rfl, f11, f12, f13⟩ := hp
      clear gt10
      clear f12
      show Tn _ _ 28 T σ [(0, .ref a), (1, .int (iI c1)), (2, .ref rx2), (3, .int (iI i3))] [.int (iI v14), .ref a] _
      refine tn_putV (ci := 7) (i := 16) (n := 71) (r := false) (v := v14) tyX7 tyX7_ok nmX7 dX7_climb_28 rfl lay_7 (by decide) fl7_146 rfl (tyX7_ok 16 (by decide)) rfl rfl rfl h_a rfl rfl ?_
      refine tn_iinc (q0 := 3) (L' := [(3, .int (iI (i3 + 1))), (0, .ref a), (1, .int (iI c1)), (2, .ref rx2)]) dX7_climb_31 rfl (by decide) rfl ?_
      refine tn_goto (tgt := 7) dX7_climb_34 (by decide) ?_
      exact tn_sub [1, 2, 3, 0] rfl (ih _ (by omega) (i3 + 1) (sA 71 a (v14) σ) (hw.put (by decide) (by decide) (fo_71 (by omega))) ((FrC.rfl.trans (FrC.sub hF (by decide))).put (by decide) (by decide)) (by omega) (hC.fld (by simp) (by decide)) (jU_w hL (by omega) (Eq.trans ra_eq (f13.trans (jA_back hC hx3)))) rfl)
set_option maxHeartbeats 1000000 in
set_option maxRecDepth 20000 in
theorem k_X7_climb_j (d : Nat) {T : CT} {σ : MS} {a : Nat} {p1 : Int} {xa : Nat} {y : Nat} (ha : OB T a 7) (h_p1 : -2147483648 ≤ p1 ∧ p1 ≤ 2147483647) (hw : WT T σ) (hxa : σ.2.1 59 a = (xa : Int)) (hy : σ.2.1 55 a = (y : Int)) : Tn (d + 3) m_X7_climb 0 T σ [(0, .ref a), (1, .int (iI p1))] [] (fun ro T2 σ2 => ro = none ∧ T = T2 ∧ WT T2 σ2 ∧ FrC T [71] σ σ2 ∧ (CHX [(71, a)] [] [] σ σ2) ∧ (JCB T σ a xa y p1 (σ2.2.1 71 a))) := by
  refine tn_aload_n dX7_climb_0 rfl 0 rfl ?_
  obtain ⟨hk3, hl4⟩ : AR T xa 15 9 9 := ar_of (wf_59 hw ha) hxa
  have hk3i : IA T xa := by unfold IA; omega
  obtain ⟨hl8, hk7a, hk7b⟩ := ex_at (wf_55 hw ha) hy
  have hk7i : (T y).1 = 4 ∨ (T y).1 = 5 := by omega
  have hk7c : RROW T a y := ⟨hk7a, hk7b⟩
  clear hk7a hk7b
  refine tn_callV (M := m_X7_climb) (pc := 1) (ix := 152) (ci := 7) (M' := m_X7_foundCode) (As := []) (rest := []) dX7_climb_1 ok_X7_foundCode im_X7_foundCode se_X7_foundCode ml7_152 np_X7_foundCode rfl rfl ha rfl (Nat.le_of_ble_eq_true rfl) (Nat.le_of_ble_eq_true rfl) rfl (k_X7_foundCode_j (d) (T := T) (σ := σ) (a := a) (xa := xa) (y := y) ha hw (hxa) (hy)) (fun r9 T11 σ10 gt12 hp => ?_)
  obtain ⟨v15, rfl, rfl, rfl, rv16, f13, f14⟩ := hp
  clear gt12
  clear f13
  rcases rv16 with rv16 | ⟨xq17, rfl, hk18⟩
  · show Tn _ _ 4 T σ [(0, .ref a), (1, .int (iI p1))] (vl true v15 :: []) _
    rw [vl_null rv16]
    refine tn_astore_nN (L' := [(2, .null), (0, .ref a), (1, .int (iI p1))]) dX7_climb_4 rfl (by decide) rfl ?_
    refine tn_iconst dX7_climb_5 ?_
    refine tn_istore_n (L' := [(3, .int (iI 0)), (2, .null), (0, .ref a), (1, .int (iI p1))]) dX7_climb_6 rfl (by decide) rfl ?_
    refine tn_sub [2, 3, 1, 0] rfl (l_X7_climb_j_7 (d) (T := T) (σ0 := σ) (a := a) (c1 := p1) (xa := xa) (y := y) (V0 := (σ.2.1 71 a)) ha (by omega) hw (hxa) (hy) (fun i319 σ20 w23 F24 r25 f26 f27 => ?_) _ (0) σ hw FrC.rfl (by omega) CHX.rfl rfl rfl)
    show Tn _ _ 37 T σ20 [(0, .ref a), (1, .int (iI p1)), (2, .null), (3, .int (iI i319))] [] _
    exact tn_vret rfl dX7_climb_37 ⟨rfl, rfl, w23, (FrC.rfl.trans (FrC.sub F24 (by decide))), (CHX.rfl.trans (CHX.sub f26 (by simp) (by simp) (by simp))), Or.inl ⟨f14.neg (by assumption), f27⟩⟩
  · show Tn _ _ 4 T σ [(0, .ref a), (1, .int (iI p1))] (vl true (xq17 : Int) :: []) _
    rw [vl_ref rfl]
    have hk18o : OB T xq17 1 := hk18.1
    refine tn_astore_n (L' := [(2, .ref xq17), (0, .ref a), (1, .int (iI p1))]) dX7_climb_4 rfl (by decide) rfl ?_
    refine tn_iconst dX7_climb_5 ?_
    refine tn_istore_n (L' := [(3, .int (iI 0)), (2, .ref xq17), (0, .ref a), (1, .int (iI p1))]) dX7_climb_6 rfl (by decide) rfl ?_
    refine tn_sub [2, 3, 1, 0] rfl (l_X7_climb_j_7_1 (d) (T := T) (σ0 := σ) (a := a) (c1 := p1) (rx2 := xq17) (xa := xa) (y := y) (V0 := (jU (fun f => jA T (adN σ 12 xq17) f σ) (p1).toNat (σ.2.1 71 a))) ha (by omega) hk18o hw (hxa) (hy) (fun i328 σ29 w32 F33 r34 f35 f36 => ?_) _ (0) σ hw FrC.rfl (by omega) CHX.rfl (by rw [Int.sub_zero]) rfl)
    show Tn _ _ 37 T σ29 [(0, .ref a), (1, .int (iI p1)), (2, .ref xq17), (3, .int (iI i328))] [] _
    exact tn_vret rfl dX7_climb_37 ⟨rfl, rfl, w32, (FrC.rfl.trans (FrC.sub F33 (by decide))), (CHX.rfl.trans (CHX.sub f35 (by simp) (by simp) (by simp))), Or.inr ⟨xq17, f14.pos (Int.natCast_nonneg _), f36⟩⟩
