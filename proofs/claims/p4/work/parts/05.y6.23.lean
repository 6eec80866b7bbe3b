theorem cd_X1_isHome : Cond.code yX1_isHome cX1_isHome 4 (some .boolean) ∈ pWW := pw5 (List.mem_of_getElem? (i := 113) rfl) rfl
abbrev m_X1_isHome : MT := (yX1_isHome, cX1_isHome, 4, (some .boolean))
theorem ok_X1_isHome : pOk m_X1_isHome := ⟨⟨cd_X1_isHome, ini_1⟩, by decide +kernel, ⟨by decide +kernel, by decide +kernel⟩, Nat.le_of_ble_eq_true rfl⟩
theorem np_X1_isHome : (parseMethodDescriptor yX1_isHome.desc).map (fun d => d.parameters.length) = some 1 := by decide +kernel
theorem im_X1_isHome : Cond.instanceMethod yX1_isHome ∈ pWW := pw5 (List.mem_of_getElem? (i := 111) rfl) rfl
theorem se_X1_isHome : Cond.selects RX1 yX1_isHome yX1_isHome ∈ pWW := pw5 (List.mem_of_getElem? (i := 112) rfl) rfl
theorem dX1_isHome_0 : decode cX1_isHome 0 = .ok (.iconst 0, 1) := by decide +kernel
theorem dX1_isHome_1 : decode cX1_isHome 1 = .ok (.istore_n 2, 1) := by decide +kernel
theorem dX1_isHome_2 : decode cX1_isHome 2 = .ok (.iload_n 2, 1) := by decide +kernel
theorem dX1_isHome_3 : decode cX1_isHome 3 = .ok (.aload_n 0, 1) := by decide +kernel
theorem dX1_isHome_4 : decode cX1_isHome 4 = .ok (.getfield 46, 3) := by decide +kernel
theorem dX1_isHome_7 : decode cX1_isHome 7 = .ok (.if_icmp .ge 41, 3) := by decide +kernel
theorem dX1_isHome_10 : decode cX1_isHome 10 = .ok (.iconst 0, 1) := by decide +kernel
theorem dX1_isHome_11 : decode cX1_isHome 11 = .ok (.istore_n 3, 1) := by decide +kernel
theorem dX1_isHome_12 : decode cX1_isHome 12 = .ok (.iload_n 3, 1) := by decide +kernel
theorem dX1_isHome_13 : decode cX1_isHome 13 = .ok (.aload_n 0, 1) := by decide +kernel
theorem dX1_isHome_14 : decode cX1_isHome 14 = .ok (.getfield 24, 3) := by decide +kernel
theorem dX1_isHome_17 : decode cX1_isHome 17 = .ok (.iload_n 2, 1) := by decide +kernel
theorem dX1_isHome_18 : decode cX1_isHome 18 = .ok (.invokestatic 53, 3) := by decide +kernel
theorem dX1_isHome_21 : decode cX1_isHome 21 = .ok (.if_icmp .ge 21, 3) := by decide +kernel
theorem dX1_isHome_24 : decode cX1_isHome 24 = .ok (.aload_n 0, 1) := by decide +kernel
theorem dX1_isHome_25 : decode cX1_isHome 25 = .ok (.iload_n 2, 1) := by decide +kernel
theorem dX1_isHome_26 : decode cX1_isHome 26 = .ok (.iload_n 3, 1) := by decide +kernel
theorem dX1_isHome_27 : decode cX1_isHome 27 = .ok (.invokevirtual 110, 3) := by decide +kernel
theorem dX1_isHome_30 : decode cX1_isHome 30 = .ok (.iload_n 1, 1) := by decide +kernel
theorem dX1_isHome_31 : decode cX1_isHome 31 = .ok (.if_icmp .ne 5, 3) := by decide +kernel
theorem dX1_isHome_36 : decode cX1_isHome 36 = .ok (.iinc 3 1, 3) := by decide +kernel
theorem dX1_isHome_39 : decode cX1_isHome 39 = .ok (.goto (-27), 3) := by decide +kernel
set_option maxRecDepth 20000 in
theorem l_X1_isHome_12 (d : Nat) {T : CT} {σ : MS} {a : Nat} {c1 : Int} {c2 : Int} {post : Option Value → CT → MS → Prop} (h_a : OB T a 1) (r_c1 : -2147483648 ≤ c1 ∧ c1 ≤ 2147483647) (r_c2 : 0 ≤ c2 ∧ c2 ≤ 11) (hw : WT T σ) (hx_34 : ∀ (i3 : Int) , (0 ≤ i3 ∧ i3 ≤ 2147483647) → Tn (d + 3) m_X1_isHome 34 T σ [(0, .ref a), (1, .int (iI c1)), (2, .int (iI c2)), (3, .int (iI i3))] [] post) (hx_42 : ∀ (i3 : Int) , (0 ≤ i3 ∧ i3 ≤ 2147483647) → Tn (d + 3) m_X1_isHome 42 T σ [(0, .ref a), (1, .int (iI c1)), (2, .int (iI c2)), (3, .int (iI i3))] [] post) : ∀ (n : Nat) (i3 : Int) , (0 ≤ i3 ∧ i3 ≤ 2147483647) → (2147483700 - i3).toNat = n → Tn (d + 3) m_X1_isHome 12 T σ [(0, .ref a), (1, .int (iI c1)), (2, .int (iI c2)), (3, .int (iI i3))] [] post := by
  intro n
  induction n using Nat.strongRecOn with
  | _ n ih =>
    intro i3 r_i3 hm
    refine tn_iload_n dX1_isHome_12 rfl 3 rfl ?_
    refine tn_aload_n dX1_isHome_13 rfl 0 rfl ?_
    obtain ⟨x1, hx2, hk3, hl4⟩ : ∃ x : Nat, σ.2.1 14 a = (x : Int) ∧ AR T x 11 12 12 := wf_14 hw h_a
    have hk3i : IA T x1 := by unfold IA; omega
    refine tn_getR (ci := 1) (i := 9) (n := 14) (x := x1) dX1_isHome_14 rfl lay_1 (by decide) fl1_24 h_a rfl rfl (hx2) ?_
    refine tn_iload_n dX1_isHome_17 rfl 2 rfl ?_
    refine tn_callSN (M := m_X1_isHome) (pc := 18) (ix := 53) (M' := m_X11_at) (As := [.ref x1, .int (iI c2)]) (rest := [.int (iI i3)]) dX1_isHome_18 ok_X11_at stt_X11_at nl1_53 np_X11_at rfl (Nat.le_of_ble_eq_true rfl) (Nat.le_of_ble_eq_true rfl) rfl (k_X11_at (d + 1) (T := T) (σ := σ) (x := x1) (i := c2) hk3i (by omega) (by omega) hw ) (fun r5 T7 σ6 gt8 hp => ?_)
    obtain ⟨v12, rfl, rfl, rfl, f9, f10, f11⟩ := hp
    clear gt8
    have f10n := f10.2.1 hk3
    clear f10 f11
    show Tn _ _ 21 T σ [(0, .ref a), (1, .int (iI c1)), (2, .int (iI c2)), (3, .int (iI i3))] [.int (iI v12), .int (iI i3)] _
    refine tn_icmp_ge (tgt := 42) dX1_isHome_21 (by decide) ⟨by omega, by omega⟩ ⟨by omega, by omega⟩ (fun h13 => ?_) (fun h13 => ?_)
    · exact tn_sub [0, 1, 2, 3] rfl (hx_42 (i3) (by omega))
    · refine tn_aload_n dX1_isHome_24 rfl 0 rfl ?_
      refine tn_iload_n dX1_isHome_25 rfl 2 rfl ?_
      refine tn_iload_n dX1_isHome_26 rfl 3 rfl ?_
      refine tn_callV (M := m_X1_isHome) (pc := 27) (ix := 110) (ci := 1) (M' := m_X1_homeOf) (As := [.int (iI c2), .int (iI i3)]) (rest := []) dX1_isHome_27 ok_X1_homeOf im_X1_homeOf se_X1_homeOf ml1_110 np_X1_homeOf rfl rfl h_a rfl (Nat.le_of_ble_eq_true rfl) (Nat.le_of_ble_eq_true rfl) rfl (k_X1_homeOf (d) (T := T) (σ := σ) (a := a) (f := c2) (m := i3) h_a (by omega) (by omega) hw ) (fun r14 T16 σ15 gt17 hp => ?_)
      obtain ⟨v19, rfl, rfl, rfl, f18⟩ := hp
      clear gt17
      show Tn _ _ 30 T σ [(0, .ref a), (1, .int (iI c1)), (2, .int (iI c2)), (3, .int (iI i3))] [.int (iI v19)] _
      refine tn_iload_n dX1_isHome_30 rfl 1 rfl ?_
      refine tn_icmp_ne (tgt := 36) dX1_isHome_31 (by decide) ⟨by omega, by omega⟩ ⟨by omega, by omega⟩ (fun h20 => ?_) (fun h20 => ?_)
      · refine tn_iinc (q0 := 3) (L' := [(3, .int (iI (i3 + 1))), (0, .ref a), (1, .int (iI c1)), (2, .int (iI c2))]) dX1_isHome_36 rfl (by decide) rfl ?_
        refine tn_goto (tgt := 12) dX1_isHome_39 (by decide) ?_
        exact tn_sub [1, 2, 3, 0] rfl (ih _ (by omega) (i3 + 1) (by omega) rfl)
      · exact tn_sub [0, 1, 2, 3] rfl (hx_34 (i3) (by omega))
theorem dX1_isHome_42 : decode cX1_isHome 42 = .ok (.iinc 2 1, 3) := by decide +kernel
theorem dX1_isHome_45 : decode cX1_isHome 45 = .ok (.goto (-43), 3) := by decide +kernel
set_option maxRecDepth 20000 in
theorem l_X1_isHome_2 (d : Nat) {T : CT} {σ : MS} {a : Nat} {c1 : Int} {post : Option Value → CT → MS → Prop} (h_a : OB T a 1) (r_c1 : -2147483648 ≤ c1 ∧ c1 ≤ 2147483647) (hw : WT T σ) (hx_34 : ∀ (i2 : Int) , (0 ≤ i2 ∧ i2 ≤ 2147483647) → Tn (d + 3) m_X1_isHome 34 T σ [(0, .ref a), (1, .int (iI c1)), (2, .int (iI i2))] [] post) (hx_48 : ∀ (i2 : Int) , (0 ≤ i2 ∧ i2 ≤ 2147483647) → Tn (d + 3) m_X1_isHome 48 T σ [(0, .ref a), (1, .int (iI c1)), (2, .int (iI i2))] [] post) : ∀ (n : Nat) (i2 : Int) , (0 ≤ i2 ∧ i2 ≤ 2147483647) → (2147483700 - i2).toNat = n → Tn (d + 3) m_X1_isHome 2 T σ [(0, .ref a), (1, .int (iI c1)), (2, .int (iI i2))] [] post := by
  intro n
  induction n using Nat.strongRecOn with
  | _ n ih =>
    intro i2 r_i2 hm
    refine tn_iload_n dX1_isHome_2 rfl 2 rfl ?_
    refine tn_aload_n dX1_isHome_3 rfl 0 rfl ?_
    refine tn_getI (ci := 1) (i := 5) (n := 10) (t := σ.2.1 10 a) dX1_isHome_4 rfl lay_1 (by decide) fl1_46 h_a rfl rfl (rfl) ?_
    have g1 : ((0 : Int) ≤ σ.2.1 10 a ∧ σ.2.1 10 a ≤ 12) := wf_10 hw h_a
    refine tn_icmp_ge (tgt := 48) dX1_isHome_7 (by decide) ⟨by omega, by omega⟩ ⟨by omega, by omega⟩ (fun h2 => ?_) (fun h2 => ?_)
    · exact tn_sub [0, 1, 2] rfl (hx_48 (i2) (by omega))
    · refine tn_iconst dX1_isHome_10 ?_
      refine tn_istore_n (L' := [(3, .int (iI 0)), (0, .ref a), (1, .int (iI c1)), (2, .int (iI i2))]) dX1_isHome_11 rfl (by decide) rfl ?_
      refine tn_sub [1, 2, 3, 0] rfl (l_X1_isHome_12 (d) (T := T) (σ := σ) (a := a) (c1 := c1) (c2 := i2) h_a (by omega) (by omega) hw (fun i33 r9 => ?_) (fun i310 r16 => ?_) _ (0) (by omega) rfl)
      · show Tn _ _ 34 T σ [(0, .ref a), (1, .int (iI c1)), (2, .int (iI i2)), (3, .int (iI i33))] [] _
        exact tn_sub [0, 1, 2] rfl (hx_34 (i2) (by omega))
      · show Tn _ _ 42 T σ [(0, .ref a), (1, .int (iI c1)), (2, .int (iI i2)), (3, .int (iI i310))] [] _
        refine tn_iinc (q0 := 2) (L' := [(2, .int (iI (i2 + 1))), (0, .ref a), (1, .int (iI c1)), (3, .int (iI i310))]) dX1_isHome_42 rfl (by decide) rfl ?_
        refine tn_goto (tgt := 2) dX1_isHome_45 (by decide) ?_
        exact tn_sub [1, 2, 0] rfl (ih _ (by omega) (i2 + 1) (by omega) rfl)
theorem dX1_isHome_34 : decode cX1_isHome 34 = .ok (.iconst 1, 1) := by decide +kernel
theorem dX1_isHome_35 : decode cX1_isHome 35 = .ok (.ireturn, 1) := by decide +kernel
theorem dX1_isHome_48 : decode cX1_isHome 48 = .ok (.iconst 0, 1) := by decide +kernel
theorem dX1_isHome_49 : decode cX1_isHome 49 = .ok (.ireturn, 1) := by decide +kernel
set_option maxRecDepth 20000 in
theorem k_X1_isHome (d : Nat) {T : CT} {σ : MS} {a : Nat} {r : Int} (ha : OB T a 1) (h_r : -2147483648 ≤ r ∧ r ≤ 2147483647) (hw : WT T σ) : Tn (d + 3) m_X1_isHome 0 T σ [(0, .ref a), (1, .int (iI r))] [] (fun ro T2 σ2 => ∃ v : Int, ro = some (.int (iI v)) ∧ T = T2 ∧ σ = σ2 ∧ (v = 0 ∨ v = 1)) := by
  refine tn_iconst dX1_isHome_0 ?_
  refine tn_istore_n (L' := [(2, .int (iI 0)), (0, .ref a), (1, .int (iI r))]) dX1_isHome_1 rfl (by decide) rfl ?_
  refine tn_sub [1, 2, 0] rfl (l_X1_isHome_2 (d) (T := T) (σ := σ) (a := a) (c1 := r) ha (by omega) hw (fun i21 r7 => ?_) (fun i28 r14 => ?_) _ (0) (by omega) rfl)
  · show Tn _ _ 34 T σ [(0, .ref a), (1, .int (iI r)), (2, .int (iI i21))] [] _
    refine tn_iconst dX1_isHome_34 ?_
    exact tn_zret (v := 1) rfl (by decide) dX1_isHome_35 ⟨_, rfl, rfl, rfl, by omega⟩
  · show Tn _ _ 48 T σ [(0, .ref a), (1, .int (iI r)), (2, .int (iI i28))] [] _
    refine tn_iconst dX1_isHome_48 ?_
    exact tn_zret (v := 0) rfl (by decide) dX1_isHome_49 ⟨_, rfl, rfl, rfl, by omega⟩
