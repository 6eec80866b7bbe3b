theorem cd_X2_takeOver : Cond.code yX2_takeOver cX2_takeOver 6 none ∈ pWW := pw5 (List.mem_of_getElem? (i := 79) rfl) rfl
theorem ini_2 : Cond.initialized RX2 ∈ pWW := pw1 (List.mem_of_getElem? (i := 8) rfl) rfl
abbrev m_X2_takeOver : MT := (yX2_takeOver, cX2_takeOver, 6, none)
theorem ok_X2_takeOver : pOk m_X2_takeOver := ⟨⟨cd_X2_takeOver, ini_2⟩, by decide +kernel, ⟨by decide +kernel, by decide +kernel⟩, Nat.le_of_ble_eq_true rfl⟩
theorem np_X2_takeOver : (parseMethodDescriptor yX2_takeOver.desc).map (fun d => d.parameters.length) = some 3 := by decide +kernel
theorem im_X2_takeOver : Cond.instanceMethod yX2_takeOver ∈ pWW := pw5 (List.mem_of_getElem? (i := 78) rfl) rfl
theorem se_X2_takeOver : Cond.selects RX2 yX2_takeOver yX2_takeOver ∈ pWW := pws (List.mem_map.mpr ⟨_, lw_pin 56 rfl, rfl⟩) rfl
theorem ml2_53 : Cond.methodLink RX2 53 yX1_get ∈ pWW := pw5 (List.mem_of_getElem? (i := 18) rfl) rfl
theorem ml2_77 : Cond.methodLink RX2 77 yX1_set ∈ pWW := pw5 (List.mem_of_getElem? (i := 81) rfl) rfl
theorem dX2_takeOver_0 : decode cX2_takeOver 0 = .ok (.aload_n 1, 1) := by decide +kernel
theorem dX2_takeOver_1 : decode cX2_takeOver 1 = .ok (.iload_n 2, 1) := by decide +kernel
theorem dX2_takeOver_2 : decode cX2_takeOver 2 = .ok (.iconst 0, 1) := by decide +kernel
theorem dX2_takeOver_3 : decode cX2_takeOver 3 = .ok (.invokevirtual 53, 3) := by decide +kernel
theorem dX2_takeOver_6 : decode cX2_takeOver 6 = .ok (.istore 4, 2) := by decide +kernel
theorem dX2_takeOver_8 : decode cX2_takeOver 8 = .ok (.iload 4, 2) := by decide +kernel
theorem dX2_takeOver_10 : decode cX2_takeOver 10 = .ok (.ifCond .ne 21, 3) := by decide +kernel
theorem dX2_takeOver_31 : decode cX2_takeOver 31 = .ok (.aload_n 1, 1) := by decide +kernel
theorem dX2_takeOver_32 : decode cX2_takeOver 32 = .ok (.iload_n 3, 1) := by decide +kernel
theorem dX2_takeOver_33 : decode cX2_takeOver 33 = .ok (.bipush 11, 2) := by decide +kernel
theorem dX2_takeOver_35 : decode cX2_takeOver 35 = .ok (.iconst 2, 1) := by decide +kernel
theorem dX2_takeOver_36 : decode cX2_takeOver 36 = .ok (.iload 4, 2) := by decide +kernel
theorem dX2_takeOver_38 : decode cX2_takeOver 38 = .ok (.iadd, 1) := by decide +kernel
theorem dX2_takeOver_39 : decode cX2_takeOver 39 = .ok (.invokevirtual 77, 3) := by decide +kernel
theorem dX2_takeOver_42 : decode cX2_takeOver 42 = .ok (.iconst 3, 1) := by decide +kernel
theorem dX2_takeOver_43 : decode cX2_takeOver 43 = .ok (.istore 5, 2) := by decide +kernel
theorem dX2_takeOver_45 : decode cX2_takeOver 45 = .ok (.iload 5, 2) := by decide +kernel
theorem dX2_takeOver_47 : decode cX2_takeOver 47 = .ok (.bipush 6, 2) := by decide +kernel
theorem dX2_takeOver_49 : decode cX2_takeOver 49 = .ok (.if_icmp .gt 23, 3) := by decide +kernel
theorem dX2_takeOver_52 : decode cX2_takeOver 52 = .ok (.aload_n 1, 1) := by decide +kernel
theorem dX2_takeOver_53 : decode cX2_takeOver 53 = .ok (.iload_n 3, 1) := by decide +kernel
theorem dX2_takeOver_54 : decode cX2_takeOver 54 = .ok (.iload 5, 2) := by decide +kernel
theorem dX2_takeOver_56 : decode cX2_takeOver 56 = .ok (.aload_n 1, 1) := by decide +kernel
theorem dX2_takeOver_57 : decode cX2_takeOver 57 = .ok (.iload_n 2, 1) := by decide +kernel
theorem dX2_takeOver_58 : decode cX2_takeOver 58 = .ok (.iload 5, 2) := by decide +kernel
theorem dX2_takeOver_60 : decode cX2_takeOver 60 = .ok (.invokevirtual 53, 3) := by decide +kernel
theorem dX2_takeOver_63 : decode cX2_takeOver 63 = .ok (.invokevirtual 77, 3) := by decide +kernel
theorem dX2_takeOver_66 : decode cX2_takeOver 66 = .ok (.iinc 5 1, 3) := by decide +kernel
theorem dX2_takeOver_69 : decode cX2_takeOver 69 = .ok (.goto (-24), 3) := by decide +kernel
set_option maxRecDepth 20000 in
theorem l_X2_takeOver_45 (d : Nat) {T : CT} {σ0 : MS} {rx1 : Nat} {c2 : Int} {c3 : Int} {post : Option Value → CT → MS → Prop} (h_rx1 : OB T rx1 1) (t_rx1 : (T rx1).1 = 50) (r_c2 : -2147483648 ≤ c2 ∧ c2 ≤ 2147483647) (r_c3 : -2147483648 ≤ c3 ∧ c3 ≤ 2147483647) (hw0 : WT T σ0) (hx_72 : ∀ (i5 : Int) (σ : MS) , (WT T σ) → (FrC T [] σ0 σ) → (3 ≤ i5 ∧ i5 ≤ 2147483647) → Tn (d + 3) m_X2_takeOver 72 T σ [(1, .ref rx1), (2, .int (iI c2)), (3, .int (iI c3)), (5, .int (iI i5))] [] post) : ∀ (n : Nat) (i5 : Int) (σ : MS) , (WT T σ) → (FrC T [] σ0 σ) → (3 ≤ i5 ∧ i5 ≤ 2147483647) → (2147483700 - i5).toNat = n → Tn (d + 3) m_X2_takeOver 45 T σ [(1, .ref rx1), (2, .int (iI c2)), (3, .int (iI c3)), (5, .int (iI i5))] [] post := by
  intro n
  induction n using Nat.strongRecOn with
  | _ n ih =>
    intro i5 σ hw hF r_i5 hm
    refine tn_iload dX2_takeOver_45 3 rfl ?_
    refine tn_bipush dX2_takeOver_47 (by decide) ?_
    refine tn_icmp_gt (tgt := 72) dX2_takeOver_49 (by decide) ⟨by omega, by omega⟩ ⟨by decide, by decide⟩ (fun h1 => ?_) (fun h1 => ?_)
    · exact tn_sub [0, 1, 2, 3] rfl (hx_72 (i5) σ hw (FrC.rfl.trans (FrC.sub hF (by decide))) (by omega))
    · refine tn_aload_n dX2_takeOver_52 rfl 0 rfl ?_
      refine tn_iload_n dX2_takeOver_53 rfl 2 rfl ?_
      refine tn_iload dX2_takeOver_54 3 rfl ?_
      refine tn_aload_n dX2_takeOver_56 rfl 0 rfl ?_
      refine tn_iload_n dX2_takeOver_57 rfl 1 rfl ?_
      refine tn_iload dX2_takeOver_58 3 rfl ?_
      refine tn_callV (M := m_X2_takeOver) (pc := 60) (ix := 53) (ci := 1) (M' := m_X1_get) (As := [.int (iI c2), .int (iI i5)]) (rest := [.int (iI i5), .int (iI c3), .ref rx1]) dX2_takeOver_60 ok_X1_get im_X1_get se_X1_get ml2_53 np_X1_get rfl rfl h_rx1 rfl (Nat.le_of_ble_eq_true rfl) (Nat.le_of_ble_eq_true rfl) rfl (k_X1_get (d + 1) (T := T) (σ := σ) (a := rx1) (k := c2) (c := i5) h_rx1 (by omega) (by omega) hw (by omega)) (fun r2 T4 σ3 gt5 hp => ?_)
      obtain ⟨v7, rfl, rfl, rfl, f6⟩ := hp
      clear gt5
      show Tn _ _ 63 T σ [(1, .ref rx1), (2, .int (iI c2)), (3, .int (iI c3)), (5, .int (iI i5))] [.int (iI v7), .int (iI i5), .int (iI c3), .ref rx1] _
      refine tn_callV (M := m_X2_takeOver) (pc := 63) (ix := 77) (ci := 1) (M' := m_X1_set) (As := [.int (iI c3), .int (iI i5), .int (iI v7)]) (rest := []) dX2_takeOver_63 ok_X1_set im_X1_set se_X1_set ml2_77 np_X1_set rfl rfl h_rx1 rfl (Nat.le_of_ble_eq_true rfl) (Nat.le_of_ble_eq_true rfl) rfl (k_X1_set (d + 1) (T := T) (σ := σ) (a := rx1) (k := c3) (c := i5) (y := v7) h_rx1 (by omega) (by omega) (by omega) hw (by omega) (by omega)) (fun r8 T10 σ9 gt11 hp => ?_)
      obtain ⟨rfl, rfl, w13, F14⟩ := hp
      clear gt11
      show Tn _ _ 66 T σ9 [(1, .ref rx1), (2, .int (iI c2)), (3, .int (iI c3)), (5, .int (iI i5))] [] _
      refine tn_iinc (q0 := 3) (L' := [(5, .int (iI (i5 + 1))), (1, .ref rx1), (2, .int (iI c2)), (3, .int (iI c3))]) dX2_takeOver_66 rfl (by decide) rfl ?_
      refine tn_goto (tgt := 45) dX2_takeOver_69 (by decide) ?_
      exact tn_sub [1, 2, 3, 0] rfl (ih _ (by omega) (i5 + 1) σ9 w13 ((FrC.rfl.trans (FrC.sub hF (by decide))).trans (FrC.sub F14 (by decide))) (by omega) rfl)
theorem ml2_73 : Cond.methodLink RX2 73 yX1_setWhere ∈ pWW := pw5 (List.mem_of_getElem? (i := 80) rfl) rfl
theorem dX2_takeOver_72 : decode cX2_takeOver 72 = .ok (.return_, 1) := by decide +kernel
theorem dX2_takeOver_13 : decode cX2_takeOver 13 = .ok (.aload_n 1, 1) := by decide +kernel
theorem dX2_takeOver_14 : decode cX2_takeOver 14 = .ok (.iload_n 3, 1) := by decide +kernel
theorem dX2_takeOver_15 : decode cX2_takeOver 15 = .ok (.aload_n 1, 1) := by decide +kernel
theorem dX2_takeOver_16 : decode cX2_takeOver 16 = .ok (.iload_n 2, 1) := by decide +kernel
theorem dX2_takeOver_17 : decode cX2_takeOver 17 = .ok (.iconst 3, 1) := by decide +kernel
theorem dX2_takeOver_18 : decode cX2_takeOver 18 = .ok (.invokevirtual 53, 3) := by decide +kernel
theorem dX2_takeOver_21 : decode cX2_takeOver 21 = .ok (.aload_n 1, 1) := by decide +kernel
theorem dX2_takeOver_22 : decode cX2_takeOver 22 = .ok (.iload_n 2, 1) := by decide +kernel
theorem dX2_takeOver_23 : decode cX2_takeOver 23 = .ok (.iconst 4, 1) := by decide +kernel
theorem dX2_takeOver_24 : decode cX2_takeOver 24 = .ok (.invokevirtual 53, 3) := by decide +kernel
theorem dX2_takeOver_27 : decode cX2_takeOver 27 = .ok (.invokevirtual 73, 3) := by decide +kernel
theorem dX2_takeOver_30 : decode cX2_takeOver 30 = .ok (.return_, 1) := by decide +kernel
set_option maxRecDepth 20000 in
theorem k_X2_takeOver (d : Nat) {T : CT} {σ : MS} {a : Nat} {p1 : Nat} {p2 : Int} {p3 : Int} (ha : OB T a 2) (h_p1 : OB T p1 1) (t_p1 : (T p1).1 = 50) (h_p2 : -2147483648 ≤ p2 ∧ p2 ≤ 2147483647) (h_p3 : -2147483648 ≤ p3 ∧ p3 ≤ 2147483647) (hw : WT T σ) : Tn (d + 3) m_X2_takeOver 0 T σ [(0, .ref a), (1, .ref p1), (2, .int (iI p2)), (3, .int (iI p3))] [] (fun ro T2 σ2 => ro = none ∧ T = T2 ∧ WT T2 σ2 ∧ FrC T [] σ σ2) := by
  refine tn_aload_n dX2_takeOver_0 rfl 1 rfl ?_
  refine tn_iload_n dX2_takeOver_1 rfl 2 rfl ?_
  refine tn_iconst dX2_takeOver_2 ?_
  refine tn_callV (M := m_X2_takeOver) (pc := 3) (ix := 53) (ci := 1) (M' := m_X1_get) (As := [.int (iI p2), .int (iI 0)]) (rest := []) dX2_takeOver_3 ok_X1_get im_X1_get se_X1_get ml2_53 np_X1_get rfl rfl h_p1 rfl (Nat.le_of_ble_eq_true rfl) (Nat.le_of_ble_eq_true rfl) rfl (k_X1_get (d + 1) (T := T) (σ := σ) (a := p1) (k := p2) (c := 0) h_p1 (by omega) (by decide) hw (by omega)) (fun r1 T3 σ2 gt4 hp => ?_)
  obtain ⟨v6, rfl, rfl, rfl, f5⟩ := hp
  clear gt4
  show Tn _ _ 6 T σ [(0, .ref a), (1, .ref p1), (2, .int (iI p2)), (3, .int (iI p3))] [.int (iI v6)] _
  refine tn_istore (L' := [(4, .int (iI v6)), (0, .ref a), (1, .ref p1), (2, .int (iI p2)), (3, .int (iI p3))]) dX2_takeOver_6 (by decide) rfl ?_
  refine tn_iload dX2_takeOver_8 0 rfl ?_
  refine tn_if_ne (tgt := 31) dX2_takeOver_10 (by decide) ⟨by omega, by omega⟩ (fun h7 => ?_) (fun h7 => ?_)
  · refine tn_aload_n dX2_takeOver_31 rfl 2 rfl ?_
    refine tn_iload_n dX2_takeOver_32 rfl 4 rfl ?_
    refine tn_bipush dX2_takeOver_33 (by decide) ?_
    refine tn_iconst dX2_takeOver_35 ?_
    refine tn_iload dX2_takeOver_36 0 rfl ?_
    refine tn_iadd dX2_takeOver_38 ?_
    refine tn_any (fun z8 g9 => ?_)
    have g9r : -2147483648 ≤ z8 ∧ z8 ≤ 2147483647 := g9
    refine tn_callV (M := m_X2_takeOver) (pc := 39) (ix := 77) (ci := 1) (M' := m_X1_set) (As := [.int (iI p3), .int (iI 11), .int (iI z8)]) (rest := []) dX2_takeOver_39 ok_X1_set im_X1_set se_X1_set ml2_77 np_X1_set rfl rfl h_p1 rfl (Nat.le_of_ble_eq_true rfl) (Nat.le_of_ble_eq_true rfl) rfl (k_X1_set (d + 1) (T := T) (σ := σ) (a := p1) (k := p3) (c := 11) (y := z8) h_p1 (by omega) (by decide) (by omega) hw (by omega) (by omega)) (fun r10 T12 σ11 gt13 hp => ?_)
    obtain ⟨rfl, rfl, w15, F16⟩ := hp
    clear gt13
    show Tn _ _ 42 T σ11 [(4, .int (iI v6)), (0, .ref a), (1, .ref p1), (2, .int (iI p2)), (3, .int (iI p3))] [] _
    refine tn_iconst dX2_takeOver_42 ?_
    refine tn_istore (L' := [(5, .int (iI 3)), (4, .int (iI v6)), (0, .ref a), (1, .ref p1), (2, .int (iI p2)), (3, .int (iI p3))]) dX2_takeOver_43 (by decide) rfl ?_
    refine tn_sub [3, 4, 5, 0] rfl (l_X2_takeOver_45 (d) (T := T) (σ0 := σ11) (rx1 := p1) (c2 := p2) (c3 := p3) h_p1 t_p1 (by omega) (by omega) w15 (fun i517 σ18 w21 F22 r23 => ?_) _ (3) σ11 w15 FrC.rfl (by omega) rfl)
    show Tn _ _ 72 T σ18 [(1, .ref p1), (2, .int (iI p2)), (3, .int (iI p3)), (5, .int (iI i517))] [] _
    exact tn_vret rfl dX2_takeOver_72 ⟨rfl, rfl, w21, ((FrC.rfl.trans (FrC.sub F16 (by decide))).trans (FrC.sub F22 (by decide)))⟩
  · refine tn_aload_n dX2_takeOver_13 rfl 2 rfl ?_
    refine tn_iload_n dX2_takeOver_14 rfl 4 rfl ?_
    refine tn_aload_n dX2_takeOver_15 rfl 2 rfl ?_
    refine tn_iload_n dX2_takeOver_16 rfl 3 rfl ?_
    refine tn_iconst dX2_takeOver_17 ?_
    refine tn_callV (M := m_X2_takeOver) (pc := 18) (ix := 53) (ci := 1) (M' := m_X1_get) (As := [.int (iI p2), .int (iI 3)]) (rest := [.int (iI p3), .ref p1]) dX2_takeOver_18 ok_X1_get im_X1_get se_X1_get ml2_53 np_X1_get rfl rfl h_p1 rfl (Nat.le_of_ble_eq_true rfl) (Nat.le_of_ble_eq_true rfl) rfl (k_X1_get (d + 1) (T := T) (σ := σ) (a := p1) (k := p2) (c := 3) h_p1 (by omega) (by decide) hw (by omega)) (fun r24 T26 σ25 gt27 hp => ?_)
    obtain ⟨v29, rfl, rfl, rfl, f28⟩ := hp
    clear gt27
    show Tn _ _ 21 T σ [(4, .int (iI v6)), (0, .ref a), (1, .ref p1), (2, .int (iI p2)), (3, .int (iI p3))] [.int (iI v29), .int (iI p3), .ref p1] _
    refine tn_aload_n dX2_takeOver_21 rfl 2 rfl ?_
    refine tn_iload_n dX2_takeOver_22 rfl 3 rfl ?_
    refine tn_iconst dX2_takeOver_23 ?_
    refine tn_callV (M := m_X2_takeOver) (pc := 24) (ix := 53) (ci := 1) (M' := m_X1_get) (As := [.int (iI p2), .int (iI 4)]) (rest := [.int (iI v29), .int (iI p3), .ref p1]) dX2_takeOver_24 ok_X1_get im_X1_get se_X1_get ml2_53 np_X1_get rfl rfl h_p1 rfl (Nat.le_of_ble_eq_true rfl) (Nat.le_of_ble_eq_true rfl) rfl (k_X1_get (d + 1) (T := T) (σ := σ) (a := p1) (k := p2) (c := 4) h_p1 (by omega) (by decide) hw (by omega)) (fun r30 T32 σ31 gt33 hp => ?_)
    obtain ⟨v35, rfl, rfl, rfl, f34⟩ := hp
    clear gt33
    show Tn _ _ 27 T σ [(4, .int (iI v6)), (0, .ref a), (1, .ref p1), (2, .int (iI p2)), (3, .int (iI p3))] [.int (iI v35), .int (iI v29), .int (iI p3), .ref p1] _
    refine tn_callV (M := m_X2_takeOver) (pc := 27) (ix := 73) (ci := 1) (M' := m_X1_setWhere) (As := [.int (iI p3), .int (iI v29), .int (iI v35)]) (rest := []) dX2_takeOver_27 ok_X1_setWhere im_X1_setWhere se_X1_setWhere ml2_73 np_X1_setWhere rfl rfl h_p1 rfl (Nat.le_of_ble_eq_true rfl) (Nat.le_of_ble_eq_true rfl) rfl (k_X1_setWhere (d) (T := T) (σ := σ) (a := p1) (k := p3) (y := v29) (z := v35) h_p1 (by omega) (by omega) (by omega) hw ) (fun r36 T38 σ37 gt39 hp => ?_)
    obtain ⟨rfl, rfl, w41, F42⟩ := hp
    clear gt39
    show Tn _ _ 30 T σ37 [(4, .int (iI v6)), (0, .ref a), (1, .ref p1), (2, .int (iI p2)), (3, .int (iI p3))] [] _
    exact tn_vret rfl dX2_takeOver_30 ⟨rfl, rfl, w41, (FrC.rfl.trans (FrC.sub F42 (by decide)))⟩
