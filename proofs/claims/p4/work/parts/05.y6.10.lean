theorem cd_X1_link : Cond.code yX1_link cX1_link 3 none ∈ pWW := pw4 (List.mem_of_getElem? (i := 27) rfl) rfl
abbrev m_X1_link : MT := (yX1_link, cX1_link, 3, none)
theorem ok_X1_link : pOk m_X1_link := ⟨⟨cd_X1_link, ini_1⟩, by decide +kernel, ⟨by decide +kernel, by decide +kernel⟩, Nat.le_of_ble_eq_true rfl⟩
theorem np_X1_link : (parseMethodDescriptor yX1_link.desc).map (fun d => d.parameters.length) = some 0 := by decide +kernel
theorem im_X1_link : Cond.instanceMethod yX1_link ∈ pWW := pw4 (List.mem_of_getElem? (i := 25) rfl) rfl
theorem se_X1_link : Cond.selects RX1 yX1_link yX1_link ∈ pWW := pw4 (List.mem_of_getElem? (i := 26) rfl) rfl
theorem ml1_89 : Cond.methodLink RX1 89 yX1_rowOfLabel ∈ pWW := pw4 (List.mem_of_getElem? (i := 28) rfl) rfl
theorem ml1_93 : Cond.methodLink RX1 93 yX1_set ∈ pWW := pw3 (List.mem_of_getElem? (i := 202) rfl) rfl
theorem dX1_link_0 : decode cX1_link 0 = .ok (.iconst 0, 1) := by decide +kernel
theorem dX1_link_1 : decode cX1_link 1 = .ok (.istore_n 1, 1) := by decide +kernel
theorem dX1_link_2 : decode cX1_link 2 = .ok (.iload_n 1, 1) := by decide +kernel
theorem dX1_link_3 : decode cX1_link 3 = .ok (.aload_n 0, 1) := by decide +kernel
theorem dX1_link_4 : decode cX1_link 4 = .ok (.getfield 33, 3) := by decide +kernel
theorem dX1_link_7 : decode cX1_link 7 = .ok (.if_icmp .ge 45, 3) := by decide +kernel
theorem dX1_link_10 : decode cX1_link 10 = .ok (.aload_n 0, 1) := by decide +kernel
theorem dX1_link_11 : decode cX1_link 11 = .ok (.iload_n 1, 1) := by decide +kernel
theorem dX1_link_12 : decode cX1_link 12 = .ok (.iconst 0, 1) := by decide +kernel
theorem dX1_link_13 : decode cX1_link 13 = .ok (.invokevirtual 86, 3) := by decide +kernel
theorem dX1_link_16 : decode cX1_link 16 = .ok (.istore_n 2, 1) := by decide +kernel
theorem dX1_link_17 : decode cX1_link 17 = .ok (.iload_n 2, 1) := by decide +kernel
theorem dX1_link_18 : decode cX1_link 18 = .ok (.bipush 8, 2) := by decide +kernel
theorem dX1_link_20 : decode cX1_link 20 = .ok (.if_icmp .eq 9, 3) := by decide +kernel
theorem dX1_link_29 : decode cX1_link 29 = .ok (.aload_n 0, 1) := by decide +kernel
theorem dX1_link_30 : decode cX1_link 30 = .ok (.iload_n 1, 1) := by decide +kernel
theorem dX1_link_31 : decode cX1_link 31 = .ok (.bipush 12, 2) := by decide +kernel
theorem dX1_link_33 : decode cX1_link 33 = .ok (.aload_n 0, 1) := by decide +kernel
theorem dX1_link_34 : decode cX1_link 34 = .ok (.aload_n 0, 1) := by decide +kernel
theorem dX1_link_35 : decode cX1_link 35 = .ok (.iload_n 1, 1) := by decide +kernel
theorem dX1_link_36 : decode cX1_link 36 = .ok (.iconst 1, 1) := by decide +kernel
theorem dX1_link_37 : decode cX1_link 37 = .ok (.invokevirtual 86, 3) := by decide +kernel
theorem dX1_link_40 : decode cX1_link 40 = .ok (.invokevirtual 89, 3) := by decide +kernel
theorem dX1_link_43 : decode cX1_link 43 = .ok (.invokevirtual 93, 3) := by decide +kernel
theorem dX1_link_46 : decode cX1_link 46 = .ok (.iinc 1 1, 3) := by decide +kernel
theorem dX1_link_49 : decode cX1_link 49 = .ok (.goto (-47), 3) := by decide +kernel
theorem dX1_link_23 : decode cX1_link 23 = .ok (.iload_n 2, 1) := by decide +kernel
theorem dX1_link_24 : decode cX1_link 24 = .ok (.bipush 9, 2) := by decide +kernel
theorem dX1_link_26 : decode cX1_link 26 = .ok (.if_icmp .ne 20, 3) := by decide +kernel
set_option maxRecDepth 20000 in
theorem l_X1_link_2 (d : Nat) {T : CT} {σ0 : MS} {a : Nat} {post : Option Value → CT → MS → Prop} (h_a : OB T a 1) (hw0 : WT T σ0) (hx_52 : ∀ (i1 : Int) (σ : MS) , (WT T σ) → (FrC T [] σ0 σ) → (0 ≤ i1 ∧ i1 ≤ 2147483647) → Tn (d + 3) m_X1_link 52 T σ [(0, .ref a), (1, .int (iI i1))] [] post) : ∀ (n : Nat) (i1 : Int) (σ : MS) , (WT T σ) → (FrC T [] σ0 σ) → (0 ≤ i1 ∧ i1 ≤ 2147483647) → (2147483700 - i1).toNat = n → Tn (d + 3) m_X1_link 2 T σ [(0, .ref a), (1, .int (iI i1))] [] post := by
  intro n
  induction n using Nat.strongRecOn with
  | _ n ih =>
    intro i1 σ hw hF r_i1 hm
    refine tn_iload_n dX1_link_2 rfl 1 rfl ?_
    refine tn_aload_n dX1_link_3 rfl 0 rfl ?_
    refine tn_getI (ci := 1) (i := 1) (n := 6) (t := σ0.2.1 6 a) dX1_link_4 rfl lay_1 (by decide) fl1_33 h_a rfl rfl (rc_F hF (Or.inl (by decide)) (by decide) (rfl)) ?_
    have g1 : ((0 : Int) ≤ σ0.2.1 6 a ∧ σ0.2.1 6 a ≤ 5000) ∧ ((T a).1 = 50 → σ0.2.1 6 a ≤ 200) := wf_6 hw0 h_a
    have g1x := g1.2
    replace g1 := g1.1
    clear g1x
    refine tn_icmp_ge (tgt := 52) dX1_link_7 (by decide) ⟨by omega, by omega⟩ ⟨by omega, by omega⟩ (fun h2 => ?_) (fun h2 => ?_)
    · exact tn_sub [0, 1] rfl (hx_52 (i1) σ hw (FrC.rfl.trans (FrC.sub hF (by decide))) (by omega))
    · refine tn_aload_n dX1_link_10 rfl 0 rfl ?_
      refine tn_iload_n dX1_link_11 rfl 1 rfl ?_
      refine tn_iconst dX1_link_12 ?_
      refine tn_callV (M := m_X1_link) (pc := 13) (ix := 86) (ci := 1) (M' := m_X1_get) (As := [.int (iI i1), .int (iI 0)]) (rest := []) dX1_link_13 ok_X1_get im_X1_get se_X1_get ml1_86 np_X1_get rfl rfl h_a rfl (Nat.le_of_ble_eq_true rfl) (Nat.le_of_ble_eq_true rfl) rfl (k_X1_get (d + 1) (T := T) (σ := σ) (a := a) (k := i1) (c := 0) h_a (by omega) (by decide) hw (by omega)) (fun r3 T5 σ4 gt6 hp => ?_)
      obtain ⟨v8, rfl, rfl, rfl, f7⟩ := hp
      clear gt6
      show Tn _ _ 16 T σ [(0, .ref a), (1, .int (iI i1))] [.int (iI v8)] _
      refine tn_istore_n (L' := [(2, .int (iI v8)), (0, .ref a), (1, .int (iI i1))]) dX1_link_16 rfl (by decide) rfl ?_
      refine tn_iload_n dX1_link_17 rfl 0 rfl ?_
      refine tn_bipush dX1_link_18 (by decide) ?_
      refine tn_icmp_eq (tgt := 29) dX1_link_20 (by decide) ⟨by omega, by omega⟩ ⟨by decide, by decide⟩ (fun h9 => ?_) (fun h9 => ?_)
      · refine tn_aload_n dX1_link_29 rfl 1 rfl ?_
        refine tn_iload_n dX1_link_30 rfl 2 rfl ?_
        refine tn_bipush dX1_link_31 (by decide) ?_
        refine tn_aload_n dX1_link_33 rfl 1 rfl ?_
        refine tn_aload_n dX1_link_34 rfl 1 rfl ?_
        refine tn_iload_n dX1_link_35 rfl 2 rfl ?_
        refine tn_iconst dX1_link_36 ?_
        refine tn_callV (M := m_X1_link) (pc := 37) (ix := 86) (ci := 1) (M' := m_X1_get) (As := [.int (iI i1), .int (iI 1)]) (rest := [.ref a, .int (iI 12), .int (iI i1), .ref a]) dX1_link_37 ok_X1_get im_X1_get se_X1_get ml1_86 np_X1_get rfl rfl h_a rfl (Nat.le_of_ble_eq_true rfl) (Nat.le_of_ble_eq_true rfl) rfl (k_X1_get (d + 1) (T := T) (σ := σ) (a := a) (k := i1) (c := 1) h_a (by omega) (by decide) hw (by omega)) (fun r10 T12 σ11 gt13 hp => ?_)
        obtain ⟨v15, rfl, rfl, rfl, f14⟩ := hp
        clear gt13
        show Tn _ _ 40 T σ [(2, .int (iI v8)), (0, .ref a), (1, .int (iI i1))] [.int (iI v15), .ref a, .int (iI 12), .int (iI i1), .ref a] _
        refine tn_callV (M := m_X1_link) (pc := 40) (ix := 89) (ci := 1) (M' := m_X1_rowOfLabel) (As := [.int (iI v15)]) (rest := [.int (iI 12), .int (iI i1), .ref a]) dX1_link_40 ok_X1_rowOfLabel im_X1_rowOfLabel se_X1_rowOfLabel ml1_89 np_X1_rowOfLabel rfl rfl h_a rfl (Nat.le_of_ble_eq_true rfl) (Nat.le_of_ble_eq_true rfl) rfl (k_X1_rowOfLabel (d) (T := T) (σ := σ) (a := a) (l := v15) h_a (by omega) hw ) (fun r16 T18 σ17 gt19 hp => ?_)
        obtain ⟨v21, rfl, rfl, rfl, f20⟩ := hp
        clear gt19
        show Tn _ _ 43 T σ [(2, .int (iI v8)), (0, .ref a), (1, .int (iI i1))] [.int (iI v21), .int (iI 12), .int (iI i1), .ref a] _
        refine tn_callV (M := m_X1_link) (pc := 43) (ix := 93) (ci := 1) (M' := m_X1_set) (As := [.int (iI i1), .int (iI 12), .int (iI v21)]) (rest := []) dX1_link_43 ok_X1_set im_X1_set se_X1_set ml1_93 np_X1_set rfl rfl h_a rfl (Nat.le_of_ble_eq_true rfl) (Nat.le_of_ble_eq_true rfl) rfl (k_X1_set (d + 1) (T := T) (σ := σ) (a := a) (k := i1) (c := 12) (y := v21) h_a (by omega) (by decide) (by omega) hw (by omega) (by omega)) (fun r22 T24 σ23 gt25 hp => ?_)
        obtain ⟨rfl, rfl, w27, F28⟩ := hp
        clear gt25
        show Tn _ _ 46 T σ23 [(2, .int (iI v8)), (0, .ref a), (1, .int (iI i1))] [] _
        refine tn_iinc (q0 := 2) (L' := [(1, .int (iI (i1 + 1))), (2, .int (iI v8)), (0, .ref a)]) dX1_link_46 rfl (by decide) rfl ?_
        refine tn_goto (tgt := 2) dX1_link_49 (by decide) ?_
        exact tn_sub [2, 0] rfl (ih _ (by omega) (i1 + 1) σ23 w27 ((FrC.rfl.trans (FrC.sub hF (by decide))).trans (FrC.sub F28 (by decide))) (by omega) rfl)
      · refine tn_iload_n dX1_link_23 rfl 0 rfl ?_
        refine tn_bipush dX1_link_24 (by decide) ?_
        refine tn_icmp_ne (tgt := 46) dX1_link_26 (by decide) ⟨by omega, by omega⟩ ⟨by decide, by decide⟩ (fun h29 => ?_) (fun h29 => ?_)
        · refine tn_iinc (q0 := 2) (L' := [(1, .int (iI (i1 + 1))), (2, .int (iI v8)), (0, .ref a)]) dX1_link_46 rfl (by decide) rfl ?_
          refine tn_goto (tgt := 2) dX1_link_49 (by decide) ?_
          exact tn_sub [2, 0] rfl (ih _ (by omega) (i1 + 1) σ hw (FrC.rfl.trans (FrC.sub hF (by decide))) (by omega) rfl)
        · refine tn_aload_n dX1_link_29 rfl 1 rfl ?_
          refine tn_iload_n dX1_link_30 rfl 2 rfl ?_
          refine tn_bipush dX1_link_31 (by decide) ?_
          refine tn_aload_n dX1_link_33 rfl 1 rfl ?_
          refine tn_aload_n dX1_link_34 rfl 1 rfl ?_
          refine tn_iload_n dX1_link_35 rfl 2 rfl ?_
          refine tn_iconst dX1_link_36 ?_
          refine tn_callV (M := m_X1_link) (pc := 37) (ix := 86) (ci := 1) (M' := m_X1_get) (As := [.int (iI i1), .int (iI 1)]) (rest := [.ref a, .int (iI 12), .int (iI i1), .ref a]) dX1_link_37 ok_X1_get im_X1_get se_X1_get ml1_86 np_X1_get rfl rfl h_a rfl (Nat.le_of_ble_eq_true rfl) (Nat.le_of_ble_eq_true rfl) rfl (k_X1_get (d + 1) (T := T) (σ := σ) (a := a) (k := i1) (c := 1) h_a (by omega) (by decide) hw (by omega)) (fun r30 T32 σ31 gt33 hp => ?_)
          obtain ⟨v35, rfl, rfl, rfl, f34⟩ := hp
          clear gt33
          show Tn _ _ 40 T σ [(2, .int (iI v8)), (0, .ref a), (1, .int (iI i1))] [.int (iI v35), .ref a, .int (iI 12), .int (iI i1), .ref a] _
          refine tn_callV (M := m_X1_link) (pc := 40) (ix := 89) (ci := 1) (M' := m_X1_rowOfLabel) (As := [.int (iI v35)]) (rest := [.int (iI 12), .int (iI i1), .ref a]) dX1_link_40 ok_X1_rowOfLabel im_X1_rowOfLabel se_X1_rowOfLabel ml1_89 np_X1_rowOfLabel rfl rfl h_a rfl (Nat.le_of_ble_eq_true rfl) (Nat.le_of_ble_eq_true rfl) rfl (k_X1_rowOfLabel (d) (T := T) (σ := σ) (a := a) (l := v35) h_a (by omega) hw ) (fun r36 T38 σ37 gt39 hp => ?_)
          obtain ⟨v41, rfl, rfl, rfl, f40⟩ := hp
          clear gt39
          show Tn _ _ 43 T σ [(2, .int (iI v8)), (0, .ref a), (1, .int (iI i1))] [.int (iI v41), .int (iI 12), .int (iI i1), .ref a] _
          refine tn_callV (M := m_X1_link) (pc := 43) (ix := 93) (ci := 1) (M' := m_X1_set) (As := [.int (iI i1), .int (iI 12), .int (iI v41)]) (rest := []) dX1_link_43 ok_X1_set im_X1_set se_X1_set ml1_93 np_X1_set rfl rfl h_a rfl (Nat.le_of_ble_eq_true rfl) (Nat.le_of_ble_eq_true rfl) rfl (k_X1_set (d + 1) (T := T) (σ := σ) (a := a) (k := i1) (c := 12) (y := v41) h_a (by omega) (by decide) (by omega) hw (by omega) (by omega)) (fun r42 T44 σ43 gt45 hp => ?_)
          obtain ⟨rfl, rfl, w47, F48⟩ := hp
          clear gt45
          show Tn _ _ 46 T σ43 [(2, .int (iI v8)), (0, .ref a), (1, .int (iI i1))] [] _
          refine tn_iinc (q0 := 2) (L' := [(1, .int (iI (i1 + 1))), (2, .int (iI v8)), (0, .ref a)]) dX1_link_46 rfl (by decide) rfl ?_
          refine tn_goto (tgt := 2) dX1_link_49 (by decide) ?_
          exact tn_sub [2, 0] rfl (ih _ (by omega) (i1 + 1) σ43 w47 ((FrC.rfl.trans (FrC.sub hF (by decide))).trans (FrC.sub F48 (by decide))) (by omega) rfl)
theorem dX1_link_52 : decode cX1_link 52 = .ok (.return_, 1) := by decide +kernel
set_option maxRecDepth 20000 in
theorem k_X1_link (d : Nat) {T : CT} {σ : MS} {a : Nat} (ha : OB T a 1) (hw : WT T σ) : Tn (d + 3) m_X1_link 0 T σ [(0, .ref a)] [] (fun ro T2 σ2 => ro = none ∧ T = T2 ∧ WT T2 σ2 ∧ FrC T [] σ σ2) := by
  refine tn_iconst dX1_link_0 ?_
  refine tn_istore_n (L' := [(1, .int (iI 0)), (0, .ref a)]) dX1_link_1 rfl (by decide) rfl ?_
  refine tn_sub [1, 0] rfl (l_X1_link_2 (d) (T := T) (σ0 := σ) (a := a) ha hw (fun i11 σ2 w5 F6 r7 => ?_) _ (0) σ hw FrC.rfl (by omega) rfl)
  show Tn _ _ 52 T σ2 [(0, .ref a), (1, .int (iI i11))] [] _
  exact tn_vret rfl dX1_link_52 ⟨rfl, rfl, w5, (FrC.rfl.trans (FrC.sub F6 (by decide)))⟩
