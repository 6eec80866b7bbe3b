theorem cd_X1_rowOfLabel : Cond.code yX1_rowOfLabel cX1_rowOfLabel 3 (some .int) ∈ pWW := pw4 (List.mem_of_getElem? (i := 31) rfl) rfl
abbrev m_X1_rowOfLabel : MT := (yX1_rowOfLabel, cX1_rowOfLabel, 3, (some .int))
theorem ok_X1_rowOfLabel : pOk m_X1_rowOfLabel := ⟨⟨cd_X1_rowOfLabel, ini_1⟩, by decide +kernel, ⟨by decide +kernel, by decide +kernel⟩, Nat.le_of_ble_eq_true rfl⟩
theorem np_X1_rowOfLabel : (parseMethodDescriptor yX1_rowOfLabel.desc).map (fun d => d.parameters.length) = some 1 := by decide +kernel
theorem im_X1_rowOfLabel : Cond.instanceMethod yX1_rowOfLabel ∈ pWW := pw4 (List.mem_of_getElem? (i := 30) rfl) rfl
theorem se_X1_rowOfLabel : Cond.selects RX1 yX1_rowOfLabel yX1_rowOfLabel ∈ pWW := pws (List.mem_map.mpr ⟨_, lw_pin 35 rfl, rfl⟩) rfl
theorem ml1_86 : Cond.methodLink RX1 86 yX1_get ∈ pWW := pw4 (List.mem_of_getElem? (i := 5) rfl) rfl
theorem dX1_rowOfLabel_0 : decode cX1_rowOfLabel 0 = .ok (.iconst 0, 1) := by decide +kernel
theorem dX1_rowOfLabel_1 : decode cX1_rowOfLabel 1 = .ok (.istore_n 2, 1) := by decide +kernel
theorem dX1_rowOfLabel_2 : decode cX1_rowOfLabel 2 = .ok (.iload_n 2, 1) := by decide +kernel
theorem dX1_rowOfLabel_3 : decode cX1_rowOfLabel 3 = .ok (.aload_n 0, 1) := by decide +kernel
theorem dX1_rowOfLabel_4 : decode cX1_rowOfLabel 4 = .ok (.getfield 33, 3) := by decide +kernel
theorem dX1_rowOfLabel_7 : decode cX1_rowOfLabel 7 = .ok (.if_icmp .ge 32, 3) := by decide +kernel
theorem dX1_rowOfLabel_10 : decode cX1_rowOfLabel 10 = .ok (.aload_n 0, 1) := by decide +kernel
theorem dX1_rowOfLabel_11 : decode cX1_rowOfLabel 11 = .ok (.iload_n 2, 1) := by decide +kernel
theorem dX1_rowOfLabel_12 : decode cX1_rowOfLabel 12 = .ok (.iconst 0, 1) := by decide +kernel
theorem dX1_rowOfLabel_13 : decode cX1_rowOfLabel 13 = .ok (.invokevirtual 86, 3) := by decide +kernel
theorem dX1_rowOfLabel_16 : decode cX1_rowOfLabel 16 = .ok (.bipush 13, 2) := by decide +kernel
theorem dX1_rowOfLabel_18 : decode cX1_rowOfLabel 18 = .ok (.if_icmp .ne 15, 3) := by decide +kernel
theorem dX1_rowOfLabel_33 : decode cX1_rowOfLabel 33 = .ok (.iinc 2 1, 3) := by decide +kernel
theorem dX1_rowOfLabel_36 : decode cX1_rowOfLabel 36 = .ok (.goto (-34), 3) := by decide +kernel
theorem dX1_rowOfLabel_21 : decode cX1_rowOfLabel 21 = .ok (.aload_n 0, 1) := by decide +kernel
theorem dX1_rowOfLabel_22 : decode cX1_rowOfLabel 22 = .ok (.iload_n 2, 1) := by decide +kernel
theorem dX1_rowOfLabel_23 : decode cX1_rowOfLabel 23 = .ok (.iconst 1, 1) := by decide +kernel
theorem dX1_rowOfLabel_24 : decode cX1_rowOfLabel 24 = .ok (.invokevirtual 86, 3) := by decide +kernel
theorem dX1_rowOfLabel_27 : decode cX1_rowOfLabel 27 = .ok (.iload_n 1, 1) := by decide +kernel
theorem dX1_rowOfLabel_28 : decode cX1_rowOfLabel 28 = .ok (.if_icmp .ne 5, 3) := by decide +kernel
set_option maxRecDepth 20000 in
theorem l_X1_rowOfLabel_2 (d : Nat) {T : CT} {σ : MS} {a : Nat} {c1 : Int} {post : Option Value → CT → MS → Prop} (h_a : OB T a 1) (r_c1 : -2147483648 ≤ c1 ∧ c1 ≤ 2147483647) (hw : WT T σ) (hx_31 : ∀ (i2 : Int) , (0 ≤ i2 ∧ i2 ≤ 2147483647) → Tn (d + 2) m_X1_rowOfLabel 31 T σ [(0, .ref a), (1, .int (iI c1)), (2, .int (iI i2))] [] post) (hx_39 : ∀ (i2 : Int) , (0 ≤ i2 ∧ i2 ≤ 2147483647) → Tn (d + 2) m_X1_rowOfLabel 39 T σ [(0, .ref a), (1, .int (iI c1)), (2, .int (iI i2))] [] post) : ∀ (n : Nat) (i2 : Int) , (0 ≤ i2 ∧ i2 ≤ 2147483647) → (2147483700 - i2).toNat = n → Tn (d + 2) m_X1_rowOfLabel 2 T σ [(0, .ref a), (1, .int (iI c1)), (2, .int (iI i2))] [] post := by
  intro n
  induction n using Nat.strongRecOn with
  | _ n ih =>
    intro i2 r_i2 hm
    refine tn_iload_n dX1_rowOfLabel_2 rfl 2 rfl ?_
    refine tn_aload_n dX1_rowOfLabel_3 rfl 0 rfl ?_
    refine tn_getI (ci := 1) (i := 1) (n := 6) (t := σ.2.1 6 a) dX1_rowOfLabel_4 rfl lay_1 (by decide) fl1_33 h_a rfl rfl (rfl) ?_
    have g1 : ((0 : Int) ≤ σ.2.1 6 a ∧ σ.2.1 6 a ≤ 5000) ∧ ((T a).1 = 50 → σ.2.1 6 a ≤ 200) := wf_6 hw h_a
    have g1x := g1.2
    replace g1 := g1.1
    clear g1x
    refine tn_icmp_ge (tgt := 39) dX1_rowOfLabel_7 (by decide) ⟨by omega, by omega⟩ ⟨by omega, by omega⟩ (fun h2 => ?_) (fun h2 => ?_)
    · exact tn_sub [0, 1, 2] rfl (hx_39 (i2) (by omega))
    · refine tn_aload_n dX1_rowOfLabel_10 rfl 0 rfl ?_
      refine tn_iload_n dX1_rowOfLabel_11 rfl 2 rfl ?_
      refine tn_iconst dX1_rowOfLabel_12 ?_
      refine tn_callV (M := m_X1_rowOfLabel) (pc := 13) (ix := 86) (ci := 1) (M' := m_X1_get) (As := [.int (iI i2), .int (iI 0)]) (rest := []) dX1_rowOfLabel_13 ok_X1_get im_X1_get se_X1_get ml1_86 np_X1_get rfl rfl h_a rfl (Nat.le_of_ble_eq_true rfl) (Nat.le_of_ble_eq_true rfl) rfl (k_X1_get (d) (T := T) (σ := σ) (a := a) (k := i2) (c := 0) h_a (by omega) (by decide) hw (by omega)) (fun r3 T5 σ4 gt6 hp => ?_)
      obtain ⟨v8, rfl, rfl, rfl, f7⟩ := hp
      clear gt6
      show Tn _ _ 16 T σ [(0, .ref a), (1, .int (iI c1)), (2, .int (iI i2))] [.int (iI v8)] _
      refine tn_bipush dX1_rowOfLabel_16 (by decide) ?_
      refine tn_icmp_ne (tgt := 33) dX1_rowOfLabel_18 (by decide) ⟨by omega, by omega⟩ ⟨by decide, by decide⟩ (fun h9 => ?_) (fun h9 => ?_)
      · refine tn_iinc (q0 := 2) (L' := [(2, .int (iI (i2 + 1))), (0, .ref a), (1, .int (iI c1))]) dX1_rowOfLabel_33 rfl (by decide) rfl ?_
        refine tn_goto (tgt := 2) dX1_rowOfLabel_36 (by decide) ?_
        exact tn_sub [1, 2, 0] rfl (ih _ (by omega) (i2 + 1) (by omega) rfl)
      · refine tn_aload_n dX1_rowOfLabel_21 rfl 0 rfl ?_
        refine tn_iload_n dX1_rowOfLabel_22 rfl 2 rfl ?_
        refine tn_iconst dX1_rowOfLabel_23 ?_
        refine tn_callV (M := m_X1_rowOfLabel) (pc := 24) (ix := 86) (ci := 1) (M' := m_X1_get) (As := [.int (iI i2), .int (iI 1)]) (rest := []) dX1_rowOfLabel_24 ok_X1_get im_X1_get se_X1_get ml1_86 np_X1_get rfl rfl h_a rfl (Nat.le_of_ble_eq_true rfl) (Nat.le_of_ble_eq_true rfl) rfl (k_X1_get (d) (T := T) (σ := σ) (a := a) (k := i2) (c := 1) h_a (by omega) (by decide) hw (by omega)) (fun r10 T12 σ11 gt13 hp => ?_)
        obtain ⟨v15, rfl, rfl, rfl, f14⟩ := hp
        clear gt13
        show Tn _ _ 27 T σ [(0, .ref a), (1, .int (iI c1)), (2, .int (iI i2))] [.int (iI v15)] _
        refine tn_iload_n dX1_rowOfLabel_27 rfl 1 rfl ?_
        refine tn_icmp_ne (tgt := 33) dX1_rowOfLabel_28 (by decide) ⟨by omega, by omega⟩ ⟨by omega, by omega⟩ (fun h16 => ?_) (fun h16 => ?_)
        · refine tn_iinc (q0 := 2) (L' := [(2, .int (iI (i2 + 1))), (0, .ref a), (1, .int (iI c1))]) dX1_rowOfLabel_33 rfl (by decide) rfl ?_
          refine tn_goto (tgt := 2) dX1_rowOfLabel_36 (by decide) ?_
          exact tn_sub [1, 2, 0] rfl (ih _ (by omega) (i2 + 1) (by omega) rfl)
        · exact tn_sub [0, 1, 2] rfl (hx_31 (i2) (by omega))
theorem dX1_rowOfLabel_31 : decode cX1_rowOfLabel 31 = .ok (.iload_n 2, 1) := by decide +kernel
theorem dX1_rowOfLabel_32 : decode cX1_rowOfLabel 32 = .ok (.ireturn, 1) := by decide +kernel
theorem dX1_rowOfLabel_39 : decode cX1_rowOfLabel 39 = .ok (.iconst (-1), 1) := by decide +kernel
theorem dX1_rowOfLabel_40 : decode cX1_rowOfLabel 40 = .ok (.ireturn, 1) := by decide +kernel
set_option maxRecDepth 20000 in
theorem k_X1_rowOfLabel (d : Nat) {T : CT} {σ : MS} {a : Nat} {l : Int} (ha : OB T a 1) (h_l : -2147483648 ≤ l ∧ l ≤ 2147483647) (hw : WT T σ) : Tn (d + 2) m_X1_rowOfLabel 0 T σ [(0, .ref a), (1, .int (iI l))] [] (fun ro T2 σ2 => ∃ v : Int, ro = some (.int (iI v)) ∧ T = T2 ∧ σ = σ2 ∧ (-2147483648 ≤ v ∧ v ≤ 2147483647)) := by
  refine tn_iconst dX1_rowOfLabel_0 ?_
  refine tn_istore_n (L' := [(2, .int (iI 0)), (0, .ref a), (1, .int (iI l))]) dX1_rowOfLabel_1 rfl (by decide) rfl ?_
  refine tn_sub [1, 2, 0] rfl (l_X1_rowOfLabel_2 (d) (T := T) (σ := σ) (a := a) (c1 := l) ha (by omega) hw (fun i21 r7 => ?_) (fun i28 r14 => ?_) _ (0) (by omega) rfl)
  · show Tn _ _ 31 T σ [(0, .ref a), (1, .int (iI l)), (2, .int (iI i21))] [] _
    refine tn_iload_n dX1_rowOfLabel_31 rfl 2 rfl ?_
    exact tn_iret rfl dX1_rowOfLabel_32 ⟨_, rfl, rfl, rfl, by omega⟩
  · show Tn _ _ 39 T σ [(0, .ref a), (1, .int (iI l)), (2, .int (iI i28))] [] _
    refine tn_iconst dX1_rowOfLabel_39 ?_
    exact tn_iret rfl dX1_rowOfLabel_40 ⟨_, rfl, rfl, rfl, by omega⟩
