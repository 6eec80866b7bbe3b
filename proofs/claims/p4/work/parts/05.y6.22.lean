theorem cd_X1_greatestLabel : Cond.code yX1_greatestLabel cX1_greatestLabel 4 (some .int) ∈ pWW := pw5 (List.mem_of_getElem? (i := 150) rfl) rfl
abbrev m_X1_greatestLabel : MT := (yX1_greatestLabel, cX1_greatestLabel, 4, (some .int))
theorem ok_X1_greatestLabel : pOk m_X1_greatestLabel := ⟨⟨cd_X1_greatestLabel, ini_1⟩, by decide +kernel, ⟨by decide +kernel, by decide +kernel⟩, Nat.le_of_ble_eq_true rfl⟩
theorem np_X1_greatestLabel : (parseMethodDescriptor yX1_greatestLabel.desc).map (fun d => d.parameters.length) = some 0 := by decide +kernel
theorem im_X1_greatestLabel : Cond.instanceMethod yX1_greatestLabel ∈ pWW := pw5 (List.mem_of_getElem? (i := 148) rfl) rfl
theorem se_X1_greatestLabel : Cond.selects RX1 yX1_greatestLabel yX1_greatestLabel ∈ pWW := pw5 (List.mem_of_getElem? (i := 149) rfl) rfl
theorem dX1_greatestLabel_0 : decode cX1_greatestLabel 0 = .ok (.iconst (-1), 1) := by decide +kernel
theorem dX1_greatestLabel_1 : decode cX1_greatestLabel 1 = .ok (.istore_n 1, 1) := by decide +kernel
theorem dX1_greatestLabel_2 : decode cX1_greatestLabel 2 = .ok (.iconst 0, 1) := by decide +kernel
theorem dX1_greatestLabel_3 : decode cX1_greatestLabel 3 = .ok (.istore_n 2, 1) := by decide +kernel
theorem dX1_greatestLabel_4 : decode cX1_greatestLabel 4 = .ok (.iload_n 2, 1) := by decide +kernel
theorem dX1_greatestLabel_5 : decode cX1_greatestLabel 5 = .ok (.aload_n 0, 1) := by decide +kernel
theorem dX1_greatestLabel_6 : decode cX1_greatestLabel 6 = .ok (.getfield 33, 3) := by decide +kernel
theorem dX1_greatestLabel_9 : decode cX1_greatestLabel 9 = .ok (.if_icmp .ge 45, 3) := by decide +kernel
theorem dX1_greatestLabel_12 : decode cX1_greatestLabel 12 = .ok (.aload_n 0, 1) := by decide +kernel
theorem dX1_greatestLabel_13 : decode cX1_greatestLabel 13 = .ok (.iload_n 2, 1) := by decide +kernel
theorem dX1_greatestLabel_14 : decode cX1_greatestLabel 14 = .ok (.iconst 0, 1) := by decide +kernel
theorem dX1_greatestLabel_15 : decode cX1_greatestLabel 15 = .ok (.invokevirtual 86, 3) := by decide +kernel
theorem dX1_greatestLabel_18 : decode cX1_greatestLabel 18 = .ok (.istore_n 3, 1) := by decide +kernel
theorem dX1_greatestLabel_19 : decode cX1_greatestLabel 19 = .ok (.iload_n 3, 1) := by decide +kernel
theorem dX1_greatestLabel_20 : decode cX1_greatestLabel 20 = .ok (.bipush 8, 2) := by decide +kernel
theorem dX1_greatestLabel_22 : decode cX1_greatestLabel 22 = .ok (.if_icmp .eq 15, 3) := by decide +kernel
theorem dX1_greatestLabel_37 : decode cX1_greatestLabel 37 = .ok (.iload_n 1, 1) := by decide +kernel
theorem dX1_greatestLabel_38 : decode cX1_greatestLabel 38 = .ok (.aload_n 0, 1) := by decide +kernel
theorem dX1_greatestLabel_39 : decode cX1_greatestLabel 39 = .ok (.iload_n 2, 1) := by decide +kernel
theorem dX1_greatestLabel_40 : decode cX1_greatestLabel 40 = .ok (.iconst 1, 1) := by decide +kernel
theorem dX1_greatestLabel_41 : decode cX1_greatestLabel 41 = .ok (.invokevirtual 86, 3) := by decide +kernel
theorem dX1_greatestLabel_44 : decode cX1_greatestLabel 44 = .ok (.invokestatic 63, 3) := by decide +kernel
theorem dX1_greatestLabel_47 : decode cX1_greatestLabel 47 = .ok (.istore_n 1, 1) := by decide +kernel
theorem dX1_greatestLabel_48 : decode cX1_greatestLabel 48 = .ok (.iinc 2 1, 3) := by decide +kernel
theorem dX1_greatestLabel_51 : decode cX1_greatestLabel 51 = .ok (.goto (-47), 3) := by decide +kernel
theorem dX1_greatestLabel_25 : decode cX1_greatestLabel 25 = .ok (.iload_n 3, 1) := by decide +kernel
theorem dX1_greatestLabel_26 : decode cX1_greatestLabel 26 = .ok (.bipush 9, 2) := by decide +kernel
theorem dX1_greatestLabel_28 : decode cX1_greatestLabel 28 = .ok (.if_icmp .eq 9, 3) := by decide +kernel
theorem dX1_greatestLabel_31 : decode cX1_greatestLabel 31 = .ok (.iload_n 3, 1) := by decide +kernel
theorem dX1_greatestLabel_32 : decode cX1_greatestLabel 32 = .ok (.bipush 13, 2) := by decide +kernel
theorem dX1_greatestLabel_34 : decode cX1_greatestLabel 34 = .ok (.if_icmp .ne 14, 3) := by decide +kernel
set_option maxRecDepth 20000 in
theorem l_X1_greatestLabel_4 (d : Nat) {T : CT} {σ : MS} {a : Nat} {post : Option Value → CT → MS → Prop} (h_a : OB T a 1) (hw : WT T σ) (hx_54 : ∀ (i1 : Int) (i2 : Int) , (-2147483648 ≤ i1 ∧ i1 ≤ 2147483647) → (0 ≤ i2 ∧ i2 ≤ 2147483647) → Tn (d + 2) m_X1_greatestLabel 54 T σ [(0, .ref a), (1, .int (iI i1)), (2, .int (iI i2))] [] post) : ∀ (n : Nat) (i1 : Int) (i2 : Int) , (-2147483648 ≤ i1 ∧ i1 ≤ 2147483647) → (0 ≤ i2 ∧ i2 ≤ 2147483647) → (2147483700 - i2).toNat = n → Tn (d + 2) m_X1_greatestLabel 4 T σ [(0, .ref a), (1, .int (iI i1)), (2, .int (iI i2))] [] post := by
  intro n
  induction n using Nat.strongRecOn with
  | _ n ih =>
    intro i1 i2 r_i1 r_i2 hm
    refine tn_iload_n dX1_greatestLabel_4 rfl 2 rfl ?_
    refine tn_aload_n dX1_greatestLabel_5 rfl 0 rfl ?_
    refine tn_getI (ci := 1) (i := 1) (n := 6) (t := σ.2.1 6 a) dX1_greatestLabel_6 rfl lay_1 (by decide) fl1_33 h_a rfl rfl (rfl) ?_
    have g1 : ((0 : Int) ≤ σ.2.1 6 a ∧ σ.2.1 6 a ≤ 5000) ∧ ((T a).1 = 50 → σ.2.1 6 a ≤ 200) := wf_6 hw h_a
    have g1x := g1.2
    replace g1 := g1.1
    clear g1x
    refine tn_icmp_ge (tgt := 54) dX1_greatestLabel_9 (by decide) ⟨by omega, by omega⟩ ⟨by omega, by omega⟩ (fun h2 => ?_) (fun h2 => ?_)
    · exact tn_sub [0, 1, 2] rfl (hx_54 (i1) (i2) (by omega) (by omega))
    · refine tn_aload_n dX1_greatestLabel_12 rfl 0 rfl ?_
      refine tn_iload_n dX1_greatestLabel_13 rfl 2 rfl ?_
      refine tn_iconst dX1_greatestLabel_14 ?_
      refine tn_callV (M := m_X1_greatestLabel) (pc := 15) (ix := 86) (ci := 1) (M' := m_X1_get) (As := [.int (iI i2), .int (iI 0)]) (rest := []) dX1_greatestLabel_15 ok_X1_get im_X1_get se_X1_get ml1_86 np_X1_get rfl rfl h_a rfl (Nat.le_of_ble_eq_true rfl) (Nat.le_of_ble_eq_true rfl) rfl (k_X1_get (d) (T := T) (σ := σ) (a := a) (k := i2) (c := 0) h_a (by omega) (by decide) hw (by omega)) (fun r3 T5 σ4 gt6 hp => ?_)
      obtain ⟨v8, rfl, rfl, rfl, f7⟩ := hp
      clear gt6
      show Tn _ _ 18 T σ [(0, .ref a), (1, .int (iI i1)), (2, .int (iI i2))] [.int (iI v8)] _
      refine tn_istore_n (L' := [(3, .int (iI v8)), (0, .ref a), (1, .int (iI i1)), (2, .int (iI i2))]) dX1_greatestLabel_18 rfl (by decide) rfl ?_
      refine tn_iload_n dX1_greatestLabel_19 rfl 0 rfl ?_
      refine tn_bipush dX1_greatestLabel_20 (by decide) ?_
      refine tn_icmp_eq (tgt := 37) dX1_greatestLabel_22 (by decide) ⟨by omega, by omega⟩ ⟨by decide, by decide⟩ (fun h9 => ?_) (fun h9 => ?_)
      · refine tn_iload_n dX1_greatestLabel_37 rfl 2 rfl ?_
        refine tn_aload_n dX1_greatestLabel_38 rfl 1 rfl ?_
        refine tn_iload_n dX1_greatestLabel_39 rfl 3 rfl ?_
        refine tn_iconst dX1_greatestLabel_40 ?_
        refine tn_callV (M := m_X1_greatestLabel) (pc := 41) (ix := 86) (ci := 1) (M' := m_X1_get) (As := [.int (iI i2), .int (iI 1)]) (rest := [.int (iI i1)]) dX1_greatestLabel_41 ok_X1_get im_X1_get se_X1_get ml1_86 np_X1_get rfl rfl h_a rfl (Nat.le_of_ble_eq_true rfl) (Nat.le_of_ble_eq_true rfl) rfl (k_X1_get (d) (T := T) (σ := σ) (a := a) (k := i2) (c := 1) h_a (by omega) (by decide) hw (by omega)) (fun r10 T12 σ11 gt13 hp => ?_)
        obtain ⟨v15, rfl, rfl, rfl, f14⟩ := hp
        clear gt13
        show Tn _ _ 44 T σ [(3, .int (iI v8)), (0, .ref a), (1, .int (iI i1)), (2, .int (iI i2))] [.int (iI v15), .int (iI i1)] _
        refine tn_mmax (x := i1) (y := v15) dX1_greatestLabel_44 mlm1_63 stM_max iniM cdM_max (by omega) (Nat.le_of_ble_eq_true rfl) ⟨by omega, by omega⟩ ⟨by omega, by omega⟩ (fun z16 g17 => ?_)
        refine tn_istore_n (L' := [(1, .int (iI z16)), (3, .int (iI v8)), (0, .ref a), (2, .int (iI i2))]) dX1_greatestLabel_47 rfl (by decide) rfl ?_
        refine tn_iinc (q0 := 3) (L' := [(2, .int (iI (i2 + 1))), (1, .int (iI z16)), (3, .int (iI v8)), (0, .ref a)]) dX1_greatestLabel_48 rfl (by decide) rfl ?_
        refine tn_goto (tgt := 4) dX1_greatestLabel_51 (by decide) ?_
        exact tn_sub [3, 1, 0] rfl (ih _ (by omega) (z16) (i2 + 1) (by omega) (by omega) rfl)
      · refine tn_iload_n dX1_greatestLabel_25 rfl 0 rfl ?_
        refine tn_bipush dX1_greatestLabel_26 (by decide) ?_
        refine tn_icmp_eq (tgt := 37) dX1_greatestLabel_28 (by decide) ⟨by omega, by omega⟩ ⟨by decide, by decide⟩ (fun h18 => ?_) (fun h18 => ?_)
        · refine tn_iload_n dX1_greatestLabel_37 rfl 2 rfl ?_
          refine tn_aload_n dX1_greatestLabel_38 rfl 1 rfl ?_
          refine tn_iload_n dX1_greatestLabel_39 rfl 3 rfl ?_
          refine tn_iconst dX1_greatestLabel_40 ?_
          refine tn_callV (M := m_X1_greatestLabel) (pc := 41) (ix := 86) (ci := 1) (M' := m_X1_get) (As := [.int (iI i2), .int (iI 1)]) (rest := [.int (iI i1)]) dX1_greatestLabel_41 ok_X1_get im_X1_get se_X1_get ml1_86 np_X1_get rfl rfl h_a rfl (Nat.le_of_ble_eq_true rfl) (Nat.le_of_ble_eq_true rfl) rfl (k_X1_get (d) (T := T) (σ := σ) (a := a) (k := i2) (c := 1) h_a (by omega) (by decide) hw (by omega)) (fun r19 T21 σ20 gt22 hp => ?_)
          obtain ⟨v24, rfl, rfl, rfl, f23⟩ := hp
          clear gt22
          show Tn _ _ 44 T σ [(3, .int (iI v8)), (0, .ref a), (1, .int (iI i1)), (2, .int (iI i2))] [.int (iI v24), .int (iI i1)] _
          refine tn_mmax (x := i1) (y := v24) dX1_greatestLabel_44 mlm1_63 stM_max iniM cdM_max (by omega) (Nat.le_of_ble_eq_true rfl) ⟨by omega, by omega⟩ ⟨by omega, by omega⟩ (fun z25 g26 => ?_)
          refine tn_istore_n (L' := [(1, .int (iI z25)), (3, .int (iI v8)), (0, .ref a), (2, .int (iI i2))]) dX1_greatestLabel_47 rfl (by decide) rfl ?_
          refine tn_iinc (q0 := 3) (L' := [(2, .int (iI (i2 + 1))), (1, .int (iI z25)), (3, .int (iI v8)), (0, .ref a)]) dX1_greatestLabel_48 rfl (by decide) rfl ?_
          refine tn_goto (tgt := 4) dX1_greatestLabel_51 (by decide) ?_
          exact tn_sub [3, 1, 0] rfl (ih _ (by omega) (z25) (i2 + 1) (by omega) (by omega) rfl)
        · refine tn_iload_n dX1_greatestLabel_31 rfl 0 rfl ?_
          refine tn_bipush dX1_greatestLabel_32 (by decide) ?_
          refine tn_icmp_ne (tgt := 48) dX1_greatestLabel_34 (by decide) ⟨by omega, by omega⟩ ⟨by decide, by decide⟩ (fun h27 => ?_) (fun h27 => ?_)
          · refine tn_iinc (q0 := 3) (L' := [(2, .int (iI (i2 + 1))), (3, .int (iI v8)), (0, .ref a), (1, .int (iI i1))]) dX1_greatestLabel_48 rfl (by decide) rfl ?_
            refine tn_goto (tgt := 4) dX1_greatestLabel_51 (by decide) ?_
            exact tn_sub [2, 3, 0] rfl (ih _ (by omega) (i1) (i2 + 1) (by omega) (by omega) rfl)
          · refine tn_iload_n dX1_greatestLabel_37 rfl 2 rfl ?_
            refine tn_aload_n dX1_greatestLabel_38 rfl 1 rfl ?_
            refine tn_iload_n dX1_greatestLabel_39 rfl 3 rfl ?_
            refine tn_iconst dX1_greatestLabel_40 ?_
            refine tn_callV (M := m_X1_greatestLabel) (pc := 41) (ix := 86) (ci := 1) (M' := m_X1_get) (As := [.int (iI i2), .int (iI 1)]) (rest := [.int (iI i1)]) dX1_greatestLabel_41 ok_X1_get im_X1_get se_X1_get ml1_86 np_X1_get rfl rfl h_a rfl (Nat.le_of_ble_eq_true rfl) (Nat.le_of_ble_eq_true rfl) rfl (k_X1_get (d) (T := T) (σ := σ) (a := a) (k := i2) (c := 1) h_a (by omega) (by decide) hw (by omega)) (fun r28 T30 σ29 gt31 hp => ?_)
            obtain ⟨v33, rfl, rfl, rfl, f32⟩ := hp
            clear gt31
            show Tn _ _ 44 T σ [(3, .int (iI v8)), (0, .ref a), (1, .int (iI i1)), (2, .int (iI i2))] [.int (iI v33), .int (iI i1)] _
            refine tn_mmax (x := i1) (y := v33) dX1_greatestLabel_44 mlm1_63 stM_max iniM cdM_max (by omega) (Nat.le_of_ble_eq_true rfl) ⟨by omega, by omega⟩ ⟨by omega, by omega⟩ (fun z34 g35 => ?_)
            refine tn_istore_n (L' := [(1, .int (iI z34)), (3, .int (iI v8)), (0, .ref a), (2, .int (iI i2))]) dX1_greatestLabel_47 rfl (by decide) rfl ?_
            refine tn_iinc (q0 := 3) (L' := [(2, .int (iI (i2 + 1))), (1, .int (iI z34)), (3, .int (iI v8)), (0, .ref a)]) dX1_greatestLabel_48 rfl (by decide) rfl ?_
            refine tn_goto (tgt := 4) dX1_greatestLabel_51 (by decide) ?_
            exact tn_sub [3, 1, 0] rfl (ih _ (by omega) (z34) (i2 + 1) (by omega) (by omega) rfl)
theorem dX1_greatestLabel_54 : decode cX1_greatestLabel 54 = .ok (.iload_n 1, 1) := by decide +kernel
theorem dX1_greatestLabel_55 : decode cX1_greatestLabel 55 = .ok (.ireturn, 1) := by decide +kernel
set_option maxRecDepth 20000 in
theorem k_X1_greatestLabel (d : Nat) {T : CT} {σ : MS} {a : Nat} (ha : OB T a 1) (hw : WT T σ) : Tn (d + 2) m_X1_greatestLabel 0 T σ [(0, .ref a)] [] (fun ro T2 σ2 => ∃ v : Int, ro = some (.int (iI v)) ∧ T = T2 ∧ σ = σ2 ∧ (-2147483648 ≤ v ∧ v ≤ 2147483647)) := by
  refine tn_iconst dX1_greatestLabel_0 ?_
  refine tn_istore_n (L' := [(1, .int (iI (-1))), (0, .ref a)]) dX1_greatestLabel_1 rfl (by decide) rfl ?_
  refine tn_iconst dX1_greatestLabel_2 ?_
  refine tn_istore_n (L' := [(2, .int (iI 0)), (1, .int (iI (-1))), (0, .ref a)]) dX1_greatestLabel_3 rfl (by decide) rfl ?_
  refine tn_sub [2, 1, 0] rfl (l_X1_greatestLabel_4 (d) (T := T) (σ := σ) (a := a) ha hw (fun i11 i22 r8 r9 => ?_) _ (-1) (0) (by omega) (by omega) rfl)
  show Tn _ _ 54 T σ [(0, .ref a), (1, .int (iI i11)), (2, .int (iI i22))] [] _
  refine tn_iload_n dX1_greatestLabel_54 rfl 1 rfl ?_
  exact tn_iret rfl dX1_greatestLabel_55 ⟨_, rfl, rfl, rfl, by omega⟩
