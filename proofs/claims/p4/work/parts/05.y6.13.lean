theorem cd_X1_targetOf : Cond.code yX1_targetOf cX1_targetOf 3 (some .int) ∈ pWW := pw4 (List.mem_of_getElem? (i := 159) rfl) rfl
abbrev m_X1_targetOf : MT := (yX1_targetOf, cX1_targetOf, 3, (some .int))
theorem ok_X1_targetOf : pOk m_X1_targetOf := ⟨⟨cd_X1_targetOf, ini_1⟩, by decide +kernel, ⟨by decide +kernel, by decide +kernel⟩, Nat.le_of_ble_eq_true rfl⟩
theorem np_X1_targetOf : (parseMethodDescriptor yX1_targetOf.desc).map (fun d => d.parameters.length) = some 1 := by decide +kernel
theorem im_X1_targetOf : Cond.instanceMethod yX1_targetOf ∈ pWW := pw4 (List.mem_of_getElem? (i := 157) rfl) rfl
theorem se_X1_targetOf : Cond.selects RX1 yX1_targetOf yX1_targetOf ∈ pWW := pw4 (List.mem_of_getElem? (i := 158) rfl) rfl
theorem dX1_targetOf_0 : decode cX1_targetOf 0 = .ok (.aload_n 0, 1) := by decide +kernel
theorem dX1_targetOf_1 : decode cX1_targetOf 1 = .ok (.iload_n 1, 1) := by decide +kernel
theorem dX1_targetOf_2 : decode cX1_targetOf 2 = .ok (.invokevirtual 97, 3) := by decide +kernel
theorem dX1_targetOf_5 : decode cX1_targetOf 5 = .ok (.istore_n 2, 1) := by decide +kernel
theorem dX1_targetOf_6 : decode cX1_targetOf 6 = .ok (.iload_n 2, 1) := by decide +kernel
theorem dX1_targetOf_7 : decode cX1_targetOf 7 = .ok (.bipush 8, 2) := by decide +kernel
theorem dX1_targetOf_9 : decode cX1_targetOf 9 = .ok (.if_icmp .eq 9, 3) := by decide +kernel
theorem dX1_targetOf_18 : decode cX1_targetOf 18 = .ok (.aload_n 0, 1) := by decide +kernel
theorem dX1_targetOf_19 : decode cX1_targetOf 19 = .ok (.iload_n 1, 1) := by decide +kernel
theorem dX1_targetOf_20 : decode cX1_targetOf 20 = .ok (.bipush 12, 2) := by decide +kernel
theorem dX1_targetOf_22 : decode cX1_targetOf 22 = .ok (.invokevirtual 86, 3) := by decide +kernel
theorem dX1_targetOf_25 : decode cX1_targetOf 25 = .ok (.goto 4, 3) := by decide +kernel
theorem dX1_targetOf_29 : decode cX1_targetOf 29 = .ok (.ireturn, 1) := by decide +kernel
theorem dX1_targetOf_12 : decode cX1_targetOf 12 = .ok (.iload_n 2, 1) := by decide +kernel
theorem dX1_targetOf_13 : decode cX1_targetOf 13 = .ok (.bipush 9, 2) := by decide +kernel
theorem dX1_targetOf_15 : decode cX1_targetOf 15 = .ok (.if_icmp .ne 13, 3) := by decide +kernel
theorem dX1_targetOf_28 : decode cX1_targetOf 28 = .ok (.iconst (-1), 1) := by decide +kernel
set_option maxRecDepth 20000 in
theorem k_X1_targetOf (d : Nat) {T : CT} {σ : MS} {a : Nat} {k : Int} (ha : OB T a 1) (h_k : -2147483648 ≤ k ∧ k ≤ 2147483647) (hw : WT T σ) : Tn (d + 2) m_X1_targetOf 0 T σ [(0, .ref a), (1, .int (iI k))] [] (fun ro T2 σ2 => ∃ v : Int, ro = some (.int (iI v)) ∧ T = T2 ∧ σ = σ2 ∧ (-2147483648 ≤ v ∧ v ≤ 2147483647)) := by
  refine tn_aload_n dX1_targetOf_0 rfl 0 rfl ?_
  refine tn_iload_n dX1_targetOf_1 rfl 1 rfl ?_
  refine tn_callV (M := m_X1_targetOf) (pc := 2) (ix := 97) (ci := 1) (M' := m_X1_kindAt) (As := [.int (iI k)]) (rest := []) dX1_targetOf_2 ok_X1_kindAt im_X1_kindAt se_X1_kindAt ml1_97 np_X1_kindAt rfl rfl ha rfl (Nat.le_of_ble_eq_true rfl) (Nat.le_of_ble_eq_true rfl) rfl (k_X1_kindAt (d) (T := T) (σ := σ) (a := a) (k := k) ha (by omega) hw ) (fun r1 T3 σ2 gt4 hp => ?_)
  obtain ⟨v7, rfl, rfl, rfl, f5, f6⟩ := hp
  clear gt4
  clear f6
  show Tn _ _ 5 T σ [(0, .ref a), (1, .int (iI k))] [.int (iI v7)] _
  refine tn_istore_n (L' := [(2, .int (iI v7)), (0, .ref a), (1, .int (iI k))]) dX1_targetOf_5 rfl (by decide) rfl ?_
  refine tn_iload_n dX1_targetOf_6 rfl 0 rfl ?_
  refine tn_bipush dX1_targetOf_7 (by decide) ?_
  refine tn_icmp_eq (tgt := 18) dX1_targetOf_9 (by decide) ⟨by omega, by omega⟩ ⟨by decide, by decide⟩ (fun h8 => ?_) (fun h8 => ?_)
  · refine tn_aload_n dX1_targetOf_18 rfl 1 rfl ?_
    refine tn_iload_n dX1_targetOf_19 rfl 2 rfl ?_
    refine tn_bipush dX1_targetOf_20 (by decide) ?_
    refine tn_callV (M := m_X1_targetOf) (pc := 22) (ix := 86) (ci := 1) (M' := m_X1_get) (As := [.int (iI k), .int (iI 12)]) (rest := []) dX1_targetOf_22 ok_X1_get im_X1_get se_X1_get ml1_86 np_X1_get rfl rfl ha rfl (Nat.le_of_ble_eq_true rfl) (Nat.le_of_ble_eq_true rfl) rfl (k_X1_get (d) (T := T) (σ := σ) (a := a) (k := k) (c := 12) ha (by omega) (by decide) hw (by omega)) (fun r9 T11 σ10 gt12 hp => ?_)
    obtain ⟨v14, rfl, rfl, rfl, f13⟩ := hp
    clear gt12
    show Tn _ _ 25 T σ [(2, .int (iI v7)), (0, .ref a), (1, .int (iI k))] [.int (iI v14)] _
    refine tn_goto (tgt := 29) dX1_targetOf_25 (by decide) ?_
    exact tn_iret rfl dX1_targetOf_29 ⟨_, rfl, rfl, rfl, by omega⟩
  · refine tn_iload_n dX1_targetOf_12 rfl 0 rfl ?_
    refine tn_bipush dX1_targetOf_13 (by decide) ?_
    refine tn_icmp_ne (tgt := 28) dX1_targetOf_15 (by decide) ⟨by omega, by omega⟩ ⟨by decide, by decide⟩ (fun h15 => ?_) (fun h15 => ?_)
    · refine tn_iconst dX1_targetOf_28 ?_
      exact tn_iret rfl dX1_targetOf_29 ⟨_, rfl, rfl, rfl, by omega⟩
    · refine tn_aload_n dX1_targetOf_18 rfl 1 rfl ?_
      refine tn_iload_n dX1_targetOf_19 rfl 2 rfl ?_
      refine tn_bipush dX1_targetOf_20 (by decide) ?_
      refine tn_callV (M := m_X1_targetOf) (pc := 22) (ix := 86) (ci := 1) (M' := m_X1_get) (As := [.int (iI k), .int (iI 12)]) (rest := []) dX1_targetOf_22 ok_X1_get im_X1_get se_X1_get ml1_86 np_X1_get rfl rfl ha rfl (Nat.le_of_ble_eq_true rfl) (Nat.le_of_ble_eq_true rfl) rfl (k_X1_get (d) (T := T) (σ := σ) (a := a) (k := k) (c := 12) ha (by omega) (by decide) hw (by omega)) (fun r16 T18 σ17 gt19 hp => ?_)
      obtain ⟨v21, rfl, rfl, rfl, f20⟩ := hp
      clear gt19
      show Tn _ _ 25 T σ [(2, .int (iI v7)), (0, .ref a), (1, .int (iI k))] [.int (iI v21)] _
      refine tn_goto (tgt := 29) dX1_targetOf_25 (by decide) ?_
      exact tn_iret rfl dX1_targetOf_29 ⟨_, rfl, rfl, rfl, by omega⟩
