theorem cd_X10_whereOf : Cond.code yX10_whereOf cX10_whereOf 3 (some .int) ∈ pWW := pw4 (List.mem_of_getElem? (i := 171) rfl) rfl
abbrev m_X10_whereOf : MT := (yX10_whereOf, cX10_whereOf, 3, (some .int))
theorem ok_X10_whereOf : pOk m_X10_whereOf := ⟨⟨cd_X10_whereOf, ini_10⟩, by decide +kernel, ⟨by decide +kernel, by decide +kernel⟩, Nat.le_of_ble_eq_true rfl⟩
theorem np_X10_whereOf : (parseMethodDescriptor yX10_whereOf.desc).map (fun d => d.parameters.length) = some 2 := by decide +kernel
theorem im_X10_whereOf : Cond.instanceMethod yX10_whereOf ∈ pWW := pw4 (List.mem_of_getElem? (i := 169) rfl) rfl
theorem se_X10_whereOf : Cond.selects RX10 yX10_whereOf yX10_whereOf ∈ pWW := pw4 (List.mem_of_getElem? (i := 170) rfl) rfl
theorem ml10_44 : Cond.methodLink RX10 44 yX1_get ∈ pWW := pw4 (List.mem_of_getElem? (i := 119) rfl) rfl
theorem dX10_whereOf_0 : decode cX10_whereOf 0 = .ok (.iload_n 2, 1) := by decide +kernel
theorem dX10_whereOf_1 : decode cX10_whereOf 1 = .ok (.iconst 5, 1) := by decide +kernel
theorem dX10_whereOf_2 : decode cX10_whereOf 2 = .ok (.if_icmp .ge 8, 3) := by decide +kernel
theorem dX10_whereOf_10 : decode cX10_whereOf 10 = .ok (.iload_n 2, 1) := by decide +kernel
theorem dX10_whereOf_11 : decode cX10_whereOf 11 = .ok (.bipush 10, 2) := by decide +kernel
theorem dX10_whereOf_13 : decode cX10_whereOf 13 = .ok (.if_icmp .ge 14, 3) := by decide +kernel
theorem dX10_whereOf_27 : decode cX10_whereOf 27 = .ok (.aload_n 1, 1) := by decide +kernel
theorem dX10_whereOf_28 : decode cX10_whereOf 28 = .ok (.iload_n 2, 1) := by decide +kernel
theorem dX10_whereOf_29 : decode cX10_whereOf 29 = .ok (.bipush 10, 2) := by decide +kernel
theorem dX10_whereOf_31 : decode cX10_whereOf 31 = .ok (.isub, 1) := by decide +kernel
theorem dX10_whereOf_32 : decode cX10_whereOf 32 = .ok (.bipush 11, 2) := by decide +kernel
theorem dX10_whereOf_34 : decode cX10_whereOf 34 = .ok (.invokevirtual 44, 3) := by decide +kernel
theorem dX10_whereOf_37 : decode cX10_whereOf 37 = .ok (.ireturn, 1) := by decide +kernel
theorem dX10_whereOf_16 : decode cX10_whereOf 16 = .ok (.iload_n 2, 1) := by decide +kernel
theorem dX10_whereOf_17 : decode cX10_whereOf 17 = .ok (.iconst 5, 1) := by decide +kernel
theorem dX10_whereOf_18 : decode cX10_whereOf 18 = .ok (.if_icmp .ne 7, 3) := by decide +kernel
theorem dX10_whereOf_25 : decode cX10_whereOf 25 = .ok (.iconst 2, 1) := by decide +kernel
theorem dX10_whereOf_26 : decode cX10_whereOf 26 = .ok (.ireturn, 1) := by decide +kernel
theorem dX10_whereOf_21 : decode cX10_whereOf 21 = .ok (.iconst 1, 1) := by decide +kernel
theorem dX10_whereOf_22 : decode cX10_whereOf 22 = .ok (.goto 4, 3) := by decide +kernel
theorem dX10_whereOf_5 : decode cX10_whereOf 5 = .ok (.bipush 10, 2) := by decide +kernel
theorem dX10_whereOf_7 : decode cX10_whereOf 7 = .ok (.iload_n 2, 1) := by decide +kernel
theorem dX10_whereOf_8 : decode cX10_whereOf 8 = .ok (.iadd, 1) := by decide +kernel
theorem dX10_whereOf_9 : decode cX10_whereOf 9 = .ok (.ireturn, 1) := by decide +kernel
set_option maxRecDepth 20000 in
theorem k_X10_whereOf (d : Nat) {T : CT} {σ : MS} {a : Nat} {c : Nat} {i : Int} (ha : OB T a 10) (h_c : OB T c 1) (h_i : -2147483648 ≤ i ∧ i ≤ 2147483647) (hw : WT T σ) : Tn (d + 2) m_X10_whereOf 0 T σ [(0, .ref a), (1, .ref c), (2, .int (iI i))] [] (fun ro T2 σ2 => ∃ v : Int, ro = some (.int (iI v)) ∧ T = T2 ∧ σ = σ2 ∧ (-2147483648 ≤ v ∧ v ≤ 2147483647)) := by
  refine tn_iload_n dX10_whereOf_0 rfl 2 rfl ?_
  refine tn_iconst dX10_whereOf_1 ?_
  refine tn_icmp_ge (tgt := 10) dX10_whereOf_2 (by decide) ⟨by omega, by omega⟩ ⟨by decide, by decide⟩ (fun h1 => ?_) (fun h1 => ?_)
  · refine tn_iload_n dX10_whereOf_10 rfl 2 rfl ?_
    refine tn_bipush dX10_whereOf_11 (by decide) ?_
    refine tn_icmp_ge (tgt := 27) dX10_whereOf_13 (by decide) ⟨by omega, by omega⟩ ⟨by decide, by decide⟩ (fun h2 => ?_) (fun h2 => ?_)
    · refine tn_aload_n dX10_whereOf_27 rfl 1 rfl ?_
      refine tn_iload_n dX10_whereOf_28 rfl 2 rfl ?_
      refine tn_bipush dX10_whereOf_29 (by decide) ?_
      refine tn_isub dX10_whereOf_31 ?_
      refine tn_bipush dX10_whereOf_32 (by decide) ?_
      refine tn_callV (M := m_X10_whereOf) (pc := 34) (ix := 44) (ci := 1) (M' := m_X1_get) (As := [.int (iI (i - 10)), .int (iI 11)]) (rest := []) dX10_whereOf_34 ok_X1_get im_X1_get se_X1_get ml10_44 np_X1_get rfl rfl h_c rfl (Nat.le_of_ble_eq_true rfl) (Nat.le_of_ble_eq_true rfl) rfl (k_X1_get (d) (T := T) (σ := σ) (a := c) (k := i - 10) (c := 11) h_c (by omega) (by decide) hw (by omega)) (fun r3 T5 σ4 gt6 hp => ?_)
      obtain ⟨v8, rfl, rfl, rfl, f7⟩ := hp
      clear gt6
      show Tn _ _ 37 T σ [(0, .ref a), (1, .ref c), (2, .int (iI i))] [.int (iI v8)] _
      exact tn_iret rfl dX10_whereOf_37 ⟨_, rfl, rfl, rfl, by omega⟩
    · refine tn_iload_n dX10_whereOf_16 rfl 2 rfl ?_
      refine tn_iconst dX10_whereOf_17 ?_
      refine tn_icmp_ne (tgt := 25) dX10_whereOf_18 (by decide) ⟨by omega, by omega⟩ ⟨by decide, by decide⟩ (fun h9 => ?_) (fun h9 => ?_)
      · refine tn_iconst dX10_whereOf_25 ?_
        exact tn_iret rfl dX10_whereOf_26 ⟨_, rfl, rfl, rfl, by omega⟩
      · refine tn_iconst dX10_whereOf_21 ?_
        refine tn_goto (tgt := 26) dX10_whereOf_22 (by decide) ?_
        exact tn_iret rfl dX10_whereOf_26 ⟨_, rfl, rfl, rfl, by omega⟩
  · refine tn_bipush dX10_whereOf_5 (by decide) ?_
    refine tn_iload_n dX10_whereOf_7 rfl 2 rfl ?_
    refine tn_iadd dX10_whereOf_8 ?_
    exact tn_iret rfl dX10_whereOf_9 ⟨_, rfl, rfl, rfl, by omega⟩
