theorem cd_X10_part : Cond.code yX10_part cX10_part 4 (some .int) ∈ pWW := pw4 (List.mem_of_getElem? (i := 175) rfl) rfl
abbrev m_X10_part : MT := (yX10_part, cX10_part, 4, (some .int))
theorem ok_X10_part : pOk m_X10_part := ⟨⟨cd_X10_part, ini_10⟩, by decide +kernel, ⟨by decide +kernel, by decide +kernel⟩, Nat.le_of_ble_eq_true rfl⟩
theorem np_X10_part : (parseMethodDescriptor yX10_part.desc).map (fun d => d.parameters.length) = some 3 := by decide +kernel
theorem im_X10_part : Cond.instanceMethod yX10_part ∈ pWW := pw4 (List.mem_of_getElem? (i := 173) rfl) rfl
theorem se_X10_part : Cond.selects RX10 yX10_part yX10_part ∈ pWW := pw4 (List.mem_of_getElem? (i := 174) rfl) rfl
theorem ml10_47 : Cond.methodLink RX10 47 yX1_homeOf ∈ pWW := pw4 (List.mem_of_getElem? (i := 120) rfl) rfl
theorem dX10_part_0 : decode cX10_part 0 = .ok (.iload_n 2, 1) := by decide +kernel
theorem dX10_part_1 : decode cX10_part 1 = .ok (.bipush 10, 2) := by decide +kernel
theorem dX10_part_3 : decode cX10_part 3 = .ok (.if_icmp .lt 13, 3) := by decide +kernel
theorem dX10_part_16 : decode cX10_part 16 = .ok (.iload_n 2, 1) := by decide +kernel
theorem dX10_part_17 : decode cX10_part 17 = .ok (.bipush 6, 2) := by decide +kernel
theorem dX10_part_19 : decode cX10_part 19 = .ok (.if_icmp .lt 20, 3) := by decide +kernel
theorem dX10_part_39 : decode cX10_part 39 = .ok (.iconst 0, 1) := by decide +kernel
theorem dX10_part_40 : decode cX10_part 40 = .ok (.ireturn, 1) := by decide +kernel
theorem dX10_part_22 : decode cX10_part 22 = .ok (.iload_n 3, 1) := by decide +kernel
theorem dX10_part_23 : decode cX10_part 23 = .ok (.iconst 4, 1) := by decide +kernel
theorem dX10_part_24 : decode cX10_part 24 = .ok (.if_icmp .ne 15, 3) := by decide +kernel
theorem dX10_part_27 : decode cX10_part 27 = .ok (.aload_n 1, 1) := by decide +kernel
theorem dX10_part_28 : decode cX10_part 28 = .ok (.iconst 0, 1) := by decide +kernel
theorem dX10_part_29 : decode cX10_part 29 = .ok (.iload_n 2, 1) := by decide +kernel
theorem dX10_part_30 : decode cX10_part 30 = .ok (.bipush 6, 2) := by decide +kernel
theorem dX10_part_32 : decode cX10_part 32 = .ok (.isub, 1) := by decide +kernel
theorem dX10_part_33 : decode cX10_part 33 = .ok (.invokevirtual 47, 3) := by decide +kernel
theorem dX10_part_36 : decode cX10_part 36 = .ok (.goto 4, 3) := by decide +kernel
theorem dX10_part_6 : decode cX10_part 6 = .ok (.aload_n 1, 1) := by decide +kernel
theorem dX10_part_7 : decode cX10_part 7 = .ok (.iload_n 2, 1) := by decide +kernel
theorem dX10_part_8 : decode cX10_part 8 = .ok (.bipush 10, 2) := by decide +kernel
theorem dX10_part_10 : decode cX10_part 10 = .ok (.isub, 1) := by decide +kernel
theorem dX10_part_11 : decode cX10_part 11 = .ok (.iload_n 3, 1) := by decide +kernel
theorem dX10_part_12 : decode cX10_part 12 = .ok (.invokevirtual 44, 3) := by decide +kernel
theorem dX10_part_15 : decode cX10_part 15 = .ok (.ireturn, 1) := by decide +kernel
set_option maxRecDepth 20000 in
theorem k_X10_part (d : Nat) {T : CT} {σ : MS} {a : Nat} {c : Nat} {i : Int} {e : Int} (ha : OB T a 10) (h_c : OB T c 1) (h_i : -2147483648 ≤ i ∧ i ≤ 2147483647) (h_e : -2147483648 ≤ e ∧ e ≤ 2147483647) (hw : WT T σ) (hc : 0 ≤ e ∧ e ≤ 12) : Tn (d + 3) m_X10_part 0 T σ [(0, .ref a), (1, .ref c), (2, .int (iI i)), (3, .int (iI e))] [] (fun ro T2 σ2 => ∃ v : Int, ro = some (.int (iI v)) ∧ T = T2 ∧ σ = σ2 ∧ (-2147483648 ≤ v ∧ v ≤ 2147483647)) := by
  refine tn_iload_n dX10_part_0 rfl 2 rfl ?_
  refine tn_bipush dX10_part_1 (by decide) ?_
  refine tn_icmp_lt (tgt := 16) dX10_part_3 (by decide) ⟨by omega, by omega⟩ ⟨by decide, by decide⟩ (fun h1 => ?_) (fun h1 => ?_)
  · refine tn_iload_n dX10_part_16 rfl 2 rfl ?_
    refine tn_bipush dX10_part_17 (by decide) ?_
    refine tn_icmp_lt (tgt := 39) dX10_part_19 (by decide) ⟨by omega, by omega⟩ ⟨by decide, by decide⟩ (fun h2 => ?_) (fun h2 => ?_)
    · refine tn_iconst dX10_part_39 ?_
      exact tn_iret rfl dX10_part_40 ⟨_, rfl, rfl, rfl, by omega⟩
    · refine tn_iload_n dX10_part_22 rfl 3 rfl ?_
      refine tn_iconst dX10_part_23 ?_
      refine tn_icmp_ne (tgt := 39) dX10_part_24 (by decide) ⟨by omega, by omega⟩ ⟨by decide, by decide⟩ (fun h3 => ?_) (fun h3 => ?_)
      · refine tn_iconst dX10_part_39 ?_
        exact tn_iret rfl dX10_part_40 ⟨_, rfl, rfl, rfl, by omega⟩
      · refine tn_aload_n dX10_part_27 rfl 1 rfl ?_
        refine tn_iconst dX10_part_28 ?_
        refine tn_iload_n dX10_part_29 rfl 2 rfl ?_
        refine tn_bipush dX10_part_30 (by decide) ?_
        refine tn_isub dX10_part_32 ?_
        refine tn_callV (M := m_X10_part) (pc := 33) (ix := 47) (ci := 1) (M' := m_X1_homeOf) (As := [.int (iI 0), .int (iI (i - 6))]) (rest := []) dX10_part_33 ok_X1_homeOf im_X1_homeOf se_X1_homeOf ml10_47 np_X1_homeOf rfl rfl h_c rfl (Nat.le_of_ble_eq_true rfl) (Nat.le_of_ble_eq_true rfl) rfl (k_X1_homeOf (d) (T := T) (σ := σ) (a := c) (f := 0) (m := i - 6) h_c (by decide) (by omega) hw ) (fun r4 T6 σ5 gt7 hp => ?_)
        obtain ⟨v9, rfl, rfl, rfl, f8⟩ := hp
        clear gt7
        show Tn _ _ 36 T σ [(0, .ref a), (1, .ref c), (2, .int (iI i)), (3, .int (iI e))] [.int (iI v9)] _
        refine tn_goto (tgt := 40) dX10_part_36 (by decide) ?_
        exact tn_iret rfl dX10_part_40 ⟨_, rfl, rfl, rfl, by omega⟩
  · refine tn_aload_n dX10_part_6 rfl 1 rfl ?_
    refine tn_iload_n dX10_part_7 rfl 2 rfl ?_
    refine tn_bipush dX10_part_8 (by decide) ?_
    refine tn_isub dX10_part_10 ?_
    refine tn_iload_n dX10_part_11 rfl 3 rfl ?_
    refine tn_callV (M := m_X10_part) (pc := 12) (ix := 44) (ci := 1) (M' := m_X1_get) (As := [.int (iI (i - 10)), .int (iI e)]) (rest := []) dX10_part_12 ok_X1_get im_X1_get se_X1_get ml10_44 np_X1_get rfl rfl h_c rfl (Nat.le_of_ble_eq_true rfl) (Nat.le_of_ble_eq_true rfl) rfl (k_X1_get (d + 1) (T := T) (σ := σ) (a := c) (k := i - 10) (c := e) h_c (by omega) (by omega) hw (by omega)) (fun r10 T12 σ11 gt13 hp => ?_)
    obtain ⟨v15, rfl, rfl, rfl, f14⟩ := hp
    clear gt13
    show Tn _ _ 15 T σ [(0, .ref a), (1, .ref c), (2, .int (iI i)), (3, .int (iI e))] [.int (iI v15)] _
    exact tn_iret rfl dX10_part_15 ⟨_, rfl, rfl, rfl, by omega⟩
