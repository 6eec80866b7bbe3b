theorem cd_X1_sameWhere : Cond.code yX1_sameWhere cX1_sameWhere 3 (some .boolean) ∈ pWW := pw4 (List.mem_of_getElem? (i := 124) rfl) rfl
abbrev m_X1_sameWhere : MT := (yX1_sameWhere, cX1_sameWhere, 3, (some .boolean))
theorem ok_X1_sameWhere : pOk m_X1_sameWhere := ⟨⟨cd_X1_sameWhere, ini_1⟩, by decide +kernel, ⟨by decide +kernel, by decide +kernel⟩, Nat.le_of_ble_eq_true rfl⟩
theorem np_X1_sameWhere : (parseMethodDescriptor yX1_sameWhere.desc).map (fun d => d.parameters.length) = some 2 := by decide +kernel
theorem im_X1_sameWhere : Cond.instanceMethod yX1_sameWhere ∈ pWW := pw4 (List.mem_of_getElem? (i := 122) rfl) rfl
theorem se_X1_sameWhere : Cond.selects RX1 yX1_sameWhere yX1_sameWhere ∈ pWW := pw4 (List.mem_of_getElem? (i := 123) rfl) rfl
theorem ml1_103 : Cond.methodLink RX1 103 yX1_sameOperands ∈ pWW := pw4 (List.mem_of_getElem? (i := 125) rfl) rfl
theorem dX1_sameWhere_0 : decode cX1_sameWhere 0 = .ok (.aload_n 0, 1) := by decide +kernel
theorem dX1_sameWhere_1 : decode cX1_sameWhere 1 = .ok (.iload_n 1, 1) := by decide +kernel
theorem dX1_sameWhere_2 : decode cX1_sameWhere 2 = .ok (.bipush 11, 2) := by decide +kernel
theorem dX1_sameWhere_4 : decode cX1_sameWhere 4 = .ok (.invokevirtual 86, 3) := by decide +kernel
theorem dX1_sameWhere_7 : decode cX1_sameWhere 7 = .ok (.aload_n 0, 1) := by decide +kernel
theorem dX1_sameWhere_8 : decode cX1_sameWhere 8 = .ok (.iload_n 2, 1) := by decide +kernel
theorem dX1_sameWhere_9 : decode cX1_sameWhere 9 = .ok (.bipush 11, 2) := by decide +kernel
theorem dX1_sameWhere_11 : decode cX1_sameWhere 11 = .ok (.invokevirtual 86, 3) := by decide +kernel
theorem dX1_sameWhere_14 : decode cX1_sameWhere 14 = .ok (.if_icmp .ne 16, 3) := by decide +kernel
theorem dX1_sameWhere_30 : decode cX1_sameWhere 30 = .ok (.iconst 0, 1) := by decide +kernel
theorem dX1_sameWhere_31 : decode cX1_sameWhere 31 = .ok (.ireturn, 1) := by decide +kernel
theorem dX1_sameWhere_17 : decode cX1_sameWhere 17 = .ok (.aload_n 0, 1) := by decide +kernel
theorem dX1_sameWhere_18 : decode cX1_sameWhere 18 = .ok (.iload_n 1, 1) := by decide +kernel
theorem dX1_sameWhere_19 : decode cX1_sameWhere 19 = .ok (.iload_n 2, 1) := by decide +kernel
theorem dX1_sameWhere_20 : decode cX1_sameWhere 20 = .ok (.invokevirtual 103, 3) := by decide +kernel
theorem dX1_sameWhere_23 : decode cX1_sameWhere 23 = .ok (.ifCond .eq 7, 3) := by decide +kernel
theorem dX1_sameWhere_26 : decode cX1_sameWhere 26 = .ok (.iconst 1, 1) := by decide +kernel
theorem dX1_sameWhere_27 : decode cX1_sameWhere 27 = .ok (.goto 4, 3) := by decide +kernel
set_option maxRecDepth 20000 in
theorem k_X1_sameWhere (d : Nat) {T : CT} {σ : MS} {a : Nat} {k : Int} {j : Int} (ha : OB T a 1) (h_k : -2147483648 ≤ k ∧ k ≤ 2147483647) (h_j : -2147483648 ≤ j ∧ j ≤ 2147483647) (hw : WT T σ) : Tn (d + 3) m_X1_sameWhere 0 T σ [(0, .ref a), (1, .int (iI k)), (2, .int (iI j))] [] (fun ro T2 σ2 => ∃ v : Int, ro = some (.int (iI v)) ∧ T = T2 ∧ σ = σ2 ∧ (v = 0 ∨ v = 1)) := by
  refine tn_aload_n dX1_sameWhere_0 rfl 0 rfl ?_
  refine tn_iload_n dX1_sameWhere_1 rfl 1 rfl ?_
  refine tn_bipush dX1_sameWhere_2 (by decide) ?_
  refine tn_callV (M := m_X1_sameWhere) (pc := 4) (ix := 86) (ci := 1) (M' := m_X1_get) (As := [.int (iI k), .int (iI 11)]) (rest := []) dX1_sameWhere_4 ok_X1_get im_X1_get se_X1_get ml1_86 np_X1_get rfl rfl ha rfl (Nat.le_of_ble_eq_true rfl) (Nat.le_of_ble_eq_true rfl) rfl (k_X1_get (d + 1) (T := T) (σ := σ) (a := a) (k := k) (c := 11) ha (by omega) (by decide) hw (by omega)) (fun r1 T3 σ2 gt4 hp => ?_)
  obtain ⟨v6, rfl, rfl, rfl, f5⟩ := hp
  clear gt4
  show Tn _ _ 7 T σ [(0, .ref a), (1, .int (iI k)), (2, .int (iI j))] [.int (iI v6)] _
  refine tn_aload_n dX1_sameWhere_7 rfl 0 rfl ?_
  refine tn_iload_n dX1_sameWhere_8 rfl 2 rfl ?_
  refine tn_bipush dX1_sameWhere_9 (by decide) ?_
  refine tn_callV (M := m_X1_sameWhere) (pc := 11) (ix := 86) (ci := 1) (M' := m_X1_get) (As := [.int (iI j), .int (iI 11)]) (rest := [.int (iI v6)]) dX1_sameWhere_11 ok_X1_get im_X1_get se_X1_get ml1_86 np_X1_get rfl rfl ha rfl (Nat.le_of_ble_eq_true rfl) (Nat.le_of_ble_eq_true rfl) rfl (k_X1_get (d + 1) (T := T) (σ := σ) (a := a) (k := j) (c := 11) ha (by omega) (by decide) hw (by omega)) (fun r7 T9 σ8 gt10 hp => ?_)
  obtain ⟨v12, rfl, rfl, rfl, f11⟩ := hp
  clear gt10
  show Tn _ _ 14 T σ [(0, .ref a), (1, .int (iI k)), (2, .int (iI j))] [.int (iI v12), .int (iI v6)] _
  refine tn_icmp_ne (tgt := 30) dX1_sameWhere_14 (by decide) ⟨by omega, by omega⟩ ⟨by omega, by omega⟩ (fun h13 => ?_) (fun h13 => ?_)
  · refine tn_iconst dX1_sameWhere_30 ?_
    exact tn_zret (v := 0) rfl (by decide) dX1_sameWhere_31 ⟨_, rfl, rfl, rfl, by omega⟩
  · refine tn_aload_n dX1_sameWhere_17 rfl 0 rfl ?_
    refine tn_iload_n dX1_sameWhere_18 rfl 1 rfl ?_
    refine tn_iload_n dX1_sameWhere_19 rfl 2 rfl ?_
    refine tn_callV (M := m_X1_sameWhere) (pc := 20) (ix := 103) (ci := 1) (M' := m_X1_sameOperands) (As := [.int (iI k), .int (iI j)]) (rest := []) dX1_sameWhere_20 ok_X1_sameOperands im_X1_sameOperands se_X1_sameOperands ml1_103 np_X1_sameOperands rfl rfl ha rfl (Nat.le_of_ble_eq_true rfl) (Nat.le_of_ble_eq_true rfl) rfl (k_X1_sameOperands (d) (T := T) (σ := σ) (a := a) (k := k) (j := j) ha (by omega) (by omega) hw ) (fun r14 T16 σ15 gt17 hp => ?_)
    obtain ⟨v19, rfl, rfl, rfl, f18⟩ := hp
    clear gt17
    show Tn _ _ 23 T σ [(0, .ref a), (1, .int (iI k)), (2, .int (iI j))] [.int (iI v19)] _
    refine tn_if_eq (tgt := 30) dX1_sameWhere_23 (by decide) ⟨by omega, by omega⟩ (fun h20 => ?_) (fun h20 => ?_)
    · refine tn_iconst dX1_sameWhere_30 ?_
      exact tn_zret (v := 0) rfl (by decide) dX1_sameWhere_31 ⟨_, rfl, rfl, rfl, by omega⟩
    · refine tn_iconst dX1_sameWhere_26 ?_
      refine tn_goto (tgt := 31) dX1_sameWhere_27 (by decide) ?_
      exact tn_zret (v := 1) rfl (by decide) dX1_sameWhere_31 ⟨_, rfl, rfl, rfl, by omega⟩
