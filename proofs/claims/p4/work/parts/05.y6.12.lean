theorem cd_X1_fallsOn : Cond.code yX1_fallsOn cX1_fallsOn 3 (some .boolean) ∈ pWW := pw4 (List.mem_of_getElem? (i := 151) rfl) rfl
abbrev m_X1_fallsOn : MT := (yX1_fallsOn, cX1_fallsOn, 3, (some .boolean))
theorem ok_X1_fallsOn : pOk m_X1_fallsOn := ⟨⟨cd_X1_fallsOn, ini_1⟩, by decide +kernel, ⟨by decide +kernel, by decide +kernel⟩, Nat.le_of_ble_eq_true rfl⟩
theorem np_X1_fallsOn : (parseMethodDescriptor yX1_fallsOn.desc).map (fun d => d.parameters.length) = some 1 := by decide +kernel
theorem im_X1_fallsOn : Cond.instanceMethod yX1_fallsOn ∈ pWW := pw4 (List.mem_of_getElem? (i := 149) rfl) rfl
theorem se_X1_fallsOn : Cond.selects RX1 yX1_fallsOn yX1_fallsOn ∈ pWW := pw4 (List.mem_of_getElem? (i := 150) rfl) rfl
theorem dX1_fallsOn_0 : decode cX1_fallsOn 0 = .ok (.aload_n 0, 1) := by decide +kernel
theorem dX1_fallsOn_1 : decode cX1_fallsOn 1 = .ok (.iload_n 1, 1) := by decide +kernel
theorem dX1_fallsOn_2 : decode cX1_fallsOn 2 = .ok (.invokevirtual 97, 3) := by decide +kernel
theorem dX1_fallsOn_5 : decode cX1_fallsOn 5 = .ok (.istore_n 2, 1) := by decide +kernel
theorem dX1_fallsOn_6 : decode cX1_fallsOn 6 = .ok (.iload_n 2, 1) := by decide +kernel
theorem dX1_fallsOn_7 : decode cX1_fallsOn 7 = .ok (.bipush 8, 2) := by decide +kernel
theorem dX1_fallsOn_9 : decode cX1_fallsOn 9 = .ok (.if_icmp .eq 13, 3) := by decide +kernel
theorem dX1_fallsOn_22 : decode cX1_fallsOn 22 = .ok (.iconst 0, 1) := by decide +kernel
theorem dX1_fallsOn_23 : decode cX1_fallsOn 23 = .ok (.ireturn, 1) := by decide +kernel
theorem dX1_fallsOn_12 : decode cX1_fallsOn 12 = .ok (.iload_n 2, 1) := by decide +kernel
theorem dX1_fallsOn_13 : decode cX1_fallsOn 13 = .ok (.bipush 7, 2) := by decide +kernel
theorem dX1_fallsOn_15 : decode cX1_fallsOn 15 = .ok (.if_icmp .eq 7, 3) := by decide +kernel
theorem dX1_fallsOn_18 : decode cX1_fallsOn 18 = .ok (.iconst 1, 1) := by decide +kernel
theorem dX1_fallsOn_19 : decode cX1_fallsOn 19 = .ok (.goto 4, 3) := by decide +kernel
set_option maxRecDepth 20000 in
theorem k_X1_fallsOn (d : Nat) {T : CT} {σ : MS} {a : Nat} {k : Int} (ha : OB T a 1) (h_k : -2147483648 ≤ k ∧ k ≤ 2147483647) (hw : WT T σ) : Tn (d + 2) m_X1_fallsOn 0 T σ [(0, .ref a), (1, .int (iI k))] [] (fun ro T2 σ2 => ∃ v : Int, ro = some (.int (iI v)) ∧ T = T2 ∧ σ = σ2 ∧ (v = 0 ∨ v = 1)) := by
  refine tn_aload_n dX1_fallsOn_0 rfl 0 rfl ?_
  refine tn_iload_n dX1_fallsOn_1 rfl 1 rfl ?_
  refine tn_callV (M := m_X1_fallsOn) (pc := 2) (ix := 97) (ci := 1) (M' := m_X1_kindAt) (As := [.int (iI k)]) (rest := []) dX1_fallsOn_2 ok_X1_kindAt im_X1_kindAt se_X1_kindAt ml1_97 np_X1_kindAt rfl rfl ha rfl (Nat.le_of_ble_eq_true rfl) (Nat.le_of_ble_eq_true rfl) rfl (k_X1_kindAt (d) (T := T) (σ := σ) (a := a) (k := k) ha (by omega) hw ) (fun r1 T3 σ2 gt4 hp => ?_)
  obtain ⟨v7, rfl, rfl, rfl, f5, f6⟩ := hp
  clear gt4
  clear f6
  show Tn _ _ 5 T σ [(0, .ref a), (1, .int (iI k))] [.int (iI v7)] _
  refine tn_istore_n (L' := [(2, .int (iI v7)), (0, .ref a), (1, .int (iI k))]) dX1_fallsOn_5 rfl (by decide) rfl ?_
  refine tn_iload_n dX1_fallsOn_6 rfl 0 rfl ?_
  refine tn_bipush dX1_fallsOn_7 (by decide) ?_
  refine tn_icmp_eq (tgt := 22) dX1_fallsOn_9 (by decide) ⟨by omega, by omega⟩ ⟨by decide, by decide⟩ (fun h8 => ?_) (fun h8 => ?_)
  · refine tn_iconst dX1_fallsOn_22 ?_
    exact tn_zret (v := 0) rfl (by decide) dX1_fallsOn_23 ⟨_, rfl, rfl, rfl, by omega⟩
  · refine tn_iload_n dX1_fallsOn_12 rfl 0 rfl ?_
    refine tn_bipush dX1_fallsOn_13 (by decide) ?_
    refine tn_icmp_eq (tgt := 22) dX1_fallsOn_15 (by decide) ⟨by omega, by omega⟩ ⟨by decide, by decide⟩ (fun h9 => ?_) (fun h9 => ?_)
    · refine tn_iconst dX1_fallsOn_22 ?_
      exact tn_zret (v := 0) rfl (by decide) dX1_fallsOn_23 ⟨_, rfl, rfl, rfl, by omega⟩
    · refine tn_iconst dX1_fallsOn_18 ?_
      refine tn_goto (tgt := 23) dX1_fallsOn_19 (by decide) ?_
      exact tn_zret (v := 1) rfl (by decide) dX1_fallsOn_23 ⟨_, rfl, rfl, rfl, by omega⟩
