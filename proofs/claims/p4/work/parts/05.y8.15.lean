theorem cd_X10_leans : Cond.code yX10_leans cX10_leans 4 (some .boolean) ∈ pWW := pw4 (List.mem_of_getElem? (i := 143) rfl) rfl
abbrev m_X10_leans : MT := (yX10_leans, cX10_leans, 4, (some .boolean))
theorem ok_X10_leans : pOk m_X10_leans := ⟨⟨cd_X10_leans, ini_10⟩, by decide +kernel, ⟨by decide +kernel, by decide +kernel⟩, Nat.le_of_ble_eq_true rfl⟩
theorem np_X10_leans : (parseMethodDescriptor yX10_leans.desc).map (fun d => d.parameters.length) = some 3 := by decide +kernel
theorem im_X10_leans : Cond.instanceMethod yX10_leans ∈ pWW := pw4 (List.mem_of_getElem? (i := 142) rfl) rfl
theorem se_X10_leans : Cond.selects RX10 yX10_leans yX10_leans ∈ pWW := pws (List.mem_map.mpr ⟨_, lw_pin 42 rfl, rfl⟩) rfl
theorem ml10_117 : Cond.methodLink RX10 117 yX1_leansOn ∈ pWW := pw4 (List.mem_of_getElem? (i := 144) rfl) rfl
theorem dX10_leans_0 : decode cX10_leans 0 = .ok (.iload_n 2, 1) := by decide +kernel
theorem dX10_leans_1 : decode cX10_leans 1 = .ok (.bipush 6, 2) := by decide +kernel
theorem dX10_leans_3 : decode cX10_leans 3 = .ok (.if_icmp .ge 5, 3) := by decide +kernel
theorem dX10_leans_8 : decode cX10_leans 8 = .ok (.iload_n 2, 1) := by decide +kernel
theorem dX10_leans_9 : decode cX10_leans 9 = .ok (.bipush 10, 2) := by decide +kernel
theorem dX10_leans_11 : decode cX10_leans 11 = .ok (.if_icmp .ge 24, 3) := by decide +kernel
theorem dX10_leans_35 : decode cX10_leans 35 = .ok (.aload_n 1, 1) := by decide +kernel
theorem dX10_leans_36 : decode cX10_leans 36 = .ok (.iload_n 2, 1) := by decide +kernel
theorem dX10_leans_37 : decode cX10_leans 37 = .ok (.bipush 10, 2) := by decide +kernel
theorem dX10_leans_39 : decode cX10_leans 39 = .ok (.isub, 1) := by decide +kernel
theorem dX10_leans_40 : decode cX10_leans 40 = .ok (.iload_n 3, 1) := by decide +kernel
theorem dX10_leans_41 : decode cX10_leans 41 = .ok (.invokevirtual 117, 3) := by decide +kernel
theorem dX10_leans_44 : decode cX10_leans 44 = .ok (.ireturn, 1) := by decide +kernel
theorem dX10_leans_14 : decode cX10_leans 14 = .ok (.aload_n 1, 1) := by decide +kernel
theorem dX10_leans_15 : decode cX10_leans 15 = .ok (.iconst 0, 1) := by decide +kernel
theorem dX10_leans_16 : decode cX10_leans 16 = .ok (.iload_n 2, 1) := by decide +kernel
theorem dX10_leans_17 : decode cX10_leans 17 = .ok (.bipush 6, 2) := by decide +kernel
theorem dX10_leans_19 : decode cX10_leans 19 = .ok (.isub, 1) := by decide +kernel
theorem dX10_leans_20 : decode cX10_leans 20 = .ok (.invokevirtual 47, 3) := by decide +kernel
theorem dX10_leans_23 : decode cX10_leans 23 = .ok (.iload_n 3, 1) := by decide +kernel
theorem dX10_leans_24 : decode cX10_leans 24 = .ok (.if_icmp .ne 7, 3) := by decide +kernel
theorem dX10_leans_31 : decode cX10_leans 31 = .ok (.iconst 0, 1) := by decide +kernel
theorem dX10_leans_32 : decode cX10_leans 32 = .ok (.goto 12, 3) := by decide +kernel
theorem dX10_leans_27 : decode cX10_leans 27 = .ok (.iconst 1, 1) := by decide +kernel
theorem dX10_leans_28 : decode cX10_leans 28 = .ok (.goto 16, 3) := by decide +kernel
theorem dX10_leans_6 : decode cX10_leans 6 = .ok (.iconst 0, 1) := by decide +kernel
theorem dX10_leans_7 : decode cX10_leans 7 = .ok (.ireturn, 1) := by decide +kernel
set_option maxRecDepth 20000 in
theorem k_X10_leans (d : Nat) {T : CT} {σ : MS} {a : Nat} {p1 : Nat} {p2 : Int} {p3 : Int} (ha : OB T a 10) (h_p1 : OB T p1 1) (h_p2 : -2147483648 ≤ p2 ∧ p2 ≤ 2147483647) (h_p3 : -2147483648 ≤ p3 ∧ p3 ≤ 2147483647) (hw : WT T σ) : Tn (d + 3) m_X10_leans 0 T σ [(0, .ref a), (1, .ref p1), (2, .int (iI p2)), (3, .int (iI p3))] [] (fun ro T2 σ2 => ∃ v : Int, ro = some (.int (iI v)) ∧ T = T2 ∧ σ = σ2 ∧ (v = 0 ∨ v = 1)) := by
  refine tn_iload_n dX10_leans_0 rfl 2 rfl ?_
  refine tn_bipush dX10_leans_1 (by decide) ?_
  refine tn_icmp_ge (tgt := 8) dX10_leans_3 (by decide) ⟨by omega, by omega⟩ ⟨by decide, by decide⟩ (fun h1 => ?_) (fun h1 => ?_)
  · refine tn_iload_n dX10_leans_8 rfl 2 rfl ?_
    refine tn_bipush dX10_leans_9 (by decide) ?_
    refine tn_icmp_ge (tgt := 35) dX10_leans_11 (by decide) ⟨by omega, by omega⟩ ⟨by decide, by decide⟩ (fun h2 => ?_) (fun h2 => ?_)
    · refine tn_aload_n dX10_leans_35 rfl 1 rfl ?_
      refine tn_iload_n dX10_leans_36 rfl 2 rfl ?_
      refine tn_bipush dX10_leans_37 (by decide) ?_
      refine tn_isub dX10_leans_39 ?_
      refine tn_iload_n dX10_leans_40 rfl 3 rfl ?_
      refine tn_callV (M := m_X10_leans) (pc := 41) (ix := 117) (ci := 1) (M' := m_X1_leansOn) (As := [.int (iI (p2 - 10)), .int (iI p3)]) (rest := []) dX10_leans_41 ok_X1_leansOn im_X1_leansOn se_X1_leansOn ml10_117 np_X1_leansOn rfl rfl h_p1 rfl (Nat.le_of_ble_eq_true rfl) (Nat.le_of_ble_eq_true rfl) rfl (k_X1_leansOn (d) (T := T) (σ := σ) (a := p1) (k := p2 - 10) (r := p3) h_p1 (by omega) (by omega) hw ) (fun r3 T5 σ4 gt6 hp => ?_)
      obtain ⟨v8, rfl, rfl, rfl, f7⟩ := hp
      clear gt6
      show Tn _ _ 44 T σ [(0, .ref a), (1, .ref p1), (2, .int (iI p2)), (3, .int (iI p3))] [.int (iI v8)] _
      exact tn_zret (v := v8) rfl (by omega) dX10_leans_44 ⟨_, rfl, rfl, rfl, by omega⟩
    · refine tn_aload_n dX10_leans_14 rfl 1 rfl ?_
      refine tn_iconst dX10_leans_15 ?_
      refine tn_iload_n dX10_leans_16 rfl 2 rfl ?_
      refine tn_bipush dX10_leans_17 (by decide) ?_
      refine tn_isub dX10_leans_19 ?_
      refine tn_callV (M := m_X10_leans) (pc := 20) (ix := 47) (ci := 1) (M' := m_X1_homeOf) (As := [.int (iI 0), .int (iI (p2 - 6))]) (rest := []) dX10_leans_20 ok_X1_homeOf im_X1_homeOf se_X1_homeOf ml10_47 np_X1_homeOf rfl rfl h_p1 rfl (Nat.le_of_ble_eq_true rfl) (Nat.le_of_ble_eq_true rfl) rfl (k_X1_homeOf (d) (T := T) (σ := σ) (a := p1) (f := 0) (m := p2 - 6) h_p1 (by decide) (by omega) hw ) (fun r9 T11 σ10 gt12 hp => ?_)
      obtain ⟨v14, rfl, rfl, rfl, f13⟩ := hp
      clear gt12
      show Tn _ _ 23 T σ [(0, .ref a), (1, .ref p1), (2, .int (iI p2)), (3, .int (iI p3))] [.int (iI v14)] _
      refine tn_iload_n dX10_leans_23 rfl 3 rfl ?_
      refine tn_icmp_ne (tgt := 31) dX10_leans_24 (by decide) ⟨by omega, by omega⟩ ⟨by omega, by omega⟩ (fun h15 => ?_) (fun h15 => ?_)
      · refine tn_iconst dX10_leans_31 ?_
        refine tn_goto (tgt := 44) dX10_leans_32 (by decide) ?_
        exact tn_zret (v := 0) rfl (by decide) dX10_leans_44 ⟨_, rfl, rfl, rfl, by omega⟩
      · refine tn_iconst dX10_leans_27 ?_
        refine tn_goto (tgt := 44) dX10_leans_28 (by decide) ?_
        exact tn_zret (v := 1) rfl (by decide) dX10_leans_44 ⟨_, rfl, rfl, rfl, by omega⟩
  · refine tn_iconst dX10_leans_6 ?_
    exact tn_zret (v := 0) rfl (by decide) dX10_leans_7 ⟨_, rfl, rfl, rfl, by omega⟩
