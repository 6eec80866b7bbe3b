theorem cd_X6_goesOut : Cond.code yX6_goesOut cX6_goesOut 3 (some .boolean) ∈ pWW := pw4 (List.mem_of_getElem? (i := 225) rfl) rfl
abbrev m_X6_goesOut : MT := (yX6_goesOut, cX6_goesOut, 3, (some .boolean))
theorem ok_X6_goesOut : pOk m_X6_goesOut := ⟨⟨cd_X6_goesOut, ini_6⟩, by decide +kernel, ⟨by decide +kernel, by decide +kernel⟩, Nat.le_of_ble_eq_true rfl⟩
theorem np_X6_goesOut : (parseMethodDescriptor yX6_goesOut.desc).map (fun d => d.parameters.length) = some 2 := by decide +kernel
theorem im_X6_goesOut : Cond.instanceMethod yX6_goesOut ∈ pWW := pw4 (List.mem_of_getElem? (i := 224) rfl) rfl
theorem se_X6_goesOut : Cond.selects RX6 yX6_goesOut yX6_goesOut ∈ pWW := pws (List.mem_map.mpr ⟨_, lw_pin 49 rfl, rfl⟩) rfl
theorem dX6_goesOut_0 : decode cX6_goesOut 0 = .ok (.aload_n 1, 1) := by decide +kernel
theorem dX6_goesOut_1 : decode cX6_goesOut 1 = .ok (.iload_n 2, 1) := by decide +kernel
theorem dX6_goesOut_2 : decode cX6_goesOut 2 = .ok (.iconst 0, 1) := by decide +kernel
theorem dX6_goesOut_3 : decode cX6_goesOut 3 = .ok (.invokevirtual 34, 3) := by decide +kernel
theorem dX6_goesOut_6 : decode cX6_goesOut 6 = .ok (.bipush 9, 2) := by decide +kernel
theorem dX6_goesOut_8 : decode cX6_goesOut 8 = .ok (.if_icmp .ne 17, 3) := by decide +kernel
theorem dX6_goesOut_25 : decode cX6_goesOut 25 = .ok (.iconst 0, 1) := by decide +kernel
theorem dX6_goesOut_26 : decode cX6_goesOut 26 = .ok (.ireturn, 1) := by decide +kernel
theorem dX6_goesOut_11 : decode cX6_goesOut 11 = .ok (.aload_n 1, 1) := by decide +kernel
theorem dX6_goesOut_12 : decode cX6_goesOut 12 = .ok (.iload_n 2, 1) := by decide +kernel
theorem dX6_goesOut_13 : decode cX6_goesOut 13 = .ok (.iconst 3, 1) := by decide +kernel
theorem dX6_goesOut_14 : decode cX6_goesOut 14 = .ok (.invokevirtual 34, 3) := by decide +kernel
theorem dX6_goesOut_17 : decode cX6_goesOut 17 = .ok (.iconst 1, 1) := by decide +kernel
theorem dX6_goesOut_18 : decode cX6_goesOut 18 = .ok (.if_icmp .ne 7, 3) := by decide +kernel
theorem dX6_goesOut_21 : decode cX6_goesOut 21 = .ok (.iconst 1, 1) := by decide +kernel
theorem dX6_goesOut_22 : decode cX6_goesOut 22 = .ok (.goto 4, 3) := by decide +kernel
set_option maxRecDepth 20000 in
theorem k_X6_goesOut (d : Nat) {T : CT} {σ : MS} {a : Nat} {p1 : Nat} {p2 : Int} (ha : OB T a 6) (h_p1 : OB T p1 1) (t_p1 : (T p1).1 = 50) (h_p2 : -2147483648 ≤ p2 ∧ p2 ≤ 2147483647) (hw : WT T σ) : Tn (d + 2) m_X6_goesOut 0 T σ [(0, .ref a), (1, .ref p1), (2, .int (iI p2))] [] (fun ro T2 σ2 => ∃ v : Int, ro = some (.int (iI v)) ∧ T = T2 ∧ σ = σ2 ∧ (v = 0 ∨ v = 1)) := by
  refine tn_aload_n dX6_goesOut_0 rfl 1 rfl ?_
  refine tn_iload_n dX6_goesOut_1 rfl 2 rfl ?_
  refine tn_iconst dX6_goesOut_2 ?_
  refine tn_callV (M := m_X6_goesOut) (pc := 3) (ix := 34) (ci := 1) (M' := m_X1_get) (As := [.int (iI p2), .int (iI 0)]) (rest := []) dX6_goesOut_3 ok_X1_get im_X1_get se_X1_get ml6_34 np_X1_get rfl rfl h_p1 rfl (Nat.le_of_ble_eq_true rfl) (Nat.le_of_ble_eq_true rfl) rfl (k_X1_get (d) (T := T) (σ := σ) (a := p1) (k := p2) (c := 0) h_p1 (by omega) (by decide) hw (by omega)) (fun r1 T3 σ2 gt4 hp => ?_)
  obtain ⟨v6, rfl, rfl, rfl, f5⟩ := hp
  clear gt4
  show Tn _ _ 6 T σ [(0, .ref a), (1, .ref p1), (2, .int (iI p2))] [.int (iI v6)] _
  refine tn_bipush dX6_goesOut_6 (by decide) ?_
  refine tn_icmp_ne (tgt := 25) dX6_goesOut_8 (by decide) ⟨by omega, by omega⟩ ⟨by decide, by decide⟩ (fun h7 => ?_) (fun h7 => ?_)
  · refine tn_iconst dX6_goesOut_25 ?_
    exact tn_zret (v := 0) rfl (by decide) dX6_goesOut_26 ⟨_, rfl, rfl, rfl, by omega⟩
  · refine tn_aload_n dX6_goesOut_11 rfl 1 rfl ?_
    refine tn_iload_n dX6_goesOut_12 rfl 2 rfl ?_
    refine tn_iconst dX6_goesOut_13 ?_
    refine tn_callV (M := m_X6_goesOut) (pc := 14) (ix := 34) (ci := 1) (M' := m_X1_get) (As := [.int (iI p2), .int (iI 3)]) (rest := []) dX6_goesOut_14 ok_X1_get im_X1_get se_X1_get ml6_34 np_X1_get rfl rfl h_p1 rfl (Nat.le_of_ble_eq_true rfl) (Nat.le_of_ble_eq_true rfl) rfl (k_X1_get (d) (T := T) (σ := σ) (a := p1) (k := p2) (c := 3) h_p1 (by omega) (by decide) hw (by omega)) (fun r8 T10 σ9 gt11 hp => ?_)
    obtain ⟨v13, rfl, rfl, rfl, f12⟩ := hp
    clear gt11
    show Tn _ _ 17 T σ [(0, .ref a), (1, .ref p1), (2, .int (iI p2))] [.int (iI v13)] _
    refine tn_iconst dX6_goesOut_17 ?_
    refine tn_icmp_ne (tgt := 25) dX6_goesOut_18 (by decide) ⟨by omega, by omega⟩ ⟨by decide, by decide⟩ (fun h14 => ?_) (fun h14 => ?_)
    · refine tn_iconst dX6_goesOut_25 ?_
      exact tn_zret (v := 0) rfl (by decide) dX6_goesOut_26 ⟨_, rfl, rfl, rfl, by omega⟩
    · refine tn_iconst dX6_goesOut_21 ?_
      refine tn_goto (tgt := 26) dX6_goesOut_22 (by decide) ?_
      exact tn_zret (v := 1) rfl (by decide) dX6_goesOut_26 ⟨_, rfl, rfl, rfl, by omega⟩
