theorem cd_X10_slotAt : Cond.code yX10_slotAt cX10_slotAt 4 (some .int) ∈ pWW := pw4 (List.mem_of_getElem? (i := 163) rfl) rfl
abbrev m_X10_slotAt : MT := (yX10_slotAt, cX10_slotAt, 4, (some .int))
theorem ok_X10_slotAt : pOk m_X10_slotAt := ⟨⟨cd_X10_slotAt, ini_10⟩, by decide +kernel, ⟨by decide +kernel, by decide +kernel⟩, Nat.le_of_ble_eq_true rfl⟩
theorem np_X10_slotAt : (parseMethodDescriptor yX10_slotAt.desc).map (fun d => d.parameters.length) = some 3 := by decide +kernel
theorem im_X10_slotAt : Cond.instanceMethod yX10_slotAt ∈ pWW := pw4 (List.mem_of_getElem? (i := 161) rfl) rfl
theorem se_X10_slotAt : Cond.selects RX10 yX10_slotAt yX10_slotAt ∈ pWW := pw4 (List.mem_of_getElem? (i := 162) rfl) rfl
theorem fl10_30 : Cond.fieldLink RX10 30 (TX1 5).1 (TX1 5).2.1 (TX1 5).2.2.1 ∈ pWW := pw1 (List.mem_of_getElem? (i := 103) rfl) rfl
theorem ml10_36 : Cond.methodLink RX10 36 yX1_slotOf ∈ pWW := pw4 (List.mem_of_getElem? (i := 109) rfl) rfl
theorem dX10_slotAt_0 : decode cX10_slotAt 0 = .ok (.aload_n 1, 1) := by decide +kernel
theorem dX10_slotAt_1 : decode cX10_slotAt 1 = .ok (.ifnonnull 7, 3) := by decide +kernel
theorem dX10_slotAt_8 : decode cX10_slotAt 8 = .ok (.iload_n 2, 1) := by decide +kernel
theorem dX10_slotAt_9 : decode cX10_slotAt 9 = .ok (.aload_n 1, 1) := by decide +kernel
theorem dX10_slotAt_10 : decode cX10_slotAt 10 = .ok (.aload_n 1, 1) := by decide +kernel
theorem dX10_slotAt_11 : decode cX10_slotAt 11 = .ok (.getfield 30, 3) := by decide +kernel
theorem dX10_slotAt_14 : decode cX10_slotAt 14 = .ok (.iconst 0, 1) := by decide +kernel
theorem dX10_slotAt_15 : decode cX10_slotAt 15 = .ok (.invokevirtual 36, 3) := by decide +kernel
theorem dX10_slotAt_18 : decode cX10_slotAt 18 = .ok (.imul, 1) := by decide +kernel
theorem dX10_slotAt_19 : decode cX10_slotAt 19 = .ok (.aload_n 1, 1) := by decide +kernel
theorem dX10_slotAt_20 : decode cX10_slotAt 20 = .ok (.iload_n 3, 1) := by decide +kernel
theorem dX10_slotAt_21 : decode cX10_slotAt 21 = .ok (.iconst 0, 1) := by decide +kernel
theorem dX10_slotAt_22 : decode cX10_slotAt 22 = .ok (.invokevirtual 36, 3) := by decide +kernel
theorem dX10_slotAt_25 : decode cX10_slotAt 25 = .ok (.iadd, 1) := by decide +kernel
theorem dX10_slotAt_26 : decode cX10_slotAt 26 = .ok (.ireturn, 1) := by decide +kernel
set_option maxRecDepth 20000 in
theorem k_X10_slotAt (d : Nat) {T : CT} {σ : MS} {a : Nat} {c : Nat} {k : Int} {f : Int} (ha : OB T a 10) (h_c : OB T c 1) (h_k : -2147483648 ≤ k ∧ k ≤ 2147483647) (h_f : -2147483648 ≤ f ∧ f ≤ 2147483647) (hw : WT T σ) : Tn (d + 2) m_X10_slotAt 0 T σ [(0, .ref a), (1, .ref c), (2, .int (iI k)), (3, .int (iI f))] [] (fun ro T2 σ2 => ∃ v : Int, ro = some (.int (iI v)) ∧ T = T2 ∧ σ = σ2 ∧ (-2147483648 ≤ v ∧ v ≤ 2147483647)) := by
  refine tn_aload_n dX10_slotAt_0 rfl 1 rfl ?_
  refine tn_ifnonnull (tgt := 8) dX10_slotAt_1 (by decide) ?_
  refine tn_iload_n dX10_slotAt_8 rfl 2 rfl ?_
  refine tn_aload_n dX10_slotAt_9 rfl 1 rfl ?_
  refine tn_aload_n dX10_slotAt_10 rfl 1 rfl ?_
  refine tn_getI (ci := 1) (i := 5) (n := 10) (t := σ.2.1 10 c) dX10_slotAt_11 rfl lay_1 (by decide) fl10_30 h_c rfl rfl (rfl) ?_
  have g1 : ((0 : Int) ≤ σ.2.1 10 c ∧ σ.2.1 10 c ≤ 12) := wf_10 hw h_c
  refine tn_iconst dX10_slotAt_14 ?_
  refine tn_callV (M := m_X10_slotAt) (pc := 15) (ix := 36) (ci := 1) (M' := m_X1_slotOf) (As := [.int (iI (σ.2.1 10 c)), .int (iI 0)]) (rest := [.int (iI k)]) dX10_slotAt_15 ok_X1_slotOf im_X1_slotOf se_X1_slotOf ml10_36 np_X1_slotOf rfl rfl h_c rfl (Nat.le_of_ble_eq_true rfl) (Nat.le_of_ble_eq_true rfl) rfl (k_X1_slotOf (d) (T := T) (σ := σ) (a := c) (f := σ.2.1 10 c) (m := 0) h_c (by omega) (by decide) hw (by omega)) (fun r2 T4 σ3 gt5 hp => ?_)
  obtain ⟨v8, rfl, rfl, rfl, f6, f7⟩ := hp
  clear gt5
  show Tn _ _ 18 T σ [(0, .ref a), (1, .ref c), (2, .int (iI k)), (3, .int (iI f))] [.int (iI v8), .int (iI k)] _
  refine tn_imul dX10_slotAt_18 ?_
  refine tn_any (fun z9 g10 => ?_)
  have g10r : -2147483648 ≤ z9 ∧ z9 ≤ 2147483647 := g10
  refine tn_aload_n dX10_slotAt_19 rfl 1 rfl ?_
  refine tn_iload_n dX10_slotAt_20 rfl 3 rfl ?_
  refine tn_iconst dX10_slotAt_21 ?_
  refine tn_callV (M := m_X10_slotAt) (pc := 22) (ix := 36) (ci := 1) (M' := m_X1_slotOf) (As := [.int (iI f), .int (iI 0)]) (rest := [.int (iI z9)]) dX10_slotAt_22 ok_X1_slotOf im_X1_slotOf se_X1_slotOf ml10_36 np_X1_slotOf rfl rfl h_c rfl (Nat.le_of_ble_eq_true rfl) (Nat.le_of_ble_eq_true rfl) rfl (k_X1_slotOf (d) (T := T) (σ := σ) (a := c) (f := f) (m := 0) h_c (by omega) (by decide) hw (by omega)) (fun r11 T13 σ12 gt14 hp => ?_)
  obtain ⟨v17, rfl, rfl, rfl, f15, f16⟩ := hp
  clear gt14
  show Tn _ _ 25 T σ [(0, .ref a), (1, .ref c), (2, .int (iI k)), (3, .int (iI f))] [.int (iI v17), .int (iI z9)] _
  refine tn_iadd dX10_slotAt_25 ?_
  refine tn_any (fun z18 g19 => ?_)
  have g19r : -2147483648 ≤ z18 ∧ z18 ≤ 2147483647 := g19
  exact tn_iret rfl dX10_slotAt_26 ⟨_, rfl, rfl, rfl, by omega⟩
