theorem cd_X1_setWhere : Cond.code yX1_setWhere cX1_setWhere 4 none ∈ pWW := pw3 (List.mem_of_getElem? (i := 201) rfl) rfl
abbrev m_X1_setWhere : MT := (yX1_setWhere, cX1_setWhere, 4, none)
theorem ok_X1_setWhere : pOk m_X1_setWhere := ⟨⟨cd_X1_setWhere, ini_1⟩, by decide +kernel, ⟨by decide +kernel, by decide +kernel⟩, Nat.le_of_ble_eq_true rfl⟩
theorem np_X1_setWhere : (parseMethodDescriptor yX1_setWhere.desc).map (fun d => d.parameters.length) = some 3 := by decide +kernel
theorem im_X1_setWhere : Cond.instanceMethod yX1_setWhere ∈ pWW := pw3 (List.mem_of_getElem? (i := 199) rfl) rfl
theorem se_X1_setWhere : Cond.selects RX1 yX1_setWhere yX1_setWhere ∈ pWW := pw3 (List.mem_of_getElem? (i := 200) rfl) rfl
theorem dX1_setWhere_0 : decode cX1_setWhere 0 = .ok (.aload_n 0, 1) := by decide +kernel
theorem dX1_setWhere_1 : decode cX1_setWhere 1 = .ok (.iload_n 1, 1) := by decide +kernel
theorem dX1_setWhere_2 : decode cX1_setWhere 2 = .ok (.bipush 11, 2) := by decide +kernel
theorem dX1_setWhere_4 : decode cX1_setWhere 4 = .ok (.iload_n 2, 1) := by decide +kernel
theorem dX1_setWhere_5 : decode cX1_setWhere 5 = .ok (.invokevirtual 93, 3) := by decide +kernel
theorem dX1_setWhere_8 : decode cX1_setWhere 8 = .ok (.aload_n 0, 1) := by decide +kernel
theorem dX1_setWhere_9 : decode cX1_setWhere 9 = .ok (.iload_n 1, 1) := by decide +kernel
theorem dX1_setWhere_10 : decode cX1_setWhere 10 = .ok (.iconst 3, 1) := by decide +kernel
theorem dX1_setWhere_11 : decode cX1_setWhere 11 = .ok (.iconst 0, 1) := by decide +kernel
theorem dX1_setWhere_12 : decode cX1_setWhere 12 = .ok (.invokevirtual 93, 3) := by decide +kernel
theorem dX1_setWhere_15 : decode cX1_setWhere 15 = .ok (.aload_n 0, 1) := by decide +kernel
theorem dX1_setWhere_16 : decode cX1_setWhere 16 = .ok (.iload_n 1, 1) := by decide +kernel
theorem dX1_setWhere_17 : decode cX1_setWhere 17 = .ok (.iconst 4, 1) := by decide +kernel
theorem dX1_setWhere_18 : decode cX1_setWhere 18 = .ok (.iload_n 3, 1) := by decide +kernel
theorem dX1_setWhere_19 : decode cX1_setWhere 19 = .ok (.invokevirtual 93, 3) := by decide +kernel
theorem dX1_setWhere_22 : decode cX1_setWhere 22 = .ok (.aload_n 0, 1) := by decide +kernel
theorem dX1_setWhere_23 : decode cX1_setWhere 23 = .ok (.iload_n 1, 1) := by decide +kernel
theorem dX1_setWhere_24 : decode cX1_setWhere 24 = .ok (.iconst 5, 1) := by decide +kernel
theorem dX1_setWhere_25 : decode cX1_setWhere 25 = .ok (.iconst 0, 1) := by decide +kernel
theorem dX1_setWhere_26 : decode cX1_setWhere 26 = .ok (.invokevirtual 93, 3) := by decide +kernel
theorem dX1_setWhere_29 : decode cX1_setWhere 29 = .ok (.aload_n 0, 1) := by decide +kernel
theorem dX1_setWhere_30 : decode cX1_setWhere 30 = .ok (.iload_n 1, 1) := by decide +kernel
theorem dX1_setWhere_31 : decode cX1_setWhere 31 = .ok (.bipush 6, 2) := by decide +kernel
theorem dX1_setWhere_33 : decode cX1_setWhere 33 = .ok (.iconst 0, 1) := by decide +kernel
theorem dX1_setWhere_34 : decode cX1_setWhere 34 = .ok (.invokevirtual 93, 3) := by decide +kernel
theorem dX1_setWhere_37 : decode cX1_setWhere 37 = .ok (.return_, 1) := by decide +kernel
set_option maxRecDepth 20000 in
theorem k_X1_setWhere (d : Nat) {T : CT} {σ : MS} {a : Nat} {k : Int} {y : Int} {z : Int} (ha : OB T a 1) (h_k : -2147483648 ≤ k ∧ k ≤ 2147483647) (h_y : -2147483648 ≤ y ∧ y ≤ 2147483647) (h_z : -2147483648 ≤ z ∧ z ≤ 2147483647) (hw : WT T σ) : Tn (d + 2) m_X1_setWhere 0 T σ [(0, .ref a), (1, .int (iI k)), (2, .int (iI y)), (3, .int (iI z))] [] (fun ro T2 σ2 => ro = none ∧ T = T2 ∧ WT T2 σ2 ∧ FrC T [] σ σ2) := by
  refine tn_aload_n dX1_setWhere_0 rfl 0 rfl ?_
  refine tn_iload_n dX1_setWhere_1 rfl 1 rfl ?_
  refine tn_bipush dX1_setWhere_2 (by decide) ?_
  refine tn_iload_n dX1_setWhere_4 rfl 2 rfl ?_
  refine tn_callV (M := m_X1_setWhere) (pc := 5) (ix := 93) (ci := 1) (M' := m_X1_set) (As := [.int (iI k), .int (iI 11), .int (iI y)]) (rest := []) dX1_setWhere_5 ok_X1_set im_X1_set se_X1_set ml1_93 np_X1_set rfl rfl ha rfl (Nat.le_of_ble_eq_true rfl) (Nat.le_of_ble_eq_true rfl) rfl (k_X1_set (d) (T := T) (σ := σ) (a := a) (k := k) (c := 11) (y := y) ha (by omega) (by decide) (by omega) hw (by omega) (by omega)) (fun r1 T3 σ2 gt4 hp => ?_)
  obtain ⟨rfl, rfl, w6, F7⟩ := hp
  clear gt4
  show Tn _ _ 8 T σ2 [(0, .ref a), (1, .int (iI k)), (2, .int (iI y)), (3, .int (iI z))] [] _
  refine tn_aload_n dX1_setWhere_8 rfl 0 rfl ?_
  refine tn_iload_n dX1_setWhere_9 rfl 1 rfl ?_
  refine tn_iconst dX1_setWhere_10 ?_
  refine tn_iconst dX1_setWhere_11 ?_
  refine tn_callV (M := m_X1_setWhere) (pc := 12) (ix := 93) (ci := 1) (M' := m_X1_set) (As := [.int (iI k), .int (iI 3), .int (iI 0)]) (rest := []) dX1_setWhere_12 ok_X1_set im_X1_set se_X1_set ml1_93 np_X1_set rfl rfl ha rfl (Nat.le_of_ble_eq_true rfl) (Nat.le_of_ble_eq_true rfl) rfl (k_X1_set (d) (T := T) (σ := σ2) (a := a) (k := k) (c := 3) (y := 0) ha (by omega) (by decide) (by decide) w6 (by omega) (by omega)) (fun r8 T10 σ9 gt11 hp => ?_)
  obtain ⟨rfl, rfl, w13, F14⟩ := hp
  clear gt11
  show Tn _ _ 15 T σ9 [(0, .ref a), (1, .int (iI k)), (2, .int (iI y)), (3, .int (iI z))] [] _
  refine tn_aload_n dX1_setWhere_15 rfl 0 rfl ?_
  refine tn_iload_n dX1_setWhere_16 rfl 1 rfl ?_
  refine tn_iconst dX1_setWhere_17 ?_
  refine tn_iload_n dX1_setWhere_18 rfl 3 rfl ?_
  refine tn_callV (M := m_X1_setWhere) (pc := 19) (ix := 93) (ci := 1) (M' := m_X1_set) (As := [.int (iI k), .int (iI 4), .int (iI z)]) (rest := []) dX1_setWhere_19 ok_X1_set im_X1_set se_X1_set ml1_93 np_X1_set rfl rfl ha rfl (Nat.le_of_ble_eq_true rfl) (Nat.le_of_ble_eq_true rfl) rfl (k_X1_set (d) (T := T) (σ := σ9) (a := a) (k := k) (c := 4) (y := z) ha (by omega) (by decide) (by omega) w13 (by omega) (by omega)) (fun r15 T17 σ16 gt18 hp => ?_)
  obtain ⟨rfl, rfl, w20, F21⟩ := hp
  clear gt18
  show Tn _ _ 22 T σ16 [(0, .ref a), (1, .int (iI k)), (2, .int (iI y)), (3, .int (iI z))] [] _
  refine tn_aload_n dX1_setWhere_22 rfl 0 rfl ?_
  refine tn_iload_n dX1_setWhere_23 rfl 1 rfl ?_
  refine tn_iconst dX1_setWhere_24 ?_
  refine tn_iconst dX1_setWhere_25 ?_
  refine tn_callV (M := m_X1_setWhere) (pc := 26) (ix := 93) (ci := 1) (M' := m_X1_set) (As := [.int (iI k), .int (iI 5), .int (iI 0)]) (rest := []) dX1_setWhere_26 ok_X1_set im_X1_set se_X1_set ml1_93 np_X1_set rfl rfl ha rfl (Nat.le_of_ble_eq_true rfl) (Nat.le_of_ble_eq_true rfl) rfl (k_X1_set (d) (T := T) (σ := σ16) (a := a) (k := k) (c := 5) (y := 0) ha (by omega) (by decide) (by decide) w20 (by omega) (by omega)) (fun r22 T24 σ23 gt25 hp => ?_)
  obtain ⟨rfl, rfl, w27, F28⟩ := hp
  clear gt25
  show Tn _ _ 29 T σ23 [(0, .ref a), (1, .int (iI k)), (2, .int (iI y)), (3, .int (iI z))] [] _
  refine tn_aload_n dX1_setWhere_29 rfl 0 rfl ?_
  refine tn_iload_n dX1_setWhere_30 rfl 1 rfl ?_
  refine tn_bipush dX1_setWhere_31 (by decide) ?_
  refine tn_iconst dX1_setWhere_33 ?_
  refine tn_callV (M := m_X1_setWhere) (pc := 34) (ix := 93) (ci := 1) (M' := m_X1_set) (As := [.int (iI k), .int (iI 6), .int (iI 0)]) (rest := []) dX1_setWhere_34 ok_X1_set im_X1_set se_X1_set ml1_93 np_X1_set rfl rfl ha rfl (Nat.le_of_ble_eq_true rfl) (Nat.le_of_ble_eq_true rfl) rfl (k_X1_set (d) (T := T) (σ := σ23) (a := a) (k := k) (c := 6) (y := 0) ha (by omega) (by decide) (by decide) w27 (by omega) (by omega)) (fun r29 T31 σ30 gt32 hp => ?_)
  obtain ⟨rfl, rfl, w34, F35⟩ := hp
  clear gt32
  show Tn _ _ 37 T σ30 [(0, .ref a), (1, .int (iI k)), (2, .int (iI y)), (3, .int (iI z))] [] _
  exact tn_vret rfl dX1_setWhere_37 ⟨rfl, rfl, w34, (((((FrC.rfl.trans (FrC.sub F7 (by decide))).trans (FrC.sub F14 (by decide))).trans (FrC.sub F21 (by decide))).trans (FrC.sub F28 (by decide))).trans (FrC.sub F35 (by decide)))⟩
