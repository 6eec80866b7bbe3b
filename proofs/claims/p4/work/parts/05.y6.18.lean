theorem cd_X1_becomeCopy : Cond.code yX1_becomeCopy cX1_becomeCopy 4 none ∈ pWW := pw4 (List.mem_of_getElem? (i := 215) rfl) rfl
abbrev m_X1_becomeCopy : MT := (yX1_becomeCopy, cX1_becomeCopy, 4, none)
theorem ok_X1_becomeCopy : pOk m_X1_becomeCopy := ⟨⟨cd_X1_becomeCopy, ini_1⟩, by decide +kernel, ⟨by decide +kernel, by decide +kernel⟩, Nat.le_of_ble_eq_true rfl⟩
theorem np_X1_becomeCopy : (parseMethodDescriptor yX1_becomeCopy.desc).map (fun d => d.parameters.length) = some 3 := by decide +kernel
theorem im_X1_becomeCopy : Cond.instanceMethod yX1_becomeCopy ∈ pWW := pw4 (List.mem_of_getElem? (i := 213) rfl) rfl
theorem se_X1_becomeCopy : Cond.selects RX1 yX1_becomeCopy yX1_becomeCopy ∈ pWW := pw4 (List.mem_of_getElem? (i := 214) rfl) rfl
theorem dX1_becomeCopy_0 : decode cX1_becomeCopy 0 = .ok (.aload_n 0, 1) := by decide +kernel
theorem dX1_becomeCopy_1 : decode cX1_becomeCopy 1 = .ok (.iload_n 1, 1) := by decide +kernel
theorem dX1_becomeCopy_2 : decode cX1_becomeCopy 2 = .ok (.iconst 0, 1) := by decide +kernel
theorem dX1_becomeCopy_3 : decode cX1_becomeCopy 3 = .ok (.iconst 0, 1) := by decide +kernel
theorem dX1_becomeCopy_4 : decode cX1_becomeCopy 4 = .ok (.invokevirtual 93, 3) := by decide +kernel
theorem dX1_becomeCopy_7 : decode cX1_becomeCopy 7 = .ok (.aload_n 0, 1) := by decide +kernel
theorem dX1_becomeCopy_8 : decode cX1_becomeCopy 8 = .ok (.iload_n 1, 1) := by decide +kernel
theorem dX1_becomeCopy_9 : decode cX1_becomeCopy 9 = .ok (.iconst 3, 1) := by decide +kernel
theorem dX1_becomeCopy_10 : decode cX1_becomeCopy 10 = .ok (.iload_n 2, 1) := by decide +kernel
theorem dX1_becomeCopy_11 : decode cX1_becomeCopy 11 = .ok (.invokevirtual 93, 3) := by decide +kernel
theorem dX1_becomeCopy_14 : decode cX1_becomeCopy 14 = .ok (.aload_n 0, 1) := by decide +kernel
theorem dX1_becomeCopy_15 : decode cX1_becomeCopy 15 = .ok (.iload_n 1, 1) := by decide +kernel
theorem dX1_becomeCopy_16 : decode cX1_becomeCopy 16 = .ok (.iconst 4, 1) := by decide +kernel
theorem dX1_becomeCopy_17 : decode cX1_becomeCopy 17 = .ok (.iload_n 3, 1) := by decide +kernel
theorem dX1_becomeCopy_18 : decode cX1_becomeCopy 18 = .ok (.invokevirtual 93, 3) := by decide +kernel
theorem dX1_becomeCopy_21 : decode cX1_becomeCopy 21 = .ok (.aload_n 0, 1) := by decide +kernel
theorem dX1_becomeCopy_22 : decode cX1_becomeCopy 22 = .ok (.iload_n 1, 1) := by decide +kernel
theorem dX1_becomeCopy_23 : decode cX1_becomeCopy 23 = .ok (.iconst 5, 1) := by decide +kernel
theorem dX1_becomeCopy_24 : decode cX1_becomeCopy 24 = .ok (.iconst 0, 1) := by decide +kernel
theorem dX1_becomeCopy_25 : decode cX1_becomeCopy 25 = .ok (.invokevirtual 93, 3) := by decide +kernel
theorem dX1_becomeCopy_28 : decode cX1_becomeCopy 28 = .ok (.aload_n 0, 1) := by decide +kernel
theorem dX1_becomeCopy_29 : decode cX1_becomeCopy 29 = .ok (.iload_n 1, 1) := by decide +kernel
theorem dX1_becomeCopy_30 : decode cX1_becomeCopy 30 = .ok (.bipush 6, 2) := by decide +kernel
theorem dX1_becomeCopy_32 : decode cX1_becomeCopy 32 = .ok (.iconst 0, 1) := by decide +kernel
theorem dX1_becomeCopy_33 : decode cX1_becomeCopy 33 = .ok (.invokevirtual 93, 3) := by decide +kernel
theorem dX1_becomeCopy_36 : decode cX1_becomeCopy 36 = .ok (.return_, 1) := by decide +kernel
set_option maxRecDepth 20000 in
theorem k_X1_becomeCopy (d : Nat) {T : CT} {σ : MS} {a : Nat} {k : Int} {y : Int} {z : Int} (ha : OB T a 1) (hta : (T a).1 = 50) (h_k : -2147483648 ≤ k ∧ k ≤ 2147483647) (h_y : -2147483648 ≤ y ∧ y ≤ 2147483647) (h_z : -2147483648 ≤ z ∧ z ≤ 2147483647) (hw : WT T σ) : Tn (d + 2) m_X1_becomeCopy 0 T σ [(0, .ref a), (1, .int (iI k)), (2, .int (iI y)), (3, .int (iI z))] [] (fun ro T2 σ2 => ro = none ∧ T = T2 ∧ WT T2 σ2 ∧ FrC T [] σ σ2) := by
  refine tn_aload_n dX1_becomeCopy_0 rfl 0 rfl ?_
  refine tn_iload_n dX1_becomeCopy_1 rfl 1 rfl ?_
  refine tn_iconst dX1_becomeCopy_2 ?_
  refine tn_iconst dX1_becomeCopy_3 ?_
  refine tn_callV (M := m_X1_becomeCopy) (pc := 4) (ix := 93) (ci := 1) (M' := m_X1_set) (As := [.int (iI k), .int (iI 0), .int (iI 0)]) (rest := []) dX1_becomeCopy_4 ok_X1_set im_X1_set se_X1_set ml1_93 np_X1_set rfl rfl ha rfl (Nat.le_of_ble_eq_true rfl) (Nat.le_of_ble_eq_true rfl) rfl (k_X1_set (d) (T := T) (σ := σ) (a := a) (k := k) (c := 0) (y := 0) ha (by omega) (by decide) (by decide) hw (by omega) (by omega)) (fun r1 T3 σ2 gt4 hp => ?_)
  obtain ⟨rfl, rfl, w6, F7⟩ := hp
  clear gt4
  show Tn _ _ 7 T σ2 [(0, .ref a), (1, .int (iI k)), (2, .int (iI y)), (3, .int (iI z))] [] _
  refine tn_aload_n dX1_becomeCopy_7 rfl 0 rfl ?_
  refine tn_iload_n dX1_becomeCopy_8 rfl 1 rfl ?_
  refine tn_iconst dX1_becomeCopy_9 ?_
  refine tn_iload_n dX1_becomeCopy_10 rfl 2 rfl ?_
  refine tn_callV (M := m_X1_becomeCopy) (pc := 11) (ix := 93) (ci := 1) (M' := m_X1_set) (As := [.int (iI k), .int (iI 3), .int (iI y)]) (rest := []) dX1_becomeCopy_11 ok_X1_set im_X1_set se_X1_set ml1_93 np_X1_set rfl rfl ha rfl (Nat.le_of_ble_eq_true rfl) (Nat.le_of_ble_eq_true rfl) rfl (k_X1_set (d) (T := T) (σ := σ2) (a := a) (k := k) (c := 3) (y := y) ha (by omega) (by decide) (by omega) w6 (by omega) (by omega)) (fun r8 T10 σ9 gt11 hp => ?_)
  obtain ⟨rfl, rfl, w13, F14⟩ := hp
  clear gt11
  show Tn _ _ 14 T σ9 [(0, .ref a), (1, .int (iI k)), (2, .int (iI y)), (3, .int (iI z))] [] _
  refine tn_aload_n dX1_becomeCopy_14 rfl 0 rfl ?_
  refine tn_iload_n dX1_becomeCopy_15 rfl 1 rfl ?_
  refine tn_iconst dX1_becomeCopy_16 ?_
  refine tn_iload_n dX1_becomeCopy_17 rfl 3 rfl ?_
  refine tn_callV (M := m_X1_becomeCopy) (pc := 18) (ix := 93) (ci := 1) (M' := m_X1_set) (As := [.int (iI k), .int (iI 4), .int (iI z)]) (rest := []) dX1_becomeCopy_18 ok_X1_set im_X1_set se_X1_set ml1_93 np_X1_set rfl rfl ha rfl (Nat.le_of_ble_eq_true rfl) (Nat.le_of_ble_eq_true rfl) rfl (k_X1_set (d) (T := T) (σ := σ9) (a := a) (k := k) (c := 4) (y := z) ha (by omega) (by decide) (by omega) w13 (by omega) (by omega)) (fun r15 T17 σ16 gt18 hp => ?_)
  obtain ⟨rfl, rfl, w20, F21⟩ := hp
  clear gt18
  show Tn _ _ 21 T σ16 [(0, .ref a), (1, .int (iI k)), (2, .int (iI y)), (3, .int (iI z))] [] _
  refine tn_aload_n dX1_becomeCopy_21 rfl 0 rfl ?_
  refine tn_iload_n dX1_becomeCopy_22 rfl 1 rfl ?_
  refine tn_iconst dX1_becomeCopy_23 ?_
  refine tn_iconst dX1_becomeCopy_24 ?_
  refine tn_callV (M := m_X1_becomeCopy) (pc := 25) (ix := 93) (ci := 1) (M' := m_X1_set) (As := [.int (iI k), .int (iI 5), .int (iI 0)]) (rest := []) dX1_becomeCopy_25 ok_X1_set im_X1_set se_X1_set ml1_93 np_X1_set rfl rfl ha rfl (Nat.le_of_ble_eq_true rfl) (Nat.le_of_ble_eq_true rfl) rfl (k_X1_set (d) (T := T) (σ := σ16) (a := a) (k := k) (c := 5) (y := 0) ha (by omega) (by decide) (by decide) w20 (by omega) (by omega)) (fun r22 T24 σ23 gt25 hp => ?_)
  obtain ⟨rfl, rfl, w27, F28⟩ := hp
  clear gt25
  show Tn _ _ 28 T σ23 [(0, .ref a), (1, .int (iI k)), (2, .int (iI y)), (3, .int (iI z))] [] _
  refine tn_aload_n dX1_becomeCopy_28 rfl 0 rfl ?_
  refine tn_iload_n dX1_becomeCopy_29 rfl 1 rfl ?_
  refine tn_bipush dX1_becomeCopy_30 (by decide) ?_
  refine tn_iconst dX1_becomeCopy_32 ?_
  refine tn_callV (M := m_X1_becomeCopy) (pc := 33) (ix := 93) (ci := 1) (M' := m_X1_set) (As := [.int (iI k), .int (iI 6), .int (iI 0)]) (rest := []) dX1_becomeCopy_33 ok_X1_set im_X1_set se_X1_set ml1_93 np_X1_set rfl rfl ha rfl (Nat.le_of_ble_eq_true rfl) (Nat.le_of_ble_eq_true rfl) rfl (k_X1_set (d) (T := T) (σ := σ23) (a := a) (k := k) (c := 6) (y := 0) ha (by omega) (by decide) (by decide) w27 (by omega) (by omega)) (fun r29 T31 σ30 gt32 hp => ?_)
  obtain ⟨rfl, rfl, w34, F35⟩ := hp
  clear gt32
  show Tn _ _ 36 T σ30 [(0, .ref a), (1, .int (iI k)), (2, .int (iI y)), (3, .int (iI z))] [] _
  exact tn_vret rfl dX1_becomeCopy_36 ⟨rfl, rfl, w34, (((((FrC.rfl.trans (FrC.sub F7 (by decide))).trans (FrC.sub F14 (by decide))).trans (FrC.sub F21 (by decide))).trans (FrC.sub F28 (by decide))).trans (FrC.sub F35 (by decide)))⟩
