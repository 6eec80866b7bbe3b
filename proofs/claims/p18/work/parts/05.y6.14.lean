section
theorem cd_X1_leansOn : Cond.code yX1_leansOn cX1_leansOn 4 (some .boolean) ∈ pWW := pw4 (List.mem_of_getElem? (i := 147) rfl) rfl
abbrev m_X1_leansOn : MT := (yX1_leansOn, cX1_leansOn, 4, (some .boolean))
theorem ok_X1_leansOn : pOk m_X1_leansOn := ⟨⟨cd_X1_leansOn, ini_1⟩, by decide +kernel, ⟨by decide +kernel, by decide +kernel⟩, Nat.le_of_ble_eq_true rfl⟩
theorem np_X1_leansOn : (parseMethodDescriptor yX1_leansOn.desc).map (fun d => d.parameters.length) = some 2 := by decide +kernel
theorem im_X1_leansOn : Cond.instanceMethod yX1_leansOn ∈ pWW := pw4 (List.mem_of_getElem? (i := 145) rfl) rfl
theorem se_X1_leansOn : Cond.selects RX1 yX1_leansOn yX1_leansOn ∈ pWW := pw4 (List.mem_of_getElem? (i := 146) rfl) rfl
theorem dX1_leansOn_0 : decode cX1_leansOn 0 = .ok (.aload_n 0, 1) := by decide +kernel
theorem dX1_leansOn_1 : decode cX1_leansOn 1 = .ok (.iload_n 1, 1) := by decide +kernel
theorem dX1_leansOn_2 : decode cX1_leansOn 2 = .ok (.invokevirtual 97, 3) := by decide +kernel
theorem dX1_leansOn_5 : decode cX1_leansOn 5 = .ok (.bipush 12, 2) := by decide +kernel
theorem dX1_leansOn_7 : decode cX1_leansOn 7 = .ok (.if_icmp .eq 5, 3) := by decide +kernel
theorem dX1_leansOn_12 : decode cX1_leansOn 12 = .ok (.aload_n 0, 1) := by decide +kernel
theorem dX1_leansOn_13 : decode cX1_leansOn 13 = .ok (.iload_n 1, 1) := by decide +kernel
theorem dX1_leansOn_14 : decode cX1_leansOn 14 = .ok (.bipush 11, 2) := by decide +kernel
theorem dX1_leansOn_16 : decode cX1_leansOn 16 = .ok (.invokevirtual 86, 3) := by decide +kernel
theorem dX1_leansOn_19 : decode cX1_leansOn 19 = .ok (.istore_n 3, 1) := by decide +kernel
theorem dX1_leansOn_20 : decode cX1_leansOn 20 = .ok (.iload_n 3, 1) := by decide +kernel
theorem dX1_leansOn_21 : decode cX1_leansOn 21 = .ok (.iconst 2, 1) := by decide +kernel
theorem dX1_leansOn_22 : decode cX1_leansOn 22 = .ok (.if_icmp .ne 19, 3) := by decide +kernel
theorem dX1_leansOn_41 : decode cX1_leansOn 41 = .ok (.aload_n 0, 1) := by decide +kernel
theorem dX1_leansOn_42 : decode cX1_leansOn 42 = .ok (.iload_n 1, 1) := by decide +kernel
theorem dX1_leansOn_43 : decode cX1_leansOn 43 = .ok (.iconst 3, 1) := by decide +kernel
theorem dX1_leansOn_44 : decode cX1_leansOn 44 = .ok (.invokevirtual 86, 3) := by decide +kernel
theorem dX1_leansOn_47 : decode cX1_leansOn 47 = .ok (.iconst 2, 1) := by decide +kernel
theorem dX1_leansOn_48 : decode cX1_leansOn 48 = .ok (.if_icmp .ne 13, 3) := by decide +kernel
theorem dX1_leansOn_61 : decode cX1_leansOn 61 = .ok (.aload_n 0, 1) := by decide +kernel
theorem dX1_leansOn_62 : decode cX1_leansOn 62 = .ok (.iload_n 1, 1) := by decide +kernel
theorem dX1_leansOn_63 : decode cX1_leansOn 63 = .ok (.iconst 5, 1) := by decide +kernel
theorem dX1_leansOn_64 : decode cX1_leansOn 64 = .ok (.invokevirtual 86, 3) := by decide +kernel
theorem dX1_leansOn_67 : decode cX1_leansOn 67 = .ok (.iconst 2, 1) := by decide +kernel
theorem dX1_leansOn_68 : decode cX1_leansOn 68 = .ok (.if_icmp .ne 18, 3) := by decide +kernel
theorem dX1_leansOn_86 : decode cX1_leansOn 86 = .ok (.iconst 0, 1) := by decide +kernel
theorem dX1_leansOn_87 : decode cX1_leansOn 87 = .ok (.ireturn, 1) := by decide +kernel
theorem dX1_leansOn_71 : decode cX1_leansOn 71 = .ok (.aload_n 0, 1) := by decide +kernel
theorem dX1_leansOn_72 : decode cX1_leansOn 72 = .ok (.iload_n 1, 1) := by decide +kernel
theorem dX1_leansOn_73 : decode cX1_leansOn 73 = .ok (.bipush 6, 2) := by decide +kernel
theorem dX1_leansOn_75 : decode cX1_leansOn 75 = .ok (.invokevirtual 86, 3) := by decide +kernel
theorem dX1_leansOn_78 : decode cX1_leansOn 78 = .ok (.iload_n 2, 1) := by decide +kernel
theorem dX1_leansOn_79 : decode cX1_leansOn 79 = .ok (.if_icmp .ne 7, 3) := by decide +kernel
theorem dX1_leansOn_82 : decode cX1_leansOn 82 = .ok (.iconst 1, 1) := by decide +kernel
theorem dX1_leansOn_83 : decode cX1_leansOn 83 = .ok (.goto 4, 3) := by decide +kernel
theorem dX1_leansOn_51 : decode cX1_leansOn 51 = .ok (.aload_n 0, 1) := by decide +kernel
theorem dX1_leansOn_52 : decode cX1_leansOn 52 = .ok (.iload_n 1, 1) := by decide +kernel
theorem dX1_leansOn_53 : decode cX1_leansOn 53 = .ok (.iconst 4, 1) := by decide +kernel
theorem dX1_leansOn_54 : decode cX1_leansOn 54 = .ok (.invokevirtual 86, 3) := by decide +kernel
theorem dX1_leansOn_57 : decode cX1_leansOn 57 = .ok (.iload_n 2, 1) := by decide +kernel
theorem dX1_leansOn_58 : decode cX1_leansOn 58 = .ok (.if_icmp .eq 24, 3) := by decide +kernel
theorem dX1_leansOn_25 : decode cX1_leansOn 25 = .ok (.aload_n 0, 1) := by decide +kernel
theorem dX1_leansOn_26 : decode cX1_leansOn 26 = .ok (.iload_n 1, 1) := by decide +kernel
theorem dX1_leansOn_27 : decode cX1_leansOn 27 = .ok (.iconst 4, 1) := by decide +kernel
theorem dX1_leansOn_28 : decode cX1_leansOn 28 = .ok (.invokevirtual 86, 3) := by decide +kernel
theorem dX1_leansOn_31 : decode cX1_leansOn 31 = .ok (.iload_n 2, 1) := by decide +kernel
theorem dX1_leansOn_32 : decode cX1_leansOn 32 = .ok (.if_icmp .ne 7, 3) := by decide +kernel
theorem dX1_leansOn_39 : decode cX1_leansOn 39 = .ok (.iconst 0, 1) := by decide +kernel
theorem dX1_leansOn_40 : decode cX1_leansOn 40 = .ok (.ireturn, 1) := by decide +kernel
theorem dX1_leansOn_35 : decode cX1_leansOn 35 = .ok (.iconst 1, 1) := by decide +kernel
theorem dX1_leansOn_36 : decode cX1_leansOn 36 = .ok (.goto 4, 3) := by decide +kernel
theorem dX1_leansOn_10 : decode cX1_leansOn 10 = .ok (.iconst 0, 1) := by decide +kernel
theorem dX1_leansOn_11 : decode cX1_leansOn 11 = .ok (.ireturn, 1) := by decide +kernel
end
section
theorem cd_X1_setWhere : Cond.code yX1_setWhere cX1_setWhere 4 none ∈ pWW := pw3 (List.mem_of_getElem? (i := 201) rfl) rfl
abbrev m_X1_setWhere : MT := (yX1_setWhere, cX1_setWhere, 4, none)
theorem ok_X1_setWhere : pOk m_X1_setWhere := ⟨⟨cd_X1_setWhere, ini_1⟩, by decide +kernel, ⟨by decide +kernel, by decide +kernel⟩, Nat.le_of_ble_eq_true rfl⟩
theorem np_X1_setWhere : (parseMethodDescriptor yX1_setWhere.desc).map (fun d => d.parameters.length) = some 3 := by decide +kernel
theorem im_X1_setWhere : Cond.instanceMethod yX1_setWhere ∈ pWW := pw3 (List.mem_of_getElem? (i := 199) rfl) rfl
theorem se_X1_setWhere : Cond.selects RX1 yX1_setWhere yX1_setWhere ∈ pWW := pw3 (List.mem_of_getElem? (i := 200) rfl) rfl
theorem dX1_setWhere_0 : decode cX1_setWhere 0 = .ok (.aload_n 0, 1) := by decide +kernel
theorem dX1_setWhere_1 : decode cX1_setWhere 1 = .ok (.iload_n 1, 1) := by decide +kernel
theorem dX1_setWhere_2 : decode cX1_setWhere 2 = .ok (.bipush 11, 2) := by decide +kernel
theorem dX1_setWhere_4 : decode cX1_setWhere 4 = .ok (.iload_n 2, 1) := by decide +kernel
theorem dX1_setWhere_5 : decode cX1_setWhere 5 = .ok (.invokevirtual 93, 3) := by decide +kernel
theorem dX1_setWhere_8 : decode cX1_setWhere 8 = .ok (.aload_n 0, 1) := by decide +kernel
theorem dX1_setWhere_9 : decode cX1_setWhere 9 = .ok (.iload_n 1, 1) := by decide +kernel
theorem dX1_setWhere_10 : decode cX1_setWhere 10 = .ok (.iconst 3, 1) := by decide +kernel
theorem dX1_setWhere_11 : decode cX1_setWhere 11 = .ok (.iconst 0, 1) := by decide +kernel
theorem dX1_setWhere_12 : decode cX1_setWhere 12 = .ok (.invokevirtual 93, 3) := by decide +kernel
theorem dX1_setWhere_15 : decode cX1_setWhere 15 = .ok (.aload_n 0, 1) := by decide +kernel
theorem dX1_setWhere_16 : decode cX1_setWhere 16 = .ok (.iload_n 1, 1) := by decide +kernel
theorem dX1_setWhere_17 : decode cX1_setWhere 17 = .ok (.iconst 4, 1) := by decide +kernel
theorem dX1_setWhere_18 : decode cX1_setWhere 18 = .ok (.iload_n 3, 1) := by decide +kernel
theorem dX1_setWhere_19 : decode cX1_setWhere 19 = .ok (.invokevirtual 93, 3) := by decide +kernel
theorem dX1_setWhere_22 : decode cX1_setWhere 22 = .ok (.aload_n 0, 1) := by decide +kernel
theorem dX1_setWhere_23 : decode cX1_setWhere 23 = .ok (.iload_n 1, 1) := by decide +kernel
theorem dX1_setWhere_24 : decode cX1_setWhere 24 = .ok (.iconst 5, 1) := by decide +kernel
theorem dX1_setWhere_25 : decode cX1_setWhere 25 = .ok (.iconst 0, 1) := by decide +kernel
theorem dX1_setWhere_26 : decode cX1_setWhere 26 = .ok (.invokevirtual 93, 3) := by decide +kernel
theorem dX1_setWhere_29 : decode cX1_setWhere 29 = .ok (.aload_n 0, 1) := by decide +kernel
theorem dX1_setWhere_30 : decode cX1_setWhere 30 = .ok (.iload_n 1, 1) := by decide +kernel
theorem dX1_setWhere_31 : decode cX1_setWhere 31 = .ok (.bipush 6, 2) := by decide +kernel
theorem dX1_setWhere_33 : decode cX1_setWhere 33 = .ok (.iconst 0, 1) := by decide +kernel
theorem dX1_setWhere_34 : decode cX1_setWhere 34 = .ok (.invokevirtual 93, 3) := by decide +kernel
theorem dX1_setWhere_37 : decode cX1_setWhere 37 = .ok (.return_, 1) := by decide +kernel
set_option maxRecDepth 20000 in
theorem k_X1_setWhere (d : Nat) {T : CT} {σ : MS} {a : Nat} {k : Int} {y : Int} {z : Int} (ha : OB T a 1) (h_k : -2147483648 ≤ k ∧ k ≤ 2147483647) (h_y : -2147483648 ≤ y ∧ y ≤ 2147483647) (h_z : -2147483648 ≤ z ∧ z ≤ 2147483647) (hw : WT T σ) : Tn (d + 2) m_X1_setWhere 0 T σ [(0, .ref a), (1, .int (iI k)), (2, .int (iI y)), (3, .int (iI z))] [] (fun ro T2 σ2 => ro = none ∧ T = T2 ∧ WT T2 σ2 ∧ FrC T [] σ σ2) := by
  refine tn_aload_n dX1_setWhere_0 rfl 0 rfl ?_
  refine tn_iload_n dX1_setWhere_1 rfl 1 rfl ?_
  refine tn_bipush dX1_setWhere_2 (by decide) ?_
  refine tn_iload_n dX1_setWhere_4 rfl 2 rfl ?_
  refine tn_callV (M := m_X1_setWhere) (pc := 5) (ix := 93) (ci := 1) (M' := m_X1_set) (As := [.int (iI k), .int (iI 11), .int (iI y)]) (rest := []) dX1_setWhere_5 ok_X1_set im_X1_set se_X1_set ml1_93 np_X1_set rfl rfl ha rfl (Nat.le_of_ble_eq_true rfl) (Nat.le_of_ble_eq_true rfl) rfl (k_X1_set (d) (T := T) (σ := σ) (a := a) (k := k) (c := 11) (y := y) ha (by omega) (by decide) (by omega) hw (by omega) (by omega)) (fun r1 T3 σ2 gt4 hp => ?_)
  obtain ⟨rfl, rfl, w6, F7⟩ := hp
  clear gt4
  show Tn _ _ 8 T σ2 [(0, .ref a), (1, .int (iI k)), (2, .int (iI y)), (3, .int (iI z))] [] _
  refine tn_aload_n dX1_setWhere_8 rfl 0 rfl ?_
  refine tn_iload_n dX1_setWhere_9 rfl 1 rfl ?_
  refine tn_iconst dX1_setWhere_10 ?_
  refine tn_iconst dX1_setWhere_11 ?_
  refine tn_callV (M := m_X1_setWhere) (pc := 12) (ix := 93) (ci := 1) (M' := m_X1_set) (As := [.int (iI k), .int (iI 3), .int (iI 0)]) (rest := []) dX1_setWhere_12 ok_X1_set im_X1_set se_X1_set ml1_93 np_X1_set rfl rfl ha rfl (Nat.le_of_ble_eq_true rfl) (Nat.le_of_ble_eq_true rfl) rfl (k_X1_set (d) (T := T) (σ := σ2) (a := a) (k := k) (c := 3) (y := 0) ha (by omega) (by decide) (by decide) w6 (by omega) (by omega)) (fun r8 T10 σ9 gt11 hp => ?_)
  obtain ⟨rfl, rfl, w13, F14⟩ := hp
  clear gt11
  show Tn _ _ 15 T σ9 [(0, .ref a), (1, .int (iI k)), (2, .int (iI y)), (3, .int (iI z))] [] _
  refine tn_aload_n dX1_setWhere_15 rfl 0 rfl ?_
  refine tn_iload_n dX1_setWhere_16 rfl 1 rfl ?_
  refine tn_iconst dX1_setWhere_17 ?_
  refine tn_iload_n dX1_setWhere_18 rfl 3 rfl ?_
  refine tn_callV (M := m_X1_setWhere) (pc := 19) (ix := 93) (ci := 1) (M' := m_X1_set) (As := [.int (iI k), .int (iI 4), .int (iI z)]) (rest := []) dX1_setWhere_19 ok_X1_set im_X1_set se_X1_set ml1_93 np_X1_set rfl rfl ha rfl (Nat.le_of_ble_eq_true rfl) (Nat.le_of_ble_eq_true rfl) rfl (k_X1_set (d) (T := T) (σ := σ9) (a := a) (k := k) (c := 4) (y := z) ha (by omega) (by decide) (by omega) w13 (by omega) (by omega)) (fun r15 T17 σ16 gt18 hp => ?_)
  obtain ⟨rfl, rfl, w20, F21⟩ := hp
  clear gt18
  show Tn _ _ 22 T σ16 [(0, .ref a), (1, .int (iI k)), (2, .int (iI y)), (3, .int (iI z))] [] _
  refine tn_aload_n dX1_setWhere_22 rfl 0 rfl ?_
  refine tn_iload_n dX1_setWhere_23 rfl 1 rfl ?_
  refine tn_iconst dX1_setWhere_24 ?_
  refine tn_iconst dX1_setWhere_25 ?_
  refine tn_callV (M := m_X1_setWhere) (pc := 26) (ix := 93) (ci := 1) (M' := m_X1_set) (As := [.int (iI k), .int (iI 5), .int (iI 0)]) (rest := []) dX1_setWhere_26 ok_X1_set im_X1_set se_X1_set ml1_93 np_X1_set rfl rfl ha rfl (Nat.le_of_ble_eq_true rfl) (Nat.le_of_ble_eq_true rfl) rfl (k_X1_set (d) (T := T) (σ := σ16) (a := a) (k := k) (c := 5) (y := 0) ha (by omega) (by decide) (by decide) w20 (by omega) (by omega)) (fun r22 T24 σ23 gt25 hp => ?_)
  obtain ⟨rfl, rfl, w27, F28⟩ := hp
  clear gt25
  show Tn _ _ 29 T σ23 [(0, .ref a), (1, .int (iI k)), (2, .int (iI y)), (3, .int (iI z))] [] _
  refine tn_aload_n dX1_setWhere_29 rfl 0 rfl ?_
  refine tn_iload_n dX1_setWhere_30 rfl 1 rfl ?_
  refine tn_bipush dX1_setWhere_31 (by decide) ?_
  refine tn_iconst dX1_setWhere_33 ?_
  refine tn_callV (M := m_X1_setWhere) (pc := 34) (ix := 93) (ci := 1) (M' := m_X1_set) (As := [.int (iI k), .int (iI 6), .int (iI 0)]) (rest := []) dX1_setWhere_34 ok_X1_set im_X1_set se_X1_set ml1_93 np_X1_set rfl rfl ha rfl (Nat.le_of_ble_eq_true rfl) (Nat.le_of_ble_eq_true rfl) rfl (k_X1_set (d) (T := T) (σ := σ23) (a := a) (k := k) (c := 6) (y := 0) ha (by omega) (by decide) (by decide) w27 (by omega) (by omega)) (fun r29 T31 σ30 gt32 hp => ?_)
  obtain ⟨rfl, rfl, w34, F35⟩ := hp
  clear gt32
  show Tn _ _ 37 T σ30 [(0, .ref a), (1, .int (iI k)), (2, .int (iI y)), (3, .int (iI z))] [] _
  exact tn_vret rfl dX1_setWhere_37 ⟨rfl, rfl, w34, (((((FrC.rfl.trans (FrC.sub F7 (by decide))).trans (FrC.sub F14 (by decide))).trans (FrC.sub F21 (by decide))).trans (FrC.sub F28 (by decide))).trans (FrC.sub F35 (by decide)))⟩
end
section
theorem cd_X1_sameOperands : Cond.code yX1_sameOperands cX1_sameOperands 3 (some .boolean) ∈ pWW := pw4 (List.mem_of_getElem? (i := 128) rfl) rfl
abbrev m_X1_sameOperands : MT := (yX1_sameOperands, cX1_sameOperands, 3, (some .boolean))
theorem ok_X1_sameOperands : pOk m_X1_sameOperands := ⟨⟨cd_X1_sameOperands, ini_1⟩, by decide +kernel, ⟨by decide +kernel, by decide +kernel⟩, Nat.le_of_ble_eq_true rfl⟩
theorem np_X1_sameOperands : (parseMethodDescriptor yX1_sameOperands.desc).map (fun d => d.parameters.length) = some 2 := by decide +kernel
theorem im_X1_sameOperands : Cond.instanceMethod yX1_sameOperands ∈ pWW := pw4 (List.mem_of_getElem? (i := 126) rfl) rfl
theorem se_X1_sameOperands : Cond.selects RX1 yX1_sameOperands yX1_sameOperands ∈ pWW := pw4 (List.mem_of_getElem? (i := 127) rfl) rfl
theorem dX1_sameOperands_0 : decode cX1_sameOperands 0 = .ok (.aload_n 0, 1) := by decide +kernel
theorem dX1_sameOperands_1 : decode cX1_sameOperands 1 = .ok (.iload_n 1, 1) := by decide +kernel
theorem dX1_sameOperands_2 : decode cX1_sameOperands 2 = .ok (.iconst 3, 1) := by decide +kernel
theorem dX1_sameOperands_3 : decode cX1_sameOperands 3 = .ok (.invokevirtual 86, 3) := by decide +kernel
theorem dX1_sameOperands_6 : decode cX1_sameOperands 6 = .ok (.aload_n 0, 1) := by decide +kernel
theorem dX1_sameOperands_7 : decode cX1_sameOperands 7 = .ok (.iload_n 2, 1) := by decide +kernel
theorem dX1_sameOperands_8 : decode cX1_sameOperands 8 = .ok (.iconst 3, 1) := by decide +kernel
theorem dX1_sameOperands_9 : decode cX1_sameOperands 9 = .ok (.invokevirtual 86, 3) := by decide +kernel
theorem dX1_sameOperands_12 : decode cX1_sameOperands 12 = .ok (.if_icmp .ne 54, 3) := by decide +kernel
theorem dX1_sameOperands_66 : decode cX1_sameOperands 66 = .ok (.iconst 0, 1) := by decide +kernel
theorem dX1_sameOperands_67 : decode cX1_sameOperands 67 = .ok (.ireturn, 1) := by decide +kernel
theorem dX1_sameOperands_15 : decode cX1_sameOperands 15 = .ok (.aload_n 0, 1) := by decide +kernel
theorem dX1_sameOperands_16 : decode cX1_sameOperands 16 = .ok (.iload_n 1, 1) := by decide +kernel
theorem dX1_sameOperands_17 : decode cX1_sameOperands 17 = .ok (.iconst 4, 1) := by decide +kernel
theorem dX1_sameOperands_18 : decode cX1_sameOperands 18 = .ok (.invokevirtual 86, 3) := by decide +kernel
theorem dX1_sameOperands_21 : decode cX1_sameOperands 21 = .ok (.aload_n 0, 1) := by decide +kernel
theorem dX1_sameOperands_22 : decode cX1_sameOperands 22 = .ok (.iload_n 2, 1) := by decide +kernel
theorem dX1_sameOperands_23 : decode cX1_sameOperands 23 = .ok (.iconst 4, 1) := by decide +kernel
theorem dX1_sameOperands_24 : decode cX1_sameOperands 24 = .ok (.invokevirtual 86, 3) := by decide +kernel
theorem dX1_sameOperands_27 : decode cX1_sameOperands 27 = .ok (.if_icmp .ne 39, 3) := by decide +kernel
theorem dX1_sameOperands_30 : decode cX1_sameOperands 30 = .ok (.aload_n 0, 1) := by decide +kernel
theorem dX1_sameOperands_31 : decode cX1_sameOperands 31 = .ok (.iload_n 1, 1) := by decide +kernel
theorem dX1_sameOperands_32 : decode cX1_sameOperands 32 = .ok (.iconst 5, 1) := by decide +kernel
theorem dX1_sameOperands_33 : decode cX1_sameOperands 33 = .ok (.invokevirtual 86, 3) := by decide +kernel
theorem dX1_sameOperands_36 : decode cX1_sameOperands 36 = .ok (.aload_n 0, 1) := by decide +kernel
theorem dX1_sameOperands_37 : decode cX1_sameOperands 37 = .ok (.iload_n 2, 1) := by decide +kernel
theorem dX1_sameOperands_38 : decode cX1_sameOperands 38 = .ok (.iconst 5, 1) := by decide +kernel
theorem dX1_sameOperands_39 : decode cX1_sameOperands 39 = .ok (.invokevirtual 86, 3) := by decide +kernel
theorem dX1_sameOperands_42 : decode cX1_sameOperands 42 = .ok (.if_icmp .ne 24, 3) := by decide +kernel
theorem dX1_sameOperands_45 : decode cX1_sameOperands 45 = .ok (.aload_n 0, 1) := by decide +kernel
theorem dX1_sameOperands_46 : decode cX1_sameOperands 46 = .ok (.iload_n 1, 1) := by decide +kernel
theorem dX1_sameOperands_47 : decode cX1_sameOperands 47 = .ok (.bipush 6, 2) := by decide +kernel
theorem dX1_sameOperands_49 : decode cX1_sameOperands 49 = .ok (.invokevirtual 86, 3) := by decide +kernel
theorem dX1_sameOperands_52 : decode cX1_sameOperands 52 = .ok (.aload_n 0, 1) := by decide +kernel
theorem dX1_sameOperands_53 : decode cX1_sameOperands 53 = .ok (.iload_n 2, 1) := by decide +kernel
theorem dX1_sameOperands_54 : decode cX1_sameOperands 54 = .ok (.bipush 6, 2) := by decide +kernel
theorem dX1_sameOperands_56 : decode cX1_sameOperands 56 = .ok (.invokevirtual 86, 3) := by decide +kernel
theorem dX1_sameOperands_59 : decode cX1_sameOperands 59 = .ok (.if_icmp .ne 7, 3) := by decide +kernel
theorem dX1_sameOperands_62 : decode cX1_sameOperands 62 = .ok (.iconst 1, 1) := by decide +kernel
theorem dX1_sameOperands_63 : decode cX1_sameOperands 63 = .ok (.goto 4, 3) := by decide +kernel
end
section
theorem cd_X1_sameWhere : Cond.code yX1_sameWhere cX1_sameWhere 3 (some .boolean) ∈ pWW := pw4 (List.mem_of_getElem? (i := 124) rfl) rfl
abbrev m_X1_sameWhere : MT := (yX1_sameWhere, cX1_sameWhere, 3, (some .boolean))
theorem ok_X1_sameWhere : pOk m_X1_sameWhere := ⟨⟨cd_X1_sameWhere, ini_1⟩, by decide +kernel, ⟨by decide +kernel, by decide +kernel⟩, Nat.le_of_ble_eq_true rfl⟩
theorem np_X1_sameWhere : (parseMethodDescriptor yX1_sameWhere.desc).map (fun d => d.parameters.length) = some 2 := by decide +kernel
theorem im_X1_sameWhere : Cond.instanceMethod yX1_sameWhere ∈ pWW := pw4 (List.mem_of_getElem? (i := 122) rfl) rfl
theorem se_X1_sameWhere : Cond.selects RX1 yX1_sameWhere yX1_sameWhere ∈ pWW := pw4 (List.mem_of_getElem? (i := 123) rfl) rfl
theorem ml1_103 : Cond.methodLink RX1 103 yX1_sameOperands ∈ pWW := pw4 (List.mem_of_getElem? (i := 125) rfl) rfl
theorem dX1_sameWhere_0 : decode cX1_sameWhere 0 = .ok (.aload_n 0, 1) := by decide +kernel
theorem dX1_sameWhere_1 : decode cX1_sameWhere 1 = .ok (.iload_n 1, 1) := by decide +kernel
theorem dX1_sameWhere_2 : decode cX1_sameWhere 2 = .ok (.bipush 11, 2) := by decide +kernel
theorem dX1_sameWhere_4 : decode cX1_sameWhere 4 = .ok (.invokevirtual 86, 3) := by decide +kernel
theorem dX1_sameWhere_7 : decode cX1_sameWhere 7 = .ok (.aload_n 0, 1) := by decide +kernel
theorem dX1_sameWhere_8 : decode cX1_sameWhere 8 = .ok (.iload_n 2, 1) := by decide +kernel
theorem dX1_sameWhere_9 : decode cX1_sameWhere 9 = .ok (.bipush 11, 2) := by decide +kernel
theorem dX1_sameWhere_11 : decode cX1_sameWhere 11 = .ok (.invokevirtual 86, 3) := by decide +kernel
theorem dX1_sameWhere_14 : decode cX1_sameWhere 14 = .ok (.if_icmp .ne 16, 3) := by decide +kernel
theorem dX1_sameWhere_30 : decode cX1_sameWhere 30 = .ok (.iconst 0, 1) := by decide +kernel
theorem dX1_sameWhere_31 : decode cX1_sameWhere 31 = .ok (.ireturn, 1) := by decide +kernel
theorem dX1_sameWhere_17 : decode cX1_sameWhere 17 = .ok (.aload_n 0, 1) := by decide +kernel
theorem dX1_sameWhere_18 : decode cX1_sameWhere 18 = .ok (.iload_n 1, 1) := by decide +kernel
theorem dX1_sameWhere_19 : decode cX1_sameWhere 19 = .ok (.iload_n 2, 1) := by decide +kernel
theorem dX1_sameWhere_20 : decode cX1_sameWhere 20 = .ok (.invokevirtual 103, 3) := by decide +kernel
theorem dX1_sameWhere_23 : decode cX1_sameWhere 23 = .ok (.ifCond .eq 7, 3) := by decide +kernel
theorem dX1_sameWhere_26 : decode cX1_sameWhere 26 = .ok (.iconst 1, 1) := by decide +kernel
theorem dX1_sameWhere_27 : decode cX1_sameWhere 27 = .ok (.goto 4, 3) := by decide +kernel
end
section
theorem cd_X1_becomeCopy : Cond.code yX1_becomeCopy cX1_becomeCopy 4 none ∈ pWW := pw4 (List.mem_of_getElem? (i := 215) rfl) rfl
abbrev m_X1_becomeCopy : MT := (yX1_becomeCopy, cX1_becomeCopy, 4, none)
theorem ok_X1_becomeCopy : pOk m_X1_becomeCopy := ⟨⟨cd_X1_becomeCopy, ini_1⟩, by decide +kernel, ⟨by decide +kernel, by decide +kernel⟩, Nat.le_of_ble_eq_true rfl⟩
theorem np_X1_becomeCopy : (parseMethodDescriptor yX1_becomeCopy.desc).map (fun d => d.parameters.length) = some 3 := by decide +kernel
theorem im_X1_becomeCopy : Cond.instanceMethod yX1_becomeCopy ∈ pWW := pw4 (List.mem_of_getElem? (i := 213) rfl) rfl
theorem se_X1_becomeCopy : Cond.selects RX1 yX1_becomeCopy yX1_becomeCopy ∈ pWW := pw4 (List.mem_of_getElem? (i := 214) rfl) rfl
theorem dX1_becomeCopy_0 : decode cX1_becomeCopy 0 = .ok (.aload_n 0, 1) := by decide +kernel
theorem dX1_becomeCopy_1 : decode cX1_becomeCopy 1 = .ok (.iload_n 1, 1) := by decide +kernel
theorem dX1_becomeCopy_2 : decode cX1_becomeCopy 2 = .ok (.iconst 0, 1) := by decide +kernel
theorem dX1_becomeCopy_3 : decode cX1_becomeCopy 3 = .ok (.iconst 0, 1) := by decide +kernel
theorem dX1_becomeCopy_4 : decode cX1_becomeCopy 4 = .ok (.invokevirtual 93, 3) := by decide +kernel
theorem dX1_becomeCopy_7 : decode cX1_becomeCopy 7 = .ok (.aload_n 0, 1) := by decide +kernel
theorem dX1_becomeCopy_8 : decode cX1_becomeCopy 8 = .ok (.iload_n 1, 1) := by decide +kernel
theorem dX1_becomeCopy_9 : decode cX1_becomeCopy 9 = .ok (.iconst 3, 1) := by decide +kernel
theorem dX1_becomeCopy_10 : decode cX1_becomeCopy 10 = .ok (.iload_n 2, 1) := by decide +kernel
theorem dX1_becomeCopy_11 : decode cX1_becomeCopy 11 = .ok (.invokevirtual 93, 3) := by decide +kernel
theorem dX1_becomeCopy_14 : decode cX1_becomeCopy 14 = .ok (.aload_n 0, 1) := by decide +kernel
theorem dX1_becomeCopy_15 : decode cX1_becomeCopy 15 = .ok (.iload_n 1, 1) := by decide +kernel
theorem dX1_becomeCopy_16 : decode cX1_becomeCopy 16 = .ok (.iconst 4, 1) := by decide +kernel
theorem dX1_becomeCopy_17 : decode cX1_becomeCopy 17 = .ok (.iload_n 3, 1) := by decide +kernel
theorem dX1_becomeCopy_18 : decode cX1_becomeCopy 18 = .ok (.invokevirtual 93, 3) := by decide +kernel
theorem dX1_becomeCopy_21 : decode cX1_becomeCopy 21 = .ok (.aload_n 0, 1) := by decide +kernel
theorem dX1_becomeCopy_22 : decode cX1_becomeCopy 22 = .ok (.iload_n 1, 1) := by decide +kernel
theorem dX1_becomeCopy_23 : decode cX1_becomeCopy 23 = .ok (.iconst 5, 1) := by decide +kernel
theorem dX1_becomeCopy_24 : decode cX1_becomeCopy 24 = .ok (.iconst 0, 1) := by decide +kernel
theorem dX1_becomeCopy_25 : decode cX1_becomeCopy 25 = .ok (.invokevirtual 93, 3) := by decide +kernel
theorem dX1_becomeCopy_28 : decode cX1_becomeCopy 28 = .ok (.aload_n 0, 1) := by decide +kernel
theorem dX1_becomeCopy_29 : decode cX1_becomeCopy 29 = .ok (.iload_n 1, 1) := by decide +kernel
theorem dX1_becomeCopy_30 : decode cX1_becomeCopy 30 = .ok (.bipush 6, 2) := by decide +kernel
theorem dX1_becomeCopy_32 : decode cX1_becomeCopy 32 = .ok (.iconst 0, 1) := by decide +kernel
theorem dX1_becomeCopy_33 : decode cX1_becomeCopy 33 = .ok (.invokevirtual 93, 3) := by decide +kernel
theorem dX1_becomeCopy_36 : decode cX1_becomeCopy 36 = .ok (.return_, 1) := by decide +kernel
end
section
theorem cd_X1_acts : Cond.code yX1_acts cX1_acts 3 (some .int) ∈ pWW := pw4 (List.mem_of_getElem? (i := 66) rfl) rfl
abbrev m_X1_acts : MT := (yX1_acts, cX1_acts, 3, (some .int))
theorem ok_X1_acts : pOk m_X1_acts := ⟨⟨cd_X1_acts, ini_1⟩, by decide +kernel, ⟨by decide +kernel, by decide +kernel⟩, Nat.le_of_ble_eq_true rfl⟩
theorem np_X1_acts : (parseMethodDescriptor yX1_acts.desc).map (fun d => d.parameters.length) = some 0 := by decide +kernel
theorem im_X1_acts : Cond.instanceMethod yX1_acts ∈ pWW := pw4 (List.mem_of_getElem? (i := 64) rfl) rfl
theorem se_X1_acts : Cond.selects RX1 yX1_acts yX1_acts ∈ pWW := pw4 (List.mem_of_getElem? (i := 65) rfl) rfl
theorem nl1_107 : (RX1, 107, yX11_isAct, "LineKeeper") ∈ nst_M := List.mem_of_getElem? (i := 13) rfl
theorem dX1_acts_0 : decode cX1_acts 0 = .ok (.iconst 0, 1) := by decide +kernel
theorem dX1_acts_1 : decode cX1_acts 1 = .ok (.istore_n 1, 1) := by decide +kernel
theorem dX1_acts_2 : decode cX1_acts 2 = .ok (.iconst 0, 1) := by decide +kernel
theorem dX1_acts_3 : decode cX1_acts 3 = .ok (.istore_n 2, 1) := by decide +kernel
theorem dX1_acts_4 : decode cX1_acts 4 = .ok (.iload_n 2, 1) := by decide +kernel
theorem dX1_acts_5 : decode cX1_acts 5 = .ok (.aload_n 0, 1) := by decide +kernel
theorem dX1_acts_6 : decode cX1_acts 6 = .ok (.getfield 33, 3) := by decide +kernel
theorem dX1_acts_9 : decode cX1_acts 9 = .ok (.if_icmp .ge 24, 3) := by decide +kernel
theorem dX1_acts_12 : decode cX1_acts 12 = .ok (.aload_n 0, 1) := by decide +kernel
theorem dX1_acts_13 : decode cX1_acts 13 = .ok (.iload_n 2, 1) := by decide +kernel
theorem dX1_acts_14 : decode cX1_acts 14 = .ok (.iconst 0, 1) := by decide +kernel
theorem dX1_acts_15 : decode cX1_acts 15 = .ok (.invokevirtual 86, 3) := by decide +kernel
theorem dX1_acts_18 : decode cX1_acts 18 = .ok (.invokestatic 107, 3) := by decide +kernel
theorem dX1_acts_21 : decode cX1_acts 21 = .ok (.ifCond .eq 6, 3) := by decide +kernel
theorem dX1_acts_27 : decode cX1_acts 27 = .ok (.iinc 2 1, 3) := by decide +kernel
theorem dX1_acts_30 : decode cX1_acts 30 = .ok (.goto (-26), 3) := by decide +kernel
theorem dX1_acts_24 : decode cX1_acts 24 = .ok (.iinc 1 1, 3) := by decide +kernel
theorem dX1_acts_33 : decode cX1_acts 33 = .ok (.iload_n 1, 1) := by decide +kernel
theorem dX1_acts_34 : decode cX1_acts 34 = .ok (.ireturn, 1) := by decide +kernel
end
section
theorem cd_X1_greatestIn : Cond.code yX1_greatestIn cX1_greatestIn 4 (some .int) ∈ pWW := pw4 (List.mem_of_getElem? (i := 82) rfl) rfl
abbrev m_X1_greatestIn : MT := (yX1_greatestIn, cX1_greatestIn, 4, (some .int))
theorem ok_X1_greatestIn : pOk m_X1_greatestIn := ⟨⟨cd_X1_greatestIn, ini_1⟩, by decide +kernel, ⟨by decide +kernel, by decide +kernel⟩, Nat.le_of_ble_eq_true rfl⟩
theorem np_X1_greatestIn : (parseMethodDescriptor yX1_greatestIn.desc).map (fun d => d.parameters.length) = some 1 := by decide +kernel
theorem im_X1_greatestIn : Cond.instanceMethod yX1_greatestIn ∈ pWW := pw4 (List.mem_of_getElem? (i := 81) rfl) rfl
theorem se_X1_greatestIn : Cond.selects RX1 yX1_greatestIn yX1_greatestIn ∈ pWW := pws (List.mem_map.mpr ⟨_, lw_pin 38 rfl, rfl⟩) rfl
theorem ml1_116 : Cond.methodLink RX1 116 yX1_writtenBy ∈ pWW := pw4 (List.mem_of_getElem? (i := 83) rfl) rfl
theorem mlm1_63 : Cond.methodLink RX1 63 Lib.Math.max.name ∈ pWW := pw4 (List.mem_of_getElem? (i := 40) rfl) rfl
theorem dX1_greatestIn_0 : decode cX1_greatestIn 0 = .ok (.aload_n 0, 1) := by decide +kernel
theorem dX1_greatestIn_1 : decode cX1_greatestIn 1 = .ok (.iload_n 1, 1) := by decide +kernel
theorem dX1_greatestIn_2 : decode cX1_greatestIn 2 = .ok (.invokevirtual 116, 3) := by decide +kernel
theorem dX1_greatestIn_5 : decode cX1_greatestIn 5 = .ok (.istore_n 2, 1) := by decide +kernel
theorem dX1_greatestIn_6 : decode cX1_greatestIn 6 = .ok (.aload_n 0, 1) := by decide +kernel
theorem dX1_greatestIn_7 : decode cX1_greatestIn 7 = .ok (.iload_n 1, 1) := by decide +kernel
theorem dX1_greatestIn_8 : decode cX1_greatestIn 8 = .ok (.iconst 0, 1) := by decide +kernel
theorem dX1_greatestIn_9 : decode cX1_greatestIn 9 = .ok (.invokevirtual 86, 3) := by decide +kernel
theorem dX1_greatestIn_12 : decode cX1_greatestIn 12 = .ok (.bipush 12, 2) := by decide +kernel
theorem dX1_greatestIn_14 : decode cX1_greatestIn 14 = .ok (.if_icmp .ne 21, 3) := by decide +kernel
theorem dX1_greatestIn_35 : decode cX1_greatestIn 35 = .ok (.iconst 3, 1) := by decide +kernel
theorem dX1_greatestIn_36 : decode cX1_greatestIn 36 = .ok (.istore_n 3, 1) := by decide +kernel
theorem dX1_greatestIn_37 : decode cX1_greatestIn 37 = .ok (.iload_n 3, 1) := by decide +kernel
theorem dX1_greatestIn_38 : decode cX1_greatestIn 38 = .ok (.bipush 11, 2) := by decide +kernel
theorem dX1_greatestIn_40 : decode cX1_greatestIn 40 = .ok (.if_icmp .ge 32, 3) := by decide +kernel
theorem dX1_greatestIn_43 : decode cX1_greatestIn 43 = .ok (.aload_n 0, 1) := by decide +kernel
theorem dX1_greatestIn_44 : decode cX1_greatestIn 44 = .ok (.iload_n 1, 1) := by decide +kernel
theorem dX1_greatestIn_45 : decode cX1_greatestIn 45 = .ok (.iload_n 3, 1) := by decide +kernel
theorem dX1_greatestIn_46 : decode cX1_greatestIn 46 = .ok (.invokevirtual 86, 3) := by decide +kernel
theorem dX1_greatestIn_49 : decode cX1_greatestIn 49 = .ok (.iconst 2, 1) := by decide +kernel
theorem dX1_greatestIn_50 : decode cX1_greatestIn 50 = .ok (.if_icmp .ne 16, 3) := by decide +kernel
theorem dX1_greatestIn_66 : decode cX1_greatestIn 66 = .ok (.iinc 3 2, 3) := by decide +kernel
theorem dX1_greatestIn_69 : decode cX1_greatestIn 69 = .ok (.goto (-32), 3) := by decide +kernel
theorem dX1_greatestIn_53 : decode cX1_greatestIn 53 = .ok (.iload_n 2, 1) := by decide +kernel
theorem dX1_greatestIn_54 : decode cX1_greatestIn 54 = .ok (.aload_n 0, 1) := by decide +kernel
theorem dX1_greatestIn_55 : decode cX1_greatestIn 55 = .ok (.iload_n 1, 1) := by decide +kernel
theorem dX1_greatestIn_56 : decode cX1_greatestIn 56 = .ok (.iload_n 3, 1) := by decide +kernel
theorem dX1_greatestIn_57 : decode cX1_greatestIn 57 = .ok (.iconst 1, 1) := by decide +kernel
theorem dX1_greatestIn_58 : decode cX1_greatestIn 58 = .ok (.iadd, 1) := by decide +kernel
theorem dX1_greatestIn_59 : decode cX1_greatestIn 59 = .ok (.invokevirtual 86, 3) := by decide +kernel
theorem dX1_greatestIn_62 : decode cX1_greatestIn 62 = .ok (.invokestatic 63, 3) := by decide +kernel
theorem dX1_greatestIn_65 : decode cX1_greatestIn 65 = .ok (.istore_n 2, 1) := by decide +kernel
theorem dX1_greatestIn_72 : decode cX1_greatestIn 72 = .ok (.iload_n 2, 1) := by decide +kernel
theorem dX1_greatestIn_73 : decode cX1_greatestIn 73 = .ok (.ireturn, 1) := by decide +kernel
theorem dX1_greatestIn_17 : decode cX1_greatestIn 17 = .ok (.aload_n 0, 1) := by decide +kernel
theorem dX1_greatestIn_18 : decode cX1_greatestIn 18 = .ok (.iload_n 1, 1) := by decide +kernel
theorem dX1_greatestIn_19 : decode cX1_greatestIn 19 = .ok (.bipush 11, 2) := by decide +kernel
theorem dX1_greatestIn_21 : decode cX1_greatestIn 21 = .ok (.invokevirtual 86, 3) := by decide +kernel
theorem dX1_greatestIn_24 : decode cX1_greatestIn 24 = .ok (.iconst 2, 1) := by decide +kernel
theorem dX1_greatestIn_25 : decode cX1_greatestIn 25 = .ok (.if_icmp .ne 10, 3) := by decide +kernel
theorem dX1_greatestIn_28 : decode cX1_greatestIn 28 = .ok (.aload_n 0, 1) := by decide +kernel
theorem dX1_greatestIn_29 : decode cX1_greatestIn 29 = .ok (.iload_n 1, 1) := by decide +kernel
theorem dX1_greatestIn_30 : decode cX1_greatestIn 30 = .ok (.iconst 4, 1) := by decide +kernel
theorem dX1_greatestIn_31 : decode cX1_greatestIn 31 = .ok (.invokevirtual 86, 3) := by decide +kernel
theorem dX1_greatestIn_34 : decode cX1_greatestIn 34 = .ok (.ireturn, 1) := by decide +kernel
end
section
theorem cd_X1_registers : Cond.code yX1_registers cX1_registers 4 (some .int) ∈ pWW := pw4 (List.mem_of_getElem? (i := 73) rfl) rfl
abbrev m_X1_registers : MT := (yX1_registers, cX1_registers, 4, (some .int))
theorem ok_X1_registers : pOk m_X1_registers := ⟨⟨cd_X1_registers, ini_1⟩, by decide +kernel, ⟨by decide +kernel, by decide +kernel⟩, Nat.le_of_ble_eq_true rfl⟩
theorem np_X1_registers : (parseMethodDescriptor yX1_registers.desc).map (fun d => d.parameters.length) = some 0 := by decide +kernel
theorem im_X1_registers : Cond.instanceMethod yX1_registers ∈ pWW := pw4 (List.mem_of_getElem? (i := 71) rfl) rfl
theorem se_X1_registers : Cond.selects RX1 yX1_registers yX1_registers ∈ pWW := pw4 (List.mem_of_getElem? (i := 72) rfl) rfl
theorem ml1_110 : Cond.methodLink RX1 110 yX1_homeOf ∈ pWW := pw4 (List.mem_of_getElem? (i := 75) rfl) rfl
theorem dX1_registers_0 : decode cX1_registers 0 = .ok (.iconst (-1), 1) := by decide +kernel
theorem dX1_registers_1 : decode cX1_registers 1 = .ok (.istore_n 1, 1) := by decide +kernel
theorem dX1_registers_2 : decode cX1_registers 2 = .ok (.iconst 0, 1) := by decide +kernel
theorem dX1_registers_3 : decode cX1_registers 3 = .ok (.istore_n 2, 1) := by decide +kernel
theorem dX1_registers_4 : decode cX1_registers 4 = .ok (.iload_n 2, 1) := by decide +kernel
theorem dX1_registers_5 : decode cX1_registers 5 = .ok (.aload_n 0, 1) := by decide +kernel
theorem dX1_registers_6 : decode cX1_registers 6 = .ok (.getfield 46, 3) := by decide +kernel
theorem dX1_registers_9 : decode cX1_registers 9 = .ok (.if_icmp .ge 40, 3) := by decide +kernel
theorem dX1_registers_12 : decode cX1_registers 12 = .ok (.iconst 0, 1) := by decide +kernel
theorem dX1_registers_13 : decode cX1_registers 13 = .ok (.istore_n 3, 1) := by decide +kernel
theorem dX1_registers_14 : decode cX1_registers 14 = .ok (.iload_n 3, 1) := by decide +kernel
theorem dX1_registers_15 : decode cX1_registers 15 = .ok (.aload_n 0, 1) := by decide +kernel
theorem dX1_registers_16 : decode cX1_registers 16 = .ok (.getfield 24, 3) := by decide +kernel
theorem dX1_registers_19 : decode cX1_registers 19 = .ok (.iload_n 2, 1) := by decide +kernel
theorem dX1_registers_20 : decode cX1_registers 20 = .ok (.invokestatic 53, 3) := by decide +kernel
theorem dX1_registers_23 : decode cX1_registers 23 = .ok (.if_icmp .ge 20, 3) := by decide +kernel
theorem dX1_registers_26 : decode cX1_registers 26 = .ok (.iload_n 1, 1) := by decide +kernel
theorem dX1_registers_27 : decode cX1_registers 27 = .ok (.aload_n 0, 1) := by decide +kernel
theorem dX1_registers_28 : decode cX1_registers 28 = .ok (.iload_n 2, 1) := by decide +kernel
theorem dX1_registers_29 : decode cX1_registers 29 = .ok (.iload_n 3, 1) := by decide +kernel
theorem dX1_registers_30 : decode cX1_registers 30 = .ok (.invokevirtual 110, 3) := by decide +kernel
theorem dX1_registers_33 : decode cX1_registers 33 = .ok (.invokestatic 63, 3) := by decide +kernel
theorem dX1_registers_36 : decode cX1_registers 36 = .ok (.istore_n 1, 1) := by decide +kernel
theorem dX1_registers_37 : decode cX1_registers 37 = .ok (.iinc 3 1, 3) := by decide +kernel
theorem dX1_registers_40 : decode cX1_registers 40 = .ok (.goto (-26), 3) := by decide +kernel
theorem dX1_registers_43 : decode cX1_registers 43 = .ok (.iinc 2 1, 3) := by decide +kernel
theorem dX1_registers_46 : decode cX1_registers 46 = .ok (.goto (-42), 3) := by decide +kernel
theorem ml1_113 : Cond.methodLink RX1 113 yX1_greatestIn ∈ pWW := pw4 (List.mem_of_getElem? (i := 79) rfl) rfl
theorem dX1_registers_49 : decode cX1_registers 49 = .ok (.iconst 0, 1) := by decide +kernel
theorem dX1_registers_50 : decode cX1_registers 50 = .ok (.istore_n 2, 1) := by decide +kernel
theorem dX1_registers_51 : decode cX1_registers 51 = .ok (.iload_n 2, 1) := by decide +kernel
theorem dX1_registers_52 : decode cX1_registers 52 = .ok (.aload_n 0, 1) := by decide +kernel
theorem dX1_registers_53 : decode cX1_registers 53 = .ok (.getfield 33, 3) := by decide +kernel
theorem dX1_registers_56 : decode cX1_registers 56 = .ok (.if_icmp .ge 19, 3) := by decide +kernel
theorem dX1_registers_59 : decode cX1_registers 59 = .ok (.iload_n 1, 1) := by decide +kernel
theorem dX1_registers_60 : decode cX1_registers 60 = .ok (.aload_n 0, 1) := by decide +kernel
theorem dX1_registers_61 : decode cX1_registers 61 = .ok (.iload_n 2, 1) := by decide +kernel
theorem dX1_registers_62 : decode cX1_registers 62 = .ok (.invokevirtual 113, 3) := by decide +kernel
theorem dX1_registers_65 : decode cX1_registers 65 = .ok (.invokestatic 63, 3) := by decide +kernel
theorem dX1_registers_68 : decode cX1_registers 68 = .ok (.istore_n 1, 1) := by decide +kernel
theorem dX1_registers_69 : decode cX1_registers 69 = .ok (.iinc 2 1, 3) := by decide +kernel
theorem dX1_registers_72 : decode cX1_registers 72 = .ok (.goto (-21), 3) := by decide +kernel
theorem dX1_registers_75 : decode cX1_registers 75 = .ok (.iload_n 1, 1) := by decide +kernel
theorem dX1_registers_76 : decode cX1_registers 76 = .ok (.iconst 1, 1) := by decide +kernel
theorem dX1_registers_77 : decode cX1_registers 77 = .ok (.iadd, 1) := by decide +kernel
theorem dX1_registers_78 : decode cX1_registers 78 = .ok (.ireturn, 1) := by decide +kernel
end
section
theorem cd_X1_greatestLabel : Cond.code yX1_greatestLabel cX1_greatestLabel 4 (some .int) ∈ pWW := pw5 (List.mem_of_getElem? (i := 150) rfl) rfl
abbrev m_X1_greatestLabel : MT := (yX1_greatestLabel, cX1_greatestLabel, 4, (some .int))
theorem ok_X1_greatestLabel : pOk m_X1_greatestLabel := ⟨⟨cd_X1_greatestLabel, ini_1⟩, by decide +kernel, ⟨by decide +kernel, by decide +kernel⟩, Nat.le_of_ble_eq_true rfl⟩
theorem np_X1_greatestLabel : (parseMethodDescriptor yX1_greatestLabel.desc).map (fun d => d.parameters.length) = some 0 := by decide +kernel
theorem im_X1_greatestLabel : Cond.instanceMethod yX1_greatestLabel ∈ pWW := pw5 (List.mem_of_getElem? (i := 148) rfl) rfl
theorem se_X1_greatestLabel : Cond.selects RX1 yX1_greatestLabel yX1_greatestLabel ∈ pWW := pw5 (List.mem_of_getElem? (i := 149) rfl) rfl
theorem dX1_greatestLabel_0 : decode cX1_greatestLabel 0 = .ok (.iconst (-1), 1) := by decide +kernel
theorem dX1_greatestLabel_1 : decode cX1_greatestLabel 1 = .ok (.istore_n 1, 1) := by decide +kernel
theorem dX1_greatestLabel_2 : decode cX1_greatestLabel 2 = .ok (.iconst 0, 1) := by decide +kernel
theorem dX1_greatestLabel_3 : decode cX1_greatestLabel 3 = .ok (.istore_n 2, 1) := by decide +kernel
theorem dX1_greatestLabel_4 : decode cX1_greatestLabel 4 = .ok (.iload_n 2, 1) := by decide +kernel
theorem dX1_greatestLabel_5 : decode cX1_greatestLabel 5 = .ok (.aload_n 0, 1) := by decide +kernel
theorem dX1_greatestLabel_6 : decode cX1_greatestLabel 6 = .ok (.getfield 33, 3) := by decide +kernel
theorem dX1_greatestLabel_9 : decode cX1_greatestLabel 9 = .ok (.if_icmp .ge 45, 3) := by decide +kernel
theorem dX1_greatestLabel_12 : decode cX1_greatestLabel 12 = .ok (.aload_n 0, 1) := by decide +kernel
theorem dX1_greatestLabel_13 : decode cX1_greatestLabel 13 = .ok (.iload_n 2, 1) := by decide +kernel
theorem dX1_greatestLabel_14 : decode cX1_greatestLabel 14 = .ok (.iconst 0, 1) := by decide +kernel
theorem dX1_greatestLabel_15 : decode cX1_greatestLabel 15 = .ok (.invokevirtual 86, 3) := by decide +kernel
theorem dX1_greatestLabel_18 : decode cX1_greatestLabel 18 = .ok (.istore_n 3, 1) := by decide +kernel
theorem dX1_greatestLabel_19 : decode cX1_greatestLabel 19 = .ok (.iload_n 3, 1) := by decide +kernel
theorem dX1_greatestLabel_20 : decode cX1_greatestLabel 20 = .ok (.bipush 8, 2) := by decide +kernel
theorem dX1_greatestLabel_22 : decode cX1_greatestLabel 22 = .ok (.if_icmp .eq 15, 3) := by decide +kernel
theorem dX1_greatestLabel_37 : decode cX1_greatestLabel 37 = .ok (.iload_n 1, 1) := by decide +kernel
theorem dX1_greatestLabel_38 : decode cX1_greatestLabel 38 = .ok (.aload_n 0, 1) := by decide +kernel
theorem dX1_greatestLabel_39 : decode cX1_greatestLabel 39 = .ok (.iload_n 2, 1) := by decide +kernel
theorem dX1_greatestLabel_40 : decode cX1_greatestLabel 40 = .ok (.iconst 1, 1) := by decide +kernel
theorem dX1_greatestLabel_41 : decode cX1_greatestLabel 41 = .ok (.invokevirtual 86, 3) := by decide +kernel
theorem dX1_greatestLabel_44 : decode cX1_greatestLabel 44 = .ok (.invokestatic 63, 3) := by decide +kernel
theorem dX1_greatestLabel_47 : decode cX1_greatestLabel 47 = .ok (.istore_n 1, 1) := by decide +kernel
theorem dX1_greatestLabel_48 : decode cX1_greatestLabel 48 = .ok (.iinc 2 1, 3) := by decide +kernel
theorem dX1_greatestLabel_51 : decode cX1_greatestLabel 51 = .ok (.goto (-47), 3) := by decide +kernel
theorem dX1_greatestLabel_25 : decode cX1_greatestLabel 25 = .ok (.iload_n 3, 1) := by decide +kernel
theorem dX1_greatestLabel_26 : decode cX1_greatestLabel 26 = .ok (.bipush 9, 2) := by decide +kernel
theorem dX1_greatestLabel_28 : decode cX1_greatestLabel 28 = .ok (.if_icmp .eq 9, 3) := by decide +kernel
theorem dX1_greatestLabel_31 : decode cX1_greatestLabel 31 = .ok (.iload_n 3, 1) := by decide +kernel
theorem dX1_greatestLabel_32 : decode cX1_greatestLabel 32 = .ok (.bipush 13, 2) := by decide +kernel
theorem dX1_greatestLabel_34 : decode cX1_greatestLabel 34 = .ok (.if_icmp .ne 14, 3) := by decide +kernel
theorem dX1_greatestLabel_54 : decode cX1_greatestLabel 54 = .ok (.iload_n 1, 1) := by decide +kernel
theorem dX1_greatestLabel_55 : decode cX1_greatestLabel 55 = .ok (.ireturn, 1) := by decide +kernel
end
section
theorem cd_X1_isHome : Cond.code yX1_isHome cX1_isHome 4 (some .boolean) ∈ pWW := pw5 (List.mem_of_getElem? (i := 113) rfl) rfl
abbrev m_X1_isHome : MT := (yX1_isHome, cX1_isHome, 4, (some .boolean))
theorem ok_X1_isHome : pOk m_X1_isHome := ⟨⟨cd_X1_isHome, ini_1⟩, by decide +kernel, ⟨by decide +kernel, by decide +kernel⟩, Nat.le_of_ble_eq_true rfl⟩
theorem np_X1_isHome : (parseMethodDescriptor yX1_isHome.desc).map (fun d => d.parameters.length) = some 1 := by decide +kernel
theorem im_X1_isHome : Cond.instanceMethod yX1_isHome ∈ pWW := pw5 (List.mem_of_getElem? (i := 111) rfl) rfl
theorem se_X1_isHome : Cond.selects RX1 yX1_isHome yX1_isHome ∈ pWW := pw5 (List.mem_of_getElem? (i := 112) rfl) rfl
theorem dX1_isHome_0 : decode cX1_isHome 0 = .ok (.iconst 0, 1) := by decide +kernel
theorem dX1_isHome_1 : decode cX1_isHome 1 = .ok (.istore_n 2, 1) := by decide +kernel
theorem dX1_isHome_2 : decode cX1_isHome 2 = .ok (.iload_n 2, 1) := by decide +kernel
theorem dX1_isHome_3 : decode cX1_isHome 3 = .ok (.aload_n 0, 1) := by decide +kernel
theorem dX1_isHome_4 : decode cX1_isHome 4 = .ok (.getfield 46, 3) := by decide +kernel
theorem dX1_isHome_7 : decode cX1_isHome 7 = .ok (.if_icmp .ge 41, 3) := by decide +kernel
theorem dX1_isHome_10 : decode cX1_isHome 10 = .ok (.iconst 0, 1) := by decide +kernel
theorem dX1_isHome_11 : decode cX1_isHome 11 = .ok (.istore_n 3, 1) := by decide +kernel
theorem dX1_isHome_12 : decode cX1_isHome 12 = .ok (.iload_n 3, 1) := by decide +kernel
theorem dX1_isHome_13 : decode cX1_isHome 13 = .ok (.aload_n 0, 1) := by decide +kernel
theorem dX1_isHome_14 : decode cX1_isHome 14 = .ok (.getfield 24, 3) := by decide +kernel
theorem dX1_isHome_17 : decode cX1_isHome 17 = .ok (.iload_n 2, 1) := by decide +kernel
theorem dX1_isHome_18 : decode cX1_isHome 18 = .ok (.invokestatic 53, 3) := by decide +kernel
theorem dX1_isHome_21 : decode cX1_isHome 21 = .ok (.if_icmp .ge 21, 3) := by decide +kernel
theorem dX1_isHome_24 : decode cX1_isHome 24 = .ok (.aload_n 0, 1) := by decide +kernel
theorem dX1_isHome_25 : decode cX1_isHome 25 = .ok (.iload_n 2, 1) := by decide +kernel
theorem dX1_isHome_26 : decode cX1_isHome 26 = .ok (.iload_n 3, 1) := by decide +kernel
theorem dX1_isHome_27 : decode cX1_isHome 27 = .ok (.invokevirtual 110, 3) := by decide +kernel
theorem dX1_isHome_30 : decode cX1_isHome 30 = .ok (.iload_n 1, 1) := by decide +kernel
theorem dX1_isHome_31 : decode cX1_isHome 31 = .ok (.if_icmp .ne 5, 3) := by decide +kernel
theorem dX1_isHome_36 : decode cX1_isHome 36 = .ok (.iinc 3 1, 3) := by decide +kernel
theorem dX1_isHome_39 : decode cX1_isHome 39 = .ok (.goto (-27), 3) := by decide +kernel
theorem dX1_isHome_42 : decode cX1_isHome 42 = .ok (.iinc 2 1, 3) := by decide +kernel
theorem dX1_isHome_45 : decode cX1_isHome 45 = .ok (.goto (-43), 3) := by decide +kernel
theorem dX1_isHome_34 : decode cX1_isHome 34 = .ok (.iconst 1, 1) := by decide +kernel
theorem dX1_isHome_35 : decode cX1_isHome 35 = .ok (.ireturn, 1) := by decide +kernel
theorem dX1_isHome_48 : decode cX1_isHome 48 = .ok (.iconst 0, 1) := by decide +kernel
theorem dX1_isHome_49 : decode cX1_isHome 49 = .ok (.ireturn, 1) := by decide +kernel
end
section
theorem cd_X1_removeRow : Cond.code yX1_removeRow cX1_removeRow 2 none ∈ pWW := pw4 (List.mem_of_getElem? (i := 229) rfl) rfl
abbrev m_X1_removeRow : MT := (yX1_removeRow, cX1_removeRow, 2, none)
theorem ok_X1_removeRow : pOk m_X1_removeRow := ⟨⟨cd_X1_removeRow, ini_1⟩, by decide +kernel, ⟨by decide +kernel, by decide +kernel⟩, Nat.le_of_ble_eq_true rfl⟩
theorem np_X1_removeRow : (parseMethodDescriptor yX1_removeRow.desc).map (fun d => d.parameters.length) = some 1 := by decide +kernel
theorem im_X1_removeRow : Cond.instanceMethod yX1_removeRow ∈ pWW := pw4 (List.mem_of_getElem? (i := 227) rfl) rfl
theorem se_X1_removeRow : Cond.selects RX1 yX1_removeRow yX1_removeRow ∈ pWW := pw4 (List.mem_of_getElem? (i := 228) rfl) rfl
theorem mla1_80 : Cond.methodLink RX1 80 arraycopyName ∈ pWW := pw4 (List.mem_of_getElem? (i := 41) rfl) rfl
theorem dX1_removeRow_0 : decode cX1_removeRow 0 = .ok (.iload_n 1, 1) := by decide +kernel
theorem dX1_removeRow_1 : decode cX1_removeRow 1 = .ok (.ifCond .lt 68, 3) := by decide +kernel
theorem dX1_removeRow_69 : decode cX1_removeRow 69 = .ok (.return_, 1) := by decide +kernel
theorem dX1_removeRow_4 : decode cX1_removeRow 4 = .ok (.iload_n 1, 1) := by decide +kernel
theorem dX1_removeRow_5 : decode cX1_removeRow 5 = .ok (.aload_n 0, 1) := by decide +kernel
theorem dX1_removeRow_6 : decode cX1_removeRow 6 = .ok (.getfield 33, 3) := by decide +kernel
theorem dX1_removeRow_9 : decode cX1_removeRow 9 = .ok (.if_icmp .ge 60, 3) := by decide +kernel
theorem dX1_removeRow_12 : decode cX1_removeRow 12 = .ok (.aload_n 0, 1) := by decide +kernel
theorem dX1_removeRow_13 : decode cX1_removeRow 13 = .ok (.getfield 33, 3) := by decide +kernel
theorem dX1_removeRow_16 : decode cX1_removeRow 16 = .ok (.bipush 13, 2) := by decide +kernel
theorem dX1_removeRow_18 : decode cX1_removeRow 18 = .ok (.imul, 1) := by decide +kernel
theorem dX1_removeRow_19 : decode cX1_removeRow 19 = .ok (.aload_n 0, 1) := by decide +kernel
theorem dX1_removeRow_20 : decode cX1_removeRow 20 = .ok (.getfield 9, 3) := by decide +kernel
theorem dX1_removeRow_23 : decode cX1_removeRow 23 = .ok (.arraylength, 1) := by decide +kernel
theorem dX1_removeRow_24 : decode cX1_removeRow 24 = .ok (.if_icmp .gt 45, 3) := by decide +kernel
theorem dX1_removeRow_27 : decode cX1_removeRow 27 = .ok (.aload_n 0, 1) := by decide +kernel
theorem dX1_removeRow_28 : decode cX1_removeRow 28 = .ok (.getfield 9, 3) := by decide +kernel
theorem dX1_removeRow_31 : decode cX1_removeRow 31 = .ok (.iload_n 1, 1) := by decide +kernel
theorem dX1_removeRow_32 : decode cX1_removeRow 32 = .ok (.iconst 1, 1) := by decide +kernel
theorem dX1_removeRow_33 : decode cX1_removeRow 33 = .ok (.iadd, 1) := by decide +kernel
theorem dX1_removeRow_34 : decode cX1_removeRow 34 = .ok (.bipush 13, 2) := by decide +kernel
theorem dX1_removeRow_36 : decode cX1_removeRow 36 = .ok (.imul, 1) := by decide +kernel
theorem dX1_removeRow_37 : decode cX1_removeRow 37 = .ok (.aload_n 0, 1) := by decide +kernel
theorem dX1_removeRow_38 : decode cX1_removeRow 38 = .ok (.getfield 9, 3) := by decide +kernel
theorem dX1_removeRow_41 : decode cX1_removeRow 41 = .ok (.iload_n 1, 1) := by decide +kernel
theorem dX1_removeRow_42 : decode cX1_removeRow 42 = .ok (.bipush 13, 2) := by decide +kernel
theorem dX1_removeRow_44 : decode cX1_removeRow 44 = .ok (.imul, 1) := by decide +kernel
theorem dX1_removeRow_45 : decode cX1_removeRow 45 = .ok (.aload_n 0, 1) := by decide +kernel
theorem dX1_removeRow_46 : decode cX1_removeRow 46 = .ok (.getfield 33, 3) := by decide +kernel
theorem dX1_removeRow_49 : decode cX1_removeRow 49 = .ok (.iload_n 1, 1) := by decide +kernel
theorem dX1_removeRow_50 : decode cX1_removeRow 50 = .ok (.isub, 1) := by decide +kernel
theorem dX1_removeRow_51 : decode cX1_removeRow 51 = .ok (.iconst 1, 1) := by decide +kernel
theorem dX1_removeRow_52 : decode cX1_removeRow 52 = .ok (.isub, 1) := by decide +kernel
theorem dX1_removeRow_53 : decode cX1_removeRow 53 = .ok (.bipush 13, 2) := by decide +kernel
theorem dX1_removeRow_55 : decode cX1_removeRow 55 = .ok (.imul, 1) := by decide +kernel
theorem dX1_removeRow_56 : decode cX1_removeRow 56 = .ok (.invokestatic 80, 3) := by decide +kernel
theorem dX1_removeRow_59 : decode cX1_removeRow 59 = .ok (.aload_n 0, 1) := by decide +kernel
theorem dX1_removeRow_60 : decode cX1_removeRow 60 = .ok (.dup, 1) := by decide +kernel
theorem dX1_removeRow_61 : decode cX1_removeRow 61 = .ok (.getfield 33, 3) := by decide +kernel
theorem dX1_removeRow_64 : decode cX1_removeRow 64 = .ok (.iconst 1, 1) := by decide +kernel
theorem dX1_removeRow_65 : decode cX1_removeRow 65 = .ok (.isub, 1) := by decide +kernel
theorem dX1_removeRow_66 : decode cX1_removeRow 66 = .ok (.putfield 33, 3) := by decide +kernel
end
section
theorem cd_X1_liftRow : Cond.code yX1_liftRow cX1_liftRow 3 none ∈ pWW := pw5 (List.mem_of_getElem? (i := 121) rfl) rfl
abbrev m_X1_liftRow : MT := (yX1_liftRow, cX1_liftRow, 3, none)
theorem ok_X1_liftRow : pOk m_X1_liftRow := ⟨⟨cd_X1_liftRow, ini_1⟩, by decide +kernel, ⟨by decide +kernel, by decide +kernel⟩, Nat.le_of_ble_eq_true rfl⟩
theorem np_X1_liftRow : (parseMethodDescriptor yX1_liftRow.desc).map (fun d => d.parameters.length) = some 2 := by decide +kernel
theorem im_X1_liftRow : Cond.instanceMethod yX1_liftRow ∈ pWW := pw5 (List.mem_of_getElem? (i := 119) rfl) rfl
theorem se_X1_liftRow : Cond.selects RX1 yX1_liftRow yX1_liftRow ∈ pWW := pw5 (List.mem_of_getElem? (i := 120) rfl) rfl
theorem fl1_30 : Cond.fieldLink RX1 30 (TX1 11).1 (TX1 11).2.1 (TX1 11).2.2.1 ∈ pWW := pw1 (List.mem_of_getElem? (i := 127) rfl) rfl
theorem dX1_liftRow_0 : decode cX1_liftRow 0 = .ok (.iload_n 2, 1) := by decide +kernel
theorem dX1_liftRow_1 : decode cX1_liftRow 1 = .ok (.ifCond .lt 31, 3) := by decide +kernel
theorem dX1_liftRow_32 : decode cX1_liftRow 32 = .ok (.return_, 1) := by decide +kernel
theorem dX1_liftRow_4 : decode cX1_liftRow 4 = .ok (.iload_n 2, 1) := by decide +kernel
theorem dX1_liftRow_5 : decode cX1_liftRow 5 = .ok (.iload_n 1, 1) := by decide +kernel
theorem dX1_liftRow_6 : decode cX1_liftRow 6 = .ok (.if_icmp .gt 26, 3) := by decide +kernel
theorem dX1_liftRow_9 : decode cX1_liftRow 9 = .ok (.iload_n 1, 1) := by decide +kernel
theorem dX1_liftRow_10 : decode cX1_liftRow 10 = .ok (.aload_n 0, 1) := by decide +kernel
theorem dX1_liftRow_11 : decode cX1_liftRow 11 = .ok (.getfield 33, 3) := by decide +kernel
theorem dX1_liftRow_14 : decode cX1_liftRow 14 = .ok (.if_icmp .ge 18, 3) := by decide +kernel
theorem dX1_liftRow_17 : decode cX1_liftRow 17 = .ok (.aload_n 0, 1) := by decide +kernel
theorem dX1_liftRow_18 : decode cX1_liftRow 18 = .ok (.getfield 33, 3) := by decide +kernel
theorem dX1_liftRow_21 : decode cX1_liftRow 21 = .ok (.bipush 13, 2) := by decide +kernel
theorem dX1_liftRow_23 : decode cX1_liftRow 23 = .ok (.imul, 1) := by decide +kernel
theorem dX1_liftRow_24 : decode cX1_liftRow 24 = .ok (.aload_n 0, 1) := by decide +kernel
theorem dX1_liftRow_25 : decode cX1_liftRow 25 = .ok (.getfield 9, 3) := by decide +kernel
theorem dX1_liftRow_28 : decode cX1_liftRow 28 = .ok (.arraylength, 1) := by decide +kernel
theorem dX1_liftRow_29 : decode cX1_liftRow 29 = .ok (.if_icmp .le 4, 3) := by decide +kernel
theorem dX1_liftRow_33 : decode cX1_liftRow 33 = .ok (.aload_n 0, 1) := by decide +kernel
theorem dX1_liftRow_34 : decode cX1_liftRow 34 = .ok (.getfield 9, 3) := by decide +kernel
theorem dX1_liftRow_37 : decode cX1_liftRow 37 = .ok (.iload_n 1, 1) := by decide +kernel
theorem dX1_liftRow_38 : decode cX1_liftRow 38 = .ok (.bipush 13, 2) := by decide +kernel
theorem dX1_liftRow_40 : decode cX1_liftRow 40 = .ok (.imul, 1) := by decide +kernel
theorem dX1_liftRow_41 : decode cX1_liftRow 41 = .ok (.aload_n 0, 1) := by decide +kernel
theorem dX1_liftRow_42 : decode cX1_liftRow 42 = .ok (.getfield 30, 3) := by decide +kernel
theorem dX1_liftRow_45 : decode cX1_liftRow 45 = .ok (.iconst 0, 1) := by decide +kernel
theorem dX1_liftRow_46 : decode cX1_liftRow 46 = .ok (.bipush 13, 2) := by decide +kernel
theorem dX1_liftRow_48 : decode cX1_liftRow 48 = .ok (.invokestatic 80, 3) := by decide +kernel
theorem dX1_liftRow_51 : decode cX1_liftRow 51 = .ok (.aload_n 0, 1) := by decide +kernel
theorem dX1_liftRow_52 : decode cX1_liftRow 52 = .ok (.getfield 9, 3) := by decide +kernel
theorem dX1_liftRow_55 : decode cX1_liftRow 55 = .ok (.iload_n 2, 1) := by decide +kernel
theorem dX1_liftRow_56 : decode cX1_liftRow 56 = .ok (.bipush 13, 2) := by decide +kernel
theorem dX1_liftRow_58 : decode cX1_liftRow 58 = .ok (.imul, 1) := by decide +kernel
theorem dX1_liftRow_59 : decode cX1_liftRow 59 = .ok (.aload_n 0, 1) := by decide +kernel
theorem dX1_liftRow_60 : decode cX1_liftRow 60 = .ok (.getfield 9, 3) := by decide +kernel
theorem dX1_liftRow_63 : decode cX1_liftRow 63 = .ok (.iload_n 2, 1) := by decide +kernel
theorem dX1_liftRow_64 : decode cX1_liftRow 64 = .ok (.iconst 1, 1) := by decide +kernel
theorem dX1_liftRow_65 : decode cX1_liftRow 65 = .ok (.iadd, 1) := by decide +kernel
theorem dX1_liftRow_66 : decode cX1_liftRow 66 = .ok (.bipush 13, 2) := by decide +kernel
theorem dX1_liftRow_68 : decode cX1_liftRow 68 = .ok (.imul, 1) := by decide +kernel
theorem dX1_liftRow_69 : decode cX1_liftRow 69 = .ok (.iload_n 1, 1) := by decide +kernel
theorem dX1_liftRow_70 : decode cX1_liftRow 70 = .ok (.iload_n 2, 1) := by decide +kernel
theorem dX1_liftRow_71 : decode cX1_liftRow 71 = .ok (.isub, 1) := by decide +kernel
theorem dX1_liftRow_72 : decode cX1_liftRow 72 = .ok (.bipush 13, 2) := by decide +kernel
theorem dX1_liftRow_74 : decode cX1_liftRow 74 = .ok (.imul, 1) := by decide +kernel
theorem dX1_liftRow_75 : decode cX1_liftRow 75 = .ok (.invokestatic 80, 3) := by decide +kernel
theorem dX1_liftRow_78 : decode cX1_liftRow 78 = .ok (.aload_n 0, 1) := by decide +kernel
theorem dX1_liftRow_79 : decode cX1_liftRow 79 = .ok (.getfield 30, 3) := by decide +kernel
theorem dX1_liftRow_82 : decode cX1_liftRow 82 = .ok (.iconst 0, 1) := by decide +kernel
theorem dX1_liftRow_83 : decode cX1_liftRow 83 = .ok (.aload_n 0, 1) := by decide +kernel
theorem dX1_liftRow_84 : decode cX1_liftRow 84 = .ok (.getfield 9, 3) := by decide +kernel
theorem dX1_liftRow_87 : decode cX1_liftRow 87 = .ok (.iload_n 2, 1) := by decide +kernel
theorem dX1_liftRow_88 : decode cX1_liftRow 88 = .ok (.bipush 13, 2) := by decide +kernel
theorem dX1_liftRow_90 : decode cX1_liftRow 90 = .ok (.imul, 1) := by decide +kernel
theorem dX1_liftRow_91 : decode cX1_liftRow 91 = .ok (.bipush 13, 2) := by decide +kernel
theorem dX1_liftRow_93 : decode cX1_liftRow 93 = .ok (.invokestatic 80, 3) := by decide +kernel
theorem dX1_liftRow_96 : decode cX1_liftRow 96 = .ok (.return_, 1) := by decide +kernel
end
section
theorem cd_X3_lives : Cond.code yX3_lives cX3_lives 3 (some .boolean) ∈ pWW := pw5 (List.mem_of_getElem? (i := 67) rfl) rfl
theorem ini_3 : Cond.initialized RX3 ∈ pWW := pw1 (List.mem_of_getElem? (i := 5) rfl) rfl
abbrev m_X3_lives : MT := (yX3_lives, cX3_lives, 3, (some .boolean))
theorem ok_X3_lives : pOk m_X3_lives := ⟨⟨cd_X3_lives, ini_3⟩, by decide +kernel, ⟨by decide +kernel, by decide +kernel⟩, Nat.le_of_ble_eq_true rfl⟩
theorem np_X3_lives : (parseMethodDescriptor yX3_lives.desc).map (fun d => d.parameters.length) = some 2 := by decide +kernel
theorem im_X3_lives : Cond.instanceMethod yX3_lives ∈ pWW := pw5 (List.mem_of_getElem? (i := 65) rfl) rfl
theorem se_X3_lives : Cond.selects RX3 yX3_lives yX3_lives ∈ pWW := pw5 (List.mem_of_getElem? (i := 66) rfl) rfl
theorem fl3_9 : Cond.fieldLink RX3 9 (TX3 0).1 (TX3 0).2.1 (TX3 0).2.2.1 ∈ pWW := pw1 (List.mem_of_getElem? (i := 220) rfl) rfl
theorem nl3_25 : (RX3, 25, yX11_has, "LineKeeper") ∈ nst_M := List.mem_of_getElem? (i := 31) rfl
theorem dX3_lives_0 : decode cX3_lives 0 = .ok (.aload_n 0, 1) := by decide +kernel
theorem dX3_lives_1 : decode cX3_lives 1 = .ok (.getfield 9, 3) := by decide +kernel
theorem dX3_lives_4 : decode cX3_lives 4 = .ok (.iload_n 1, 1) := by decide +kernel
theorem dX3_lives_5 : decode cX3_lives 5 = .ok (.iload_n 2, 1) := by decide +kernel
theorem dX3_lives_6 : decode cX3_lives 6 = .ok (.invokestatic 25, 3) := by decide +kernel
theorem dX3_lives_9 : decode cX3_lives 9 = .ok (.ireturn, 1) := by decide +kernel
end
section
theorem cd_X3_gatherBehind : Cond.code yX3_gatherBehind cX3_gatherBehind 8 none ∈ pWW := pw5 (List.mem_of_getElem? (i := 36) rfl) rfl
abbrev m_X3_gatherBehind : MT := (yX3_gatherBehind, cX3_gatherBehind, 8, none)
theorem ok_X3_gatherBehind : pOk m_X3_gatherBehind := ⟨⟨cd_X3_gatherBehind, ini_3⟩, by decide +kernel, ⟨by decide +kernel, by decide +kernel⟩, Nat.le_of_ble_eq_true rfl⟩
theorem np_X3_gatherBehind : (parseMethodDescriptor yX3_gatherBehind.desc).map (fun d => d.parameters.length) = some 2 := by decide +kernel
theorem im_X3_gatherBehind : Cond.instanceMethod yX3_gatherBehind ∈ pWW := pw5 (List.mem_of_getElem? (i := 35) rfl) rfl
theorem se_X3_gatherBehind : Cond.selects RX3 yX3_gatherBehind yX3_gatherBehind ∈ pWW := pws (List.mem_map.mpr ⟨_, lw_pin 52 rfl, rfl⟩) rfl
theorem ml3_48 : Cond.methodLink RX3 48 yX1_fallsOn ∈ pWW := pw5 (List.mem_of_getElem? (i := 15) rfl) rfl
theorem ml3_52 : Cond.methodLink RX3 52 yX1_targetOf ∈ pWW := pw5 (List.mem_of_getElem? (i := 16) rfl) rfl
theorem fl3_15 : Cond.fieldLink RX3 15 (TX3 1).1 (TX3 1).2.1 (TX3 1).2.2.1 ∈ pWW := pw1 (List.mem_of_getElem? (i := 223) rfl) rfl
theorem nl3_60 : (RX3, 60, yX11_putBits, "LineKeeper") ∈ nst_M := List.mem_of_getElem? (i := 26) rfl
theorem nl3_56 : (RX3, 56, yX11_bitsAt, "LineKeeper") ∈ nst_M := List.mem_of_getElem? (i := 25) rfl
theorem dX3_gatherBehind_0 : decode cX3_gatherBehind 0 = .ok (.aload_n 1, 1) := by decide +kernel
theorem dX3_gatherBehind_1 : decode cX3_gatherBehind 1 = .ok (.iload_n 2, 1) := by decide +kernel
theorem dX3_gatherBehind_2 : decode cX3_gatherBehind 2 = .ok (.invokevirtual 48, 3) := by decide +kernel
theorem dX3_gatherBehind_5 : decode cX3_gatherBehind 5 = .ok (.istore_n 3, 1) := by decide +kernel
theorem dX3_gatherBehind_6 : decode cX3_gatherBehind 6 = .ok (.aload_n 1, 1) := by decide +kernel
theorem dX3_gatherBehind_7 : decode cX3_gatherBehind 7 = .ok (.iload_n 2, 1) := by decide +kernel
theorem dX3_gatherBehind_8 : decode cX3_gatherBehind 8 = .ok (.invokevirtual 52, 3) := by decide +kernel
theorem dX3_gatherBehind_11 : decode cX3_gatherBehind 11 = .ok (.istore 4, 2) := by decide +kernel
theorem dX3_gatherBehind_13 : decode cX3_gatherBehind 13 = .ok (.iconst 0, 1) := by decide +kernel
theorem dX3_gatherBehind_14 : decode cX3_gatherBehind 14 = .ok (.istore 5, 2) := by decide +kernel
theorem dX3_gatherBehind_16 : decode cX3_gatherBehind 16 = .ok (.iload 5, 2) := by decide +kernel
theorem dX3_gatherBehind_18 : decode cX3_gatherBehind 18 = .ok (.iconst 3, 1) := by decide +kernel
theorem dX3_gatherBehind_19 : decode cX3_gatherBehind 19 = .ok (.if_icmp .ge 69, 3) := by decide +kernel
theorem dX3_gatherBehind_22 : decode cX3_gatherBehind 22 = .ok (.iload_n 3, 1) := by decide +kernel
theorem dX3_gatherBehind_23 : decode cX3_gatherBehind 23 = .ok (.ifCond .eq 21, 3) := by decide +kernel
theorem dX3_gatherBehind_44 : decode cX3_gatherBehind 44 = .ok (.lconst 0, 1) := by decide +kernel
theorem dX3_gatherBehind_45 : decode cX3_gatherBehind 45 = .ok (.lstore 6, 2) := by decide +kernel
theorem dX3_gatherBehind_47 : decode cX3_gatherBehind 47 = .ok (.iload 4, 2) := by decide +kernel
theorem dX3_gatherBehind_49 : decode cX3_gatherBehind 49 = .ok (.ifCond .lt 22, 3) := by decide +kernel
theorem dX3_gatherBehind_71 : decode cX3_gatherBehind 71 = .ok (.aload_n 0, 1) := by decide +kernel
theorem dX3_gatherBehind_72 : decode cX3_gatherBehind 72 = .ok (.getfield 15, 3) := by decide +kernel
theorem dX3_gatherBehind_75 : decode cX3_gatherBehind 75 = .ok (.iload 5, 2) := by decide +kernel
theorem dX3_gatherBehind_77 : decode cX3_gatherBehind 77 = .ok (.lload 6, 2) := by decide +kernel
theorem dX3_gatherBehind_79 : decode cX3_gatherBehind 79 = .ok (.invokestatic 60, 3) := by decide +kernel
theorem dX3_gatherBehind_82 : decode cX3_gatherBehind 82 = .ok (.iinc 5 1, 3) := by decide +kernel
theorem dX3_gatherBehind_85 : decode cX3_gatherBehind 85 = .ok (.goto (-69), 3) := by decide +kernel
theorem dX3_gatherBehind_52 : decode cX3_gatherBehind 52 = .ok (.lload 6, 2) := by decide +kernel
theorem dX3_gatherBehind_54 : decode cX3_gatherBehind 54 = .ok (.aload_n 0, 1) := by decide +kernel
theorem dX3_gatherBehind_55 : decode cX3_gatherBehind 55 = .ok (.getfield 9, 3) := by decide +kernel
theorem dX3_gatherBehind_58 : decode cX3_gatherBehind 58 = .ok (.iload 4, 2) := by decide +kernel
theorem dX3_gatherBehind_60 : decode cX3_gatherBehind 60 = .ok (.iconst 3, 1) := by decide +kernel
theorem dX3_gatherBehind_61 : decode cX3_gatherBehind 61 = .ok (.imul, 1) := by decide +kernel
theorem dX3_gatherBehind_62 : decode cX3_gatherBehind 62 = .ok (.iload 5, 2) := by decide +kernel
theorem dX3_gatherBehind_64 : decode cX3_gatherBehind 64 = .ok (.iadd, 1) := by decide +kernel
theorem dX3_gatherBehind_65 : decode cX3_gatherBehind 65 = .ok (.invokestatic 56, 3) := by decide +kernel
theorem dX3_gatherBehind_68 : decode cX3_gatherBehind 68 = .ok (.lor, 1) := by decide +kernel
theorem dX3_gatherBehind_69 : decode cX3_gatherBehind 69 = .ok (.lstore 6, 2) := by decide +kernel
theorem dX3_gatherBehind_26 : decode cX3_gatherBehind 26 = .ok (.aload_n 0, 1) := by decide +kernel
theorem dX3_gatherBehind_27 : decode cX3_gatherBehind 27 = .ok (.getfield 9, 3) := by decide +kernel
theorem dX3_gatherBehind_30 : decode cX3_gatherBehind 30 = .ok (.iload_n 2, 1) := by decide +kernel
theorem dX3_gatherBehind_31 : decode cX3_gatherBehind 31 = .ok (.iconst 1, 1) := by decide +kernel
theorem dX3_gatherBehind_32 : decode cX3_gatherBehind 32 = .ok (.iadd, 1) := by decide +kernel
theorem dX3_gatherBehind_33 : decode cX3_gatherBehind 33 = .ok (.iconst 3, 1) := by decide +kernel
theorem dX3_gatherBehind_34 : decode cX3_gatherBehind 34 = .ok (.imul, 1) := by decide +kernel
theorem dX3_gatherBehind_35 : decode cX3_gatherBehind 35 = .ok (.iload 5, 2) := by decide +kernel
theorem dX3_gatherBehind_37 : decode cX3_gatherBehind 37 = .ok (.iadd, 1) := by decide +kernel
theorem dX3_gatherBehind_38 : decode cX3_gatherBehind 38 = .ok (.invokestatic 56, 3) := by decide +kernel
theorem dX3_gatherBehind_41 : decode cX3_gatherBehind 41 = .ok (.goto 4, 3) := by decide +kernel
theorem dX3_gatherBehind_88 : decode cX3_gatherBehind 88 = .ok (.return_, 1) := by decide +kernel
end
section
theorem cd_X3_settleAhead : Cond.code yX3_settleAhead cX3_settleAhead 7 (some .boolean) ∈ pWW := pw5 (List.mem_of_getElem? (i := 46) rfl) rfl
abbrev m_X3_settleAhead : MT := (yX3_settleAhead, cX3_settleAhead, 7, (some .boolean))
theorem ok_X3_settleAhead : pOk m_X3_settleAhead := ⟨⟨cd_X3_settleAhead, ini_3⟩, by decide +kernel, ⟨by decide +kernel, by decide +kernel⟩, Nat.le_of_ble_eq_true rfl⟩
theorem np_X3_settleAhead : (parseMethodDescriptor yX3_settleAhead.desc).map (fun d => d.parameters.length) = some 2 := by decide +kernel
theorem im_X3_settleAhead : Cond.instanceMethod yX3_settleAhead ∈ pWW := pw5 (List.mem_of_getElem? (i := 45) rfl) rfl
theorem se_X3_settleAhead : Cond.selects RX3 yX3_settleAhead yX3_settleAhead ∈ pWW := pws (List.mem_map.mpr ⟨_, lw_pin 53 rfl, rfl⟩) rfl
theorem ml3_64 : Cond.methodLink RX3 64 yX1_writtenBy ∈ pWW := pw5 (List.mem_of_getElem? (i := 14) rfl) rfl
theorem nl3_67 : (RX3, 67, yX11_exclude, "LineKeeper") ∈ nst_M := List.mem_of_getElem? (i := 27) rfl
theorem ml3_71 : Cond.methodLink RX3 71 yX1_kindAt ∈ pWW := pw5 (List.mem_of_getElem? (i := 53) rfl) rfl
theorem nl3_74 : (RX3, 74, yX11_isAct, "LineKeeper") ∈ nst_M := List.mem_of_getElem? (i := 28) rfl
theorem dX3_settleAhead_0 : decode cX3_settleAhead 0 = .ok (.aload_n 0, 1) := by decide +kernel
theorem dX3_settleAhead_1 : decode cX3_settleAhead 1 = .ok (.getfield 15, 3) := by decide +kernel
theorem dX3_settleAhead_4 : decode cX3_settleAhead 4 = .ok (.iconst 0, 1) := by decide +kernel
theorem dX3_settleAhead_5 : decode cX3_settleAhead 5 = .ok (.aload_n 1, 1) := by decide +kernel
theorem dX3_settleAhead_6 : decode cX3_settleAhead 6 = .ok (.iload_n 2, 1) := by decide +kernel
theorem dX3_settleAhead_7 : decode cX3_settleAhead 7 = .ok (.invokevirtual 64, 3) := by decide +kernel
theorem dX3_settleAhead_10 : decode cX3_settleAhead 10 = .ok (.invokestatic 67, 3) := by decide +kernel
theorem dX3_settleAhead_13 : decode cX3_settleAhead 13 = .ok (.aload_n 1, 1) := by decide +kernel
theorem dX3_settleAhead_14 : decode cX3_settleAhead 14 = .ok (.iload_n 2, 1) := by decide +kernel
theorem dX3_settleAhead_15 : decode cX3_settleAhead 15 = .ok (.invokevirtual 71, 3) := by decide +kernel
theorem dX3_settleAhead_18 : decode cX3_settleAhead 18 = .ok (.invokestatic 74, 3) := by decide +kernel
theorem dX3_settleAhead_21 : decode cX3_settleAhead 21 = .ok (.ifCond .eq 43, 3) := by decide +kernel
theorem dX3_settleAhead_64 : decode cX3_settleAhead 64 = .ok (.iconst 0, 1) := by decide +kernel
theorem dX3_settleAhead_65 : decode cX3_settleAhead 65 = .ok (.istore_n 3, 1) := by decide +kernel
theorem dX3_settleAhead_66 : decode cX3_settleAhead 66 = .ok (.iconst 0, 1) := by decide +kernel
theorem dX3_settleAhead_67 : decode cX3_settleAhead 67 = .ok (.istore 4, 2) := by decide +kernel
theorem dX3_settleAhead_69 : decode cX3_settleAhead 69 = .ok (.iload 4, 2) := by decide +kernel
theorem dX3_settleAhead_71 : decode cX3_settleAhead 71 = .ok (.iconst 3, 1) := by decide +kernel
theorem dX3_settleAhead_72 : decode cX3_settleAhead 72 = .ok (.if_icmp .ge 56, 3) := by decide +kernel
theorem dX3_settleAhead_75 : decode cX3_settleAhead 75 = .ok (.aload_n 0, 1) := by decide +kernel
theorem dX3_settleAhead_76 : decode cX3_settleAhead 76 = .ok (.getfield 15, 3) := by decide +kernel
theorem dX3_settleAhead_79 : decode cX3_settleAhead 79 = .ok (.iload 4, 2) := by decide +kernel
theorem dX3_settleAhead_81 : decode cX3_settleAhead 81 = .ok (.invokestatic 56, 3) := by decide +kernel
theorem dX3_settleAhead_84 : decode cX3_settleAhead 84 = .ok (.lstore 5, 2) := by decide +kernel
theorem dX3_settleAhead_86 : decode cX3_settleAhead 86 = .ok (.lload 5, 2) := by decide +kernel
theorem dX3_settleAhead_88 : decode cX3_settleAhead 88 = .ok (.aload_n 0, 1) := by decide +kernel
theorem dX3_settleAhead_89 : decode cX3_settleAhead 89 = .ok (.getfield 9, 3) := by decide +kernel
theorem dX3_settleAhead_92 : decode cX3_settleAhead 92 = .ok (.iload_n 2, 1) := by decide +kernel
theorem dX3_settleAhead_93 : decode cX3_settleAhead 93 = .ok (.iconst 3, 1) := by decide +kernel
theorem dX3_settleAhead_94 : decode cX3_settleAhead 94 = .ok (.imul, 1) := by decide +kernel
theorem dX3_settleAhead_95 : decode cX3_settleAhead 95 = .ok (.iload 4, 2) := by decide +kernel
theorem dX3_settleAhead_97 : decode cX3_settleAhead 97 = .ok (.iadd, 1) := by decide +kernel
theorem dX3_settleAhead_98 : decode cX3_settleAhead 98 = .ok (.invokestatic 56, 3) := by decide +kernel
theorem dX3_settleAhead_101 : decode cX3_settleAhead 101 = .ok (.lcmp, 1) := by decide +kernel
theorem dX3_settleAhead_102 : decode cX3_settleAhead 102 = .ok (.ifCond .eq 20, 3) := by decide +kernel
theorem dX3_settleAhead_122 : decode cX3_settleAhead 122 = .ok (.iinc 4 1, 3) := by decide +kernel
theorem dX3_settleAhead_125 : decode cX3_settleAhead 125 = .ok (.goto (-56), 3) := by decide +kernel
theorem dX3_settleAhead_105 : decode cX3_settleAhead 105 = .ok (.aload_n 0, 1) := by decide +kernel
theorem dX3_settleAhead_106 : decode cX3_settleAhead 106 = .ok (.getfield 9, 3) := by decide +kernel
theorem dX3_settleAhead_109 : decode cX3_settleAhead 109 = .ok (.iload_n 2, 1) := by decide +kernel
theorem dX3_settleAhead_110 : decode cX3_settleAhead 110 = .ok (.iconst 3, 1) := by decide +kernel
theorem dX3_settleAhead_111 : decode cX3_settleAhead 111 = .ok (.imul, 1) := by decide +kernel
theorem dX3_settleAhead_112 : decode cX3_settleAhead 112 = .ok (.iload 4, 2) := by decide +kernel
theorem dX3_settleAhead_114 : decode cX3_settleAhead 114 = .ok (.iadd, 1) := by decide +kernel
theorem dX3_settleAhead_115 : decode cX3_settleAhead 115 = .ok (.lload 5, 2) := by decide +kernel
theorem dX3_settleAhead_117 : decode cX3_settleAhead 117 = .ok (.invokestatic 60, 3) := by decide +kernel
theorem dX3_settleAhead_120 : decode cX3_settleAhead 120 = .ok (.iconst 1, 1) := by decide +kernel
theorem dX3_settleAhead_121 : decode cX3_settleAhead 121 = .ok (.istore_n 3, 1) := by decide +kernel
theorem ml3_77 : Cond.methodLink RX3 77 yX1_get ∈ pWW := pw5 (List.mem_of_getElem? (i := 55) rfl) rfl
theorem nl3_81 : (RX3, 81, yX11_include, "LineKeeper") ∈ nst_M := List.mem_of_getElem? (i := 29) rfl
theorem dX3_settleAhead_128 : decode cX3_settleAhead 128 = .ok (.iload_n 3, 1) := by decide +kernel
theorem dX3_settleAhead_129 : decode cX3_settleAhead 129 = .ok (.ireturn, 1) := by decide +kernel
theorem dX3_settleAhead_24 : decode cX3_settleAhead 24 = .ok (.iconst 3, 1) := by decide +kernel
theorem dX3_settleAhead_25 : decode cX3_settleAhead 25 = .ok (.istore_n 3, 1) := by decide +kernel
theorem dX3_settleAhead_26 : decode cX3_settleAhead 26 = .ok (.iload_n 3, 1) := by decide +kernel
theorem dX3_settleAhead_27 : decode cX3_settleAhead 27 = .ok (.bipush 11, 2) := by decide +kernel
theorem dX3_settleAhead_29 : decode cX3_settleAhead 29 = .ok (.if_icmp .ge 35, 3) := by decide +kernel
theorem dX3_settleAhead_32 : decode cX3_settleAhead 32 = .ok (.aload_n 1, 1) := by decide +kernel
theorem dX3_settleAhead_33 : decode cX3_settleAhead 33 = .ok (.iload_n 2, 1) := by decide +kernel
theorem dX3_settleAhead_34 : decode cX3_settleAhead 34 = .ok (.iload_n 3, 1) := by decide +kernel
theorem dX3_settleAhead_35 : decode cX3_settleAhead 35 = .ok (.invokevirtual 77, 3) := by decide +kernel
theorem dX3_settleAhead_38 : decode cX3_settleAhead 38 = .ok (.iconst 2, 1) := by decide +kernel
theorem dX3_settleAhead_39 : decode cX3_settleAhead 39 = .ok (.if_icmp .ne 19, 3) := by decide +kernel
theorem dX3_settleAhead_58 : decode cX3_settleAhead 58 = .ok (.iinc 3 2, 3) := by decide +kernel
theorem dX3_settleAhead_61 : decode cX3_settleAhead 61 = .ok (.goto (-35), 3) := by decide +kernel
theorem dX3_settleAhead_42 : decode cX3_settleAhead 42 = .ok (.aload_n 0, 1) := by decide +kernel
theorem dX3_settleAhead_43 : decode cX3_settleAhead 43 = .ok (.getfield 15, 3) := by decide +kernel
theorem dX3_settleAhead_46 : decode cX3_settleAhead 46 = .ok (.iconst 0, 1) := by decide +kernel
theorem dX3_settleAhead_47 : decode cX3_settleAhead 47 = .ok (.aload_n 1, 1) := by decide +kernel
theorem dX3_settleAhead_48 : decode cX3_settleAhead 48 = .ok (.iload_n 2, 1) := by decide +kernel
theorem dX3_settleAhead_49 : decode cX3_settleAhead 49 = .ok (.iload_n 3, 1) := by decide +kernel
theorem dX3_settleAhead_50 : decode cX3_settleAhead 50 = .ok (.iconst 1, 1) := by decide +kernel
theorem dX3_settleAhead_51 : decode cX3_settleAhead 51 = .ok (.iadd, 1) := by decide +kernel
theorem dX3_settleAhead_52 : decode cX3_settleAhead 52 = .ok (.invokevirtual 77, 3) := by decide +kernel
theorem dX3_settleAhead_55 : decode cX3_settleAhead 55 = .ok (.invokestatic 81, 3) := by decide +kernel
end
section
theorem cd_X3_findLiving : Cond.code yX3_findLiving cX3_findLiving 5 none ∈ pWW := pw5 (List.mem_of_getElem? (i := 25) rfl) rfl
abbrev m_X3_findLiving : MT := (yX3_findLiving, cX3_findLiving, 5, none)
theorem ok_X3_findLiving : pOk m_X3_findLiving := ⟨⟨cd_X3_findLiving, ini_3⟩, by decide +kernel, ⟨by decide +kernel, by decide +kernel⟩, Nat.le_of_ble_eq_true rfl⟩
theorem np_X3_findLiving : (parseMethodDescriptor yX3_findLiving.desc).map (fun d => d.parameters.length) = some 1 := by decide +kernel
theorem im_X3_findLiving : Cond.instanceMethod yX3_findLiving ∈ pWW := pw5 (List.mem_of_getElem? (i := 23) rfl) rfl
theorem se_X3_findLiving : Cond.selects RX3 yX3_findLiving yX3_findLiving ∈ pWW := pw5 (List.mem_of_getElem? (i := 24) rfl) rfl
theorem fl3_29 : Cond.fieldLink RX3 29 (TX1 1).1 (TX1 1).2.1 (TX1 1).2.2.1 ∈ pWW := pw1 (List.mem_of_getElem? (i := 82) rfl) rfl
theorem nl3_35 : (RX3, 35, yX11_clear, "LineKeeper") ∈ nst_M := List.mem_of_getElem? (i := 24) rfl
theorem cst3_39 : Cond.constant RX3 39 (1000000) ∈ pWW := pw5 (List.mem_of_getElem? (i := 13) rfl) rfl
theorem ml3_40 : Cond.methodLink RX3 40 yX3_gatherBehind ∈ pWW := pw5 (List.mem_of_getElem? (i := 33) rfl) rfl
theorem ml3_44 : Cond.methodLink RX3 44 yX3_settleAhead ∈ pWW := pw5 (List.mem_of_getElem? (i := 43) rfl) rfl
theorem dX3_findLiving_0 : decode cX3_findLiving 0 = .ok (.aload_n 0, 1) := by decide +kernel
theorem dX3_findLiving_1 : decode cX3_findLiving 1 = .ok (.getfield 9, 3) := by decide +kernel
theorem dX3_findLiving_4 : decode cX3_findLiving 4 = .ok (.aload_n 1, 1) := by decide +kernel
theorem dX3_findLiving_5 : decode cX3_findLiving 5 = .ok (.getfield 29, 3) := by decide +kernel
theorem dX3_findLiving_8 : decode cX3_findLiving 8 = .ok (.iconst 1, 1) := by decide +kernel
theorem dX3_findLiving_9 : decode cX3_findLiving 9 = .ok (.iadd, 1) := by decide +kernel
theorem dX3_findLiving_10 : decode cX3_findLiving 10 = .ok (.iconst 3, 1) := by decide +kernel
theorem dX3_findLiving_11 : decode cX3_findLiving 11 = .ok (.imul, 1) := by decide +kernel
theorem dX3_findLiving_12 : decode cX3_findLiving 12 = .ok (.invokestatic 35, 3) := by decide +kernel
theorem dX3_findLiving_15 : decode cX3_findLiving 15 = .ok (.iconst 1, 1) := by decide +kernel
theorem dX3_findLiving_16 : decode cX3_findLiving 16 = .ok (.istore_n 2, 1) := by decide +kernel
theorem dX3_findLiving_17 : decode cX3_findLiving 17 = .ok (.iconst 0, 1) := by decide +kernel
theorem dX3_findLiving_18 : decode cX3_findLiving 18 = .ok (.istore_n 3, 1) := by decide +kernel
theorem dX3_findLiving_19 : decode cX3_findLiving 19 = .ok (.iload_n 2, 1) := by decide +kernel
theorem dX3_findLiving_20 : decode cX3_findLiving 20 = .ok (.ifCond .eq 53, 3) := by decide +kernel
theorem dX3_findLiving_23 : decode cX3_findLiving 23 = .ok (.iload_n 3, 1) := by decide +kernel
theorem dX3_findLiving_24 : decode cX3_findLiving 24 = .ok (.ldc 39, 2) := by decide +kernel
theorem dX3_findLiving_26 : decode cX3_findLiving 26 = .ok (.if_icmp .ge 47, 3) := by decide +kernel
theorem dX3_findLiving_29 : decode cX3_findLiving 29 = .ok (.iconst 0, 1) := by decide +kernel
theorem dX3_findLiving_30 : decode cX3_findLiving 30 = .ok (.istore_n 2, 1) := by decide +kernel
theorem dX3_findLiving_31 : decode cX3_findLiving 31 = .ok (.aload_n 1, 1) := by decide +kernel
theorem dX3_findLiving_32 : decode cX3_findLiving 32 = .ok (.getfield 29, 3) := by decide +kernel
theorem dX3_findLiving_35 : decode cX3_findLiving 35 = .ok (.iconst 1, 1) := by decide +kernel
theorem dX3_findLiving_36 : decode cX3_findLiving 36 = .ok (.isub, 1) := by decide +kernel
theorem dX3_findLiving_37 : decode cX3_findLiving 37 = .ok (.istore 4, 2) := by decide +kernel
theorem dX3_findLiving_39 : decode cX3_findLiving 39 = .ok (.iload 4, 2) := by decide +kernel
theorem dX3_findLiving_41 : decode cX3_findLiving 41 = .ok (.ifCond .lt 26, 3) := by decide +kernel
theorem dX3_findLiving_44 : decode cX3_findLiving 44 = .ok (.aload_n 0, 1) := by decide +kernel
theorem dX3_findLiving_45 : decode cX3_findLiving 45 = .ok (.aload_n 1, 1) := by decide +kernel
theorem dX3_findLiving_46 : decode cX3_findLiving 46 = .ok (.iload 4, 2) := by decide +kernel
theorem dX3_findLiving_48 : decode cX3_findLiving 48 = .ok (.invokevirtual 40, 3) := by decide +kernel
theorem dX3_findLiving_51 : decode cX3_findLiving 51 = .ok (.iload_n 2, 1) := by decide +kernel
theorem dX3_findLiving_52 : decode cX3_findLiving 52 = .ok (.aload_n 0, 1) := by decide +kernel
theorem dX3_findLiving_53 : decode cX3_findLiving 53 = .ok (.aload_n 1, 1) := by decide +kernel
theorem dX3_findLiving_54 : decode cX3_findLiving 54 = .ok (.iload 4, 2) := by decide +kernel
theorem dX3_findLiving_56 : decode cX3_findLiving 56 = .ok (.invokevirtual 44, 3) := by decide +kernel
theorem dX3_findLiving_59 : decode cX3_findLiving 59 = .ok (.ior, 1) := by decide +kernel
theorem dX3_findLiving_60 : decode cX3_findLiving 60 = .ok (.istore_n 2, 1) := by decide +kernel
theorem dX3_findLiving_61 : decode cX3_findLiving 61 = .ok (.iinc 4 (-1), 3) := by decide +kernel
theorem dX3_findLiving_64 : decode cX3_findLiving 64 = .ok (.goto (-25), 3) := by decide +kernel
theorem dX3_findLiving_67 : decode cX3_findLiving 67 = .ok (.iinc 3 1, 3) := by decide +kernel
theorem dX3_findLiving_70 : decode cX3_findLiving 70 = .ok (.goto (-51), 3) := by decide +kernel
theorem dX3_findLiving_73 : decode cX3_findLiving 73 = .ok (.return_, 1) := by decide +kernel
end
section
theorem cd_X3_isSeen : Cond.code yX3_isSeen cX3_isSeen 2 (some .boolean) ∈ pWW := pw5 (List.mem_of_getElem? (i := 10) rfl) rfl
abbrev m_X3_isSeen : MT := (yX3_isSeen, cX3_isSeen, 2, (some .boolean))
theorem ok_X3_isSeen : pOk m_X3_isSeen := ⟨⟨cd_X3_isSeen, ini_3⟩, by decide +kernel, ⟨by decide +kernel, by decide +kernel⟩, Nat.le_of_ble_eq_true rfl⟩
theorem np_X3_isSeen : (parseMethodDescriptor yX3_isSeen.desc).map (fun d => d.parameters.length) = some 1 := by decide +kernel
theorem im_X3_isSeen : Cond.instanceMethod yX3_isSeen ∈ pWW := pw5 (List.mem_of_getElem? (i := 8) rfl) rfl
theorem se_X3_isSeen : Cond.selects RX3 yX3_isSeen yX3_isSeen ∈ pWW := pw5 (List.mem_of_getElem? (i := 9) rfl) rfl
theorem fl3_18 : Cond.fieldLink RX3 18 (TX3 2).1 (TX3 2).2.1 (TX3 2).2.2.1 ∈ pWW := pw1 (List.mem_of_getElem? (i := 224) rfl) rfl
theorem nl3_84 : (RX3, 84, yX11_at, "LineKeeper") ∈ nst_M := List.mem_of_getElem? (i := 21) rfl
theorem dX3_isSeen_0 : decode cX3_isSeen 0 = .ok (.aload_n 0, 1) := by decide +kernel
theorem dX3_isSeen_1 : decode cX3_isSeen 1 = .ok (.getfield 18, 3) := by decide +kernel
theorem dX3_isSeen_4 : decode cX3_isSeen 4 = .ok (.iload_n 1, 1) := by decide +kernel
theorem dX3_isSeen_5 : decode cX3_isSeen 5 = .ok (.invokestatic 84, 3) := by decide +kernel
theorem dX3_isSeen_8 : decode cX3_isSeen 8 = .ok (.ifCond .eq 7, 3) := by decide +kernel
theorem dX3_isSeen_15 : decode cX3_isSeen 15 = .ok (.iconst 0, 1) := by decide +kernel
theorem dX3_isSeen_16 : decode cX3_isSeen 16 = .ok (.ireturn, 1) := by decide +kernel
theorem dX3_isSeen_11 : decode cX3_isSeen 11 = .ok (.iconst 1, 1) := by decide +kernel
theorem dX3_isSeen_12 : decode cX3_isSeen 12 = .ok (.goto 4, 3) := by decide +kernel
end
section
theorem cd_X3_see : Cond.code yX3_see cX3_see 3 none ∈ pWW := pw5 (List.mem_of_getElem? (i := 6) rfl) rfl
abbrev m_X3_see : MT := (yX3_see, cX3_see, 3, none)
theorem ok_X3_see : pOk m_X3_see := ⟨⟨cd_X3_see, ini_3⟩, by decide +kernel, ⟨by decide +kernel, by decide +kernel⟩, Nat.le_of_ble_eq_true rfl⟩
theorem np_X3_see : (parseMethodDescriptor yX3_see.desc).map (fun d => d.parameters.length) = some 2 := by decide +kernel
theorem im_X3_see : Cond.instanceMethod yX3_see ∈ pWW := pw5 (List.mem_of_getElem? (i := 5) rfl) rfl
theorem se_X3_see : Cond.selects RX3 yX3_see yX3_see ∈ pWW := pws (List.mem_map.mpr ⟨_, lw_pin 51 rfl, rfl⟩) rfl
theorem ml3_100 : Cond.methodLink RX3 100 yX3_isSeen ∈ pWW := pw5 (List.mem_of_getElem? (i := 7) rfl) rfl
theorem nl3_103 : (RX3, 103, yX11_put, "LineKeeper") ∈ nst_M := List.mem_of_getElem? (i := 22) rfl
theorem fl3_22 : Cond.fieldLink RX3 22 (TX3 3).1 (TX3 3).2.1 (TX3 3).2.2.1 ∈ pWW := pw1 (List.mem_of_getElem? (i := 225) rfl) rfl
theorem fl3_94 : Cond.fieldLink RX3 94 (TX3 4).1 (TX3 4).2.1 (TX3 4).2.2.1 ∈ pWW := pw1 (List.mem_of_getElem? (i := 226) rfl) rfl
theorem dX3_see_0 : decode cX3_see 0 = .ok (.iload_n 2, 1) := by decide +kernel
theorem dX3_see_1 : decode cX3_see 1 = .ok (.ifCond .lt 50, 3) := by decide +kernel
theorem dX3_see_51 : decode cX3_see 51 = .ok (.return_, 1) := by decide +kernel
theorem dX3_see_4 : decode cX3_see 4 = .ok (.iload_n 2, 1) := by decide +kernel
theorem dX3_see_5 : decode cX3_see 5 = .ok (.aload_n 1, 1) := by decide +kernel
theorem dX3_see_6 : decode cX3_see 6 = .ok (.getfield 29, 3) := by decide +kernel
theorem dX3_see_9 : decode cX3_see 9 = .ok (.if_icmp .ge 42, 3) := by decide +kernel
theorem dX3_see_12 : decode cX3_see 12 = .ok (.aload_n 0, 1) := by decide +kernel
theorem dX3_see_13 : decode cX3_see 13 = .ok (.iload_n 2, 1) := by decide +kernel
theorem dX3_see_14 : decode cX3_see 14 = .ok (.invokevirtual 100, 3) := by decide +kernel
theorem dX3_see_17 : decode cX3_see 17 = .ok (.ifCond .ne 34, 3) := by decide +kernel
theorem dX3_see_20 : decode cX3_see 20 = .ok (.aload_n 0, 1) := by decide +kernel
theorem dX3_see_21 : decode cX3_see 21 = .ok (.getfield 18, 3) := by decide +kernel
theorem dX3_see_24 : decode cX3_see 24 = .ok (.iload_n 2, 1) := by decide +kernel
theorem dX3_see_25 : decode cX3_see 25 = .ok (.iconst 1, 1) := by decide +kernel
theorem dX3_see_26 : decode cX3_see 26 = .ok (.invokestatic 103, 3) := by decide +kernel
theorem dX3_see_29 : decode cX3_see 29 = .ok (.aload_n 0, 1) := by decide +kernel
theorem dX3_see_30 : decode cX3_see 30 = .ok (.getfield 22, 3) := by decide +kernel
theorem dX3_see_33 : decode cX3_see 33 = .ok (.aload_n 0, 1) := by decide +kernel
theorem dX3_see_34 : decode cX3_see 34 = .ok (.getfield 94, 3) := by decide +kernel
theorem dX3_see_37 : decode cX3_see 37 = .ok (.iload_n 2, 1) := by decide +kernel
theorem dX3_see_38 : decode cX3_see 38 = .ok (.invokestatic 103, 3) := by decide +kernel
theorem dX3_see_41 : decode cX3_see 41 = .ok (.aload_n 0, 1) := by decide +kernel
theorem dX3_see_42 : decode cX3_see 42 = .ok (.dup, 1) := by decide +kernel
theorem dX3_see_43 : decode cX3_see 43 = .ok (.getfield 94, 3) := by decide +kernel
theorem dX3_see_46 : decode cX3_see 46 = .ok (.iconst 1, 1) := by decide +kernel
theorem dX3_see_47 : decode cX3_see 47 = .ok (.iadd, 1) := by decide +kernel
theorem dX3_see_48 : decode cX3_see 48 = .ok (.putfield 94, 3) := by decide +kernel
end
section
theorem cd_X3_seeFrom : Cond.code yX3_seeFrom cX3_seeFrom 6 none ∈ pWW := pw5 (List.mem_of_getElem? (i := 1) rfl) rfl
abbrev m_X3_seeFrom : MT := (yX3_seeFrom, cX3_seeFrom, 6, none)
theorem ok_X3_seeFrom : pOk m_X3_seeFrom := ⟨⟨cd_X3_seeFrom, ini_3⟩, by decide +kernel, ⟨by decide +kernel, by decide +kernel⟩, Nat.le_of_ble_eq_true rfl⟩
theorem np_X3_seeFrom : (parseMethodDescriptor yX3_seeFrom.desc).map (fun d => d.parameters.length) = some 3 := by decide +kernel
theorem im_X3_seeFrom : Cond.instanceMethod yX3_seeFrom ∈ pWW := pw4 (List.mem_of_getElem? (i := 239) rfl) rfl
theorem se_X3_seeFrom : Cond.selects RX3 yX3_seeFrom yX3_seeFrom ∈ pWW := pw5 (List.mem_of_getElem? (i := 0) rfl) rfl
theorem ml3_88 : Cond.methodLink RX3 88 yJ7_fill_53178 ∈ pWW := pw5 (List.mem_of_getElem? (i := 2) rfl) rfl
theorem ml3_97 : Cond.methodLink RX3 97 yX3_see ∈ pWW := pw5 (List.mem_of_getElem? (i := 3) rfl) rfl
theorem dX3_seeFrom_0 : decode cX3_seeFrom 0 = .ok (.aload_n 0, 1) := by decide +kernel
theorem dX3_seeFrom_1 : decode cX3_seeFrom 1 = .ok (.getfield 18, 3) := by decide +kernel
theorem dX3_seeFrom_4 : decode cX3_seeFrom 4 = .ok (.iconst 0, 1) := by decide +kernel
theorem dX3_seeFrom_5 : decode cX3_seeFrom 5 = .ok (.invokestatic 88, 3) := by decide +kernel
theorem dX3_seeFrom_8 : decode cX3_seeFrom 8 = .ok (.aload_n 0, 1) := by decide +kernel
theorem dX3_seeFrom_9 : decode cX3_seeFrom 9 = .ok (.iconst 0, 1) := by decide +kernel
theorem dX3_seeFrom_10 : decode cX3_seeFrom 10 = .ok (.putfield 94, 3) := by decide +kernel
theorem dX3_seeFrom_13 : decode cX3_seeFrom 13 = .ok (.aload_n 0, 1) := by decide +kernel
theorem dX3_seeFrom_14 : decode cX3_seeFrom 14 = .ok (.aload_n 1, 1) := by decide +kernel
theorem dX3_seeFrom_15 : decode cX3_seeFrom 15 = .ok (.iload_n 2, 1) := by decide +kernel
theorem dX3_seeFrom_16 : decode cX3_seeFrom 16 = .ok (.invokevirtual 97, 3) := by decide +kernel
theorem dX3_seeFrom_19 : decode cX3_seeFrom 19 = .ok (.iconst 0, 1) := by decide +kernel
theorem dX3_seeFrom_20 : decode cX3_seeFrom 20 = .ok (.istore 4, 2) := by decide +kernel
theorem dX3_seeFrom_22 : decode cX3_seeFrom 22 = .ok (.aload_n 0, 1) := by decide +kernel
theorem dX3_seeFrom_23 : decode cX3_seeFrom 23 = .ok (.getfield 94, 3) := by decide +kernel
theorem dX3_seeFrom_26 : decode cX3_seeFrom 26 = .ok (.ifCond .le 86, 3) := by decide +kernel
theorem dX3_seeFrom_29 : decode cX3_seeFrom 29 = .ok (.iload 4, 2) := by decide +kernel
theorem dX3_seeFrom_31 : decode cX3_seeFrom 31 = .ok (.ldc 39, 2) := by decide +kernel
theorem dX3_seeFrom_33 : decode cX3_seeFrom 33 = .ok (.if_icmp .ge 79, 3) := by decide +kernel
theorem dX3_seeFrom_36 : decode cX3_seeFrom 36 = .ok (.aload_n 0, 1) := by decide +kernel
theorem dX3_seeFrom_37 : decode cX3_seeFrom 37 = .ok (.dup, 1) := by decide +kernel
theorem dX3_seeFrom_38 : decode cX3_seeFrom 38 = .ok (.getfield 94, 3) := by decide +kernel
theorem dX3_seeFrom_41 : decode cX3_seeFrom 41 = .ok (.iconst 1, 1) := by decide +kernel
theorem dX3_seeFrom_42 : decode cX3_seeFrom 42 = .ok (.isub, 1) := by decide +kernel
theorem dX3_seeFrom_43 : decode cX3_seeFrom 43 = .ok (.putfield 94, 3) := by decide +kernel
theorem dX3_seeFrom_46 : decode cX3_seeFrom 46 = .ok (.aload_n 0, 1) := by decide +kernel
theorem dX3_seeFrom_47 : decode cX3_seeFrom 47 = .ok (.getfield 22, 3) := by decide +kernel
theorem dX3_seeFrom_50 : decode cX3_seeFrom 50 = .ok (.aload_n 0, 1) := by decide +kernel
theorem dX3_seeFrom_51 : decode cX3_seeFrom 51 = .ok (.getfield 94, 3) := by decide +kernel
theorem dX3_seeFrom_54 : decode cX3_seeFrom 54 = .ok (.invokestatic 84, 3) := by decide +kernel
theorem dX3_seeFrom_57 : decode cX3_seeFrom 57 = .ok (.istore 5, 2) := by decide +kernel
theorem dX3_seeFrom_59 : decode cX3_seeFrom 59 = .ok (.iload_n 3, 1) := by decide +kernel
theorem dX3_seeFrom_60 : decode cX3_seeFrom 60 = .ok (.iconst (-1), 1) := by decide +kernel
theorem dX3_seeFrom_61 : decode cX3_seeFrom 61 = .ok (.if_icmp .eq 16, 3) := by decide +kernel
theorem dX3_seeFrom_77 : decode cX3_seeFrom 77 = .ok (.aload_n 1, 1) := by decide +kernel
theorem dX3_seeFrom_78 : decode cX3_seeFrom 78 = .ok (.iload 5, 2) := by decide +kernel
theorem dX3_seeFrom_80 : decode cX3_seeFrom 80 = .ok (.invokevirtual 48, 3) := by decide +kernel
theorem dX3_seeFrom_83 : decode cX3_seeFrom 83 = .ok (.ifCond .eq 12, 3) := by decide +kernel
theorem dX3_seeFrom_95 : decode cX3_seeFrom 95 = .ok (.aload_n 0, 1) := by decide +kernel
theorem dX3_seeFrom_96 : decode cX3_seeFrom 96 = .ok (.aload_n 1, 1) := by decide +kernel
theorem dX3_seeFrom_97 : decode cX3_seeFrom 97 = .ok (.aload_n 1, 1) := by decide +kernel
theorem dX3_seeFrom_98 : decode cX3_seeFrom 98 = .ok (.iload 5, 2) := by decide +kernel
theorem dX3_seeFrom_100 : decode cX3_seeFrom 100 = .ok (.invokevirtual 52, 3) := by decide +kernel
theorem dX3_seeFrom_103 : decode cX3_seeFrom 103 = .ok (.invokevirtual 97, 3) := by decide +kernel
theorem dX3_seeFrom_106 : decode cX3_seeFrom 106 = .ok (.iinc 4 1, 3) := by decide +kernel
theorem dX3_seeFrom_109 : decode cX3_seeFrom 109 = .ok (.goto (-87), 3) := by decide +kernel
theorem dX3_seeFrom_86 : decode cX3_seeFrom 86 = .ok (.aload_n 0, 1) := by decide +kernel
theorem dX3_seeFrom_87 : decode cX3_seeFrom 87 = .ok (.aload_n 1, 1) := by decide +kernel
theorem dX3_seeFrom_88 : decode cX3_seeFrom 88 = .ok (.iload 5, 2) := by decide +kernel
theorem dX3_seeFrom_90 : decode cX3_seeFrom 90 = .ok (.iconst 1, 1) := by decide +kernel
theorem dX3_seeFrom_91 : decode cX3_seeFrom 91 = .ok (.iadd, 1) := by decide +kernel
theorem dX3_seeFrom_92 : decode cX3_seeFrom 92 = .ok (.invokevirtual 97, 3) := by decide +kernel
theorem dX3_seeFrom_64 : decode cX3_seeFrom 64 = .ok (.aload_n 1, 1) := by decide +kernel
theorem dX3_seeFrom_65 : decode cX3_seeFrom 65 = .ok (.iload 5, 2) := by decide +kernel
theorem dX3_seeFrom_67 : decode cX3_seeFrom 67 = .ok (.invokevirtual 64, 3) := by decide +kernel
theorem dX3_seeFrom_70 : decode cX3_seeFrom 70 = .ok (.iload_n 3, 1) := by decide +kernel
theorem dX3_seeFrom_71 : decode cX3_seeFrom 71 = .ok (.if_icmp .ne 6, 3) := by decide +kernel
theorem dX3_seeFrom_74 : decode cX3_seeFrom 74 = .ok (.goto 32, 3) := by decide +kernel
theorem dX3_seeFrom_112 : decode cX3_seeFrom 112 = .ok (.return_, 1) := by decide +kernel
end
section
theorem cd_X2_takeOver : Cond.code yX2_takeOver cX2_takeOver 6 none ∈ pWW := pw5 (List.mem_of_getElem? (i := 79) rfl) rfl
theorem ini_2 : Cond.initialized RX2 ∈ pWW := pw1 (List.mem_of_getElem? (i := 8) rfl) rfl
abbrev m_X2_takeOver : MT := (yX2_takeOver, cX2_takeOver, 6, none)
theorem ok_X2_takeOver : pOk m_X2_takeOver := ⟨⟨cd_X2_takeOver, ini_2⟩, by decide +kernel, ⟨by decide +kernel, by decide +kernel⟩, Nat.le_of_ble_eq_true rfl⟩
theorem np_X2_takeOver : (parseMethodDescriptor yX2_takeOver.desc).map (fun d => d.parameters.length) = some 3 := by decide +kernel
theorem im_X2_takeOver : Cond.instanceMethod yX2_takeOver ∈ pWW := pw5 (List.mem_of_getElem? (i := 78) rfl) rfl
theorem se_X2_takeOver : Cond.selects RX2 yX2_takeOver yX2_takeOver ∈ pWW := pws (List.mem_map.mpr ⟨_, lw_pin 56 rfl, rfl⟩) rfl
theorem ml2_53 : Cond.methodLink RX2 53 yX1_get ∈ pWW := pw5 (List.mem_of_getElem? (i := 18) rfl) rfl
theorem ml2_77 : Cond.methodLink RX2 77 yX1_set ∈ pWW := pw5 (List.mem_of_getElem? (i := 81) rfl) rfl
theorem dX2_takeOver_0 : decode cX2_takeOver 0 = .ok (.aload_n 1, 1) := by decide +kernel
theorem dX2_takeOver_1 : decode cX2_takeOver 1 = .ok (.iload_n 2, 1) := by decide +kernel
theorem dX2_takeOver_2 : decode cX2_takeOver 2 = .ok (.iconst 0, 1) := by decide +kernel
theorem dX2_takeOver_3 : decode cX2_takeOver 3 = .ok (.invokevirtual 53, 3) := by decide +kernel
theorem dX2_takeOver_6 : decode cX2_takeOver 6 = .ok (.istore 4, 2) := by decide +kernel
theorem dX2_takeOver_8 : decode cX2_takeOver 8 = .ok (.iload 4, 2) := by decide +kernel
theorem dX2_takeOver_10 : decode cX2_takeOver 10 = .ok (.ifCond .ne 21, 3) := by decide +kernel
theorem dX2_takeOver_31 : decode cX2_takeOver 31 = .ok (.aload_n 1, 1) := by decide +kernel
theorem dX2_takeOver_32 : decode cX2_takeOver 32 = .ok (.iload_n 3, 1) := by decide +kernel
theorem dX2_takeOver_33 : decode cX2_takeOver 33 = .ok (.bipush 11, 2) := by decide +kernel
theorem dX2_takeOver_35 : decode cX2_takeOver 35 = .ok (.iconst 2, 1) := by decide +kernel
theorem dX2_takeOver_36 : decode cX2_takeOver 36 = .ok (.iload 4, 2) := by decide +kernel
theorem dX2_takeOver_38 : decode cX2_takeOver 38 = .ok (.iadd, 1) := by decide +kernel
theorem dX2_takeOver_39 : decode cX2_takeOver 39 = .ok (.invokevirtual 77, 3) := by decide +kernel
theorem dX2_takeOver_42 : decode cX2_takeOver 42 = .ok (.iconst 3, 1) := by decide +kernel
theorem dX2_takeOver_43 : decode cX2_takeOver 43 = .ok (.istore 5, 2) := by decide +kernel
theorem dX2_takeOver_45 : decode cX2_takeOver 45 = .ok (.iload 5, 2) := by decide +kernel
theorem dX2_takeOver_47 : decode cX2_takeOver 47 = .ok (.bipush 6, 2) := by decide +kernel
theorem dX2_takeOver_49 : decode cX2_takeOver 49 = .ok (.if_icmp .gt 23, 3) := by decide +kernel
theorem dX2_takeOver_52 : decode cX2_takeOver 52 = .ok (.aload_n 1, 1) := by decide +kernel
theorem dX2_takeOver_53 : decode cX2_takeOver 53 = .ok (.iload_n 3, 1) := by decide +kernel
theorem dX2_takeOver_54 : decode cX2_takeOver 54 = .ok (.iload 5, 2) := by decide +kernel
theorem dX2_takeOver_56 : decode cX2_takeOver 56 = .ok (.aload_n 1, 1) := by decide +kernel
theorem dX2_takeOver_57 : decode cX2_takeOver 57 = .ok (.iload_n 2, 1) := by decide +kernel
theorem dX2_takeOver_58 : decode cX2_takeOver 58 = .ok (.iload 5, 2) := by decide +kernel
theorem dX2_takeOver_60 : decode cX2_takeOver 60 = .ok (.invokevirtual 53, 3) := by decide +kernel
theorem dX2_takeOver_63 : decode cX2_takeOver 63 = .ok (.invokevirtual 77, 3) := by decide +kernel
theorem dX2_takeOver_66 : decode cX2_takeOver 66 = .ok (.iinc 5 1, 3) := by decide +kernel
theorem dX2_takeOver_69 : decode cX2_takeOver 69 = .ok (.goto (-24), 3) := by decide +kernel
theorem ml2_73 : Cond.methodLink RX2 73 yX1_setWhere ∈ pWW := pw5 (List.mem_of_getElem? (i := 80) rfl) rfl
theorem dX2_takeOver_72 : decode cX2_takeOver 72 = .ok (.return_, 1) := by decide +kernel
theorem dX2_takeOver_13 : decode cX2_takeOver 13 = .ok (.aload_n 1, 1) := by decide +kernel
theorem dX2_takeOver_14 : decode cX2_takeOver 14 = .ok (.iload_n 3, 1) := by decide +kernel
theorem dX2_takeOver_15 : decode cX2_takeOver 15 = .ok (.aload_n 1, 1) := by decide +kernel
theorem dX2_takeOver_16 : decode cX2_takeOver 16 = .ok (.iload_n 2, 1) := by decide +kernel
theorem dX2_takeOver_17 : decode cX2_takeOver 17 = .ok (.iconst 3, 1) := by decide +kernel
theorem dX2_takeOver_18 : decode cX2_takeOver 18 = .ok (.invokevirtual 53, 3) := by decide +kernel
theorem dX2_takeOver_21 : decode cX2_takeOver 21 = .ok (.aload_n 1, 1) := by decide +kernel
theorem dX2_takeOver_22 : decode cX2_takeOver 22 = .ok (.iload_n 2, 1) := by decide +kernel
theorem dX2_takeOver_23 : decode cX2_takeOver 23 = .ok (.iconst 4, 1) := by decide +kernel
theorem dX2_takeOver_24 : decode cX2_takeOver 24 = .ok (.invokevirtual 53, 3) := by decide +kernel
theorem dX2_takeOver_27 : decode cX2_takeOver 27 = .ok (.invokevirtual 73, 3) := by decide +kernel
theorem dX2_takeOver_30 : decode cX2_takeOver 30 = .ok (.return_, 1) := by decide +kernel
end
section
theorem cd_X2_loosenBinds : Cond.code yX2_loosenBinds cX2_loosenBinds 6 none ∈ pWW := pw5 (List.mem_of_getElem? (i := 74) rfl) rfl
abbrev m_X2_loosenBinds : MT := (yX2_loosenBinds, cX2_loosenBinds, 6, none)
theorem ok_X2_loosenBinds : pOk m_X2_loosenBinds := ⟨⟨cd_X2_loosenBinds, ini_2⟩, by decide +kernel, ⟨by decide +kernel, by decide +kernel⟩, Nat.le_of_ble_eq_true rfl⟩
theorem np_X2_loosenBinds : (parseMethodDescriptor yX2_loosenBinds.desc).map (fun d => d.parameters.length) = some 2 := by decide +kernel
theorem im_X2_loosenBinds : Cond.instanceMethod yX2_loosenBinds ∈ pWW := pw5 (List.mem_of_getElem? (i := 73) rfl) rfl
theorem se_X2_loosenBinds : Cond.selects RX2 yX2_loosenBinds yX2_loosenBinds ∈ pWW := pws (List.mem_map.mpr ⟨_, lw_pin 55 rfl, rfl⟩) rfl
theorem fl2_45 : Cond.fieldLink RX2 45 (TX1 1).1 (TX1 1).2.1 (TX1 1).2.2.1 ∈ pWW := pw1 (List.mem_of_getElem? (i := 83) rfl) rfl
theorem dX2_loosenBinds_0 : decode cX2_loosenBinds 0 = .ok (.aload_n 1, 1) := by decide +kernel
theorem dX2_loosenBinds_1 : decode cX2_loosenBinds 1 = .ok (.iload_n 2, 1) := by decide +kernel
theorem dX2_loosenBinds_2 : decode cX2_loosenBinds 2 = .ok (.iconst 1, 1) := by decide +kernel
theorem dX2_loosenBinds_3 : decode cX2_loosenBinds 3 = .ok (.invokevirtual 53, 3) := by decide +kernel
theorem dX2_loosenBinds_6 : decode cX2_loosenBinds 6 = .ok (.istore_n 3, 1) := by decide +kernel
theorem dX2_loosenBinds_7 : decode cX2_loosenBinds 7 = .ok (.iload_n 2, 1) := by decide +kernel
theorem dX2_loosenBinds_8 : decode cX2_loosenBinds 8 = .ok (.iconst 1, 1) := by decide +kernel
theorem dX2_loosenBinds_9 : decode cX2_loosenBinds 9 = .ok (.iadd, 1) := by decide +kernel
theorem dX2_loosenBinds_10 : decode cX2_loosenBinds 10 = .ok (.istore 4, 2) := by decide +kernel
theorem dX2_loosenBinds_12 : decode cX2_loosenBinds 12 = .ok (.iload 4, 2) := by decide +kernel
theorem dX2_loosenBinds_14 : decode cX2_loosenBinds 14 = .ok (.aload_n 1, 1) := by decide +kernel
theorem dX2_loosenBinds_15 : decode cX2_loosenBinds 15 = .ok (.getfield 45, 3) := by decide +kernel
theorem dX2_loosenBinds_18 : decode cX2_loosenBinds 18 = .ok (.if_icmp .ge 33, 3) := by decide +kernel
theorem dX2_loosenBinds_21 : decode cX2_loosenBinds 21 = .ok (.aload_n 1, 1) := by decide +kernel
theorem dX2_loosenBinds_22 : decode cX2_loosenBinds 22 = .ok (.iload 4, 2) := by decide +kernel
theorem dX2_loosenBinds_24 : decode cX2_loosenBinds 24 = .ok (.iconst 0, 1) := by decide +kernel
theorem dX2_loosenBinds_25 : decode cX2_loosenBinds 25 = .ok (.invokevirtual 53, 3) := by decide +kernel
theorem dX2_loosenBinds_28 : decode cX2_loosenBinds 28 = .ok (.bipush 11, 2) := by decide +kernel
theorem dX2_loosenBinds_30 : decode cX2_loosenBinds 30 = .ok (.if_icmp .eq 15, 3) := by decide +kernel
theorem dX2_loosenBinds_45 : decode cX2_loosenBinds 45 = .ok (.iinc 4 1, 3) := by decide +kernel
theorem dX2_loosenBinds_48 : decode cX2_loosenBinds 48 = .ok (.goto (-36), 3) := by decide +kernel
theorem dX2_loosenBinds_33 : decode cX2_loosenBinds 33 = .ok (.aload_n 1, 1) := by decide +kernel
theorem dX2_loosenBinds_34 : decode cX2_loosenBinds 34 = .ok (.iload 4, 2) := by decide +kernel
theorem dX2_loosenBinds_36 : decode cX2_loosenBinds 36 = .ok (.iconst 0, 1) := by decide +kernel
theorem dX2_loosenBinds_37 : decode cX2_loosenBinds 37 = .ok (.invokevirtual 53, 3) := by decide +kernel
theorem dX2_loosenBinds_40 : decode cX2_loosenBinds 40 = .ok (.bipush 12, 2) := by decide +kernel
theorem dX2_loosenBinds_42 : decode cX2_loosenBinds 42 = .ok (.if_icmp .ne 9, 3) := by decide +kernel
theorem fl2_9 : Cond.fieldLink RX2 9 (TX2 0).1 (TX2 0).2.1 (TX2 0).2.2.1 ∈ pWW := pw2 (List.mem_of_getElem? (i := 51) rfl) rfl
theorem ml2_41 : Cond.methodLink RX2 41 yX3_seeFrom ∈ pWW := pw4 (List.mem_of_getElem? (i := 238) rfl) rfl
theorem ml2_49 : Cond.methodLink RX2 49 yX3_isSeen ∈ pWW := pw5 (List.mem_of_getElem? (i := 17) rfl) rfl
theorem ml2_67 : Cond.methodLink RX2 67 yX1_leansOn ∈ pWW := pw5 (List.mem_of_getElem? (i := 75) rfl) rfl
theorem ml2_70 : Cond.methodLink RX2 70 yX2_takeOver ∈ pWW := pw5 (List.mem_of_getElem? (i := 76) rfl) rfl
theorem dX2_loosenBinds_51 : decode cX2_loosenBinds 51 = .ok (.aload_n 0, 1) := by decide +kernel
theorem dX2_loosenBinds_52 : decode cX2_loosenBinds 52 = .ok (.getfield 9, 3) := by decide +kernel
theorem dX2_loosenBinds_55 : decode cX2_loosenBinds 55 = .ok (.aload_n 1, 1) := by decide +kernel
theorem dX2_loosenBinds_56 : decode cX2_loosenBinds 56 = .ok (.iload_n 2, 1) := by decide +kernel
theorem dX2_loosenBinds_57 : decode cX2_loosenBinds 57 = .ok (.iconst 1, 1) := by decide +kernel
theorem dX2_loosenBinds_58 : decode cX2_loosenBinds 58 = .ok (.iadd, 1) := by decide +kernel
theorem dX2_loosenBinds_59 : decode cX2_loosenBinds 59 = .ok (.iload_n 3, 1) := by decide +kernel
theorem dX2_loosenBinds_60 : decode cX2_loosenBinds 60 = .ok (.invokevirtual 41, 3) := by decide +kernel
theorem dX2_loosenBinds_63 : decode cX2_loosenBinds 63 = .ok (.iconst 0, 1) := by decide +kernel
theorem dX2_loosenBinds_64 : decode cX2_loosenBinds 64 = .ok (.istore 5, 2) := by decide +kernel
theorem dX2_loosenBinds_66 : decode cX2_loosenBinds 66 = .ok (.iload 5, 2) := by decide +kernel
theorem dX2_loosenBinds_68 : decode cX2_loosenBinds 68 = .ok (.aload_n 1, 1) := by decide +kernel
theorem dX2_loosenBinds_69 : decode cX2_loosenBinds 69 = .ok (.getfield 45, 3) := by decide +kernel
theorem dX2_loosenBinds_72 : decode cX2_loosenBinds 72 = .ok (.if_icmp .ge 76, 3) := by decide +kernel
theorem dX2_loosenBinds_75 : decode cX2_loosenBinds 75 = .ok (.aload_n 0, 1) := by decide +kernel
theorem dX2_loosenBinds_76 : decode cX2_loosenBinds 76 = .ok (.getfield 9, 3) := by decide +kernel
theorem dX2_loosenBinds_79 : decode cX2_loosenBinds 79 = .ok (.iload 5, 2) := by decide +kernel
theorem dX2_loosenBinds_81 : decode cX2_loosenBinds 81 = .ok (.invokevirtual 49, 3) := by decide +kernel
theorem dX2_loosenBinds_84 : decode cX2_loosenBinds 84 = .ok (.ifCond .eq 58, 3) := by decide +kernel
theorem dX2_loosenBinds_142 : decode cX2_loosenBinds 142 = .ok (.iinc 5 1, 3) := by decide +kernel
theorem dX2_loosenBinds_145 : decode cX2_loosenBinds 145 = .ok (.goto (-79), 3) := by decide +kernel
theorem dX2_loosenBinds_87 : decode cX2_loosenBinds 87 = .ok (.aload_n 1, 1) := by decide +kernel
theorem dX2_loosenBinds_88 : decode cX2_loosenBinds 88 = .ok (.iload 5, 2) := by decide +kernel
theorem dX2_loosenBinds_90 : decode cX2_loosenBinds 90 = .ok (.iload_n 3, 1) := by decide +kernel
theorem dX2_loosenBinds_91 : decode cX2_loosenBinds 91 = .ok (.invokevirtual 67, 3) := by decide +kernel
theorem dX2_loosenBinds_94 : decode cX2_loosenBinds 94 = .ok (.ifCond .eq 48, 3) := by decide +kernel
theorem dX2_loosenBinds_97 : decode cX2_loosenBinds 97 = .ok (.iload 5, 2) := by decide +kernel
theorem dX2_loosenBinds_99 : decode cX2_loosenBinds 99 = .ok (.iload_n 2, 1) := by decide +kernel
theorem dX2_loosenBinds_100 : decode cX2_loosenBinds 100 = .ok (.if_icmp .le 33, 3) := by decide +kernel
theorem dX2_loosenBinds_133 : decode cX2_loosenBinds 133 = .ok (.aload_n 1, 1) := by decide +kernel
theorem dX2_loosenBinds_134 : decode cX2_loosenBinds 134 = .ok (.iload 5, 2) := by decide +kernel
theorem dX2_loosenBinds_136 : decode cX2_loosenBinds 136 = .ok (.bipush 12, 2) := by decide +kernel
theorem dX2_loosenBinds_138 : decode cX2_loosenBinds 138 = .ok (.iconst 0, 1) := by decide +kernel
theorem dX2_loosenBinds_139 : decode cX2_loosenBinds 139 = .ok (.invokevirtual 73, 3) := by decide +kernel
theorem dX2_loosenBinds_103 : decode cX2_loosenBinds 103 = .ok (.iload 5, 2) := by decide +kernel
theorem dX2_loosenBinds_105 : decode cX2_loosenBinds 105 = .ok (.iload 4, 2) := by decide +kernel
theorem dX2_loosenBinds_107 : decode cX2_loosenBinds 107 = .ok (.if_icmp .ge 26, 3) := by decide +kernel
theorem dX2_loosenBinds_110 : decode cX2_loosenBinds 110 = .ok (.aload_n 1, 1) := by decide +kernel
theorem dX2_loosenBinds_111 : decode cX2_loosenBinds 111 = .ok (.iload 5, 2) := by decide +kernel
theorem dX2_loosenBinds_113 : decode cX2_loosenBinds 113 = .ok (.bipush 11, 2) := by decide +kernel
theorem dX2_loosenBinds_115 : decode cX2_loosenBinds 115 = .ok (.invokevirtual 53, 3) := by decide +kernel
theorem dX2_loosenBinds_118 : decode cX2_loosenBinds 118 = .ok (.iconst 2, 1) := by decide +kernel
theorem dX2_loosenBinds_119 : decode cX2_loosenBinds 119 = .ok (.if_icmp .ne 14, 3) := by decide +kernel
theorem dX2_loosenBinds_122 : decode cX2_loosenBinds 122 = .ok (.aload_n 0, 1) := by decide +kernel
theorem dX2_loosenBinds_123 : decode cX2_loosenBinds 123 = .ok (.aload_n 1, 1) := by decide +kernel
theorem dX2_loosenBinds_124 : decode cX2_loosenBinds 124 = .ok (.iload_n 2, 1) := by decide +kernel
theorem dX2_loosenBinds_125 : decode cX2_loosenBinds 125 = .ok (.iload 5, 2) := by decide +kernel
theorem dX2_loosenBinds_127 : decode cX2_loosenBinds 127 = .ok (.invokevirtual 70, 3) := by decide +kernel
theorem dX2_loosenBinds_130 : decode cX2_loosenBinds 130 = .ok (.goto 12, 3) := by decide +kernel
theorem dX2_loosenBinds_148 : decode cX2_loosenBinds 148 = .ok (.return_, 1) := by decide +kernel
end
section
theorem cd_X2_lastUnread : Cond.code yX2_lastUnread cX2_lastUnread 3 (some .int) ∈ pWW := pw5 (List.mem_of_getElem? (i := 62) rfl) rfl
abbrev m_X2_lastUnread : MT := (yX2_lastUnread, cX2_lastUnread, 3, (some .int))
theorem ok_X2_lastUnread : pOk m_X2_lastUnread := ⟨⟨cd_X2_lastUnread, ini_2⟩, by decide +kernel, ⟨by decide +kernel, by decide +kernel⟩, Nat.le_of_ble_eq_true rfl⟩
theorem np_X2_lastUnread : (parseMethodDescriptor yX2_lastUnread.desc).map (fun d => d.parameters.length) = some 1 := by decide +kernel
theorem im_X2_lastUnread : Cond.instanceMethod yX2_lastUnread ∈ pWW := pw5 (List.mem_of_getElem? (i := 61) rfl) rfl
theorem se_X2_lastUnread : Cond.selects RX2 yX2_lastUnread yX2_lastUnread ∈ pWW := pws (List.mem_map.mpr ⟨_, lw_pin 54 rfl, rfl⟩) rfl
theorem nl2_60 : (RX2, 60, yX11_isPure, "LineKeeper") ∈ nst_M := List.mem_of_getElem? (i := 30) rfl
theorem ml2_63 : Cond.methodLink RX2 63 yX3_lives ∈ pWW := pw5 (List.mem_of_getElem? (i := 64) rfl) rfl
theorem dX2_lastUnread_0 : decode cX2_lastUnread 0 = .ok (.aload_n 1, 1) := by decide +kernel
theorem dX2_lastUnread_1 : decode cX2_lastUnread 1 = .ok (.getfield 45, 3) := by decide +kernel
theorem dX2_lastUnread_4 : decode cX2_lastUnread 4 = .ok (.iconst 1, 1) := by decide +kernel
theorem dX2_lastUnread_5 : decode cX2_lastUnread 5 = .ok (.isub, 1) := by decide +kernel
theorem dX2_lastUnread_6 : decode cX2_lastUnread 6 = .ok (.istore_n 2, 1) := by decide +kernel
theorem dX2_lastUnread_7 : decode cX2_lastUnread 7 = .ok (.iload_n 2, 1) := by decide +kernel
theorem dX2_lastUnread_8 : decode cX2_lastUnread 8 = .ok (.ifCond .lt 42, 3) := by decide +kernel
theorem dX2_lastUnread_11 : decode cX2_lastUnread 11 = .ok (.aload_n 1, 1) := by decide +kernel
theorem dX2_lastUnread_12 : decode cX2_lastUnread 12 = .ok (.iload_n 2, 1) := by decide +kernel
theorem dX2_lastUnread_13 : decode cX2_lastUnread 13 = .ok (.iconst 0, 1) := by decide +kernel
theorem dX2_lastUnread_14 : decode cX2_lastUnread 14 = .ok (.invokevirtual 53, 3) := by decide +kernel
theorem dX2_lastUnread_17 : decode cX2_lastUnread 17 = .ok (.invokestatic 60, 3) := by decide +kernel
theorem dX2_lastUnread_20 : decode cX2_lastUnread 20 = .ok (.ifCond .eq 24, 3) := by decide +kernel
theorem dX2_lastUnread_44 : decode cX2_lastUnread 44 = .ok (.iinc 2 (-1), 3) := by decide +kernel
theorem dX2_lastUnread_47 : decode cX2_lastUnread 47 = .ok (.goto (-40), 3) := by decide +kernel
theorem dX2_lastUnread_23 : decode cX2_lastUnread 23 = .ok (.aload_n 0, 1) := by decide +kernel
theorem dX2_lastUnread_24 : decode cX2_lastUnread 24 = .ok (.getfield 9, 3) := by decide +kernel
theorem dX2_lastUnread_27 : decode cX2_lastUnread 27 = .ok (.iload_n 2, 1) := by decide +kernel
theorem dX2_lastUnread_28 : decode cX2_lastUnread 28 = .ok (.iconst 1, 1) := by decide +kernel
theorem dX2_lastUnread_29 : decode cX2_lastUnread 29 = .ok (.iadd, 1) := by decide +kernel
theorem dX2_lastUnread_30 : decode cX2_lastUnread 30 = .ok (.aload_n 1, 1) := by decide +kernel
theorem dX2_lastUnread_31 : decode cX2_lastUnread 31 = .ok (.iload_n 2, 1) := by decide +kernel
theorem dX2_lastUnread_32 : decode cX2_lastUnread 32 = .ok (.iconst 1, 1) := by decide +kernel
theorem dX2_lastUnread_33 : decode cX2_lastUnread 33 = .ok (.invokevirtual 53, 3) := by decide +kernel
theorem dX2_lastUnread_36 : decode cX2_lastUnread 36 = .ok (.invokevirtual 63, 3) := by decide +kernel
theorem dX2_lastUnread_39 : decode cX2_lastUnread 39 = .ok (.ifCond .ne 5, 3) := by decide +kernel
theorem dX2_lastUnread_42 : decode cX2_lastUnread 42 = .ok (.iload_n 2, 1) := by decide +kernel
theorem dX2_lastUnread_43 : decode cX2_lastUnread 43 = .ok (.ireturn, 1) := by decide +kernel
theorem dX2_lastUnread_50 : decode cX2_lastUnread 50 = .ok (.iconst (-1), 1) := by decide +kernel
theorem dX2_lastUnread_51 : decode cX2_lastUnread 51 = .ok (.ireturn, 1) := by decide +kernel
end
section
theorem cd_X2_dropUnreached : Cond.code yX2_dropUnreached cX2_dropUnreached 4 (some .int) ∈ pWW := pw4 (List.mem_of_getElem? (i := 237) rfl) rfl
abbrev m_X2_dropUnreached : MT := (yX2_dropUnreached, cX2_dropUnreached, 4, (some .int))
theorem ok_X2_dropUnreached : pOk m_X2_dropUnreached := ⟨⟨cd_X2_dropUnreached, ini_2⟩, by decide +kernel, ⟨by decide +kernel, by decide +kernel⟩, Nat.le_of_ble_eq_true rfl⟩
theorem np_X2_dropUnreached : (parseMethodDescriptor yX2_dropUnreached.desc).map (fun d => d.parameters.length) = some 1 := by decide +kernel
theorem im_X2_dropUnreached : Cond.instanceMethod yX2_dropUnreached ∈ pWW := pw4 (List.mem_of_getElem? (i := 236) rfl) rfl
theorem se_X2_dropUnreached : Cond.selects RX2 yX2_dropUnreached yX2_dropUnreached ∈ pWW := pws (List.mem_map.mpr ⟨_, lw_pin 50 rfl, rfl⟩) rfl
theorem nl2_57 : (RX2, 57, yX11_isAct, "LineKeeper") ∈ nst_M := List.mem_of_getElem? (i := 23) rfl
theorem ml2_37 : Cond.methodLink RX2 37 yX1_removeRow ∈ pWW := pw5 (List.mem_of_getElem? (i := 20) rfl) rfl
theorem dX2_dropUnreached_0 : decode cX2_dropUnreached 0 = .ok (.aload_n 0, 1) := by decide +kernel
theorem dX2_dropUnreached_1 : decode cX2_dropUnreached 1 = .ok (.getfield 9, 3) := by decide +kernel
theorem dX2_dropUnreached_4 : decode cX2_dropUnreached 4 = .ok (.aload_n 1, 1) := by decide +kernel
theorem dX2_dropUnreached_5 : decode cX2_dropUnreached 5 = .ok (.iconst 0, 1) := by decide +kernel
theorem dX2_dropUnreached_6 : decode cX2_dropUnreached 6 = .ok (.iconst (-1), 1) := by decide +kernel
theorem dX2_dropUnreached_7 : decode cX2_dropUnreached 7 = .ok (.invokevirtual 41, 3) := by decide +kernel
theorem dX2_dropUnreached_10 : decode cX2_dropUnreached 10 = .ok (.iconst 0, 1) := by decide +kernel
theorem dX2_dropUnreached_11 : decode cX2_dropUnreached 11 = .ok (.istore_n 2, 1) := by decide +kernel
theorem dX2_dropUnreached_12 : decode cX2_dropUnreached 12 = .ok (.aload_n 1, 1) := by decide +kernel
theorem dX2_dropUnreached_13 : decode cX2_dropUnreached 13 = .ok (.getfield 45, 3) := by decide +kernel
theorem dX2_dropUnreached_16 : decode cX2_dropUnreached 16 = .ok (.iconst 1, 1) := by decide +kernel
theorem dX2_dropUnreached_17 : decode cX2_dropUnreached 17 = .ok (.isub, 1) := by decide +kernel
theorem dX2_dropUnreached_18 : decode cX2_dropUnreached 18 = .ok (.istore_n 3, 1) := by decide +kernel
theorem dX2_dropUnreached_19 : decode cX2_dropUnreached 19 = .ok (.iload_n 3, 1) := by decide +kernel
theorem dX2_dropUnreached_20 : decode cX2_dropUnreached 20 = .ok (.ifCond .lt 45, 3) := by decide +kernel
theorem dX2_dropUnreached_23 : decode cX2_dropUnreached 23 = .ok (.aload_n 0, 1) := by decide +kernel
theorem dX2_dropUnreached_24 : decode cX2_dropUnreached 24 = .ok (.getfield 9, 3) := by decide +kernel
theorem dX2_dropUnreached_27 : decode cX2_dropUnreached 27 = .ok (.iload_n 3, 1) := by decide +kernel
theorem dX2_dropUnreached_28 : decode cX2_dropUnreached 28 = .ok (.invokevirtual 49, 3) := by decide +kernel
theorem dX2_dropUnreached_31 : decode cX2_dropUnreached 31 = .ok (.ifCond .ne 28, 3) := by decide +kernel
theorem dX2_dropUnreached_59 : decode cX2_dropUnreached 59 = .ok (.iinc 3 (-1), 3) := by decide +kernel
theorem dX2_dropUnreached_62 : decode cX2_dropUnreached 62 = .ok (.goto (-43), 3) := by decide +kernel
theorem dX2_dropUnreached_34 : decode cX2_dropUnreached 34 = .ok (.iload_n 2, 1) := by decide +kernel
theorem dX2_dropUnreached_35 : decode cX2_dropUnreached 35 = .ok (.aload_n 1, 1) := by decide +kernel
theorem dX2_dropUnreached_36 : decode cX2_dropUnreached 36 = .ok (.iload_n 3, 1) := by decide +kernel
theorem dX2_dropUnreached_37 : decode cX2_dropUnreached 37 = .ok (.iconst 0, 1) := by decide +kernel
theorem dX2_dropUnreached_38 : decode cX2_dropUnreached 38 = .ok (.invokevirtual 53, 3) := by decide +kernel
theorem dX2_dropUnreached_41 : decode cX2_dropUnreached 41 = .ok (.invokestatic 57, 3) := by decide +kernel
theorem dX2_dropUnreached_44 : decode cX2_dropUnreached 44 = .ok (.ifCond .eq 7, 3) := by decide +kernel
theorem dX2_dropUnreached_51 : decode cX2_dropUnreached 51 = .ok (.iconst 0, 1) := by decide +kernel
theorem dX2_dropUnreached_52 : decode cX2_dropUnreached 52 = .ok (.iadd, 1) := by decide +kernel
theorem dX2_dropUnreached_53 : decode cX2_dropUnreached 53 = .ok (.istore_n 2, 1) := by decide +kernel
theorem dX2_dropUnreached_54 : decode cX2_dropUnreached 54 = .ok (.aload_n 1, 1) := by decide +kernel
theorem dX2_dropUnreached_55 : decode cX2_dropUnreached 55 = .ok (.iload_n 3, 1) := by decide +kernel
theorem dX2_dropUnreached_56 : decode cX2_dropUnreached 56 = .ok (.invokevirtual 37, 3) := by decide +kernel
theorem dX2_dropUnreached_47 : decode cX2_dropUnreached 47 = .ok (.iconst 1, 1) := by decide +kernel
theorem dX2_dropUnreached_48 : decode cX2_dropUnreached 48 = .ok (.goto 4, 3) := by decide +kernel
theorem dX2_dropUnreached_65 : decode cX2_dropUnreached 65 = .ok (.iload_n 2, 1) := by decide +kernel
theorem dX2_dropUnreached_66 : decode cX2_dropUnreached 66 = .ok (.ireturn, 1) := by decide +kernel
end
section
theorem cd_X2_drop : Cond.code yX2_drop cX2_drop 5 (some .int) ∈ pWW := pw4 (List.mem_of_getElem? (i := 233) rfl) rfl
abbrev m_X2_drop : MT := (yX2_drop, cX2_drop, 5, (some .int))
theorem ok_X2_drop : pOk m_X2_drop := ⟨⟨cd_X2_drop, ini_2⟩, by decide +kernel, ⟨by decide +kernel, by decide +kernel⟩, Nat.le_of_ble_eq_true rfl⟩
theorem np_X2_drop : (parseMethodDescriptor yX2_drop.desc).map (fun d => d.parameters.length) = some 1 := by decide +kernel
theorem im_X2_drop : Cond.instanceMethod yX2_drop ∈ pWW := pw4 (List.mem_of_getElem? (i := 231) rfl) rfl
theorem se_X2_drop : Cond.selects RX2 yX2_drop yX2_drop ∈ pWW := pw4 (List.mem_of_getElem? (i := 232) rfl) rfl
theorem ml2_15 : Cond.methodLink RX2 15 yX2_dropUnreached ∈ pWW := pw4 (List.mem_of_getElem? (i := 234) rfl) rfl
theorem ml2_19 : Cond.methodLink RX2 19 yX1_link ∈ pWW := pw5 (List.mem_of_getElem? (i := 21) rfl) rfl
theorem ml2_24 : Cond.methodLink RX2 24 yX3_findLiving ∈ pWW := pw5 (List.mem_of_getElem? (i := 22) rfl) rfl
theorem ml2_30 : Cond.methodLink RX2 30 yX2_lastUnread ∈ pWW := pw5 (List.mem_of_getElem? (i := 59) rfl) rfl
theorem ml2_33 : Cond.methodLink RX2 33 yX2_loosenBinds ∈ pWW := pw5 (List.mem_of_getElem? (i := 71) rfl) rfl
theorem dX2_drop_0 : decode cX2_drop 0 = .ok (.aload_n 0, 1) := by decide +kernel
theorem dX2_drop_1 : decode cX2_drop 1 = .ok (.aload_n 1, 1) := by decide +kernel
theorem dX2_drop_2 : decode cX2_drop 2 = .ok (.invokevirtual 15, 3) := by decide +kernel
theorem dX2_drop_5 : decode cX2_drop 5 = .ok (.istore_n 2, 1) := by decide +kernel
theorem dX2_drop_6 : decode cX2_drop 6 = .ok (.aload_n 1, 1) := by decide +kernel
theorem dX2_drop_7 : decode cX2_drop 7 = .ok (.invokevirtual 19, 3) := by decide +kernel
theorem dX2_drop_10 : decode cX2_drop 10 = .ok (.iconst 0, 1) := by decide +kernel
theorem dX2_drop_11 : decode cX2_drop 11 = .ok (.istore_n 3, 1) := by decide +kernel
theorem dX2_drop_12 : decode cX2_drop 12 = .ok (.iload_n 3, 1) := by decide +kernel
theorem dX2_drop_13 : decode cX2_drop 13 = .ok (.sipush 200, 3) := by decide +kernel
theorem dX2_drop_16 : decode cX2_drop 16 = .ok (.if_icmp .ge 53, 3) := by decide +kernel
theorem dX2_drop_19 : decode cX2_drop 19 = .ok (.aload_n 0, 1) := by decide +kernel
theorem dX2_drop_20 : decode cX2_drop 20 = .ok (.getfield 9, 3) := by decide +kernel
theorem dX2_drop_23 : decode cX2_drop 23 = .ok (.aload_n 1, 1) := by decide +kernel
theorem dX2_drop_24 : decode cX2_drop 24 = .ok (.invokevirtual 24, 3) := by decide +kernel
theorem dX2_drop_27 : decode cX2_drop 27 = .ok (.aload_n 0, 1) := by decide +kernel
theorem dX2_drop_28 : decode cX2_drop 28 = .ok (.aload_n 1, 1) := by decide +kernel
theorem dX2_drop_29 : decode cX2_drop 29 = .ok (.invokevirtual 30, 3) := by decide +kernel
theorem dX2_drop_32 : decode cX2_drop 32 = .ok (.istore 4, 2) := by decide +kernel
theorem dX2_drop_34 : decode cX2_drop 34 = .ok (.iload 4, 2) := by decide +kernel
theorem dX2_drop_36 : decode cX2_drop 36 = .ok (.iconst (-1), 1) := by decide +kernel
theorem dX2_drop_37 : decode cX2_drop 37 = .ok (.if_icmp .ne 6, 3) := by decide +kernel
theorem dX2_drop_43 : decode cX2_drop 43 = .ok (.aload_n 0, 1) := by decide +kernel
theorem dX2_drop_44 : decode cX2_drop 44 = .ok (.aload_n 1, 1) := by decide +kernel
theorem dX2_drop_45 : decode cX2_drop 45 = .ok (.iload 4, 2) := by decide +kernel
theorem dX2_drop_47 : decode cX2_drop 47 = .ok (.invokevirtual 33, 3) := by decide +kernel
theorem dX2_drop_50 : decode cX2_drop 50 = .ok (.aload_n 1, 1) := by decide +kernel
theorem dX2_drop_51 : decode cX2_drop 51 = .ok (.iload 4, 2) := by decide +kernel
theorem dX2_drop_53 : decode cX2_drop 53 = .ok (.invokevirtual 37, 3) := by decide +kernel
theorem dX2_drop_56 : decode cX2_drop 56 = .ok (.aload_n 1, 1) := by decide +kernel
theorem dX2_drop_57 : decode cX2_drop 57 = .ok (.invokevirtual 19, 3) := by decide +kernel
theorem dX2_drop_60 : decode cX2_drop 60 = .ok (.iinc 2 1, 3) := by decide +kernel
theorem dX2_drop_63 : decode cX2_drop 63 = .ok (.iinc 3 1, 3) := by decide +kernel
theorem dX2_drop_66 : decode cX2_drop 66 = .ok (.goto (-54), 3) := by decide +kernel
theorem dX2_drop_40 : decode cX2_drop 40 = .ok (.goto 29, 3) := by decide +kernel
theorem dX2_drop_69 : decode cX2_drop 69 = .ok (.iload_n 2, 1) := by decide +kernel
theorem dX2_drop_70 : decode cX2_drop 70 = .ok (.ireturn, 1) := by decide +kernel
end
section
theorem cd_X6_foldBind : Cond.code yX6_foldBind cX6_foldBind 4 none ∈ pWW := pw4 (List.mem_of_getElem? (i := 193) rfl) rfl
theorem ini_6 : Cond.initialized RX6 ∈ pWW := pw1 (List.mem_of_getElem? (i := 7) rfl) rfl
abbrev m_X6_foldBind : MT := (yX6_foldBind, cX6_foldBind, 4, none)
theorem ok_X6_foldBind : pOk m_X6_foldBind := ⟨⟨cd_X6_foldBind, ini_6⟩, by decide +kernel, ⟨by decide +kernel, by decide +kernel⟩, Nat.le_of_ble_eq_true rfl⟩
theorem np_X6_foldBind : (parseMethodDescriptor yX6_foldBind.desc).map (fun d => d.parameters.length) = some 2 := by decide +kernel
theorem im_X6_foldBind : Cond.instanceMethod yX6_foldBind ∈ pWW := pw4 (List.mem_of_getElem? (i := 192) rfl) rfl
theorem se_X6_foldBind : Cond.selects RX6 yX6_foldBind yX6_foldBind ∈ pWW := pws (List.mem_map.mpr ⟨_, lw_pin 45 rfl, rfl⟩) rfl
theorem ml6_34 : Cond.methodLink RX6 34 yX1_get ∈ pWW := pw4 (List.mem_of_getElem? (i := 189) rfl) rfl
theorem fl6_9 : Cond.fieldLink RX6 9 (TX6 0).1 (TX6 0).2.1 (TX6 0).2.2.1 ∈ pWW := pw2 (List.mem_of_getElem? (i := 35) rfl) rfl
theorem nl6_63 : (RX6, 63, yX11_at, "LineKeeper") ∈ nst_M := List.mem_of_getElem? (i := 16) rfl
theorem fl6_15 : Cond.fieldLink RX6 15 (TX6 1).1 (TX6 1).2.1 (TX6 1).2.2.1 ∈ pWW := pw2 (List.mem_of_getElem? (i := 36) rfl) rfl
theorem ml6_67 : Cond.methodLink RX6 67 yX1_setWhere ∈ pWW := pw4 (List.mem_of_getElem? (i := 195) rfl) rfl
theorem dX6_foldBind_0 : decode cX6_foldBind 0 = .ok (.aload_n 1, 1) := by decide +kernel
theorem dX6_foldBind_1 : decode cX6_foldBind 1 = .ok (.iload_n 2, 1) := by decide +kernel
theorem dX6_foldBind_2 : decode cX6_foldBind 2 = .ok (.iconst 4, 1) := by decide +kernel
theorem dX6_foldBind_3 : decode cX6_foldBind 3 = .ok (.invokevirtual 34, 3) := by decide +kernel
theorem dX6_foldBind_6 : decode cX6_foldBind 6 = .ok (.istore_n 3, 1) := by decide +kernel
theorem dX6_foldBind_7 : decode cX6_foldBind 7 = .ok (.aload_n 1, 1) := by decide +kernel
theorem dX6_foldBind_8 : decode cX6_foldBind 8 = .ok (.iload_n 2, 1) := by decide +kernel
theorem dX6_foldBind_9 : decode cX6_foldBind 9 = .ok (.bipush 11, 2) := by decide +kernel
theorem dX6_foldBind_11 : decode cX6_foldBind 11 = .ok (.invokevirtual 34, 3) := by decide +kernel
theorem dX6_foldBind_14 : decode cX6_foldBind 14 = .ok (.iconst 2, 1) := by decide +kernel
theorem dX6_foldBind_15 : decode cX6_foldBind 15 = .ok (.if_icmp .ne 29, 3) := by decide +kernel
theorem dX6_foldBind_44 : decode cX6_foldBind 44 = .ok (.return_, 1) := by decide +kernel
theorem dX6_foldBind_18 : decode cX6_foldBind 18 = .ok (.aload_n 0, 1) := by decide +kernel
theorem dX6_foldBind_19 : decode cX6_foldBind 19 = .ok (.getfield 9, 3) := by decide +kernel
theorem dX6_foldBind_22 : decode cX6_foldBind 22 = .ok (.iload_n 3, 1) := by decide +kernel
theorem dX6_foldBind_23 : decode cX6_foldBind 23 = .ok (.invokestatic 63, 3) := by decide +kernel
theorem dX6_foldBind_26 : decode cX6_foldBind 26 = .ok (.iconst 1, 1) := by decide +kernel
theorem dX6_foldBind_27 : decode cX6_foldBind 27 = .ok (.if_icmp .ne 17, 3) := by decide +kernel
theorem dX6_foldBind_30 : decode cX6_foldBind 30 = .ok (.aload_n 1, 1) := by decide +kernel
theorem dX6_foldBind_31 : decode cX6_foldBind 31 = .ok (.iload_n 2, 1) := by decide +kernel
theorem dX6_foldBind_32 : decode cX6_foldBind 32 = .ok (.iconst 1, 1) := by decide +kernel
theorem dX6_foldBind_33 : decode cX6_foldBind 33 = .ok (.aload_n 0, 1) := by decide +kernel
theorem dX6_foldBind_34 : decode cX6_foldBind 34 = .ok (.getfield 15, 3) := by decide +kernel
theorem dX6_foldBind_37 : decode cX6_foldBind 37 = .ok (.iload_n 3, 1) := by decide +kernel
theorem dX6_foldBind_38 : decode cX6_foldBind 38 = .ok (.invokestatic 63, 3) := by decide +kernel
theorem dX6_foldBind_41 : decode cX6_foldBind 41 = .ok (.invokevirtual 67, 3) := by decide +kernel
end
section
theorem cd_X6_foldOperands : Cond.code yX6_foldOperands cX6_foldOperands 6 (some .boolean) ∈ pWW := pw4 (List.mem_of_getElem? (i := 200) rfl) rfl
abbrev m_X6_foldOperands : MT := (yX6_foldOperands, cX6_foldOperands, 6, (some .boolean))
theorem ok_X6_foldOperands : pOk m_X6_foldOperands := ⟨⟨cd_X6_foldOperands, ini_6⟩, by decide +kernel, ⟨by decide +kernel, by decide +kernel⟩, Nat.le_of_ble_eq_true rfl⟩
theorem np_X6_foldOperands : (parseMethodDescriptor yX6_foldOperands.desc).map (fun d => d.parameters.length) = some 2 := by decide +kernel
theorem im_X6_foldOperands : Cond.instanceMethod yX6_foldOperands ∈ pWW := pw4 (List.mem_of_getElem? (i := 199) rfl) rfl
theorem se_X6_foldOperands : Cond.selects RX6 yX6_foldOperands yX6_foldOperands ∈ pWW := pws (List.mem_map.mpr ⟨_, lw_pin 46 rfl, rfl⟩) rfl
theorem ml6_71 : Cond.methodLink RX6 71 yX1_set ∈ pWW := pw4 (List.mem_of_getElem? (i := 201) rfl) rfl
theorem dX6_foldOperands_0 : decode cX6_foldOperands 0 = .ok (.iconst 0, 1) := by decide +kernel
theorem dX6_foldOperands_1 : decode cX6_foldOperands 1 = .ok (.istore_n 3, 1) := by decide +kernel
theorem dX6_foldOperands_2 : decode cX6_foldOperands 2 = .ok (.iconst 3, 1) := by decide +kernel
theorem dX6_foldOperands_3 : decode cX6_foldOperands 3 = .ok (.istore 4, 2) := by decide +kernel
theorem dX6_foldOperands_5 : decode cX6_foldOperands 5 = .ok (.iload 4, 2) := by decide +kernel
theorem dX6_foldOperands_7 : decode cX6_foldOperands 7 = .ok (.bipush 11, 2) := by decide +kernel
theorem dX6_foldOperands_9 : decode cX6_foldOperands 9 = .ok (.if_icmp .ge 79, 3) := by decide +kernel
theorem dX6_foldOperands_12 : decode cX6_foldOperands 12 = .ok (.aload_n 1, 1) := by decide +kernel
theorem dX6_foldOperands_13 : decode cX6_foldOperands 13 = .ok (.iload_n 2, 1) := by decide +kernel
theorem dX6_foldOperands_14 : decode cX6_foldOperands 14 = .ok (.iload 4, 2) := by decide +kernel
theorem dX6_foldOperands_16 : decode cX6_foldOperands 16 = .ok (.iconst 1, 1) := by decide +kernel
theorem dX6_foldOperands_17 : decode cX6_foldOperands 17 = .ok (.iadd, 1) := by decide +kernel
theorem dX6_foldOperands_18 : decode cX6_foldOperands 18 = .ok (.invokevirtual 34, 3) := by decide +kernel
theorem dX6_foldOperands_21 : decode cX6_foldOperands 21 = .ok (.istore 5, 2) := by decide +kernel
theorem dX6_foldOperands_23 : decode cX6_foldOperands 23 = .ok (.aload_n 1, 1) := by decide +kernel
theorem dX6_foldOperands_24 : decode cX6_foldOperands 24 = .ok (.iload_n 2, 1) := by decide +kernel
theorem dX6_foldOperands_25 : decode cX6_foldOperands 25 = .ok (.iload 4, 2) := by decide +kernel
theorem dX6_foldOperands_27 : decode cX6_foldOperands 27 = .ok (.invokevirtual 34, 3) := by decide +kernel
theorem dX6_foldOperands_30 : decode cX6_foldOperands 30 = .ok (.iconst 2, 1) := by decide +kernel
theorem dX6_foldOperands_31 : decode cX6_foldOperands 31 = .ok (.if_icmp .ne 51, 3) := by decide +kernel
theorem dX6_foldOperands_82 : decode cX6_foldOperands 82 = .ok (.iinc 4 2, 3) := by decide +kernel
theorem dX6_foldOperands_85 : decode cX6_foldOperands 85 = .ok (.goto (-80), 3) := by decide +kernel
theorem dX6_foldOperands_34 : decode cX6_foldOperands 34 = .ok (.aload_n 0, 1) := by decide +kernel
theorem dX6_foldOperands_35 : decode cX6_foldOperands 35 = .ok (.getfield 9, 3) := by decide +kernel
theorem dX6_foldOperands_38 : decode cX6_foldOperands 38 = .ok (.iload 5, 2) := by decide +kernel
theorem dX6_foldOperands_40 : decode cX6_foldOperands 40 = .ok (.invokestatic 63, 3) := by decide +kernel
theorem dX6_foldOperands_43 : decode cX6_foldOperands 43 = .ok (.ifCond .eq 39, 3) := by decide +kernel
theorem dX6_foldOperands_46 : decode cX6_foldOperands 46 = .ok (.aload_n 1, 1) := by decide +kernel
theorem dX6_foldOperands_47 : decode cX6_foldOperands 47 = .ok (.iload_n 2, 1) := by decide +kernel
theorem dX6_foldOperands_48 : decode cX6_foldOperands 48 = .ok (.iload 4, 2) := by decide +kernel
theorem dX6_foldOperands_50 : decode cX6_foldOperands 50 = .ok (.aload_n 0, 1) := by decide +kernel
theorem dX6_foldOperands_51 : decode cX6_foldOperands 51 = .ok (.getfield 9, 3) := by decide +kernel
theorem dX6_foldOperands_54 : decode cX6_foldOperands 54 = .ok (.iload 5, 2) := by decide +kernel
theorem dX6_foldOperands_56 : decode cX6_foldOperands 56 = .ok (.invokestatic 63, 3) := by decide +kernel
theorem dX6_foldOperands_59 : decode cX6_foldOperands 59 = .ok (.invokevirtual 71, 3) := by decide +kernel
theorem dX6_foldOperands_62 : decode cX6_foldOperands 62 = .ok (.aload_n 1, 1) := by decide +kernel
theorem dX6_foldOperands_63 : decode cX6_foldOperands 63 = .ok (.iload_n 2, 1) := by decide +kernel
theorem dX6_foldOperands_64 : decode cX6_foldOperands 64 = .ok (.iload 4, 2) := by decide +kernel
theorem dX6_foldOperands_66 : decode cX6_foldOperands 66 = .ok (.iconst 1, 1) := by decide +kernel
theorem dX6_foldOperands_67 : decode cX6_foldOperands 67 = .ok (.iadd, 1) := by decide +kernel
theorem dX6_foldOperands_68 : decode cX6_foldOperands 68 = .ok (.aload_n 0, 1) := by decide +kernel
theorem dX6_foldOperands_69 : decode cX6_foldOperands 69 = .ok (.getfield 15, 3) := by decide +kernel
theorem dX6_foldOperands_72 : decode cX6_foldOperands 72 = .ok (.iload 5, 2) := by decide +kernel
theorem dX6_foldOperands_74 : decode cX6_foldOperands 74 = .ok (.invokestatic 63, 3) := by decide +kernel
theorem dX6_foldOperands_77 : decode cX6_foldOperands 77 = .ok (.invokevirtual 71, 3) := by decide +kernel
theorem dX6_foldOperands_80 : decode cX6_foldOperands 80 = .ok (.iconst 1, 1) := by decide +kernel
theorem dX6_foldOperands_81 : decode cX6_foldOperands 81 = .ok (.istore_n 3, 1) := by decide +kernel
theorem dX6_foldOperands_88 : decode cX6_foldOperands 88 = .ok (.iload_n 3, 1) := by decide +kernel
theorem dX6_foldOperands_89 : decode cX6_foldOperands 89 = .ok (.ireturn, 1) := by decide +kernel
end
section
theorem cd_X6_foldAct : Cond.code yX6_foldAct cX6_foldAct 4 (some .boolean) ∈ pWW := pw4 (List.mem_of_getElem? (i := 205) rfl) rfl
abbrev m_X6_foldAct : MT := (yX6_foldAct, cX6_foldAct, 4, (some .boolean))
theorem ok_X6_foldAct : pOk m_X6_foldAct := ⟨⟨cd_X6_foldAct, ini_6⟩, by decide +kernel, ⟨by decide +kernel, by decide +kernel⟩, Nat.le_of_ble_eq_true rfl⟩
theorem np_X6_foldAct : (parseMethodDescriptor yX6_foldAct.desc).map (fun d => d.parameters.length) = some 2 := by decide +kernel
theorem im_X6_foldAct : Cond.instanceMethod yX6_foldAct ∈ pWW := pw4 (List.mem_of_getElem? (i := 204) rfl) rfl
theorem se_X6_foldAct : Cond.selects RX6 yX6_foldAct yX6_foldAct ∈ pWW := pws (List.mem_map.mpr ⟨_, lw_pin 47 rfl, rfl⟩) rfl
theorem nl6_74 : (RX6, 74, yX11_isFive, "LineKeeper") ∈ nst_M := List.mem_of_getElem? (i := 18) rfl
theorem nl6_77 : (RX6, 77, yX11_reckon, "LineKeeper") ∈ nst_M := List.mem_of_getElem? (i := 19) rfl
theorem ml6_81 : Cond.methodLink RX6 81 yX1_becomeCopy ∈ pWW := pw4 (List.mem_of_getElem? (i := 212) rfl) rfl
theorem dX6_foldAct_0 : decode cX6_foldAct 0 = .ok (.aload_n 1, 1) := by decide +kernel
theorem dX6_foldAct_1 : decode cX6_foldAct 1 = .ok (.iload_n 2, 1) := by decide +kernel
theorem dX6_foldAct_2 : decode cX6_foldAct 2 = .ok (.iconst 0, 1) := by decide +kernel
theorem dX6_foldAct_3 : decode cX6_foldAct 3 = .ok (.invokevirtual 34, 3) := by decide +kernel
theorem dX6_foldAct_6 : decode cX6_foldAct 6 = .ok (.istore_n 3, 1) := by decide +kernel
theorem dX6_foldAct_7 : decode cX6_foldAct 7 = .ok (.aload_n 1, 1) := by decide +kernel
theorem dX6_foldAct_8 : decode cX6_foldAct 8 = .ok (.iload_n 2, 1) := by decide +kernel
theorem dX6_foldAct_9 : decode cX6_foldAct 9 = .ok (.iconst 3, 1) := by decide +kernel
theorem dX6_foldAct_10 : decode cX6_foldAct 10 = .ok (.invokevirtual 34, 3) := by decide +kernel
theorem dX6_foldAct_13 : decode cX6_foldAct 13 = .ok (.iconst 1, 1) := by decide +kernel
theorem dX6_foldAct_14 : decode cX6_foldAct 14 = .ok (.if_icmp .eq 5, 3) := by decide +kernel
theorem dX6_foldAct_19 : decode cX6_foldAct 19 = .ok (.iload_n 3, 1) := by decide +kernel
theorem dX6_foldAct_20 : decode cX6_foldAct 20 = .ok (.invokestatic 74, 3) := by decide +kernel
theorem dX6_foldAct_23 : decode cX6_foldAct 23 = .ok (.ifCond .eq 38, 3) := by decide +kernel
theorem dX6_foldAct_61 : decode cX6_foldAct 61 = .ok (.iload_n 3, 1) := by decide +kernel
theorem dX6_foldAct_62 : decode cX6_foldAct 62 = .ok (.bipush 9, 2) := by decide +kernel
theorem dX6_foldAct_64 : decode cX6_foldAct 64 = .ok (.if_icmp .ne 29, 3) := by decide +kernel
theorem dX6_foldAct_93 : decode cX6_foldAct 93 = .ok (.iload_n 3, 1) := by decide +kernel
theorem dX6_foldAct_94 : decode cX6_foldAct 94 = .ok (.bipush 9, 2) := by decide +kernel
theorem dX6_foldAct_96 : decode cX6_foldAct 96 = .ok (.if_icmp .ne 7, 3) := by decide +kernel
theorem dX6_foldAct_103 : decode cX6_foldAct 103 = .ok (.iconst 0, 1) := by decide +kernel
theorem dX6_foldAct_104 : decode cX6_foldAct 104 = .ok (.ireturn, 1) := by decide +kernel
theorem dX6_foldAct_67 : decode cX6_foldAct 67 = .ok (.aload_n 1, 1) := by decide +kernel
theorem dX6_foldAct_68 : decode cX6_foldAct 68 = .ok (.iload_n 2, 1) := by decide +kernel
theorem dX6_foldAct_69 : decode cX6_foldAct 69 = .ok (.iconst 4, 1) := by decide +kernel
theorem dX6_foldAct_70 : decode cX6_foldAct 70 = .ok (.invokevirtual 34, 3) := by decide +kernel
theorem dX6_foldAct_73 : decode cX6_foldAct 73 = .ok (.ifCond .ne 20, 3) := by decide +kernel
theorem dX6_foldAct_99 : decode cX6_foldAct 99 = .ok (.iconst 1, 1) := by decide +kernel
theorem dX6_foldAct_100 : decode cX6_foldAct 100 = .ok (.goto 4, 3) := by decide +kernel
theorem dX6_foldAct_76 : decode cX6_foldAct 76 = .ok (.aload_n 1, 1) := by decide +kernel
theorem dX6_foldAct_77 : decode cX6_foldAct 77 = .ok (.iload_n 2, 1) := by decide +kernel
theorem dX6_foldAct_78 : decode cX6_foldAct 78 = .ok (.iconst 0, 1) := by decide +kernel
theorem dX6_foldAct_79 : decode cX6_foldAct 79 = .ok (.bipush 8, 2) := by decide +kernel
theorem dX6_foldAct_81 : decode cX6_foldAct 81 = .ok (.invokevirtual 71, 3) := by decide +kernel
theorem dX6_foldAct_84 : decode cX6_foldAct 84 = .ok (.aload_n 1, 1) := by decide +kernel
theorem dX6_foldAct_85 : decode cX6_foldAct 85 = .ok (.iload_n 2, 1) := by decide +kernel
theorem dX6_foldAct_86 : decode cX6_foldAct 86 = .ok (.iconst 3, 1) := by decide +kernel
theorem dX6_foldAct_87 : decode cX6_foldAct 87 = .ok (.iconst 0, 1) := by decide +kernel
theorem dX6_foldAct_88 : decode cX6_foldAct 88 = .ok (.invokevirtual 71, 3) := by decide +kernel
theorem dX6_foldAct_91 : decode cX6_foldAct 91 = .ok (.iconst 1, 1) := by decide +kernel
theorem dX6_foldAct_92 : decode cX6_foldAct 92 = .ok (.ireturn, 1) := by decide +kernel
theorem dX6_foldAct_26 : decode cX6_foldAct 26 = .ok (.aload_n 1, 1) := by decide +kernel
theorem dX6_foldAct_27 : decode cX6_foldAct 27 = .ok (.iload_n 2, 1) := by decide +kernel
theorem dX6_foldAct_28 : decode cX6_foldAct 28 = .ok (.iconst 5, 1) := by decide +kernel
theorem dX6_foldAct_29 : decode cX6_foldAct 29 = .ok (.invokevirtual 34, 3) := by decide +kernel
theorem dX6_foldAct_32 : decode cX6_foldAct 32 = .ok (.iconst 1, 1) := by decide +kernel
theorem dX6_foldAct_33 : decode cX6_foldAct 33 = .ok (.if_icmp .ne 28, 3) := by decide +kernel
theorem dX6_foldAct_36 : decode cX6_foldAct 36 = .ok (.aload_n 1, 1) := by decide +kernel
theorem dX6_foldAct_37 : decode cX6_foldAct 37 = .ok (.iload_n 2, 1) := by decide +kernel
theorem dX6_foldAct_38 : decode cX6_foldAct 38 = .ok (.iconst 1, 1) := by decide +kernel
theorem dX6_foldAct_39 : decode cX6_foldAct 39 = .ok (.iload_n 3, 1) := by decide +kernel
theorem dX6_foldAct_40 : decode cX6_foldAct 40 = .ok (.aload_n 1, 1) := by decide +kernel
theorem dX6_foldAct_41 : decode cX6_foldAct 41 = .ok (.iload_n 2, 1) := by decide +kernel
theorem dX6_foldAct_42 : decode cX6_foldAct 42 = .ok (.iconst 4, 1) := by decide +kernel
theorem dX6_foldAct_43 : decode cX6_foldAct 43 = .ok (.invokevirtual 34, 3) := by decide +kernel
theorem dX6_foldAct_46 : decode cX6_foldAct 46 = .ok (.aload_n 1, 1) := by decide +kernel
theorem dX6_foldAct_47 : decode cX6_foldAct 47 = .ok (.iload_n 2, 1) := by decide +kernel
theorem dX6_foldAct_48 : decode cX6_foldAct 48 = .ok (.bipush 6, 2) := by decide +kernel
theorem dX6_foldAct_50 : decode cX6_foldAct 50 = .ok (.invokevirtual 34, 3) := by decide +kernel
theorem dX6_foldAct_53 : decode cX6_foldAct 53 = .ok (.invokestatic 77, 3) := by decide +kernel
theorem dX6_foldAct_56 : decode cX6_foldAct 56 = .ok (.invokevirtual 81, 3) := by decide +kernel
theorem dX6_foldAct_59 : decode cX6_foldAct 59 = .ok (.iconst 1, 1) := by decide +kernel
theorem dX6_foldAct_60 : decode cX6_foldAct 60 = .ok (.ireturn, 1) := by decide +kernel
theorem dX6_foldAct_17 : decode cX6_foldAct 17 = .ok (.iconst 0, 1) := by decide +kernel
theorem dX6_foldAct_18 : decode cX6_foldAct 18 = .ok (.ireturn, 1) := by decide +kernel
end
section
theorem cd_X6_goesOut : Cond.code yX6_goesOut cX6_goesOut 3 (some .boolean) ∈ pWW := pw4 (List.mem_of_getElem? (i := 225) rfl) rfl
abbrev m_X6_goesOut : MT := (yX6_goesOut, cX6_goesOut, 3, (some .boolean))
theorem ok_X6_goesOut : pOk m_X6_goesOut := ⟨⟨cd_X6_goesOut, ini_6⟩, by decide +kernel, ⟨by decide +kernel, by decide +kernel⟩, Nat.le_of_ble_eq_true rfl⟩
theorem np_X6_goesOut : (parseMethodDescriptor yX6_goesOut.desc).map (fun d => d.parameters.length) = some 2 := by decide +kernel
theorem im_X6_goesOut : Cond.instanceMethod yX6_goesOut ∈ pWW := pw4 (List.mem_of_getElem? (i := 224) rfl) rfl
theorem se_X6_goesOut : Cond.selects RX6 yX6_goesOut yX6_goesOut ∈ pWW := pws (List.mem_map.mpr ⟨_, lw_pin 49 rfl, rfl⟩) rfl
theorem dX6_goesOut_0 : decode cX6_goesOut 0 = .ok (.aload_n 1, 1) := by decide +kernel
theorem dX6_goesOut_1 : decode cX6_goesOut 1 = .ok (.iload_n 2, 1) := by decide +kernel
theorem dX6_goesOut_2 : decode cX6_goesOut 2 = .ok (.iconst 0, 1) := by decide +kernel
theorem dX6_goesOut_3 : decode cX6_goesOut 3 = .ok (.invokevirtual 34, 3) := by decide +kernel
theorem dX6_goesOut_6 : decode cX6_goesOut 6 = .ok (.bipush 9, 2) := by decide +kernel
theorem dX6_goesOut_8 : decode cX6_goesOut 8 = .ok (.if_icmp .ne 17, 3) := by decide +kernel
theorem dX6_goesOut_25 : decode cX6_goesOut 25 = .ok (.iconst 0, 1) := by decide +kernel
theorem dX6_goesOut_26 : decode cX6_goesOut 26 = .ok (.ireturn, 1) := by decide +kernel
theorem dX6_goesOut_11 : decode cX6_goesOut 11 = .ok (.aload_n 1, 1) := by decide +kernel
theorem dX6_goesOut_12 : decode cX6_goesOut 12 = .ok (.iload_n 2, 1) := by decide +kernel
theorem dX6_goesOut_13 : decode cX6_goesOut 13 = .ok (.iconst 3, 1) := by decide +kernel
theorem dX6_goesOut_14 : decode cX6_goesOut 14 = .ok (.invokevirtual 34, 3) := by decide +kernel
theorem dX6_goesOut_17 : decode cX6_goesOut 17 = .ok (.iconst 1, 1) := by decide +kernel
theorem dX6_goesOut_18 : decode cX6_goesOut 18 = .ok (.if_icmp .ne 7, 3) := by decide +kernel
theorem dX6_goesOut_21 : decode cX6_goesOut 21 = .ok (.iconst 1, 1) := by decide +kernel
theorem dX6_goesOut_22 : decode cX6_goesOut 22 = .ok (.goto 4, 3) := by decide +kernel
end
section
theorem cd_X6_learn : Cond.code yX6_learn cX6_learn 6 none ∈ pWW := pw4 (List.mem_of_getElem? (i := 219) rfl) rfl
abbrev m_X6_learn : MT := (yX6_learn, cX6_learn, 6, none)
theorem ok_X6_learn : pOk m_X6_learn := ⟨⟨cd_X6_learn, ini_6⟩, by decide +kernel, ⟨by decide +kernel, by decide +kernel⟩, Nat.le_of_ble_eq_true rfl⟩
theorem np_X6_learn : (parseMethodDescriptor yX6_learn.desc).map (fun d => d.parameters.length) = some 2 := by decide +kernel
theorem im_X6_learn : Cond.instanceMethod yX6_learn ∈ pWW := pw4 (List.mem_of_getElem? (i := 218) rfl) rfl
theorem se_X6_learn : Cond.selects RX6 yX6_learn yX6_learn ∈ pWW := pws (List.mem_map.mpr ⟨_, lw_pin 48 rfl, rfl⟩) rfl
theorem ml6_84 : Cond.methodLink RX6 84 yX1_writtenBy ∈ pWW := pw4 (List.mem_of_getElem? (i := 220) rfl) rfl
theorem nl6_88 : (RX6, 88, yX11_put, "LineKeeper") ∈ nst_M := List.mem_of_getElem? (i := 20) rfl
theorem dX6_learn_0 : decode cX6_learn 0 = .ok (.aload_n 1, 1) := by decide +kernel
theorem dX6_learn_1 : decode cX6_learn 1 = .ok (.iload_n 2, 1) := by decide +kernel
theorem dX6_learn_2 : decode cX6_learn 2 = .ok (.invokevirtual 84, 3) := by decide +kernel
theorem dX6_learn_5 : decode cX6_learn 5 = .ok (.istore_n 3, 1) := by decide +kernel
theorem dX6_learn_6 : decode cX6_learn 6 = .ok (.iload_n 3, 1) := by decide +kernel
theorem dX6_learn_7 : decode cX6_learn 7 = .ok (.iconst (-1), 1) := by decide +kernel
theorem dX6_learn_8 : decode cX6_learn 8 = .ok (.if_icmp .ne 4, 3) := by decide +kernel
theorem dX6_learn_12 : decode cX6_learn 12 = .ok (.aload_n 0, 1) := by decide +kernel
theorem dX6_learn_13 : decode cX6_learn 13 = .ok (.getfield 9, 3) := by decide +kernel
theorem dX6_learn_16 : decode cX6_learn 16 = .ok (.iload_n 3, 1) := by decide +kernel
theorem dX6_learn_17 : decode cX6_learn 17 = .ok (.iconst 0, 1) := by decide +kernel
theorem dX6_learn_18 : decode cX6_learn 18 = .ok (.invokestatic 88, 3) := by decide +kernel
theorem dX6_learn_21 : decode cX6_learn 21 = .ok (.iconst 0, 1) := by decide +kernel
theorem dX6_learn_22 : decode cX6_learn 22 = .ok (.istore 4, 2) := by decide +kernel
theorem dX6_learn_24 : decode cX6_learn 24 = .ok (.iload 4, 2) := by decide +kernel
theorem dX6_learn_26 : decode cX6_learn 26 = .ok (.aload_n 0, 1) := by decide +kernel
theorem dX6_learn_27 : decode cX6_learn 27 = .ok (.getfield 9, 3) := by decide +kernel
theorem dX6_learn_30 : decode cX6_learn 30 = .ok (.arraylength, 1) := by decide +kernel
theorem dX6_learn_31 : decode cX6_learn 31 = .ok (.if_icmp .ge 41, 3) := by decide +kernel
theorem dX6_learn_34 : decode cX6_learn 34 = .ok (.aload_n 0, 1) := by decide +kernel
theorem dX6_learn_35 : decode cX6_learn 35 = .ok (.getfield 9, 3) := by decide +kernel
theorem dX6_learn_38 : decode cX6_learn 38 = .ok (.iload 4, 2) := by decide +kernel
theorem dX6_learn_40 : decode cX6_learn 40 = .ok (.iaload, 1) := by decide +kernel
theorem dX6_learn_41 : decode cX6_learn 41 = .ok (.iconst 2, 1) := by decide +kernel
theorem dX6_learn_42 : decode cX6_learn 42 = .ok (.if_icmp .ne 24, 3) := by decide +kernel
theorem dX6_learn_66 : decode cX6_learn 66 = .ok (.iinc 4 1, 3) := by decide +kernel
theorem dX6_learn_69 : decode cX6_learn 69 = .ok (.goto (-45), 3) := by decide +kernel
theorem dX6_learn_45 : decode cX6_learn 45 = .ok (.aload_n 0, 1) := by decide +kernel
theorem dX6_learn_46 : decode cX6_learn 46 = .ok (.getfield 15, 3) := by decide +kernel
theorem dX6_learn_49 : decode cX6_learn 49 = .ok (.iload 4, 2) := by decide +kernel
theorem dX6_learn_51 : decode cX6_learn 51 = .ok (.invokestatic 63, 3) := by decide +kernel
theorem dX6_learn_54 : decode cX6_learn 54 = .ok (.iload_n 3, 1) := by decide +kernel
theorem dX6_learn_55 : decode cX6_learn 55 = .ok (.if_icmp .ne 11, 3) := by decide +kernel
theorem dX6_learn_58 : decode cX6_learn 58 = .ok (.aload_n 0, 1) := by decide +kernel
theorem dX6_learn_59 : decode cX6_learn 59 = .ok (.getfield 9, 3) := by decide +kernel
theorem dX6_learn_62 : decode cX6_learn 62 = .ok (.iload 4, 2) := by decide +kernel
theorem dX6_learn_64 : decode cX6_learn 64 = .ok (.iconst 0, 1) := by decide +kernel
theorem dX6_learn_65 : decode cX6_learn 65 = .ok (.iastore, 1) := by decide +kernel
theorem dX6_learn_72 : decode cX6_learn 72 = .ok (.aload_n 1, 1) := by decide +kernel
theorem dX6_learn_73 : decode cX6_learn 73 = .ok (.iload_n 2, 1) := by decide +kernel
theorem dX6_learn_74 : decode cX6_learn 74 = .ok (.iconst 3, 1) := by decide +kernel
theorem dX6_learn_75 : decode cX6_learn 75 = .ok (.invokevirtual 34, 3) := by decide +kernel
theorem dX6_learn_78 : decode cX6_learn 78 = .ok (.istore 4, 2) := by decide +kernel
theorem dX6_learn_80 : decode cX6_learn 80 = .ok (.aload_n 1, 1) := by decide +kernel
theorem dX6_learn_81 : decode cX6_learn 81 = .ok (.iload_n 2, 1) := by decide +kernel
theorem dX6_learn_82 : decode cX6_learn 82 = .ok (.iconst 4, 1) := by decide +kernel
theorem dX6_learn_83 : decode cX6_learn 83 = .ok (.invokevirtual 34, 3) := by decide +kernel
theorem dX6_learn_86 : decode cX6_learn 86 = .ok (.istore 5, 2) := by decide +kernel
theorem dX6_learn_88 : decode cX6_learn 88 = .ok (.aload_n 1, 1) := by decide +kernel
theorem dX6_learn_89 : decode cX6_learn 89 = .ok (.iload_n 2, 1) := by decide +kernel
theorem dX6_learn_90 : decode cX6_learn 90 = .ok (.iconst 0, 1) := by decide +kernel
theorem dX6_learn_91 : decode cX6_learn 91 = .ok (.invokevirtual 34, 3) := by decide +kernel
theorem dX6_learn_94 : decode cX6_learn 94 = .ok (.ifCond .ne 35, 3) := by decide +kernel
theorem dX6_learn_129 : decode cX6_learn 129 = .ok (.return_, 1) := by decide +kernel
theorem dX6_learn_97 : decode cX6_learn 97 = .ok (.iload 4, 2) := by decide +kernel
theorem dX6_learn_99 : decode cX6_learn 99 = .ok (.iconst 2, 1) := by decide +kernel
theorem dX6_learn_100 : decode cX6_learn 100 = .ok (.if_icmp .ne 9, 3) := by decide +kernel
theorem dX6_learn_109 : decode cX6_learn 109 = .ok (.aload_n 0, 1) := by decide +kernel
theorem dX6_learn_110 : decode cX6_learn 110 = .ok (.getfield 9, 3) := by decide +kernel
theorem dX6_learn_113 : decode cX6_learn 113 = .ok (.iload_n 3, 1) := by decide +kernel
theorem dX6_learn_114 : decode cX6_learn 114 = .ok (.iload 4, 2) := by decide +kernel
theorem dX6_learn_116 : decode cX6_learn 116 = .ok (.invokestatic 88, 3) := by decide +kernel
theorem dX6_learn_119 : decode cX6_learn 119 = .ok (.aload_n 0, 1) := by decide +kernel
theorem dX6_learn_120 : decode cX6_learn 120 = .ok (.getfield 15, 3) := by decide +kernel
theorem dX6_learn_123 : decode cX6_learn 123 = .ok (.iload_n 3, 1) := by decide +kernel
theorem dX6_learn_124 : decode cX6_learn 124 = .ok (.iload 5, 2) := by decide +kernel
theorem dX6_learn_126 : decode cX6_learn 126 = .ok (.invokestatic 88, 3) := by decide +kernel
theorem dX6_learn_103 : decode cX6_learn 103 = .ok (.iload 5, 2) := by decide +kernel
theorem dX6_learn_105 : decode cX6_learn 105 = .ok (.iload_n 3, 1) := by decide +kernel
theorem dX6_learn_106 : decode cX6_learn 106 = .ok (.if_icmp .eq 23, 3) := by decide +kernel
theorem dX6_learn_11 : decode cX6_learn 11 = .ok (.return_, 1) := by decide +kernel
end
section
theorem cd_X6_fold : Cond.code yX6_fold cX6_fold 8 (some .int) ∈ pWW := pw4 (List.mem_of_getElem? (i := 187) rfl) rfl
abbrev m_X6_fold : MT := (yX6_fold, cX6_fold, 8, (some .int))
theorem ok_X6_fold : pOk m_X6_fold := ⟨⟨cd_X6_fold, ini_6⟩, by decide +kernel, ⟨by decide +kernel, by decide +kernel⟩, Nat.le_of_ble_eq_true rfl⟩
theorem np_X6_fold : (parseMethodDescriptor yX6_fold.desc).map (fun d => d.parameters.length) = some 1 := by decide +kernel
theorem im_X6_fold : Cond.instanceMethod yX6_fold ∈ pWW := pw4 (List.mem_of_getElem? (i := 185) rfl) rfl
theorem se_X6_fold : Cond.selects RX6 yX6_fold yX6_fold ∈ pWW := pw4 (List.mem_of_getElem? (i := 186) rfl) rfl
theorem fl6_22 : Cond.fieldLink RX6 22 (TX1 1).1 (TX1 1).2.1 (TX1 1).2.2.1 ∈ pWW := pw1 (List.mem_of_getElem? (i := 79) rfl) rfl
theorem ml6_28 : Cond.methodLink RX6 28 yJ7_fill_53178 ∈ pWW := pw4 (List.mem_of_getElem? (i := 188) rfl) rfl
theorem nl6_42 : (RX6, 42, yX11_isAct, "LineKeeper") ∈ nst_M := List.mem_of_getElem? (i := 17) rfl
theorem ml6_56 : Cond.methodLink RX6 56 yX6_goesOut ∈ pWW := pw4 (List.mem_of_getElem? (i := 222) rfl) rfl
theorem ml6_59 : Cond.methodLink RX6 59 yX1_removeRow ∈ pWW := pw4 (List.mem_of_getElem? (i := 226) rfl) rfl
theorem ml6_46 : Cond.methodLink RX6 46 yX6_foldOperands ∈ pWW := pw4 (List.mem_of_getElem? (i := 197) rfl) rfl
theorem ml6_50 : Cond.methodLink RX6 50 yX6_foldAct ∈ pWW := pw4 (List.mem_of_getElem? (i := 202) rfl) rfl
theorem ml6_53 : Cond.methodLink RX6 53 yX6_learn ∈ pWW := pw4 (List.mem_of_getElem? (i := 216) rfl) rfl
theorem ml6_38 : Cond.methodLink RX6 38 yX6_foldBind ∈ pWW := pw4 (List.mem_of_getElem? (i := 190) rfl) rfl
theorem dX6_fold_0 : decode cX6_fold 0 = .ok (.iconst 0, 1) := by decide +kernel
theorem dX6_fold_1 : decode cX6_fold 1 = .ok (.istore_n 2, 1) := by decide +kernel
theorem dX6_fold_2 : decode cX6_fold 2 = .ok (.iconst 0, 1) := by decide +kernel
theorem dX6_fold_3 : decode cX6_fold 3 = .ok (.istore_n 3, 1) := by decide +kernel
theorem dX6_fold_4 : decode cX6_fold 4 = .ok (.aload_n 1, 1) := by decide +kernel
theorem dX6_fold_5 : decode cX6_fold 5 = .ok (.getfield 22, 3) := by decide +kernel
theorem dX6_fold_8 : decode cX6_fold 8 = .ok (.istore 4, 2) := by decide +kernel
theorem dX6_fold_10 : decode cX6_fold 10 = .ok (.aload_n 0, 1) := by decide +kernel
theorem dX6_fold_11 : decode cX6_fold 11 = .ok (.getfield 9, 3) := by decide +kernel
theorem dX6_fold_14 : decode cX6_fold 14 = .ok (.iconst 0, 1) := by decide +kernel
theorem dX6_fold_15 : decode cX6_fold 15 = .ok (.invokestatic 28, 3) := by decide +kernel
theorem dX6_fold_18 : decode cX6_fold 18 = .ok (.iconst 0, 1) := by decide +kernel
theorem dX6_fold_19 : decode cX6_fold 19 = .ok (.istore 5, 2) := by decide +kernel
theorem dX6_fold_21 : decode cX6_fold 21 = .ok (.iload 5, 2) := by decide +kernel
theorem dX6_fold_23 : decode cX6_fold 23 = .ok (.iload 4, 2) := by decide +kernel
theorem dX6_fold_25 : decode cX6_fold 25 = .ok (.if_icmp .ge 117, 3) := by decide +kernel
theorem dX6_fold_28 : decode cX6_fold 28 = .ok (.aload_n 1, 1) := by decide +kernel
theorem dX6_fold_29 : decode cX6_fold 29 = .ok (.iload_n 3, 1) := by decide +kernel
theorem dX6_fold_30 : decode cX6_fold 30 = .ok (.iconst 0, 1) := by decide +kernel
theorem dX6_fold_31 : decode cX6_fold 31 = .ok (.invokevirtual 34, 3) := by decide +kernel
theorem dX6_fold_34 : decode cX6_fold 34 = .ok (.istore 6, 2) := by decide +kernel
theorem dX6_fold_36 : decode cX6_fold 36 = .ok (.iload 6, 2) := by decide +kernel
theorem dX6_fold_38 : decode cX6_fold 38 = .ok (.bipush 13, 2) := by decide +kernel
theorem dX6_fold_40 : decode cX6_fold 40 = .ok (.if_icmp .ne 14, 3) := by decide +kernel
theorem dX6_fold_54 : decode cX6_fold 54 = .ok (.iload 6, 2) := by decide +kernel
theorem dX6_fold_56 : decode cX6_fold 56 = .ok (.bipush 12, 2) := by decide +kernel
theorem dX6_fold_58 : decode cX6_fold 58 = .ok (.if_icmp .ne 12, 3) := by decide +kernel
theorem dX6_fold_70 : decode cX6_fold 70 = .ok (.iload 6, 2) := by decide +kernel
theorem dX6_fold_72 : decode cX6_fold 72 = .ok (.invokestatic 42, 3) := by decide +kernel
theorem dX6_fold_75 : decode cX6_fold 75 = .ok (.ifCond .eq 41, 3) := by decide +kernel
theorem dX6_fold_116 : decode cX6_fold 116 = .ok (.aload_n 0, 1) := by decide +kernel
theorem dX6_fold_117 : decode cX6_fold 117 = .ok (.aload_n 1, 1) := by decide +kernel
theorem dX6_fold_118 : decode cX6_fold 118 = .ok (.iload_n 3, 1) := by decide +kernel
theorem dX6_fold_119 : decode cX6_fold 119 = .ok (.invokevirtual 56, 3) := by decide +kernel
theorem dX6_fold_122 : decode cX6_fold 122 = .ok (.ifCond .eq 11, 3) := by decide +kernel
theorem dX6_fold_133 : decode cX6_fold 133 = .ok (.iinc 3 1, 3) := by decide +kernel
theorem dX6_fold_136 : decode cX6_fold 136 = .ok (.iinc 5 1, 3) := by decide +kernel
theorem dX6_fold_139 : decode cX6_fold 139 = .ok (.goto (-118), 3) := by decide +kernel
theorem dX6_fold_125 : decode cX6_fold 125 = .ok (.aload_n 1, 1) := by decide +kernel
theorem dX6_fold_126 : decode cX6_fold 126 = .ok (.iload_n 3, 1) := by decide +kernel
theorem dX6_fold_127 : decode cX6_fold 127 = .ok (.invokevirtual 59, 3) := by decide +kernel
theorem dX6_fold_130 : decode cX6_fold 130 = .ok (.goto 6, 3) := by decide +kernel
theorem dX6_fold_78 : decode cX6_fold 78 = .ok (.aload_n 0, 1) := by decide +kernel
theorem dX6_fold_79 : decode cX6_fold 79 = .ok (.aload_n 1, 1) := by decide +kernel
theorem dX6_fold_80 : decode cX6_fold 80 = .ok (.iload_n 3, 1) := by decide +kernel
theorem dX6_fold_81 : decode cX6_fold 81 = .ok (.invokevirtual 46, 3) := by decide +kernel
theorem dX6_fold_84 : decode cX6_fold 84 = .ok (.istore 7, 2) := by decide +kernel
theorem dX6_fold_86 : decode cX6_fold 86 = .ok (.iload 7, 2) := by decide +kernel
theorem dX6_fold_88 : decode cX6_fold 88 = .ok (.aload_n 0, 1) := by decide +kernel
theorem dX6_fold_89 : decode cX6_fold 89 = .ok (.aload_n 1, 1) := by decide +kernel
theorem dX6_fold_90 : decode cX6_fold 90 = .ok (.iload_n 3, 1) := by decide +kernel
theorem dX6_fold_91 : decode cX6_fold 91 = .ok (.invokevirtual 50, 3) := by decide +kernel
theorem dX6_fold_94 : decode cX6_fold 94 = .ok (.ior, 1) := by decide +kernel
theorem dX6_fold_95 : decode cX6_fold 95 = .ok (.istore 7, 2) := by decide +kernel
theorem dX6_fold_97 : decode cX6_fold 97 = .ok (.iload_n 2, 1) := by decide +kernel
theorem dX6_fold_98 : decode cX6_fold 98 = .ok (.iload 7, 2) := by decide +kernel
theorem dX6_fold_100 : decode cX6_fold 100 = .ok (.ifCond .eq 7, 3) := by decide +kernel
theorem dX6_fold_107 : decode cX6_fold 107 = .ok (.iconst 0, 1) := by decide +kernel
theorem dX6_fold_108 : decode cX6_fold 108 = .ok (.iadd, 1) := by decide +kernel
theorem dX6_fold_109 : decode cX6_fold 109 = .ok (.istore_n 2, 1) := by decide +kernel
theorem dX6_fold_110 : decode cX6_fold 110 = .ok (.aload_n 0, 1) := by decide +kernel
theorem dX6_fold_111 : decode cX6_fold 111 = .ok (.aload_n 1, 1) := by decide +kernel
theorem dX6_fold_112 : decode cX6_fold 112 = .ok (.iload_n 3, 1) := by decide +kernel
theorem dX6_fold_113 : decode cX6_fold 113 = .ok (.invokevirtual 53, 3) := by decide +kernel
theorem dX6_fold_103 : decode cX6_fold 103 = .ok (.iconst 1, 1) := by decide +kernel
theorem dX6_fold_104 : decode cX6_fold 104 = .ok (.goto 4, 3) := by decide +kernel
theorem dX6_fold_61 : decode cX6_fold 61 = .ok (.aload_n 0, 1) := by decide +kernel
theorem dX6_fold_62 : decode cX6_fold 62 = .ok (.aload_n 1, 1) := by decide +kernel
theorem dX6_fold_63 : decode cX6_fold 63 = .ok (.iload_n 3, 1) := by decide +kernel
theorem dX6_fold_64 : decode cX6_fold 64 = .ok (.invokevirtual 38, 3) := by decide +kernel
theorem dX6_fold_67 : decode cX6_fold 67 = .ok (.goto 49, 3) := by decide +kernel
theorem dX6_fold_43 : decode cX6_fold 43 = .ok (.aload_n 0, 1) := by decide +kernel
theorem dX6_fold_44 : decode cX6_fold 44 = .ok (.getfield 9, 3) := by decide +kernel
theorem dX6_fold_47 : decode cX6_fold 47 = .ok (.iconst 0, 1) := by decide +kernel
theorem dX6_fold_48 : decode cX6_fold 48 = .ok (.invokestatic 28, 3) := by decide +kernel
theorem dX6_fold_51 : decode cX6_fold 51 = .ok (.goto 65, 3) := by decide +kernel
theorem dX6_fold_142 : decode cX6_fold 142 = .ok (.iload_n 2, 1) := by decide +kernel
theorem dX6_fold_143 : decode cX6_fold 143 = .ok (.ireturn, 1) := by decide +kernel
end
section
theorem cd_X6_lastJumpTo : Cond.code yX6_lastJumpTo cX6_lastJumpTo 4 (some .int) ∈ pWW := pw5 (List.mem_of_getElem? (i := 93) rfl) rfl
abbrev m_X6_lastJumpTo : MT := (yX6_lastJumpTo, cX6_lastJumpTo, 4, (some .int))
theorem ok_X6_lastJumpTo : pOk m_X6_lastJumpTo := ⟨⟨cd_X6_lastJumpTo, ini_6⟩, by decide +kernel, ⟨by decide +kernel, by decide +kernel⟩, Nat.le_of_ble_eq_true rfl⟩
theorem np_X6_lastJumpTo : (parseMethodDescriptor yX6_lastJumpTo.desc).map (fun d => d.parameters.length) = some 2 := by decide +kernel
theorem im_X6_lastJumpTo : Cond.instanceMethod yX6_lastJumpTo ∈ pWW := pw5 (List.mem_of_getElem? (i := 92) rfl) rfl
theorem se_X6_lastJumpTo : Cond.selects RX6 yX6_lastJumpTo yX6_lastJumpTo ∈ pWW := pws (List.mem_map.mpr ⟨_, lw_pin 58 rfl, rfl⟩) rfl
theorem dX6_lastJumpTo_0 : decode cX6_lastJumpTo 0 = .ok (.aload_n 1, 1) := by decide +kernel
theorem dX6_lastJumpTo_1 : decode cX6_lastJumpTo 1 = .ok (.getfield 22, 3) := by decide +kernel
theorem dX6_lastJumpTo_4 : decode cX6_lastJumpTo 4 = .ok (.iconst 1, 1) := by decide +kernel
theorem dX6_lastJumpTo_5 : decode cX6_lastJumpTo 5 = .ok (.isub, 1) := by decide +kernel
theorem dX6_lastJumpTo_6 : decode cX6_lastJumpTo 6 = .ok (.istore_n 3, 1) := by decide +kernel
theorem dX6_lastJumpTo_7 : decode cX6_lastJumpTo 7 = .ok (.iload_n 3, 1) := by decide +kernel
theorem dX6_lastJumpTo_8 : decode cX6_lastJumpTo 8 = .ok (.iload_n 2, 1) := by decide +kernel
theorem dX6_lastJumpTo_9 : decode cX6_lastJumpTo 9 = .ok (.if_icmp .le 37, 3) := by decide +kernel
theorem dX6_lastJumpTo_12 : decode cX6_lastJumpTo 12 = .ok (.aload_n 1, 1) := by decide +kernel
theorem dX6_lastJumpTo_13 : decode cX6_lastJumpTo 13 = .ok (.iload_n 3, 1) := by decide +kernel
theorem dX6_lastJumpTo_14 : decode cX6_lastJumpTo 14 = .ok (.iconst 0, 1) := by decide +kernel
theorem dX6_lastJumpTo_15 : decode cX6_lastJumpTo 15 = .ok (.invokevirtual 34, 3) := by decide +kernel
theorem dX6_lastJumpTo_18 : decode cX6_lastJumpTo 18 = .ok (.bipush 8, 2) := by decide +kernel
theorem dX6_lastJumpTo_20 : decode cX6_lastJumpTo 20 = .ok (.if_icmp .ne 20, 3) := by decide +kernel
theorem dX6_lastJumpTo_40 : decode cX6_lastJumpTo 40 = .ok (.iinc 3 (-1), 3) := by decide +kernel
theorem dX6_lastJumpTo_43 : decode cX6_lastJumpTo 43 = .ok (.goto (-36), 3) := by decide +kernel
theorem dX6_lastJumpTo_23 : decode cX6_lastJumpTo 23 = .ok (.aload_n 1, 1) := by decide +kernel
theorem dX6_lastJumpTo_24 : decode cX6_lastJumpTo 24 = .ok (.iload_n 3, 1) := by decide +kernel
theorem dX6_lastJumpTo_25 : decode cX6_lastJumpTo 25 = .ok (.iconst 1, 1) := by decide +kernel
theorem dX6_lastJumpTo_26 : decode cX6_lastJumpTo 26 = .ok (.invokevirtual 34, 3) := by decide +kernel
theorem dX6_lastJumpTo_29 : decode cX6_lastJumpTo 29 = .ok (.aload_n 1, 1) := by decide +kernel
theorem dX6_lastJumpTo_30 : decode cX6_lastJumpTo 30 = .ok (.iload_n 2, 1) := by decide +kernel
theorem dX6_lastJumpTo_31 : decode cX6_lastJumpTo 31 = .ok (.iconst 1, 1) := by decide +kernel
theorem dX6_lastJumpTo_32 : decode cX6_lastJumpTo 32 = .ok (.invokevirtual 34, 3) := by decide +kernel
theorem dX6_lastJumpTo_35 : decode cX6_lastJumpTo 35 = .ok (.if_icmp .ne 5, 3) := by decide +kernel
theorem dX6_lastJumpTo_38 : decode cX6_lastJumpTo 38 = .ok (.iload_n 3, 1) := by decide +kernel
theorem dX6_lastJumpTo_39 : decode cX6_lastJumpTo 39 = .ok (.ireturn, 1) := by decide +kernel
theorem dX6_lastJumpTo_46 : decode cX6_lastJumpTo 46 = .ok (.iconst (-1), 1) := by decide +kernel
theorem dX6_lastJumpTo_47 : decode cX6_lastJumpTo 47 = .ok (.ireturn, 1) := by decide +kernel
end
section
theorem cd_X6_collectWritten : Cond.code yX6_collectWritten cX6_collectWritten 5 none ∈ pWW := pw5 (List.mem_of_getElem? (i := 101) rfl) rfl
abbrev m_X6_collectWritten : MT := (yX6_collectWritten, cX6_collectWritten, 5, none)
theorem ok_X6_collectWritten : pOk m_X6_collectWritten := ⟨⟨cd_X6_collectWritten, ini_6⟩, by decide +kernel, ⟨by decide +kernel, by decide +kernel⟩, Nat.le_of_ble_eq_true rfl⟩
theorem np_X6_collectWritten : (parseMethodDescriptor yX6_collectWritten.desc).map (fun d => d.parameters.length) = some 3 := by decide +kernel
theorem im_X6_collectWritten : Cond.instanceMethod yX6_collectWritten ∈ pWW := pw5 (List.mem_of_getElem? (i := 100) rfl) rfl
theorem se_X6_collectWritten : Cond.selects RX6 yX6_collectWritten yX6_collectWritten ∈ pWW := pws (List.mem_map.mpr ⟨_, lw_pin 60 rfl, rfl⟩) rfl
theorem fl6_18 : Cond.fieldLink RX6 18 (TX6 2).1 (TX6 2).2.1 (TX6 2).2.2.1 ∈ pWW := pw2 (List.mem_of_getElem? (i := 37) rfl) rfl
theorem nl6_123 : (RX6, 123, yX11_clear, "LineKeeper") ∈ nst_M := List.mem_of_getElem? (i := 32) rfl
theorem nl6_127 : (RX6, 127, yX11_include, "LineKeeper") ∈ nst_M := List.mem_of_getElem? (i := 33) rfl
theorem dX6_collectWritten_0 : decode cX6_collectWritten 0 = .ok (.aload_n 0, 1) := by decide +kernel
theorem dX6_collectWritten_1 : decode cX6_collectWritten 1 = .ok (.getfield 18, 3) := by decide +kernel
theorem dX6_collectWritten_4 : decode cX6_collectWritten 4 = .ok (.iconst 3, 1) := by decide +kernel
theorem dX6_collectWritten_5 : decode cX6_collectWritten 5 = .ok (.invokestatic 123, 3) := by decide +kernel
theorem dX6_collectWritten_8 : decode cX6_collectWritten 8 = .ok (.iload_n 2, 1) := by decide +kernel
theorem dX6_collectWritten_9 : decode cX6_collectWritten 9 = .ok (.istore 4, 2) := by decide +kernel
theorem dX6_collectWritten_11 : decode cX6_collectWritten 11 = .ok (.iload 4, 2) := by decide +kernel
theorem dX6_collectWritten_13 : decode cX6_collectWritten 13 = .ok (.iload_n 3, 1) := by decide +kernel
theorem dX6_collectWritten_14 : decode cX6_collectWritten 14 = .ok (.if_icmp .gt 23, 3) := by decide +kernel
theorem dX6_collectWritten_17 : decode cX6_collectWritten 17 = .ok (.aload_n 0, 1) := by decide +kernel
theorem dX6_collectWritten_18 : decode cX6_collectWritten 18 = .ok (.getfield 18, 3) := by decide +kernel
theorem dX6_collectWritten_21 : decode cX6_collectWritten 21 = .ok (.iconst 0, 1) := by decide +kernel
theorem dX6_collectWritten_22 : decode cX6_collectWritten 22 = .ok (.aload_n 1, 1) := by decide +kernel
theorem dX6_collectWritten_23 : decode cX6_collectWritten 23 = .ok (.iload 4, 2) := by decide +kernel
theorem dX6_collectWritten_25 : decode cX6_collectWritten 25 = .ok (.invokevirtual 84, 3) := by decide +kernel
theorem dX6_collectWritten_28 : decode cX6_collectWritten 28 = .ok (.invokestatic 127, 3) := by decide +kernel
theorem dX6_collectWritten_31 : decode cX6_collectWritten 31 = .ok (.iinc 4 1, 3) := by decide +kernel
theorem dX6_collectWritten_34 : decode cX6_collectWritten 34 = .ok (.goto (-23), 3) := by decide +kernel
theorem dX6_collectWritten_37 : decode cX6_collectWritten 37 = .ok (.return_, 1) := by decide +kernel
end
section
theorem cd_X6_standsStill : Cond.code yX6_standsStill cX6_standsStill 3 (some .boolean) ∈ pWW := pw5 (List.mem_of_getElem? (i := 108) rfl) rfl
abbrev m_X6_standsStill : MT := (yX6_standsStill, cX6_standsStill, 3, (some .boolean))
theorem ok_X6_standsStill : pOk m_X6_standsStill := ⟨⟨cd_X6_standsStill, ini_6⟩, by decide +kernel, ⟨by decide +kernel, by decide +kernel⟩, Nat.le_of_ble_eq_true rfl⟩
theorem np_X6_standsStill : (parseMethodDescriptor yX6_standsStill.desc).map (fun d => d.parameters.length) = some 2 := by decide +kernel
theorem im_X6_standsStill : Cond.instanceMethod yX6_standsStill ∈ pWW := pw5 (List.mem_of_getElem? (i := 107) rfl) rfl
theorem se_X6_standsStill : Cond.selects RX6 yX6_standsStill yX6_standsStill ∈ pWW := pws (List.mem_map.mpr ⟨_, lw_pin 61 rfl, rfl⟩) rfl
theorem nl6_131 : (RX6, 131, yX11_has, "LineKeeper") ∈ nst_M := List.mem_of_getElem? (i := 35) rfl
theorem dX6_standsStill_0 : decode cX6_standsStill 0 = .ok (.aload_n 1, 1) := by decide +kernel
theorem dX6_standsStill_1 : decode cX6_standsStill 1 = .ok (.iload_n 2, 1) := by decide +kernel
theorem dX6_standsStill_2 : decode cX6_standsStill 2 = .ok (.iconst 3, 1) := by decide +kernel
theorem dX6_standsStill_3 : decode cX6_standsStill 3 = .ok (.invokevirtual 34, 3) := by decide +kernel
theorem dX6_standsStill_6 : decode cX6_standsStill 6 = .ok (.iconst 2, 1) := by decide +kernel
theorem dX6_standsStill_7 : decode cX6_standsStill 7 = .ok (.if_icmp .ne 20, 3) := by decide +kernel
theorem dX6_standsStill_27 : decode cX6_standsStill 27 = .ok (.aload_n 1, 1) := by decide +kernel
theorem dX6_standsStill_28 : decode cX6_standsStill 28 = .ok (.iload_n 2, 1) := by decide +kernel
theorem dX6_standsStill_29 : decode cX6_standsStill 29 = .ok (.iconst 5, 1) := by decide +kernel
theorem dX6_standsStill_30 : decode cX6_standsStill 30 = .ok (.invokevirtual 34, 3) := by decide +kernel
theorem dX6_standsStill_33 : decode cX6_standsStill 33 = .ok (.iconst 2, 1) := by decide +kernel
theorem dX6_standsStill_34 : decode cX6_standsStill 34 = .ok (.if_icmp .ne 21, 3) := by decide +kernel
theorem dX6_standsStill_55 : decode cX6_standsStill 55 = .ok (.iconst 1, 1) := by decide +kernel
theorem dX6_standsStill_56 : decode cX6_standsStill 56 = .ok (.goto 4, 3) := by decide +kernel
theorem dX6_standsStill_60 : decode cX6_standsStill 60 = .ok (.ireturn, 1) := by decide +kernel
theorem dX6_standsStill_37 : decode cX6_standsStill 37 = .ok (.aload_n 0, 1) := by decide +kernel
theorem dX6_standsStill_38 : decode cX6_standsStill 38 = .ok (.getfield 18, 3) := by decide +kernel
theorem dX6_standsStill_41 : decode cX6_standsStill 41 = .ok (.iconst 0, 1) := by decide +kernel
theorem dX6_standsStill_42 : decode cX6_standsStill 42 = .ok (.aload_n 1, 1) := by decide +kernel
theorem dX6_standsStill_43 : decode cX6_standsStill 43 = .ok (.iload_n 2, 1) := by decide +kernel
theorem dX6_standsStill_44 : decode cX6_standsStill 44 = .ok (.bipush 6, 2) := by decide +kernel
theorem dX6_standsStill_46 : decode cX6_standsStill 46 = .ok (.invokevirtual 34, 3) := by decide +kernel
theorem dX6_standsStill_49 : decode cX6_standsStill 49 = .ok (.invokestatic 131, 3) := by decide +kernel
theorem dX6_standsStill_52 : decode cX6_standsStill 52 = .ok (.ifCond .ne 7, 3) := by decide +kernel
theorem dX6_standsStill_59 : decode cX6_standsStill 59 = .ok (.iconst 0, 1) := by decide +kernel
theorem dX6_standsStill_10 : decode cX6_standsStill 10 = .ok (.aload_n 0, 1) := by decide +kernel
theorem dX6_standsStill_11 : decode cX6_standsStill 11 = .ok (.getfield 18, 3) := by decide +kernel
theorem dX6_standsStill_14 : decode cX6_standsStill 14 = .ok (.iconst 0, 1) := by decide +kernel
theorem dX6_standsStill_15 : decode cX6_standsStill 15 = .ok (.aload_n 1, 1) := by decide +kernel
theorem dX6_standsStill_16 : decode cX6_standsStill 16 = .ok (.iload_n 2, 1) := by decide +kernel
theorem dX6_standsStill_17 : decode cX6_standsStill 17 = .ok (.iconst 4, 1) := by decide +kernel
theorem dX6_standsStill_18 : decode cX6_standsStill 18 = .ok (.invokevirtual 34, 3) := by decide +kernel
theorem dX6_standsStill_21 : decode cX6_standsStill 21 = .ok (.invokestatic 131, 3) := by decide +kernel
theorem dX6_standsStill_24 : decode cX6_standsStill 24 = .ok (.ifCond .ne 35, 3) := by decide +kernel
end
section
theorem cd_X6_isOnlyWriter : Cond.code yX6_isOnlyWriter cX6_isOnlyWriter 5 (some .boolean) ∈ pWW := pw5 (List.mem_of_getElem? (i := 117) rfl) rfl
abbrev m_X6_isOnlyWriter : MT := (yX6_isOnlyWriter, cX6_isOnlyWriter, 5, (some .boolean))
theorem ok_X6_isOnlyWriter : pOk m_X6_isOnlyWriter := ⟨⟨cd_X6_isOnlyWriter, ini_6⟩, by decide +kernel, ⟨by decide +kernel, by decide +kernel⟩, Nat.le_of_ble_eq_true rfl⟩
theorem np_X6_isOnlyWriter : (parseMethodDescriptor yX6_isOnlyWriter.desc).map (fun d => d.parameters.length) = some 2 := by decide +kernel
theorem im_X6_isOnlyWriter : Cond.instanceMethod yX6_isOnlyWriter ∈ pWW := pw5 (List.mem_of_getElem? (i := 116) rfl) rfl
theorem se_X6_isOnlyWriter : Cond.selects RX6 yX6_isOnlyWriter yX6_isOnlyWriter ∈ pWW := pws (List.mem_map.mpr ⟨_, lw_pin 62 rfl, rfl⟩) rfl
theorem dX6_isOnlyWriter_0 : decode cX6_isOnlyWriter 0 = .ok (.aload_n 1, 1) := by decide +kernel
theorem dX6_isOnlyWriter_1 : decode cX6_isOnlyWriter 1 = .ok (.iload_n 2, 1) := by decide +kernel
theorem dX6_isOnlyWriter_2 : decode cX6_isOnlyWriter 2 = .ok (.invokevirtual 84, 3) := by decide +kernel
theorem dX6_isOnlyWriter_5 : decode cX6_isOnlyWriter 5 = .ok (.istore_n 3, 1) := by decide +kernel
theorem dX6_isOnlyWriter_6 : decode cX6_isOnlyWriter 6 = .ok (.iconst 0, 1) := by decide +kernel
theorem dX6_isOnlyWriter_7 : decode cX6_isOnlyWriter 7 = .ok (.istore 4, 2) := by decide +kernel
theorem dX6_isOnlyWriter_9 : decode cX6_isOnlyWriter 9 = .ok (.iload 4, 2) := by decide +kernel
theorem dX6_isOnlyWriter_11 : decode cX6_isOnlyWriter 11 = .ok (.aload_n 1, 1) := by decide +kernel
theorem dX6_isOnlyWriter_12 : decode cX6_isOnlyWriter 12 = .ok (.getfield 22, 3) := by decide +kernel
theorem dX6_isOnlyWriter_15 : decode cX6_isOnlyWriter 15 = .ok (.if_icmp .ge 27, 3) := by decide +kernel
theorem dX6_isOnlyWriter_18 : decode cX6_isOnlyWriter 18 = .ok (.iload 4, 2) := by decide +kernel
theorem dX6_isOnlyWriter_20 : decode cX6_isOnlyWriter 20 = .ok (.iload_n 2, 1) := by decide +kernel
theorem dX6_isOnlyWriter_21 : decode cX6_isOnlyWriter 21 = .ok (.if_icmp .eq 15, 3) := by decide +kernel
theorem dX6_isOnlyWriter_36 : decode cX6_isOnlyWriter 36 = .ok (.iinc 4 1, 3) := by decide +kernel
theorem dX6_isOnlyWriter_39 : decode cX6_isOnlyWriter 39 = .ok (.goto (-30), 3) := by decide +kernel
theorem dX6_isOnlyWriter_24 : decode cX6_isOnlyWriter 24 = .ok (.aload_n 1, 1) := by decide +kernel
theorem dX6_isOnlyWriter_25 : decode cX6_isOnlyWriter 25 = .ok (.iload 4, 2) := by decide +kernel
theorem dX6_isOnlyWriter_27 : decode cX6_isOnlyWriter 27 = .ok (.invokevirtual 84, 3) := by decide +kernel
theorem dX6_isOnlyWriter_30 : decode cX6_isOnlyWriter 30 = .ok (.iload_n 3, 1) := by decide +kernel
theorem dX6_isOnlyWriter_31 : decode cX6_isOnlyWriter 31 = .ok (.if_icmp .ne 5, 3) := by decide +kernel
theorem dX6_isOnlyWriter_34 : decode cX6_isOnlyWriter 34 = .ok (.iconst 0, 1) := by decide +kernel
theorem dX6_isOnlyWriter_35 : decode cX6_isOnlyWriter 35 = .ok (.ireturn, 1) := by decide +kernel
theorem dX6_isOnlyWriter_42 : decode cX6_isOnlyWriter 42 = .ok (.iconst 1, 1) := by decide +kernel
theorem dX6_isOnlyWriter_43 : decode cX6_isOnlyWriter 43 = .ok (.ireturn, 1) := by decide +kernel
end
section
theorem cd_X6_firstMovable : Cond.code yX6_firstMovable cX6_firstMovable 5 (some .int) ∈ pWW := pw5 (List.mem_of_getElem? (i := 97) rfl) rfl
abbrev m_X6_firstMovable : MT := (yX6_firstMovable, cX6_firstMovable, 5, (some .int))
theorem ok_X6_firstMovable : pOk m_X6_firstMovable := ⟨⟨cd_X6_firstMovable, ini_6⟩, by decide +kernel, ⟨by decide +kernel, by decide +kernel⟩, Nat.le_of_ble_eq_true rfl⟩
theorem np_X6_firstMovable : (parseMethodDescriptor yX6_firstMovable.desc).map (fun d => d.parameters.length) = some 3 := by decide +kernel
theorem im_X6_firstMovable : Cond.instanceMethod yX6_firstMovable ∈ pWW := pw5 (List.mem_of_getElem? (i := 96) rfl) rfl
theorem se_X6_firstMovable : Cond.selects RX6 yX6_firstMovable yX6_firstMovable ∈ pWW := pws (List.mem_map.mpr ⟨_, lw_pin 59 rfl, rfl⟩) rfl
theorem ml6_107 : Cond.methodLink RX6 107 yX6_collectWritten ∈ pWW := pw5 (List.mem_of_getElem? (i := 98) rfl) rfl
theorem nl6_111 : (RX6, 111, yX11_isPure, "LineKeeper") ∈ nst_M := List.mem_of_getElem? (i := 34) rfl
theorem ml6_114 : Cond.methodLink RX6 114 yX6_standsStill ∈ pWW := pw5 (List.mem_of_getElem? (i := 105) rfl) rfl
theorem ml6_117 : Cond.methodLink RX6 117 yX1_isHome ∈ pWW := pw5 (List.mem_of_getElem? (i := 110) rfl) rfl
theorem ml6_120 : Cond.methodLink RX6 120 yX6_isOnlyWriter ∈ pWW := pw5 (List.mem_of_getElem? (i := 114) rfl) rfl
theorem dX6_firstMovable_0 : decode cX6_firstMovable 0 = .ok (.aload_n 0, 1) := by decide +kernel
theorem dX6_firstMovable_1 : decode cX6_firstMovable 1 = .ok (.aload_n 1, 1) := by decide +kernel
theorem dX6_firstMovable_2 : decode cX6_firstMovable 2 = .ok (.iload_n 2, 1) := by decide +kernel
theorem dX6_firstMovable_3 : decode cX6_firstMovable 3 = .ok (.iload_n 3, 1) := by decide +kernel
theorem dX6_firstMovable_4 : decode cX6_firstMovable 4 = .ok (.invokevirtual 107, 3) := by decide +kernel
theorem dX6_firstMovable_7 : decode cX6_firstMovable 7 = .ok (.iload_n 2, 1) := by decide +kernel
theorem dX6_firstMovable_8 : decode cX6_firstMovable 8 = .ok (.istore 4, 2) := by decide +kernel
theorem dX6_firstMovable_10 : decode cX6_firstMovable 10 = .ok (.iload 4, 2) := by decide +kernel
theorem dX6_firstMovable_12 : decode cX6_firstMovable 12 = .ok (.iload_n 3, 1) := by decide +kernel
theorem dX6_firstMovable_13 : decode cX6_firstMovable 13 = .ok (.if_icmp .gt 59, 3) := by decide +kernel
theorem dX6_firstMovable_16 : decode cX6_firstMovable 16 = .ok (.aload_n 1, 1) := by decide +kernel
theorem dX6_firstMovable_17 : decode cX6_firstMovable 17 = .ok (.iload 4, 2) := by decide +kernel
theorem dX6_firstMovable_19 : decode cX6_firstMovable 19 = .ok (.iconst 0, 1) := by decide +kernel
theorem dX6_firstMovable_20 : decode cX6_firstMovable 20 = .ok (.invokevirtual 34, 3) := by decide +kernel
theorem dX6_firstMovable_23 : decode cX6_firstMovable 23 = .ok (.invokestatic 111, 3) := by decide +kernel
theorem dX6_firstMovable_26 : decode cX6_firstMovable 26 = .ok (.ifCond .eq 40, 3) := by decide +kernel
theorem dX6_firstMovable_66 : decode cX6_firstMovable 66 = .ok (.iinc 4 1, 3) := by decide +kernel
theorem dX6_firstMovable_69 : decode cX6_firstMovable 69 = .ok (.goto (-59), 3) := by decide +kernel
theorem dX6_firstMovable_29 : decode cX6_firstMovable 29 = .ok (.aload_n 0, 1) := by decide +kernel
theorem dX6_firstMovable_30 : decode cX6_firstMovable 30 = .ok (.aload_n 1, 1) := by decide +kernel
theorem dX6_firstMovable_31 : decode cX6_firstMovable 31 = .ok (.iload 4, 2) := by decide +kernel
theorem dX6_firstMovable_33 : decode cX6_firstMovable 33 = .ok (.invokevirtual 114, 3) := by decide +kernel
theorem dX6_firstMovable_36 : decode cX6_firstMovable 36 = .ok (.ifCond .eq 30, 3) := by decide +kernel
theorem dX6_firstMovable_39 : decode cX6_firstMovable 39 = .ok (.aload_n 1, 1) := by decide +kernel
theorem dX6_firstMovable_40 : decode cX6_firstMovable 40 = .ok (.aload_n 1, 1) := by decide +kernel
theorem dX6_firstMovable_41 : decode cX6_firstMovable 41 = .ok (.iload 4, 2) := by decide +kernel
theorem dX6_firstMovable_43 : decode cX6_firstMovable 43 = .ok (.iconst 1, 1) := by decide +kernel
theorem dX6_firstMovable_44 : decode cX6_firstMovable 44 = .ok (.invokevirtual 34, 3) := by decide +kernel
theorem dX6_firstMovable_47 : decode cX6_firstMovable 47 = .ok (.invokevirtual 117, 3) := by decide +kernel
theorem dX6_firstMovable_50 : decode cX6_firstMovable 50 = .ok (.ifCond .ne 16, 3) := by decide +kernel
theorem dX6_firstMovable_53 : decode cX6_firstMovable 53 = .ok (.aload_n 0, 1) := by decide +kernel
theorem dX6_firstMovable_54 : decode cX6_firstMovable 54 = .ok (.aload_n 1, 1) := by decide +kernel
theorem dX6_firstMovable_55 : decode cX6_firstMovable 55 = .ok (.iload 4, 2) := by decide +kernel
theorem dX6_firstMovable_57 : decode cX6_firstMovable 57 = .ok (.invokevirtual 120, 3) := by decide +kernel
theorem dX6_firstMovable_60 : decode cX6_firstMovable 60 = .ok (.ifCond .eq 6, 3) := by decide +kernel
theorem dX6_firstMovable_63 : decode cX6_firstMovable 63 = .ok (.iload 4, 2) := by decide +kernel
theorem dX6_firstMovable_65 : decode cX6_firstMovable 65 = .ok (.ireturn, 1) := by decide +kernel
theorem dX6_firstMovable_72 : decode cX6_firstMovable 72 = .ok (.iconst (-1), 1) := by decide +kernel
theorem dX6_firstMovable_73 : decode cX6_firstMovable 73 = .ok (.ireturn, 1) := by decide +kernel
end
section
theorem cd_X6_emptyLoop : Cond.code yX6_emptyLoop cX6_emptyLoop 7 (some .int) ∈ pWW := pw5 (List.mem_of_getElem? (i := 89) rfl) rfl
abbrev m_X6_emptyLoop : MT := (yX6_emptyLoop, cX6_emptyLoop, 7, (some .int))
theorem ok_X6_emptyLoop : pOk m_X6_emptyLoop := ⟨⟨cd_X6_emptyLoop, ini_6⟩, by decide +kernel, ⟨by decide +kernel, by decide +kernel⟩, Nat.le_of_ble_eq_true rfl⟩
theorem np_X6_emptyLoop : (parseMethodDescriptor yX6_emptyLoop.desc).map (fun d => d.parameters.length) = some 2 := by decide +kernel
theorem im_X6_emptyLoop : Cond.instanceMethod yX6_emptyLoop ∈ pWW := pw5 (List.mem_of_getElem? (i := 88) rfl) rfl
theorem se_X6_emptyLoop : Cond.selects RX6 yX6_emptyLoop yX6_emptyLoop ∈ pWW := pws (List.mem_map.mpr ⟨_, lw_pin 57 rfl, rfl⟩) rfl
theorem ml6_96 : Cond.methodLink RX6 96 yX6_lastJumpTo ∈ pWW := pw5 (List.mem_of_getElem? (i := 90) rfl) rfl
theorem ml6_99 : Cond.methodLink RX6 99 yX6_firstMovable ∈ pWW := pw5 (List.mem_of_getElem? (i := 94) rfl) rfl
theorem ml6_103 : Cond.methodLink RX6 103 yX1_liftRow ∈ pWW := pw5 (List.mem_of_getElem? (i := 118) rfl) rfl
theorem dX6_emptyLoop_0 : decode cX6_emptyLoop 0 = .ok (.aload_n 0, 1) := by decide +kernel
theorem dX6_emptyLoop_1 : decode cX6_emptyLoop 1 = .ok (.aload_n 1, 1) := by decide +kernel
theorem dX6_emptyLoop_2 : decode cX6_emptyLoop 2 = .ok (.iload_n 2, 1) := by decide +kernel
theorem dX6_emptyLoop_3 : decode cX6_emptyLoop 3 = .ok (.invokevirtual 96, 3) := by decide +kernel
theorem dX6_emptyLoop_6 : decode cX6_emptyLoop 6 = .ok (.istore_n 3, 1) := by decide +kernel
theorem dX6_emptyLoop_7 : decode cX6_emptyLoop 7 = .ok (.iload_n 2, 1) := by decide +kernel
theorem dX6_emptyLoop_8 : decode cX6_emptyLoop 8 = .ok (.istore 4, 2) := by decide +kernel
theorem dX6_emptyLoop_10 : decode cX6_emptyLoop 10 = .ok (.iconst 0, 1) := by decide +kernel
theorem dX6_emptyLoop_11 : decode cX6_emptyLoop 11 = .ok (.istore 5, 2) := by decide +kernel
theorem dX6_emptyLoop_13 : decode cX6_emptyLoop 13 = .ok (.iload 5, 2) := by decide +kernel
theorem dX6_emptyLoop_15 : decode cX6_emptyLoop 15 = .ok (.sipush 200, 3) := by decide +kernel
theorem dX6_emptyLoop_18 : decode cX6_emptyLoop 18 = .ok (.if_icmp .ge 39, 3) := by decide +kernel
theorem dX6_emptyLoop_21 : decode cX6_emptyLoop 21 = .ok (.aload_n 0, 1) := by decide +kernel
theorem dX6_emptyLoop_22 : decode cX6_emptyLoop 22 = .ok (.aload_n 1, 1) := by decide +kernel
theorem dX6_emptyLoop_23 : decode cX6_emptyLoop 23 = .ok (.iload 4, 2) := by decide +kernel
theorem dX6_emptyLoop_25 : decode cX6_emptyLoop 25 = .ok (.iload_n 3, 1) := by decide +kernel
theorem dX6_emptyLoop_26 : decode cX6_emptyLoop 26 = .ok (.invokevirtual 99, 3) := by decide +kernel
theorem dX6_emptyLoop_29 : decode cX6_emptyLoop 29 = .ok (.istore 6, 2) := by decide +kernel
theorem dX6_emptyLoop_31 : decode cX6_emptyLoop 31 = .ok (.iload 6, 2) := by decide +kernel
theorem dX6_emptyLoop_33 : decode cX6_emptyLoop 33 = .ok (.iconst (-1), 1) := by decide +kernel
theorem dX6_emptyLoop_34 : decode cX6_emptyLoop 34 = .ok (.if_icmp .ne 6, 3) := by decide +kernel
theorem dX6_emptyLoop_40 : decode cX6_emptyLoop 40 = .ok (.aload_n 1, 1) := by decide +kernel
theorem dX6_emptyLoop_41 : decode cX6_emptyLoop 41 = .ok (.iload 6, 2) := by decide +kernel
theorem dX6_emptyLoop_43 : decode cX6_emptyLoop 43 = .ok (.iload 4, 2) := by decide +kernel
theorem dX6_emptyLoop_45 : decode cX6_emptyLoop 45 = .ok (.invokevirtual 103, 3) := by decide +kernel
theorem dX6_emptyLoop_48 : decode cX6_emptyLoop 48 = .ok (.iinc 4 1, 3) := by decide +kernel
theorem dX6_emptyLoop_51 : decode cX6_emptyLoop 51 = .ok (.iinc 5 1, 3) := by decide +kernel
theorem dX6_emptyLoop_54 : decode cX6_emptyLoop 54 = .ok (.goto (-41), 3) := by decide +kernel
theorem dX6_emptyLoop_37 : decode cX6_emptyLoop 37 = .ok (.goto 20, 3) := by decide +kernel
theorem dX6_emptyLoop_57 : decode cX6_emptyLoop 57 = .ok (.iload 4, 2) := by decide +kernel
theorem dX6_emptyLoop_59 : decode cX6_emptyLoop 59 = .ok (.iload_n 2, 1) := by decide +kernel
theorem dX6_emptyLoop_60 : decode cX6_emptyLoop 60 = .ok (.isub, 1) := by decide +kernel
theorem dX6_emptyLoop_61 : decode cX6_emptyLoop 61 = .ok (.ireturn, 1) := by decide +kernel
end
section
theorem cd_X6_move : Cond.code yX6_move cX6_move 4 (some .int) ∈ pWW := pw5 (List.mem_of_getElem? (i := 85) rfl) rfl
abbrev m_X6_move : MT := (yX6_move, cX6_move, 4, (some .int))
theorem ok_X6_move : pOk m_X6_move := ⟨⟨cd_X6_move, ini_6⟩, by decide +kernel, ⟨by decide +kernel, by decide +kernel⟩, Nat.le_of_ble_eq_true rfl⟩
theorem np_X6_move : (parseMethodDescriptor yX6_move.desc).map (fun d => d.parameters.length) = some 1 := by decide +kernel
theorem im_X6_move : Cond.instanceMethod yX6_move ∈ pWW := pw5 (List.mem_of_getElem? (i := 83) rfl) rfl
theorem se_X6_move : Cond.selects RX6 yX6_move yX6_move ∈ pWW := pw5 (List.mem_of_getElem? (i := 84) rfl) rfl
theorem ml6_92 : Cond.methodLink RX6 92 yX6_emptyLoop ∈ pWW := pw5 (List.mem_of_getElem? (i := 86) rfl) rfl
theorem dX6_move_0 : decode cX6_move 0 = .ok (.iconst 0, 1) := by decide +kernel
theorem dX6_move_1 : decode cX6_move 1 = .ok (.istore_n 2, 1) := by decide +kernel
theorem dX6_move_2 : decode cX6_move 2 = .ok (.aload_n 1, 1) := by decide +kernel
theorem dX6_move_3 : decode cX6_move 3 = .ok (.getfield 22, 3) := by decide +kernel
theorem dX6_move_6 : decode cX6_move 6 = .ok (.iconst 1, 1) := by decide +kernel
theorem dX6_move_7 : decode cX6_move 7 = .ok (.isub, 1) := by decide +kernel
theorem dX6_move_8 : decode cX6_move 8 = .ok (.istore_n 3, 1) := by decide +kernel
theorem dX6_move_9 : decode cX6_move 9 = .ok (.iload_n 3, 1) := by decide +kernel
theorem dX6_move_10 : decode cX6_move 10 = .ok (.ifCond .lt 29, 3) := by decide +kernel
theorem dX6_move_13 : decode cX6_move 13 = .ok (.aload_n 1, 1) := by decide +kernel
theorem dX6_move_14 : decode cX6_move 14 = .ok (.iload_n 3, 1) := by decide +kernel
theorem dX6_move_15 : decode cX6_move 15 = .ok (.iconst 0, 1) := by decide +kernel
theorem dX6_move_16 : decode cX6_move 16 = .ok (.invokevirtual 34, 3) := by decide +kernel
theorem dX6_move_19 : decode cX6_move 19 = .ok (.bipush 13, 2) := by decide +kernel
theorem dX6_move_21 : decode cX6_move 21 = .ok (.if_icmp .ne 12, 3) := by decide +kernel
theorem dX6_move_33 : decode cX6_move 33 = .ok (.iinc 3 (-1), 3) := by decide +kernel
theorem dX6_move_36 : decode cX6_move 36 = .ok (.goto (-27), 3) := by decide +kernel
theorem dX6_move_24 : decode cX6_move 24 = .ok (.iload_n 2, 1) := by decide +kernel
theorem dX6_move_25 : decode cX6_move 25 = .ok (.aload_n 0, 1) := by decide +kernel
theorem dX6_move_26 : decode cX6_move 26 = .ok (.aload_n 1, 1) := by decide +kernel
theorem dX6_move_27 : decode cX6_move 27 = .ok (.iload_n 3, 1) := by decide +kernel
theorem dX6_move_28 : decode cX6_move 28 = .ok (.invokevirtual 92, 3) := by decide +kernel
theorem dX6_move_31 : decode cX6_move 31 = .ok (.iadd, 1) := by decide +kernel
theorem dX6_move_32 : decode cX6_move 32 = .ok (.istore_n 2, 1) := by decide +kernel
theorem dX6_move_39 : decode cX6_move 39 = .ok (.iload_n 2, 1) := by decide +kernel
theorem dX6_move_40 : decode cX6_move 40 = .ok (.ireturn, 1) := by decide +kernel
end
section
theorem cd_X6_latestTwin : Cond.code yX6_latestTwin cX6_latestTwin 6 (some .int) ∈ pWW := pw5 (List.mem_of_getElem? (i := 129) rfl) rfl
abbrev m_X6_latestTwin : MT := (yX6_latestTwin, cX6_latestTwin, 6, (some .int))
theorem ok_X6_latestTwin : pOk m_X6_latestTwin := ⟨⟨cd_X6_latestTwin, ini_6⟩, by decide +kernel, ⟨by decide +kernel, by decide +kernel⟩, Nat.le_of_ble_eq_true rfl⟩
theorem np_X6_latestTwin : (parseMethodDescriptor yX6_latestTwin.desc).map (fun d => d.parameters.length) = some 2 := by decide +kernel
theorem im_X6_latestTwin : Cond.instanceMethod yX6_latestTwin ∈ pWW := pw5 (List.mem_of_getElem? (i := 128) rfl) rfl
theorem se_X6_latestTwin : Cond.selects RX6 yX6_latestTwin yX6_latestTwin ∈ pWW := pws (List.mem_map.mpr ⟨_, lw_pin 63 rfl, rfl⟩) rfl
theorem ml6_138 : Cond.methodLink RX6 138 yX1_sameOperands ∈ pWW := pw5 (List.mem_of_getElem? (i := 130) rfl) rfl
theorem dX6_latestTwin_0 : decode cX6_latestTwin 0 = .ok (.aload_n 0, 1) := by decide +kernel
theorem dX6_latestTwin_1 : decode cX6_latestTwin 1 = .ok (.getfield 18, 3) := by decide +kernel
theorem dX6_latestTwin_4 : decode cX6_latestTwin 4 = .ok (.iconst 3, 1) := by decide +kernel
theorem dX6_latestTwin_5 : decode cX6_latestTwin 5 = .ok (.invokestatic 123, 3) := by decide +kernel
theorem dX6_latestTwin_8 : decode cX6_latestTwin 8 = .ok (.iload_n 2, 1) := by decide +kernel
theorem dX6_latestTwin_9 : decode cX6_latestTwin 9 = .ok (.iconst 1, 1) := by decide +kernel
theorem dX6_latestTwin_10 : decode cX6_latestTwin 10 = .ok (.isub, 1) := by decide +kernel
theorem dX6_latestTwin_11 : decode cX6_latestTwin 11 = .ok (.istore_n 3, 1) := by decide +kernel
theorem dX6_latestTwin_12 : decode cX6_latestTwin 12 = .ok (.iload_n 3, 1) := by decide +kernel
theorem dX6_latestTwin_13 : decode cX6_latestTwin 13 = .ok (.ifCond .lt 97, 3) := by decide +kernel
theorem dX6_latestTwin_16 : decode cX6_latestTwin 16 = .ok (.aload_n 1, 1) := by decide +kernel
theorem dX6_latestTwin_17 : decode cX6_latestTwin 17 = .ok (.iload_n 3, 1) := by decide +kernel
theorem dX6_latestTwin_18 : decode cX6_latestTwin 18 = .ok (.iconst 0, 1) := by decide +kernel
theorem dX6_latestTwin_19 : decode cX6_latestTwin 19 = .ok (.invokevirtual 34, 3) := by decide +kernel
theorem dX6_latestTwin_22 : decode cX6_latestTwin 22 = .ok (.bipush 13, 2) := by decide +kernel
theorem dX6_latestTwin_24 : decode cX6_latestTwin 24 = .ok (.if_icmp .eq 86, 3) := by decide +kernel
theorem dX6_latestTwin_27 : decode cX6_latestTwin 27 = .ok (.aload_n 1, 1) := by decide +kernel
theorem dX6_latestTwin_28 : decode cX6_latestTwin 28 = .ok (.iload_n 3, 1) := by decide +kernel
theorem dX6_latestTwin_29 : decode cX6_latestTwin 29 = .ok (.invokevirtual 84, 3) := by decide +kernel
theorem dX6_latestTwin_32 : decode cX6_latestTwin 32 = .ok (.istore 4, 2) := by decide +kernel
theorem dX6_latestTwin_34 : decode cX6_latestTwin 34 = .ok (.aload_n 0, 1) := by decide +kernel
theorem dX6_latestTwin_35 : decode cX6_latestTwin 35 = .ok (.getfield 18, 3) := by decide +kernel
theorem dX6_latestTwin_38 : decode cX6_latestTwin 38 = .ok (.iconst 0, 1) := by decide +kernel
theorem dX6_latestTwin_39 : decode cX6_latestTwin 39 = .ok (.iload 4, 2) := by decide +kernel
theorem dX6_latestTwin_41 : decode cX6_latestTwin 41 = .ok (.invokestatic 131, 3) := by decide +kernel
theorem dX6_latestTwin_44 : decode cX6_latestTwin 44 = .ok (.ifCond .ne 7, 3) := by decide +kernel
theorem dX6_latestTwin_51 : decode cX6_latestTwin 51 = .ok (.iconst 0, 1) := by decide +kernel
theorem dX6_latestTwin_52 : decode cX6_latestTwin 52 = .ok (.istore 5, 2) := by decide +kernel
theorem dX6_latestTwin_54 : decode cX6_latestTwin 54 = .ok (.aload_n 0, 1) := by decide +kernel
theorem dX6_latestTwin_55 : decode cX6_latestTwin 55 = .ok (.getfield 18, 3) := by decide +kernel
theorem dX6_latestTwin_58 : decode cX6_latestTwin 58 = .ok (.iconst 0, 1) := by decide +kernel
theorem dX6_latestTwin_59 : decode cX6_latestTwin 59 = .ok (.iload 4, 2) := by decide +kernel
theorem dX6_latestTwin_61 : decode cX6_latestTwin 61 = .ok (.invokestatic 127, 3) := by decide +kernel
theorem dX6_latestTwin_64 : decode cX6_latestTwin 64 = .ok (.iload 5, 2) := by decide +kernel
theorem dX6_latestTwin_66 : decode cX6_latestTwin 66 = .ok (.ifCond .eq 38, 3) := by decide +kernel
theorem dX6_latestTwin_104 : decode cX6_latestTwin 104 = .ok (.iinc 3 (-1), 3) := by decide +kernel
theorem dX6_latestTwin_107 : decode cX6_latestTwin 107 = .ok (.goto (-95), 3) := by decide +kernel
theorem dX6_latestTwin_47 : decode cX6_latestTwin 47 = .ok (.iconst 1, 1) := by decide +kernel
theorem dX6_latestTwin_48 : decode cX6_latestTwin 48 = .ok (.goto 4, 3) := by decide +kernel
theorem dX6_latestTwin_69 : decode cX6_latestTwin 69 = .ok (.aload_n 1, 1) := by decide +kernel
theorem dX6_latestTwin_70 : decode cX6_latestTwin 70 = .ok (.iload_n 3, 1) := by decide +kernel
theorem dX6_latestTwin_71 : decode cX6_latestTwin 71 = .ok (.iconst 0, 1) := by decide +kernel
theorem dX6_latestTwin_72 : decode cX6_latestTwin 72 = .ok (.invokevirtual 34, 3) := by decide +kernel
theorem dX6_latestTwin_75 : decode cX6_latestTwin 75 = .ok (.aload_n 1, 1) := by decide +kernel
theorem dX6_latestTwin_76 : decode cX6_latestTwin 76 = .ok (.iload_n 2, 1) := by decide +kernel
theorem dX6_latestTwin_77 : decode cX6_latestTwin 77 = .ok (.iconst 0, 1) := by decide +kernel
theorem dX6_latestTwin_78 : decode cX6_latestTwin 78 = .ok (.invokevirtual 34, 3) := by decide +kernel
theorem dX6_latestTwin_81 : decode cX6_latestTwin 81 = .ok (.if_icmp .ne 23, 3) := by decide +kernel
theorem dX6_latestTwin_84 : decode cX6_latestTwin 84 = .ok (.aload_n 1, 1) := by decide +kernel
theorem dX6_latestTwin_85 : decode cX6_latestTwin 85 = .ok (.iload_n 3, 1) := by decide +kernel
theorem dX6_latestTwin_86 : decode cX6_latestTwin 86 = .ok (.iload_n 2, 1) := by decide +kernel
theorem dX6_latestTwin_87 : decode cX6_latestTwin 87 = .ok (.invokevirtual 138, 3) := by decide +kernel
theorem dX6_latestTwin_90 : decode cX6_latestTwin 90 = .ok (.ifCond .eq 14, 3) := by decide +kernel
theorem dX6_latestTwin_93 : decode cX6_latestTwin 93 = .ok (.aload_n 0, 1) := by decide +kernel
theorem dX6_latestTwin_94 : decode cX6_latestTwin 94 = .ok (.aload_n 1, 1) := by decide +kernel
theorem dX6_latestTwin_95 : decode cX6_latestTwin 95 = .ok (.iload_n 3, 1) := by decide +kernel
theorem dX6_latestTwin_96 : decode cX6_latestTwin 96 = .ok (.invokevirtual 114, 3) := by decide +kernel
theorem dX6_latestTwin_99 : decode cX6_latestTwin 99 = .ok (.ifCond .eq 5, 3) := by decide +kernel
theorem dX6_latestTwin_102 : decode cX6_latestTwin 102 = .ok (.iload_n 3, 1) := by decide +kernel
theorem dX6_latestTwin_103 : decode cX6_latestTwin 103 = .ok (.ireturn, 1) := by decide +kernel
theorem dX6_latestTwin_110 : decode cX6_latestTwin 110 = .ok (.iconst (-1), 1) := by decide +kernel
theorem dX6_latestTwin_111 : decode cX6_latestTwin 111 = .ok (.ireturn, 1) := by decide +kernel
end
section
theorem cd_X6_alike : Cond.code yX6_alike cX6_alike 5 (some .int) ∈ pWW := pw5 (List.mem_of_getElem? (i := 125) rfl) rfl
abbrev m_X6_alike : MT := (yX6_alike, cX6_alike, 5, (some .int))
theorem ok_X6_alike : pOk m_X6_alike := ⟨⟨cd_X6_alike, ini_6⟩, by decide +kernel, ⟨by decide +kernel, by decide +kernel⟩, Nat.le_of_ble_eq_true rfl⟩
theorem np_X6_alike : (parseMethodDescriptor yX6_alike.desc).map (fun d => d.parameters.length) = some 1 := by decide +kernel
theorem im_X6_alike : Cond.instanceMethod yX6_alike ∈ pWW := pw5 (List.mem_of_getElem? (i := 123) rfl) rfl
theorem se_X6_alike : Cond.selects RX6 yX6_alike yX6_alike ∈ pWW := pw5 (List.mem_of_getElem? (i := 124) rfl) rfl
theorem ml6_135 : Cond.methodLink RX6 135 yX6_latestTwin ∈ pWW := pw5 (List.mem_of_getElem? (i := 126) rfl) rfl
theorem dX6_alike_0 : decode cX6_alike 0 = .ok (.iconst 0, 1) := by decide +kernel
theorem dX6_alike_1 : decode cX6_alike 1 = .ok (.istore_n 2, 1) := by decide +kernel
theorem dX6_alike_2 : decode cX6_alike 2 = .ok (.iconst 0, 1) := by decide +kernel
theorem dX6_alike_3 : decode cX6_alike 3 = .ok (.istore_n 3, 1) := by decide +kernel
theorem dX6_alike_4 : decode cX6_alike 4 = .ok (.iload_n 3, 1) := by decide +kernel
theorem dX6_alike_5 : decode cX6_alike 5 = .ok (.aload_n 1, 1) := by decide +kernel
theorem dX6_alike_6 : decode cX6_alike 6 = .ok (.getfield 22, 3) := by decide +kernel
theorem dX6_alike_9 : decode cX6_alike 9 = .ok (.if_icmp .ge 55, 3) := by decide +kernel
theorem dX6_alike_12 : decode cX6_alike 12 = .ok (.aload_n 1, 1) := by decide +kernel
theorem dX6_alike_13 : decode cX6_alike 13 = .ok (.iload_n 3, 1) := by decide +kernel
theorem dX6_alike_14 : decode cX6_alike 14 = .ok (.iconst 0, 1) := by decide +kernel
theorem dX6_alike_15 : decode cX6_alike 15 = .ok (.invokevirtual 34, 3) := by decide +kernel
theorem dX6_alike_18 : decode cX6_alike 18 = .ok (.invokestatic 74, 3) := by decide +kernel
theorem dX6_alike_21 : decode cX6_alike 21 = .ok (.ifCond .eq 12, 3) := by decide +kernel
theorem dX6_alike_33 : decode cX6_alike 33 = .ok (.iconst (-1), 1) := by decide +kernel
theorem dX6_alike_34 : decode cX6_alike 34 = .ok (.istore 4, 2) := by decide +kernel
theorem dX6_alike_36 : decode cX6_alike 36 = .ok (.iload 4, 2) := by decide +kernel
theorem dX6_alike_38 : decode cX6_alike 38 = .ok (.iconst (-1), 1) := by decide +kernel
theorem dX6_alike_39 : decode cX6_alike 39 = .ok (.if_icmp .eq 19, 3) := by decide +kernel
theorem dX6_alike_58 : decode cX6_alike 58 = .ok (.iinc 3 1, 3) := by decide +kernel
theorem dX6_alike_61 : decode cX6_alike 61 = .ok (.goto (-57), 3) := by decide +kernel
theorem dX6_alike_24 : decode cX6_alike 24 = .ok (.aload_n 0, 1) := by decide +kernel
theorem dX6_alike_25 : decode cX6_alike 25 = .ok (.aload_n 1, 1) := by decide +kernel
theorem dX6_alike_26 : decode cX6_alike 26 = .ok (.iload_n 3, 1) := by decide +kernel
theorem dX6_alike_27 : decode cX6_alike 27 = .ok (.invokevirtual 135, 3) := by decide +kernel
theorem dX6_alike_30 : decode cX6_alike 30 = .ok (.goto 4, 3) := by decide +kernel
theorem dX6_alike_42 : decode cX6_alike 42 = .ok (.aload_n 1, 1) := by decide +kernel
theorem dX6_alike_43 : decode cX6_alike 43 = .ok (.iload_n 3, 1) := by decide +kernel
theorem dX6_alike_44 : decode cX6_alike 44 = .ok (.iconst 2, 1) := by decide +kernel
theorem dX6_alike_45 : decode cX6_alike 45 = .ok (.aload_n 1, 1) := by decide +kernel
theorem dX6_alike_46 : decode cX6_alike 46 = .ok (.iload 4, 2) := by decide +kernel
theorem dX6_alike_48 : decode cX6_alike 48 = .ok (.iconst 1, 1) := by decide +kernel
theorem dX6_alike_49 : decode cX6_alike 49 = .ok (.invokevirtual 34, 3) := by decide +kernel
theorem dX6_alike_52 : decode cX6_alike 52 = .ok (.invokevirtual 81, 3) := by decide +kernel
theorem dX6_alike_55 : decode cX6_alike 55 = .ok (.iinc 2 1, 3) := by decide +kernel
theorem dX6_alike_64 : decode cX6_alike 64 = .ok (.iload_n 2, 1) := by decide +kernel
theorem dX6_alike_65 : decode cX6_alike 65 = .ok (.ireturn, 1) := by decide +kernel
end
section
theorem cd_X8_findFirst : Cond.code yX8_findFirst cX8_findFirst 3 none ∈ pWW := pw5 (List.mem_of_getElem? (i := 209) rfl) rfl
theorem ini_8 : Cond.initialized RX8 ∈ pWW := pw1 (List.mem_of_getElem? (i := 10) rfl) rfl
abbrev m_X8_findFirst : MT := (yX8_findFirst, cX8_findFirst, 3, none)
theorem ok_X8_findFirst : pOk m_X8_findFirst := ⟨⟨cd_X8_findFirst, ini_8⟩, by decide +kernel, ⟨by decide +kernel, by decide +kernel⟩, Nat.le_of_ble_eq_true rfl⟩
theorem np_X8_findFirst : (parseMethodDescriptor yX8_findFirst.desc).map (fun d => d.parameters.length) = some 1 := by decide +kernel
theorem im_X8_findFirst : Cond.instanceMethod yX8_findFirst ∈ pWW := pw5 (List.mem_of_getElem? (i := 208) rfl) rfl
theorem se_X8_findFirst : Cond.selects RX8 yX8_findFirst yX8_findFirst ∈ pWW := pws (List.mem_map.mpr ⟨_, lw_pin 75 rfl, rfl⟩) rfl
theorem fl8_34 : Cond.fieldLink RX8 34 (TX8 0).1 (TX8 0).2.1 (TX8 0).2.2.1 ∈ pWW := pw2 (List.mem_of_getElem? (i := 98) rfl) rfl
theorem fl8_89 : Cond.fieldLink RX8 89 (TX3 0).1 (TX3 0).2.1 (TX3 0).2.2.1 ∈ pWW := pw1 (List.mem_of_getElem? (i := 221) rfl) rfl
theorem fl8_15 : Cond.fieldLink RX8 15 (TX8 2).1 (TX8 2).2.1 (TX8 2).2.2.1 ∈ pWW := pw2 (List.mem_of_getElem? (i := 100) rfl) rfl
theorem mla8_92 : Cond.methodLink RX8 92 arraycopyName ∈ pWW := pw5 (List.mem_of_getElem? (i := 210) rfl) rfl
theorem fl8_98 : Cond.fieldLink RX8 98 (TX1 3).1 (TX1 3).2.1 (TX1 3).2.2.1 ∈ pWW := pw1 (List.mem_of_getElem? (i := 93) rfl) rfl
theorem ml8_101 : Cond.methodLink RX8 101 yX1_homeOf ∈ pWW := pw5 (List.mem_of_getElem? (i := 211) rfl) rfl
theorem nl8_104 : (RX8, 104, yX11_include, "LineKeeper") ∈ nst_M := List.mem_of_getElem? (i := 40) rfl
theorem dX8_findFirst_0 : decode cX8_findFirst 0 = .ok (.aload_n 0, 1) := by decide +kernel
theorem dX8_findFirst_1 : decode cX8_findFirst 1 = .ok (.getfield 34, 3) := by decide +kernel
theorem dX8_findFirst_4 : decode cX8_findFirst 4 = .ok (.getfield 89, 3) := by decide +kernel
theorem dX8_findFirst_7 : decode cX8_findFirst 7 = .ok (.iconst 0, 1) := by decide +kernel
theorem dX8_findFirst_8 : decode cX8_findFirst 8 = .ok (.aload_n 0, 1) := by decide +kernel
theorem dX8_findFirst_9 : decode cX8_findFirst 9 = .ok (.getfield 15, 3) := by decide +kernel
theorem dX8_findFirst_12 : decode cX8_findFirst 12 = .ok (.iconst 0, 1) := by decide +kernel
theorem dX8_findFirst_13 : decode cX8_findFirst 13 = .ok (.iconst 3, 1) := by decide +kernel
theorem dX8_findFirst_14 : decode cX8_findFirst 14 = .ok (.invokestatic 92, 3) := by decide +kernel
theorem dX8_findFirst_17 : decode cX8_findFirst 17 = .ok (.iconst 0, 1) := by decide +kernel
theorem dX8_findFirst_18 : decode cX8_findFirst 18 = .ok (.istore_n 2, 1) := by decide +kernel
theorem dX8_findFirst_19 : decode cX8_findFirst 19 = .ok (.iload_n 2, 1) := by decide +kernel
theorem dX8_findFirst_20 : decode cX8_findFirst 20 = .ok (.aload_n 1, 1) := by decide +kernel
theorem dX8_findFirst_21 : decode cX8_findFirst 21 = .ok (.getfield 98, 3) := by decide +kernel
theorem dX8_findFirst_24 : decode cX8_findFirst 24 = .ok (.if_icmp .ge 23, 3) := by decide +kernel
theorem dX8_findFirst_27 : decode cX8_findFirst 27 = .ok (.aload_n 0, 1) := by decide +kernel
theorem dX8_findFirst_28 : decode cX8_findFirst 28 = .ok (.getfield 15, 3) := by decide +kernel
theorem dX8_findFirst_31 : decode cX8_findFirst 31 = .ok (.iconst 0, 1) := by decide +kernel
theorem dX8_findFirst_32 : decode cX8_findFirst 32 = .ok (.aload_n 1, 1) := by decide +kernel
theorem dX8_findFirst_33 : decode cX8_findFirst 33 = .ok (.iconst 0, 1) := by decide +kernel
theorem dX8_findFirst_34 : decode cX8_findFirst 34 = .ok (.iload_n 2, 1) := by decide +kernel
theorem dX8_findFirst_35 : decode cX8_findFirst 35 = .ok (.invokevirtual 101, 3) := by decide +kernel
theorem dX8_findFirst_38 : decode cX8_findFirst 38 = .ok (.invokestatic 104, 3) := by decide +kernel
theorem dX8_findFirst_41 : decode cX8_findFirst 41 = .ok (.iinc 2 1, 3) := by decide +kernel
theorem dX8_findFirst_44 : decode cX8_findFirst 44 = .ok (.goto (-25), 3) := by decide +kernel
theorem dX8_findFirst_47 : decode cX8_findFirst 47 = .ok (.return_, 1) := by decide +kernel
end
section
theorem cd_X8_addOdds : Cond.code yX8_addOdds cX8_addOdds 6 none ∈ pWW := pw5 (List.mem_of_getElem? (i := 222) rfl) rfl
abbrev m_X8_addOdds : MT := (yX8_addOdds, cX8_addOdds, 6, none)
theorem ok_X8_addOdds : pOk m_X8_addOdds := ⟨⟨cd_X8_addOdds, ini_8⟩, by decide +kernel, ⟨by decide +kernel, by decide +kernel⟩, Nat.le_of_ble_eq_true rfl⟩
theorem np_X8_addOdds : (parseMethodDescriptor yX8_addOdds.desc).map (fun d => d.parameters.length) = some 4 := by decide +kernel
theorem im_X8_addOdds : Cond.instanceMethod yX8_addOdds ∈ pWW := pw5 (List.mem_of_getElem? (i := 221) rfl) rfl
theorem se_X8_addOdds : Cond.selects RX8 yX8_addOdds yX8_addOdds ∈ pWW := pws (List.mem_map.mpr ⟨_, lw_pin 77 rfl, rfl⟩) rfl
theorem nl8_112 : (RX8, 112, yX11_has, "LineKeeper") ∈ nst_M := List.mem_of_getElem? (i := 42) rfl
theorem fl8_9 : Cond.fieldLink RX8 9 (TX8 1).1 (TX8 1).2.1 (TX8 1).2.2.1 ∈ pWW := pw2 (List.mem_of_getElem? (i := 99) rfl) rfl
theorem dX8_addOdds_0 : decode cX8_addOdds 0 = .ok (.iconst 0, 1) := by decide +kernel
theorem dX8_addOdds_1 : decode cX8_addOdds 1 = .ok (.istore 5, 2) := by decide +kernel
theorem dX8_addOdds_3 : decode cX8_addOdds 3 = .ok (.iload 5, 2) := by decide +kernel
theorem dX8_addOdds_5 : decode cX8_addOdds 5 = .ok (.iload 4, 2) := by decide +kernel
theorem dX8_addOdds_7 : decode cX8_addOdds 7 = .ok (.if_icmp .ge 45, 3) := by decide +kernel
theorem dX8_addOdds_10 : decode cX8_addOdds 10 = .ok (.iload 5, 2) := by decide +kernel
theorem dX8_addOdds_12 : decode cX8_addOdds 12 = .ok (.iload_n 3, 1) := by decide +kernel
theorem dX8_addOdds_13 : decode cX8_addOdds 13 = .ok (.if_icmp .eq 33, 3) := by decide +kernel
theorem dX8_addOdds_46 : decode cX8_addOdds 46 = .ok (.iinc 5 1, 3) := by decide +kernel
theorem dX8_addOdds_49 : decode cX8_addOdds 49 = .ok (.goto (-46), 3) := by decide +kernel
theorem dX8_addOdds_16 : decode cX8_addOdds 16 = .ok (.aload_n 1, 1) := by decide +kernel
theorem dX8_addOdds_17 : decode cX8_addOdds 17 = .ok (.iload_n 2, 1) := by decide +kernel
theorem dX8_addOdds_18 : decode cX8_addOdds 18 = .ok (.iload 5, 2) := by decide +kernel
theorem dX8_addOdds_20 : decode cX8_addOdds 20 = .ok (.invokestatic 112, 3) := by decide +kernel
theorem dX8_addOdds_23 : decode cX8_addOdds 23 = .ok (.ifCond .eq 23, 3) := by decide +kernel
theorem dX8_addOdds_26 : decode cX8_addOdds 26 = .ok (.aload_n 0, 1) := by decide +kernel
theorem dX8_addOdds_27 : decode cX8_addOdds 27 = .ok (.getfield 9, 3) := by decide +kernel
theorem dX8_addOdds_30 : decode cX8_addOdds 30 = .ok (.iload_n 3, 1) := by decide +kernel
theorem dX8_addOdds_31 : decode cX8_addOdds 31 = .ok (.iload 5, 2) := by decide +kernel
theorem dX8_addOdds_33 : decode cX8_addOdds 33 = .ok (.invokestatic 104, 3) := by decide +kernel
theorem dX8_addOdds_36 : decode cX8_addOdds 36 = .ok (.aload_n 0, 1) := by decide +kernel
theorem dX8_addOdds_37 : decode cX8_addOdds 37 = .ok (.getfield 9, 3) := by decide +kernel
theorem dX8_addOdds_40 : decode cX8_addOdds 40 = .ok (.iload 5, 2) := by decide +kernel
theorem dX8_addOdds_42 : decode cX8_addOdds 42 = .ok (.iload_n 3, 1) := by decide +kernel
theorem dX8_addOdds_43 : decode cX8_addOdds 43 = .ok (.invokestatic 104, 3) := by decide +kernel
theorem dX8_addOdds_52 : decode cX8_addOdds 52 = .ok (.return_, 1) := by decide +kernel
end
