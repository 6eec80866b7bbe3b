theorem cd_X1_sameOperands : Cond.code yX1_sameOperands cX1_sameOperands 3 (some .boolean) ∈ pWW := pw4 (List.mem_of_getElem? (i := 128) rfl) rfl
abbrev m_X1_sameOperands : MT := (yX1_sameOperands, cX1_sameOperands, 3, (some .boolean))
theorem ok_X1_sameOperands : pOk m_X1_sameOperands := ⟨⟨cd_X1_sameOperands, ini_1⟩, by decide +kernel, ⟨by decide +kernel, by decide +kernel⟩, Nat.le_of_ble_eq_true rfl⟩
theorem np_X1_sameOperands : (parseMethodDescriptor yX1_sameOperands.desc).map (fun d => d.parameters.length) = some 2 := by decide +kernel
theorem im_X1_sameOperands : Cond.instanceMethod yX1_sameOperands ∈ pWW := pw4 (List.mem_of_getElem? (i := 126) rfl) rfl
theorem se_X1_sameOperands : Cond.selects RX1 yX1_sameOperands yX1_sameOperands ∈ pWW := pw4 (List.mem_of_getElem? (i := 127) rfl) rfl
theorem dX1_sameOperands_0 : decode cX1_sameOperands 0 = .ok (.aload_n 0, 1) := by decide +kernel
theorem dX1_sameOperands_1 : decode cX1_sameOperands 1 = .ok (.iload_n 1, 1) := by decide +kernel
theorem dX1_sameOperands_2 : decode cX1_sameOperands 2 = .ok (.iconst 3, 1) := by decide +kernel
theorem dX1_sameOperands_3 : decode cX1_sameOperands 3 = .ok (.invokevirtual 86, 3) := by decide +kernel
theorem dX1_sameOperands_6 : decode cX1_sameOperands 6 = .ok (.aload_n 0, 1) := by decide +kernel
theorem dX1_sameOperands_7 : decode cX1_sameOperands 7 = .ok (.iload_n 2, 1) := by decide +kernel
theorem dX1_sameOperands_8 : decode cX1_sameOperands 8 = .ok (.iconst 3, 1) := by decide +kernel
theorem dX1_sameOperands_9 : decode cX1_sameOperands 9 = .ok (.invokevirtual 86, 3) := by decide +kernel
theorem dX1_sameOperands_12 : decode cX1_sameOperands 12 = .ok (.if_icmp .ne 54, 3) := by decide +kernel
theorem dX1_sameOperands_66 : decode cX1_sameOperands 66 = .ok (.iconst 0, 1) := by decide +kernel
theorem dX1_sameOperands_67 : decode cX1_sameOperands 67 = .ok (.ireturn, 1) := by decide +kernel
theorem dX1_sameOperands_15 : decode cX1_sameOperands 15 = .ok (.aload_n 0, 1) := by decide +kernel
theorem dX1_sameOperands_16 : decode cX1_sameOperands 16 = .ok (.iload_n 1, 1) := by decide +kernel
theorem dX1_sameOperands_17 : decode cX1_sameOperands 17 = .ok (.iconst 4, 1) := by decide +kernel
theorem dX1_sameOperands_18 : decode cX1_sameOperands 18 = .ok (.invokevirtual 86, 3) := by decide +kernel
theorem dX1_sameOperands_21 : decode cX1_sameOperands 21 = .ok (.aload_n 0, 1) := by decide +kernel
theorem dX1_sameOperands_22 : decode cX1_sameOperands 22 = .ok (.iload_n 2, 1) := by decide +kernel
theorem dX1_sameOperands_23 : decode cX1_sameOperands 23 = .ok (.iconst 4, 1) := by decide +kernel
theorem dX1_sameOperands_24 : decode cX1_sameOperands 24 = .ok (.invokevirtual 86, 3) := by decide +kernel
theorem dX1_sameOperands_27 : decode cX1_sameOperands 27 = .ok (.if_icmp .ne 39, 3) := by decide +kernel
theorem dX1_sameOperands_30 : decode cX1_sameOperands 30 = .ok (.aload_n 0, 1) := by decide +kernel
theorem dX1_sameOperands_31 : decode cX1_sameOperands 31 = .ok (.iload_n 1, 1) := by decide +kernel
theorem dX1_sameOperands_32 : decode cX1_sameOperands 32 = .ok (.iconst 5, 1) := by decide +kernel
theorem dX1_sameOperands_33 : decode cX1_sameOperands 33 = .ok (.invokevirtual 86, 3) := by decide +kernel
theorem dX1_sameOperands_36 : decode cX1_sameOperands 36 = .ok (.aload_n 0, 1) := by decide +kernel
theorem dX1_sameOperands_37 : decode cX1_sameOperands 37 = .ok (.iload_n 2, 1) := by decide +kernel
theorem dX1_sameOperands_38 : decode cX1_sameOperands 38 = .ok (.iconst 5, 1) := by decide +kernel
theorem dX1_sameOperands_39 : decode cX1_sameOperands 39 = .ok (.invokevirtual 86, 3) := by decide +kernel
theorem dX1_sameOperands_42 : decode cX1_sameOperands 42 = .ok (.if_icmp .ne 24, 3) := by decide +kernel
theorem dX1_sameOperands_45 : decode cX1_sameOperands 45 = .ok (.aload_n 0, 1) := by decide +kernel
theorem dX1_sameOperands_46 : decode cX1_sameOperands 46 = .ok (.iload_n 1, 1) := by decide +kernel
theorem dX1_sameOperands_47 : decode cX1_sameOperands 47 = .ok (.bipush 6, 2) := by decide +kernel
theorem dX1_sameOperands_49 : decode cX1_sameOperands 49 = .ok (.invokevirtual 86, 3) := by decide +kernel
theorem dX1_sameOperands_52 : decode cX1_sameOperands 52 = .ok (.aload_n 0, 1) := by decide +kernel
theorem dX1_sameOperands_53 : decode cX1_sameOperands 53 = .ok (.iload_n 2, 1) := by decide +kernel
theorem dX1_sameOperands_54 : decode cX1_sameOperands 54 = .ok (.bipush 6, 2) := by decide +kernel
theorem dX1_sameOperands_56 : decode cX1_sameOperands 56 = .ok (.invokevirtual 86, 3) := by decide +kernel
theorem dX1_sameOperands_59 : decode cX1_sameOperands 59 = .ok (.if_icmp .ne 7, 3) := by decide +kernel
theorem dX1_sameOperands_62 : decode cX1_sameOperands 62 = .ok (.iconst 1, 1) := by decide +kernel
theorem dX1_sameOperands_63 : decode cX1_sameOperands 63 = .ok (.goto 4, 3) := by decide +kernel
set_option maxRecDepth 20000 in
theorem k_X1_sameOperands (d : Nat) {T : CT} {σ : MS} {a : Nat} {k : Int} {j : Int} (ha : OB T a 1) (h_k : -2147483648 ≤ k ∧ k ≤ 2147483647) (h_j : -2147483648 ≤ j ∧ j ≤ 2147483647) (hw : WT T σ) : Tn (d + 2) m_X1_sameOperands 0 T σ [(0, .ref a), (1, .int (iI k)), (2, .int (iI j))] [] (fun ro T2 σ2 => ∃ v : Int, ro = some (.int (iI v)) ∧ T = T2 ∧ σ = σ2 ∧ (v = 0 ∨ v = 1)) := by
  refine tn_aload_n dX1_sameOperands_0 rfl 0 rfl ?_
  refine tn_iload_n dX1_sameOperands_1 rfl 1 rfl ?_
  refine tn_iconst dX1_sameOperands_2 ?_
  refine tn_callV (M := m_X1_sameOperands) (pc := 3) (ix := 86) (ci := 1) (M' := m_X1_get) (As := [.int (iI k), .int (iI 3)]) (rest := []) dX1_sameOperands_3 ok_X1_get im_X1_get se_X1_get ml1_86 np_X1_get rfl rfl ha rfl (Nat.le_of_ble_eq_true rfl) (Nat.le_of_ble_eq_true rfl) rfl (k_X1_get (d) (T := T) (σ := σ) (a := a) (k := k) (c := 3) ha (by omega) (by decide) hw (by omega)) (fun r1 T3 σ2 gt4 hp => ?_)
  obtain ⟨v6, rfl, rfl, rfl, f5⟩ := hp
  clear gt4
  show Tn _ _ 6 T σ [(0, .ref a), (1, .int (iI k)), (2, .int (iI j))] [.int (iI v6)] _
  refine tn_aload_n dX1_sameOperands_6 rfl 0 rfl ?_
  refine tn_iload_n dX1_sameOperands_7 rfl 2 rfl ?_
  refine tn_iconst dX1_sameOperands_8 ?_
  refine tn_callV (M := m_X1_sameOperands) (pc := 9) (ix := 86) (ci := 1) (M' := m_X1_get) (As := [.int (iI j), .int (iI 3)]) (rest := [.int (iI v6)]) dX1_sameOperands_9 ok_X1_get im_X1_get se_X1_get ml1_86 np_X1_get rfl rfl ha rfl (Nat.le_of_ble_eq_true rfl) (Nat.le_of_ble_eq_true rfl) rfl (k_X1_get (d) (T := T) (σ := σ) (a := a) (k := j) (c := 3) ha (by omega) (by decide) hw (by omega)) (fun r7 T9 σ8 gt10 hp => ?_)
  obtain ⟨v12, rfl, rfl, rfl, f11⟩ := hp
  clear gt10
  show Tn _ _ 12 T σ [(0, .ref a), (1, .int (iI k)), (2, .int (iI j))] [.int (iI v12), .int (iI v6)] _
  refine tn_icmp_ne (tgt := 66) dX1_sameOperands_12 (by decide) ⟨by omega, by omega⟩ ⟨by omega, by omega⟩ (fun h13 => ?_) (fun h13 => ?_)
  · refine tn_iconst dX1_sameOperands_66 ?_
    exact tn_zret (v := 0) rfl (by decide) dX1_sameOperands_67 ⟨_, rfl, rfl, rfl, by omega⟩
  · refine tn_aload_n dX1_sameOperands_15 rfl 0 rfl ?_
    refine tn_iload_n dX1_sameOperands_16 rfl 1 rfl ?_
    refine tn_iconst dX1_sameOperands_17 ?_
    refine tn_callV (M := m_X1_sameOperands) (pc := 18) (ix := 86) (ci := 1) (M' := m_X1_get) (As := [.int (iI k), .int (iI 4)]) (rest := []) dX1_sameOperands_18 ok_X1_get im_X1_get se_X1_get ml1_86 np_X1_get rfl rfl ha rfl (Nat.le_of_ble_eq_true rfl) (Nat.le_of_ble_eq_true rfl) rfl (k_X1_get (d) (T := T) (σ := σ) (a := a) (k := k) (c := 4) ha (by omega) (by decide) hw (by omega)) (fun r14 T16 σ15 gt17 hp => ?_)
    obtain ⟨v19, rfl, rfl, rfl, f18⟩ := hp
    clear gt17
    show Tn _ _ 21 T σ [(0, .ref a), (1, .int (iI k)), (2, .int (iI j))] [.int (iI v19)] _
    refine tn_aload_n dX1_sameOperands_21 rfl 0 rfl ?_
    refine tn_iload_n dX1_sameOperands_22 rfl 2 rfl ?_
    refine tn_iconst dX1_sameOperands_23 ?_
    refine tn_callV (M := m_X1_sameOperands) (pc := 24) (ix := 86) (ci := 1) (M' := m_X1_get) (As := [.int (iI j), .int (iI 4)]) (rest := [.int (iI v19)]) dX1_sameOperands_24 ok_X1_get im_X1_get se_X1_get ml1_86 np_X1_get rfl rfl ha rfl (Nat.le_of_ble_eq_true rfl) (Nat.le_of_ble_eq_true rfl) rfl (k_X1_get (d) (T := T) (σ := σ) (a := a) (k := j) (c := 4) ha (by omega) (by decide) hw (by omega)) (fun r20 T22 σ21 gt23 hp => ?_)
    obtain ⟨v25, rfl, rfl, rfl, f24⟩ := hp
    clear gt23
    show Tn _ _ 27 T σ [(0, .ref a), (1, .int (iI k)), (2, .int (iI j))] [.int (iI v25), .int (iI v19)] _
    refine tn_icmp_ne (tgt := 66) dX1_sameOperands_27 (by decide) ⟨by omega, by omega⟩ ⟨by omega, by omega⟩ (fun h26 => ?_) (fun h26 => ?_)
    · refine tn_iconst dX1_sameOperands_66 ?_
      exact tn_zret (v := 0) rfl (by decide) dX1_sameOperands_67 ⟨_, rfl, rfl, rfl, by omega⟩
    · refine tn_aload_n dX1_sameOperands_30 rfl 0 rfl ?_
      refine tn_iload_n dX1_sameOperands_31 rfl 1 rfl ?_
      refine tn_iconst dX1_sameOperands_32 ?_
      refine tn_callV (M := m_X1_sameOperands) (pc := 33) (ix := 86) (ci := 1) (M' := m_X1_get) (As := [.int (iI k), .int (iI 5)]) (rest := []) dX1_sameOperands_33 ok_X1_get im_X1_get se_X1_get ml1_86 np_X1_get rfl rfl ha rfl (Nat.le_of_ble_eq_true rfl) (Nat.le_of_ble_eq_true rfl) rfl (k_X1_get (d) (T := T) (σ := σ) (a := a) (k := k) (c := 5) ha (by omega) (by decide) hw (by omega)) (fun r27 T29 σ28 gt30 hp => ?_)
      obtain ⟨v32, rfl, rfl, rfl, f31⟩ := hp
      clear gt30
      show Tn _ _ 36 T σ [(0, .ref a), (1, .int (iI k)), (2, .int (iI j))] [.int (iI v32)] _
      refine tn_aload_n dX1_sameOperands_36 rfl 0 rfl ?_
      refine tn_iload_n dX1_sameOperands_37 rfl 2 rfl ?_
      refine tn_iconst dX1_sameOperands_38 ?_
      refine tn_callV (M := m_X1_sameOperands) (pc := 39) (ix := 86) (ci := 1) (M' := m_X1_get) (As := [.int (iI j), .int (iI 5)]) (rest := [.int (iI v32)]) dX1_sameOperands_39 ok_X1_get im_X1_get se_X1_get ml1_86 np_X1_get rfl rfl ha rfl (Nat.le_of_ble_eq_true rfl) (Nat.le_of_ble_eq_true rfl) rfl (k_X1_get (d) (T := T) (σ := σ) (a := a) (k := j) (c := 5) ha (by omega) (by decide) hw (by omega)) (fun r33 T35 σ34 gt36 hp => ?_)
      obtain ⟨v38, rfl, rfl, rfl, f37⟩ := hp
      clear gt36
      show Tn _ _ 42 T σ [(0, .ref a), (1, .int (iI k)), (2, .int (iI j))] [.int (iI v38), .int (iI v32)] _
      refine tn_icmp_ne (tgt := 66) dX1_sameOperands_42 (by decide) ⟨by omega, by omega⟩ ⟨by omega, by omega⟩ (fun h39 => ?_) (fun h39 => ?_)
      · refine tn_iconst dX1_sameOperands_66 ?_
        exact tn_zret (v := 0) rfl (by decide) dX1_sameOperands_67 ⟨_, rfl, rfl, rfl, by omega⟩
      · refine tn_aload_n dX1_sameOperands_45 rfl 0 rfl ?_
        refine tn_iload_n dX1_sameOperands_46 rfl 1 rfl ?_
        refine tn_bipush dX1_sameOperands_47 (by decide) ?_
        refine tn_callV (M := m_X1_sameOperands) (pc := 49) (ix := 86) (ci := 1) (M' := m_X1_get) (As := [.int (iI k), .int (iI 6)]) (rest := []) dX1_sameOperands_49 ok_X1_get im_X1_get se_X1_get ml1_86 np_X1_get rfl rfl ha rfl (Nat.le_of_ble_eq_true rfl) (Nat.le_of_ble_eq_true rfl) rfl (k_X1_get (d) (T := T) (σ := σ) (a := a) (k := k) (c := 6) ha (by omega) (by decide) hw (by omega)) (fun r40 T42 σ41 gt43 hp => ?_)
        obtain ⟨v45, rfl, rfl, rfl, f44⟩ := hp
        clear gt43
        show Tn _ _ 52 T σ [(0, .ref a), (1, .int (iI k)), (2, .int (iI j))] [.int (iI v45)] _
        refine tn_aload_n dX1_sameOperands_52 rfl 0 rfl ?_
        refine tn_iload_n dX1_sameOperands_53 rfl 2 rfl ?_
        refine tn_bipush dX1_sameOperands_54 (by decide) ?_
        refine tn_callV (M := m_X1_sameOperands) (pc := 56) (ix := 86) (ci := 1) (M' := m_X1_get) (As := [.int (iI j), .int (iI 6)]) (rest := [.int (iI v45)]) dX1_sameOperands_56 ok_X1_get im_X1_get se_X1_get ml1_86 np_X1_get rfl rfl ha rfl (Nat.le_of_ble_eq_true rfl) (Nat.le_of_ble_eq_true rfl) rfl (k_X1_get (d) (T := T) (σ := σ) (a := a) (k := j) (c := 6) ha (by omega) (by decide) hw (by omega)) (fun r46 T48 σ47 gt49 hp => ?_)
        obtain ⟨v51, rfl, rfl, rfl, f50⟩ := hp
        clear gt49
        show Tn _ _ 59 T σ [(0, .ref a), (1, .int (iI k)), (2, .int (iI j))] [.int (iI v51), .int (iI v45)] _
        refine tn_icmp_ne (tgt := 66) dX1_sameOperands_59 (by decide) ⟨by omega, by omega⟩ ⟨by omega, by omega⟩ (fun h52 => ?_) (fun h52 => ?_)
        · refine tn_iconst dX1_sameOperands_66 ?_
          exact tn_zret (v := 0) rfl (by decide) dX1_sameOperands_67 ⟨_, rfl, rfl, rfl, by omega⟩
        · refine tn_iconst dX1_sameOperands_62 ?_
          refine tn_goto (tgt := 67) dX1_sameOperands_63 (by decide) ?_
          exact tn_zret (v := 1) rfl (by decide) dX1_sameOperands_67 ⟨_, rfl, rfl, rfl, by omega⟩
