theorem cd_X1_openRows : Cond.code yX1_openRows cX1_openRows 3 (some .boolean) ∈ pWW := pw5 (List.mem_of_getElem? (i := 171) rfl) rfl
abbrev m_X1_openRows : MT := (yX1_openRows, cX1_openRows, 3, (some .boolean))
theorem ok_X1_openRows : pOk m_X1_openRows := ⟨⟨cd_X1_openRows, ini_1⟩, by decide +kernel, ⟨by decide +kernel, by decide +kernel⟩, Nat.le_of_ble_eq_true rfl⟩
theorem np_X1_openRows : (parseMethodDescriptor yX1_openRows.desc).map (fun d => d.parameters.length) = some 2 := by decide +kernel
theorem im_X1_openRows : Cond.instanceMethod yX1_openRows ∈ pWW := pw5 (List.mem_of_getElem? (i := 169) rfl) rfl
theorem se_X1_openRows : Cond.selects RX1 yX1_openRows yX1_openRows ∈ pWW := pw5 (List.mem_of_getElem? (i := 170) rfl) rfl
theorem ml1_76 : Cond.methodLink RX1 76 yX1_holdRows ∈ pWW := pw4 (List.mem_of_getElem? (i := 36) rfl) rfl
theorem dX1_openRows_0 : decode cX1_openRows 0 = .ok (.iload_n 2, 1) := by decide +kernel
theorem dX1_openRows_1 : decode cX1_openRows 1 = .ok (.ifCond .lt 28, 3) := by decide +kernel
theorem dX1_openRows_29 : decode cX1_openRows 29 = .ok (.iconst 0, 1) := by decide +kernel
theorem dX1_openRows_30 : decode cX1_openRows 30 = .ok (.ireturn, 1) := by decide +kernel
theorem dX1_openRows_4 : decode cX1_openRows 4 = .ok (.iload_n 1, 1) := by decide +kernel
theorem dX1_openRows_5 : decode cX1_openRows 5 = .ok (.ifCond .lt 24, 3) := by decide +kernel
theorem dX1_openRows_8 : decode cX1_openRows 8 = .ok (.iload_n 1, 1) := by decide +kernel
theorem dX1_openRows_9 : decode cX1_openRows 9 = .ok (.aload_n 0, 1) := by decide +kernel
theorem dX1_openRows_10 : decode cX1_openRows 10 = .ok (.getfield 33, 3) := by decide +kernel
theorem dX1_openRows_13 : decode cX1_openRows 13 = .ok (.if_icmp .gt 16, 3) := by decide +kernel
theorem dX1_openRows_16 : decode cX1_openRows 16 = .ok (.aload_n 0, 1) := by decide +kernel
theorem dX1_openRows_17 : decode cX1_openRows 17 = .ok (.aload_n 0, 1) := by decide +kernel
theorem dX1_openRows_18 : decode cX1_openRows 18 = .ok (.getfield 33, 3) := by decide +kernel
theorem dX1_openRows_21 : decode cX1_openRows 21 = .ok (.iload_n 2, 1) := by decide +kernel
theorem dX1_openRows_22 : decode cX1_openRows 22 = .ok (.iadd, 1) := by decide +kernel
theorem dX1_openRows_23 : decode cX1_openRows 23 = .ok (.invokevirtual 76, 3) := by decide +kernel
theorem dX1_openRows_26 : decode cX1_openRows 26 = .ok (.ifCond .ne 5, 3) := by decide +kernel
theorem dX1_openRows_31 : decode cX1_openRows 31 = .ok (.aload_n 0, 1) := by decide +kernel
theorem dX1_openRows_32 : decode cX1_openRows 32 = .ok (.getfield 9, 3) := by decide +kernel
theorem dX1_openRows_35 : decode cX1_openRows 35 = .ok (.iload_n 1, 1) := by decide +kernel
theorem dX1_openRows_36 : decode cX1_openRows 36 = .ok (.bipush 13, 2) := by decide +kernel
theorem dX1_openRows_38 : decode cX1_openRows 38 = .ok (.imul, 1) := by decide +kernel
theorem dX1_openRows_39 : decode cX1_openRows 39 = .ok (.aload_n 0, 1) := by decide +kernel
theorem dX1_openRows_40 : decode cX1_openRows 40 = .ok (.getfield 9, 3) := by decide +kernel
theorem dX1_openRows_43 : decode cX1_openRows 43 = .ok (.iload_n 1, 1) := by decide +kernel
theorem dX1_openRows_44 : decode cX1_openRows 44 = .ok (.iload_n 2, 1) := by decide +kernel
theorem dX1_openRows_45 : decode cX1_openRows 45 = .ok (.iadd, 1) := by decide +kernel
theorem dX1_openRows_46 : decode cX1_openRows 46 = .ok (.bipush 13, 2) := by decide +kernel
theorem dX1_openRows_48 : decode cX1_openRows 48 = .ok (.imul, 1) := by decide +kernel
theorem dX1_openRows_49 : decode cX1_openRows 49 = .ok (.aload_n 0, 1) := by decide +kernel
theorem dX1_openRows_50 : decode cX1_openRows 50 = .ok (.getfield 33, 3) := by decide +kernel
theorem dX1_openRows_53 : decode cX1_openRows 53 = .ok (.iload_n 1, 1) := by decide +kernel
theorem dX1_openRows_54 : decode cX1_openRows 54 = .ok (.isub, 1) := by decide +kernel
theorem dX1_openRows_55 : decode cX1_openRows 55 = .ok (.bipush 13, 2) := by decide +kernel
theorem dX1_openRows_57 : decode cX1_openRows 57 = .ok (.imul, 1) := by decide +kernel
theorem dX1_openRows_58 : decode cX1_openRows 58 = .ok (.invokestatic 80, 3) := by decide +kernel
theorem dX1_openRows_61 : decode cX1_openRows 61 = .ok (.aload_n 0, 1) := by decide +kernel
theorem dX1_openRows_62 : decode cX1_openRows 62 = .ok (.getfield 9, 3) := by decide +kernel
theorem dX1_openRows_65 : decode cX1_openRows 65 = .ok (.iload_n 1, 1) := by decide +kernel
theorem dX1_openRows_66 : decode cX1_openRows 66 = .ok (.bipush 13, 2) := by decide +kernel
theorem dX1_openRows_68 : decode cX1_openRows 68 = .ok (.imul, 1) := by decide +kernel
theorem dX1_openRows_69 : decode cX1_openRows 69 = .ok (.iload_n 1, 1) := by decide +kernel
theorem dX1_openRows_70 : decode cX1_openRows 70 = .ok (.iload_n 2, 1) := by decide +kernel
theorem dX1_openRows_71 : decode cX1_openRows 71 = .ok (.iadd, 1) := by decide +kernel
theorem dX1_openRows_72 : decode cX1_openRows 72 = .ok (.bipush 13, 2) := by decide +kernel
theorem dX1_openRows_74 : decode cX1_openRows 74 = .ok (.imul, 1) := by decide +kernel
theorem dX1_openRows_75 : decode cX1_openRows 75 = .ok (.iconst 0, 1) := by decide +kernel
theorem dX1_openRows_76 : decode cX1_openRows 76 = .ok (.invokestatic 72, 3) := by decide +kernel
theorem dX1_openRows_79 : decode cX1_openRows 79 = .ok (.aload_n 0, 1) := by decide +kernel
theorem dX1_openRows_80 : decode cX1_openRows 80 = .ok (.dup, 1) := by decide +kernel
theorem dX1_openRows_81 : decode cX1_openRows 81 = .ok (.getfield 33, 3) := by decide +kernel
theorem dX1_openRows_84 : decode cX1_openRows 84 = .ok (.iload_n 2, 1) := by decide +kernel
theorem dX1_openRows_85 : decode cX1_openRows 85 = .ok (.iadd, 1) := by decide +kernel
theorem dX1_openRows_86 : decode cX1_openRows 86 = .ok (.putfield 33, 3) := by decide +kernel
theorem dX1_openRows_89 : decode cX1_openRows 89 = .ok (.iconst 1, 1) := by decide +kernel
theorem dX1_openRows_90 : decode cX1_openRows 90 = .ok (.ireturn, 1) := by decide +kernel
set_option maxRecDepth 20000 in
theorem k_X1_openRows (d : Nat) {T : CT} {σ : MS} {a : Nat} {k : Int} {n : Int} (ha : OB T a 1) (hta : (T a).1 = 50) (h_k : -2147483648 ≤ k ∧ k ≤ 2147483647) (h_n : -2147483648 ≤ n ∧ n ≤ 2147483647) (hw : WT T σ) (hn : n ≤ 1000000) : Tn (d + 3) m_X1_openRows 0 T σ [(0, .ref a), (1, .int (iI k)), (2, .int (iI n))] [] (fun ro T2 σ2 => ∃ v : Int, ro = some (.int (iI v)) ∧ WT T2 σ2 ∧ FrC T [5, 6] σ σ2 ∧ (v = 0 ∨ v = 1)) := by
  refine tn_iload_n dX1_openRows_0 rfl 2 rfl ?_
  refine tn_if_lt (tgt := 29) dX1_openRows_1 (by decide) ⟨by omega, by omega⟩ (fun h1 => ?_) (fun h1 => ?_)
  · refine tn_iconst dX1_openRows_29 ?_
    exact tn_zret (v := 0) rfl (by decide) dX1_openRows_30 ⟨_, rfl, hw, FrC.rfl, by omega⟩
  · refine tn_iload_n dX1_openRows_4 rfl 1 rfl ?_
    refine tn_if_lt (tgt := 29) dX1_openRows_5 (by decide) ⟨by omega, by omega⟩ (fun h2 => ?_) (fun h2 => ?_)
    · refine tn_iconst dX1_openRows_29 ?_
      exact tn_zret (v := 0) rfl (by decide) dX1_openRows_30 ⟨_, rfl, hw, FrC.rfl, by omega⟩
    · refine tn_iload_n dX1_openRows_8 rfl 1 rfl ?_
      refine tn_aload_n dX1_openRows_9 rfl 0 rfl ?_
      refine tn_getI (ci := 1) (i := 1) (n := 6) (t := σ.2.1 6 a) dX1_openRows_10 rfl lay_1 (by decide) fl1_33 ha rfl rfl (rfl) ?_
      have g3 : ((0 : Int) ≤ σ.2.1 6 a ∧ σ.2.1 6 a ≤ 5000) ∧ ((T a).1 = 50 → σ.2.1 6 a ≤ 200) := wf_6 hw ha
      have g3x := g3.2
      replace g3 := g3.1
      have g3x := g3x hta
      refine tn_icmp_gt (tgt := 29) dX1_openRows_13 (by decide) ⟨by omega, by omega⟩ ⟨by omega, by omega⟩ (fun h4 => ?_) (fun h4 => ?_)
      · refine tn_iconst dX1_openRows_29 ?_
        exact tn_zret (v := 0) rfl (by decide) dX1_openRows_30 ⟨_, rfl, hw, FrC.rfl, by omega⟩
      · refine tn_aload_n dX1_openRows_16 rfl 0 rfl ?_
        refine tn_aload_n dX1_openRows_17 rfl 0 rfl ?_
        refine tn_getI (ci := 1) (i := 1) (n := 6) (t := σ.2.1 6 a) dX1_openRows_18 rfl lay_1 (by decide) fl1_33 ha rfl rfl (rfl) ?_
        refine tn_iload_n dX1_openRows_21 rfl 2 rfl ?_
        refine tn_iadd dX1_openRows_22 ?_
        refine tn_callV (M := m_X1_openRows) (pc := 23) (ix := 76) (ci := 1) (M' := m_X1_holdRows) (As := [.int (iI ((σ.2.1 6 a) + n))]) (rest := []) dX1_openRows_23 ok_X1_holdRows im_X1_holdRows se_X1_holdRows ml1_76 np_X1_holdRows rfl rfl ha rfl (Nat.le_of_ble_eq_true rfl) (Nat.le_of_ble_eq_true rfl) rfl (k_X1_holdRows (d) (T := T) (σ := σ) (a := a) (n := (σ.2.1 6 a) + n) ha hta (by omega) hw ) (fun r5 T7 σ6 gt8 hp => ?_)
        obtain ⟨v11, rfl, w12, F13, f9, f10⟩ := hp
        replace ha : OB T7 a 1 := gt8.ob ha
        replace hta : (T7 a).1 = 50 := gt8.kk hta (by decide) (by decide)
        have q14 : σ6.2.1 6 a = σ.2.1 6 a := rc_F F13 (Or.inl (by decide)) (by decide) (rfl)
        show Tn _ _ 26 T7 σ6 [(0, .ref a), (1, .int (iI k)), (2, .int (iI n))] [.int (iI v11)] _
        refine tn_if_ne (tgt := 31) dX1_openRows_26 (by decide) ⟨by omega, by omega⟩ (fun h15 => ?_) (fun h15 => ?_)
        · obtain ⟨q16, q16h⟩ := f10 (by omega)
          obtain ⟨x17, hx18, hl20, hk19a, hk19b⟩ := wf_5 w12 ha
          have hk19 : (T7 x17).1 = 1 := hk19a (by omega)
          clear hk19a hk19b
          have hk19i : IA T7 x17 := by unfold IA; omega
          have q16x := q16h x17 (hx18)
          refine tn_aload_n dX1_openRows_31 rfl 0 rfl ?_
          refine tn_getR (ci := 1) (i := 0) (n := 5) (x := x17) dX1_openRows_32 rfl lay_1 (by decide) fl1_9 ha rfl rfl (hx18) ?_
          refine tn_iload_n dX1_openRows_35 rfl 1 rfl ?_
          refine tn_bipush dX1_openRows_36 (by decide) ?_
          refine tn_imul dX1_openRows_38 ?_
          refine tn_aload_n dX1_openRows_39 rfl 0 rfl ?_
          refine tn_getR (ci := 1) (i := 0) (n := 5) (x := x17) dX1_openRows_40 rfl lay_1 (by decide) fl1_9 ha rfl rfl (hx18) ?_
          refine tn_iload_n dX1_openRows_43 rfl 1 rfl ?_
          refine tn_iload_n dX1_openRows_44 rfl 2 rfl ?_
          refine tn_iadd dX1_openRows_45 ?_
          refine tn_bipush dX1_openRows_46 (by decide) ?_
          refine tn_imul dX1_openRows_48 ?_
          refine tn_aload_n dX1_openRows_49 rfl 0 rfl ?_
          refine tn_getI (ci := 1) (i := 1) (n := 6) (t := σ6.2.1 6 a) dX1_openRows_50 rfl lay_1 (by decide) fl1_33 ha rfl rfl (rfl) ?_
          have g21 : ((0 : Int) ≤ σ6.2.1 6 a ∧ σ6.2.1 6 a ≤ 5000) ∧ ((T7 a).1 = 50 → σ6.2.1 6 a ≤ 200) := wf_6 w12 ha
          have g21x := g21.2
          replace g21 := g21.1
          have g21x := g21x hta
          refine tn_iload_n dX1_openRows_53 rfl 1 rfl ?_
          refine tn_isub dX1_openRows_54 ?_
          refine tn_bipush dX1_openRows_55 (by decide) ?_
          refine tn_imul dX1_openRows_57 ?_
          refine tn_acopyI (a := x17) (b := x17) (sp := k * 13) (dp := (k + n) * 13) (n := ((σ6.2.1 6 a) - k) * 13) dX1_openRows_58 mla1_80 acNat acSt acIni hk19i hk19i ⟨by omega, by omega⟩ (by omega) (by omega) (by omega) (by omega) (by omega) (by omega) (Nat.le_of_ble_eq_true rfl) ?_
          refine tn_aload_n dX1_openRows_61 rfl 0 rfl ?_
          refine tn_getR (ci := 1) (i := 0) (n := 5) (x := x17) dX1_openRows_62 rfl lay_1 (by decide) fl1_9 ha rfl rfl (rc_r (Or.inl (by decide)) (hx18)) ?_
          refine tn_iload_n dX1_openRows_65 rfl 1 rfl ?_
          refine tn_bipush dX1_openRows_66 (by decide) ?_
          refine tn_imul dX1_openRows_68 ?_
          refine tn_iload_n dX1_openRows_69 rfl 1 rfl ?_
          refine tn_iload_n dX1_openRows_70 rfl 2 rfl ?_
          refine tn_iadd dX1_openRows_71 ?_
          refine tn_bipush dX1_openRows_72 (by decide) ?_
          refine tn_imul dX1_openRows_74 ?_
          refine tn_iconst dX1_openRows_75 ?_
          refine tn_callS (M := m_X1_openRows) (pc := 76) (ix := 72) (M' := m_J7_fill_fda19) (As := [.ref x17, .int (iI (k * 13)), .int (iI ((k + n) * 13)), .int (iI 0)]) (rest := []) dX1_openRows_76 ok_J7_fill_fda19 stt_J7_fill_fda19 ml1_72 np_J7_fill_fda19 rfl (Nat.le_of_ble_eq_true rfl) (Nat.le_of_ble_eq_true rfl) rfl (k_J7_fill_fda19 (d) (T := T7) (σ := (rowS (1000 + x17) (cpZ (σ6.2.1 (1000 + x17)) (σ6.2.1 (1000 + x17)) (k * 13) ((k + n) * 13) (((σ6.2.1 6 a) - k) * 13)) σ6)) (x := x17) (f := k * 13) (t := (k + n) * 13) (y := 0) hk19i (by omega) (by omega) (by omega) (by decide) (w12.row (Or.inl hk19i) (vok_cp1 w12 hk19i hk19i (by have q9 := hk19; omega))) (nh_k hk19 (by unfold HT; omega)) (by omega) (by omega)) (fun r22 T24 σ23 gt25 hp => ?_)
          obtain ⟨rfl, rfl, w27, F28⟩ := hp
          clear gt25
          show Tn _ _ 79 T7 σ23 [(0, .ref a), (1, .int (iI k)), (2, .int (iI n))] [] _
          refine tn_aload_n dX1_openRows_79 rfl 0 rfl ?_
          refine tn_dup dX1_openRows_80 rfl ?_
          refine tn_getI (ci := 1) (i := 1) (n := 6) (t := σ6.2.1 6 a) dX1_openRows_81 rfl lay_1 (by decide) fl1_33 ha rfl rfl (rc_F F28 (Or.inl (by decide)) (by decide) (rc_r (Or.inl (by decide)) (rfl))) ?_
          refine tn_iload_n dX1_openRows_84 rfl 2 rfl ?_
          refine tn_iadd dX1_openRows_85 ?_
          refine tn_putV (ci := 1) (i := 1) (n := 6) (r := false) (v := (σ6.2.1 6 a) + n) tyX1 tyX1_ok nmX1 dX1_openRows_86 rfl lay_1 (by decide) fl1_33 rfl (tyX1_ok 1 (by decide)) rfl rfl rfl ha rfl rfl ?_
          refine tn_iconst dX1_openRows_89 ?_
          exact tn_zret (v := 1) rfl (by decide) dX1_openRows_90 ⟨_, rfl, (w27.put6 (rc_F F28 (Or.inl (by decide)) (by decide) (rc_r (Or.inl (by decide)) (hx18))) (fo_6 ⟨by omega, by omega⟩) (by omega)), ((((FrC.rfl.trans (FrC.sub F13 (by decide))).row (hk_no (GT.nh gt8 (nh_k hk19 (by unfold HT; omega))))).trans (FrC.sub (FrC.old F28 gt8) (by decide))).put (by decide) (by decide)), by omega⟩
        · refine tn_iconst dX1_openRows_29 ?_
          exact tn_zret (v := 0) rfl (by decide) dX1_openRows_30 ⟨_, rfl, w12, (FrC.rfl.trans (FrC.sub F13 (by decide))), by omega⟩
