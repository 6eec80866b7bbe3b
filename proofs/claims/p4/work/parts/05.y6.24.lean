theorem cd_X1_removeRow : Cond.code yX1_removeRow cX1_removeRow 2 none ∈ pWW := pw4 (List.mem_of_getElem? (i := 229) rfl) rfl
abbrev m_X1_removeRow : MT := (yX1_removeRow, cX1_removeRow, 2, none)
theorem ok_X1_removeRow : pOk m_X1_removeRow := ⟨⟨cd_X1_removeRow, ini_1⟩, by decide +kernel, ⟨by decide +kernel, by decide +kernel⟩, Nat.le_of_ble_eq_true rfl⟩
theorem np_X1_removeRow : (parseMethodDescriptor yX1_removeRow.desc).map (fun d => d.parameters.length) = some 1 := by decide +kernel
theorem im_X1_removeRow : Cond.instanceMethod yX1_removeRow ∈ pWW := pw4 (List.mem_of_getElem? (i := 227) rfl) rfl
theorem se_X1_removeRow : Cond.selects RX1 yX1_removeRow yX1_removeRow ∈ pWW := pw4 (List.mem_of_getElem? (i := 228) rfl) rfl
theorem mla1_80 : Cond.methodLink RX1 80 arraycopyName ∈ pWW := pw4 (List.mem_of_getElem? (i := 41) rfl) rfl
theorem dX1_removeRow_0 : decode cX1_removeRow 0 = .ok (.iload_n 1, 1) := by decide +kernel
theorem dX1_removeRow_1 : decode cX1_removeRow 1 = .ok (.ifCond .lt 68, 3) := by decide +kernel
theorem dX1_removeRow_69 : decode cX1_removeRow 69 = .ok (.return_, 1) := by decide +kernel
theorem dX1_removeRow_4 : decode cX1_removeRow 4 = .ok (.iload_n 1, 1) := by decide +kernel
theorem dX1_removeRow_5 : decode cX1_removeRow 5 = .ok (.aload_n 0, 1) := by decide +kernel
theorem dX1_removeRow_6 : decode cX1_removeRow 6 = .ok (.getfield 33, 3) := by decide +kernel
theorem dX1_removeRow_9 : decode cX1_removeRow 9 = .ok (.if_icmp .ge 60, 3) := by decide +kernel
theorem dX1_removeRow_12 : decode cX1_removeRow 12 = .ok (.aload_n 0, 1) := by decide +kernel
theorem dX1_removeRow_13 : decode cX1_removeRow 13 = .ok (.getfield 33, 3) := by decide +kernel
theorem dX1_removeRow_16 : decode cX1_removeRow 16 = .ok (.bipush 13, 2) := by decide +kernel
theorem dX1_removeRow_18 : decode cX1_removeRow 18 = .ok (.imul, 1) := by decide +kernel
theorem dX1_removeRow_19 : decode cX1_removeRow 19 = .ok (.aload_n 0, 1) := by decide +kernel
theorem dX1_removeRow_20 : decode cX1_removeRow 20 = .ok (.getfield 9, 3) := by decide +kernel
theorem dX1_removeRow_23 : decode cX1_removeRow 23 = .ok (.arraylength, 1) := by decide +kernel
theorem dX1_removeRow_24 : decode cX1_removeRow 24 = .ok (.if_icmp .gt 45, 3) := by decide +kernel
theorem dX1_removeRow_27 : decode cX1_removeRow 27 = .ok (.aload_n 0, 1) := by decide +kernel
theorem dX1_removeRow_28 : decode cX1_removeRow 28 = .ok (.getfield 9, 3) := by decide +kernel
theorem dX1_removeRow_31 : decode cX1_removeRow 31 = .ok (.iload_n 1, 1) := by decide +kernel
theorem dX1_removeRow_32 : decode cX1_removeRow 32 = .ok (.iconst 1, 1) := by decide +kernel
theorem dX1_removeRow_33 : decode cX1_removeRow 33 = .ok (.iadd, 1) := by decide +kernel
theorem dX1_removeRow_34 : decode cX1_removeRow 34 = .ok (.bipush 13, 2) := by decide +kernel
theorem dX1_removeRow_36 : decode cX1_removeRow 36 = .ok (.imul, 1) := by decide +kernel
theorem dX1_removeRow_37 : decode cX1_removeRow 37 = .ok (.aload_n 0, 1) := by decide +kernel
theorem dX1_removeRow_38 : decode cX1_removeRow 38 = .ok (.getfield 9, 3) := by decide +kernel
theorem dX1_removeRow_41 : decode cX1_removeRow 41 = .ok (.iload_n 1, 1) := by decide +kernel
theorem dX1_removeRow_42 : decode cX1_removeRow 42 = .ok (.bipush 13, 2) := by decide +kernel
theorem dX1_removeRow_44 : decode cX1_removeRow 44 = .ok (.imul, 1) := by decide +kernel
theorem dX1_removeRow_45 : decode cX1_removeRow 45 = .ok (.aload_n 0, 1) := by decide +kernel
theorem dX1_removeRow_46 : decode cX1_removeRow 46 = .ok (.getfield 33, 3) := by decide +kernel
theorem dX1_removeRow_49 : decode cX1_removeRow 49 = .ok (.iload_n 1, 1) := by decide +kernel
theorem dX1_removeRow_50 : decode cX1_removeRow 50 = .ok (.isub, 1) := by decide +kernel
theorem dX1_removeRow_51 : decode cX1_removeRow 51 = .ok (.iconst 1, 1) := by decide +kernel
theorem dX1_removeRow_52 : decode cX1_removeRow 52 = .ok (.isub, 1) := by decide +kernel
theorem dX1_removeRow_53 : decode cX1_removeRow 53 = .ok (.bipush 13, 2) := by decide +kernel
theorem dX1_removeRow_55 : decode cX1_removeRow 55 = .ok (.imul, 1) := by decide +kernel
theorem dX1_removeRow_56 : decode cX1_removeRow 56 = .ok (.invokestatic 80, 3) := by decide +kernel
theorem dX1_removeRow_59 : decode cX1_removeRow 59 = .ok (.aload_n 0, 1) := by decide +kernel
theorem dX1_removeRow_60 : decode cX1_removeRow 60 = .ok (.dup, 1) := by decide +kernel
theorem dX1_removeRow_61 : decode cX1_removeRow 61 = .ok (.getfield 33, 3) := by decide +kernel
theorem dX1_removeRow_64 : decode cX1_removeRow 64 = .ok (.iconst 1, 1) := by decide +kernel
theorem dX1_removeRow_65 : decode cX1_removeRow 65 = .ok (.isub, 1) := by decide +kernel
theorem dX1_removeRow_66 : decode cX1_removeRow 66 = .ok (.putfield 33, 3) := by decide +kernel
set_option maxRecDepth 20000 in
theorem k_X1_removeRow (d : Nat) {T : CT} {σ : MS} {a : Nat} {k : Int} (ha : OB T a 1) (hta : (T a).1 = 50) (h_k : -2147483648 ≤ k ∧ k ≤ 2147483647) (hw : WT T σ) : Tn (d + 1) m_X1_removeRow 0 T σ [(0, .ref a), (1, .int (iI k))] [] (fun ro T2 σ2 => ro = none ∧ T = T2 ∧ WT T2 σ2 ∧ FrC T [6] σ σ2) := by
  refine tn_iload_n dX1_removeRow_0 rfl 1 rfl ?_
  refine tn_if_lt (tgt := 69) dX1_removeRow_1 (by decide) ⟨by omega, by omega⟩ (fun h1 => ?_) (fun h1 => ?_)
  · exact tn_vret rfl dX1_removeRow_69 ⟨rfl, rfl, hw, FrC.rfl⟩
  · refine tn_iload_n dX1_removeRow_4 rfl 1 rfl ?_
    refine tn_aload_n dX1_removeRow_5 rfl 0 rfl ?_
    refine tn_getI (ci := 1) (i := 1) (n := 6) (t := σ.2.1 6 a) dX1_removeRow_6 rfl lay_1 (by decide) fl1_33 ha rfl rfl (rfl) ?_
    have g2 : ((0 : Int) ≤ σ.2.1 6 a ∧ σ.2.1 6 a ≤ 5000) ∧ ((T a).1 = 50 → σ.2.1 6 a ≤ 200) := wf_6 hw ha
    have g2x := g2.2
    replace g2 := g2.1
    have g2x := g2x hta
    refine tn_icmp_ge (tgt := 69) dX1_removeRow_9 (by decide) ⟨by omega, by omega⟩ ⟨by omega, by omega⟩ (fun h3 => ?_) (fun h3 => ?_)
    · exact tn_vret rfl dX1_removeRow_69 ⟨rfl, rfl, hw, FrC.rfl⟩
    · refine tn_aload_n dX1_removeRow_12 rfl 0 rfl ?_
      refine tn_getI (ci := 1) (i := 1) (n := 6) (t := σ.2.1 6 a) dX1_removeRow_13 rfl lay_1 (by decide) fl1_33 ha rfl rfl (rfl) ?_
      refine tn_bipush dX1_removeRow_16 (by decide) ?_
      refine tn_imul dX1_removeRow_18 ?_
      refine tn_aload_n dX1_removeRow_19 rfl 0 rfl ?_
      obtain ⟨x4, hx5, hl7, hk6a, hk6b⟩ := wf_5 hw ha
      have hk6 : (T x4).1 = 1 := hk6a (by omega)
      clear hk6a hk6b
      have hk6i : IA T x4 := by unfold IA; omega
      refine tn_getR (ci := 1) (i := 0) (n := 5) (x := x4) dX1_removeRow_20 rfl lay_1 (by decide) fl1_9 ha rfl rfl (hx5) ?_
      refine tn_alenX dX1_removeRow_23 (Or.inl hk6i) ?_
      refine tn_icmp_gt (tgt := 69) dX1_removeRow_24 (by decide) ⟨by omega, by omega⟩ ⟨by omega, by omega⟩ (fun h8 => ?_) (fun h8 => ?_)
      · exact tn_vret rfl dX1_removeRow_69 ⟨rfl, rfl, hw, FrC.rfl⟩
      · refine tn_aload_n dX1_removeRow_27 rfl 0 rfl ?_
        refine tn_getR (ci := 1) (i := 0) (n := 5) (x := x4) dX1_removeRow_28 rfl lay_1 (by decide) fl1_9 ha rfl rfl (hx5) ?_
        refine tn_iload_n dX1_removeRow_31 rfl 1 rfl ?_
        refine tn_iconst dX1_removeRow_32 ?_
        refine tn_iadd dX1_removeRow_33 ?_
        refine tn_bipush dX1_removeRow_34 (by decide) ?_
        refine tn_imul dX1_removeRow_36 ?_
        refine tn_aload_n dX1_removeRow_37 rfl 0 rfl ?_
        refine tn_getR (ci := 1) (i := 0) (n := 5) (x := x4) dX1_removeRow_38 rfl lay_1 (by decide) fl1_9 ha rfl rfl (hx5) ?_
        refine tn_iload_n dX1_removeRow_41 rfl 1 rfl ?_
        refine tn_bipush dX1_removeRow_42 (by decide) ?_
        refine tn_imul dX1_removeRow_44 ?_
        refine tn_aload_n dX1_removeRow_45 rfl 0 rfl ?_
        refine tn_getI (ci := 1) (i := 1) (n := 6) (t := σ.2.1 6 a) dX1_removeRow_46 rfl lay_1 (by decide) fl1_33 ha rfl rfl (rfl) ?_
        refine tn_iload_n dX1_removeRow_49 rfl 1 rfl ?_
        refine tn_isub dX1_removeRow_50 ?_
        refine tn_iconst dX1_removeRow_51 ?_
        refine tn_isub dX1_removeRow_52 ?_
        refine tn_bipush dX1_removeRow_53 (by decide) ?_
        refine tn_imul dX1_removeRow_55 ?_
        refine tn_acopyI (a := x4) (b := x4) (sp := (k + 1) * 13) (dp := k * 13) (n := (((σ.2.1 6 a) - k) - 1) * 13) dX1_removeRow_56 mla1_80 acNat acSt acIni hk6i hk6i ⟨by omega, by omega⟩ (by omega) (by omega) (by omega) (by omega) (by omega) (by omega) (Nat.le_of_ble_eq_true rfl) ?_
        refine tn_aload_n dX1_removeRow_59 rfl 0 rfl ?_
        refine tn_dup dX1_removeRow_60 rfl ?_
        refine tn_getI (ci := 1) (i := 1) (n := 6) (t := σ.2.1 6 a) dX1_removeRow_61 rfl lay_1 (by decide) fl1_33 ha rfl rfl (rc_r (Or.inl (by decide)) (rfl)) ?_
        refine tn_iconst dX1_removeRow_64 ?_
        refine tn_isub dX1_removeRow_65 ?_
        refine tn_putV (ci := 1) (i := 1) (n := 6) (r := false) (v := (σ.2.1 6 a) - 1) tyX1 tyX1_ok nmX1 dX1_removeRow_66 rfl lay_1 (by decide) fl1_33 rfl (tyX1_ok 1 (by decide)) rfl rfl rfl ha rfl rfl ?_
        exact tn_vret rfl dX1_removeRow_69 ⟨rfl, rfl, ((hw.row (Or.inl hk6i) (vok_cp1 hw hk6i hk6i (by have q9 := hk6; omega))).put6 (rc_r (Or.inl (by decide)) (hx5)) (fo_6 ⟨by omega, by omega⟩) (Or.inl (by omega))), ((FrC.rfl.row (hk_no (nh_k hk6 (by unfold HT; omega)))).put (by decide) (by decide))⟩
