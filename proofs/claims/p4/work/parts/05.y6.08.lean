theorem cd_X1_lastOperand : Cond.code yX1_lastOperand cX1_lastOperand 5 none ∈ pWW := pw3 (List.mem_of_getElem? (i := 189) rfl) rfl
abbrev m_X1_lastOperand : MT := (yX1_lastOperand, cX1_lastOperand, 5, none)
theorem ok_X1_lastOperand : pOk m_X1_lastOperand := ⟨⟨cd_X1_lastOperand, ini_1⟩, by decide +kernel, ⟨by decide +kernel, by decide +kernel⟩, Nat.le_of_ble_eq_true rfl⟩
theorem np_X1_lastOperand : (parseMethodDescriptor yX1_lastOperand.desc).map (fun d => d.parameters.length) = some 3 := by decide +kernel
theorem im_X1_lastOperand : Cond.instanceMethod yX1_lastOperand ∈ pWW := pw3 (List.mem_of_getElem? (i := 187) rfl) rfl
theorem se_X1_lastOperand : Cond.selects RX1 yX1_lastOperand yX1_lastOperand ∈ pWW := pw3 (List.mem_of_getElem? (i := 188) rfl) rfl
theorem dX1_lastOperand_0 : decode cX1_lastOperand 0 = .ok (.aload_n 0, 1) := by decide +kernel
theorem dX1_lastOperand_1 : decode cX1_lastOperand 1 = .ok (.getfield 33, 3) := by decide +kernel
theorem dX1_lastOperand_4 : decode cX1_lastOperand 4 = .ok (.iconst 1, 1) := by decide +kernel
theorem dX1_lastOperand_5 : decode cX1_lastOperand 5 = .ok (.isub, 1) := by decide +kernel
theorem dX1_lastOperand_6 : decode cX1_lastOperand 6 = .ok (.bipush 13, 2) := by decide +kernel
theorem dX1_lastOperand_8 : decode cX1_lastOperand 8 = .ok (.imul, 1) := by decide +kernel
theorem dX1_lastOperand_9 : decode cX1_lastOperand 9 = .ok (.iconst 3, 1) := by decide +kernel
theorem dX1_lastOperand_10 : decode cX1_lastOperand 10 = .ok (.iadd, 1) := by decide +kernel
theorem dX1_lastOperand_11 : decode cX1_lastOperand 11 = .ok (.iconst 2, 1) := by decide +kernel
theorem dX1_lastOperand_12 : decode cX1_lastOperand 12 = .ok (.iload_n 1, 1) := by decide +kernel
theorem dX1_lastOperand_13 : decode cX1_lastOperand 13 = .ok (.imul, 1) := by decide +kernel
theorem dX1_lastOperand_14 : decode cX1_lastOperand 14 = .ok (.iadd, 1) := by decide +kernel
theorem dX1_lastOperand_15 : decode cX1_lastOperand 15 = .ok (.istore 4, 2) := by decide +kernel
theorem dX1_lastOperand_17 : decode cX1_lastOperand 17 = .ok (.iload_n 1, 1) := by decide +kernel
theorem dX1_lastOperand_18 : decode cX1_lastOperand 18 = .ok (.ifCond .lt 43, 3) := by decide +kernel
theorem dX1_lastOperand_61 : decode cX1_lastOperand 61 = .ok (.return_, 1) := by decide +kernel
theorem dX1_lastOperand_21 : decode cX1_lastOperand 21 = .ok (.iload_n 1, 1) := by decide +kernel
theorem dX1_lastOperand_22 : decode cX1_lastOperand 22 = .ok (.iconst 4, 1) := by decide +kernel
theorem dX1_lastOperand_23 : decode cX1_lastOperand 23 = .ok (.if_icmp .ge 38, 3) := by decide +kernel
theorem dX1_lastOperand_26 : decode cX1_lastOperand 26 = .ok (.iload 4, 2) := by decide +kernel
theorem dX1_lastOperand_28 : decode cX1_lastOperand 28 = .ok (.ifCond .lt 33, 3) := by decide +kernel
theorem dX1_lastOperand_31 : decode cX1_lastOperand 31 = .ok (.iload 4, 2) := by decide +kernel
theorem dX1_lastOperand_33 : decode cX1_lastOperand 33 = .ok (.iconst 1, 1) := by decide +kernel
theorem dX1_lastOperand_34 : decode cX1_lastOperand 34 = .ok (.iadd, 1) := by decide +kernel
theorem dX1_lastOperand_35 : decode cX1_lastOperand 35 = .ok (.aload_n 0, 1) := by decide +kernel
theorem dX1_lastOperand_36 : decode cX1_lastOperand 36 = .ok (.getfield 9, 3) := by decide +kernel
theorem dX1_lastOperand_39 : decode cX1_lastOperand 39 = .ok (.arraylength, 1) := by decide +kernel
theorem dX1_lastOperand_40 : decode cX1_lastOperand 40 = .ok (.if_icmp .ge 21, 3) := by decide +kernel
theorem dX1_lastOperand_43 : decode cX1_lastOperand 43 = .ok (.aload_n 0, 1) := by decide +kernel
theorem dX1_lastOperand_44 : decode cX1_lastOperand 44 = .ok (.getfield 9, 3) := by decide +kernel
theorem dX1_lastOperand_47 : decode cX1_lastOperand 47 = .ok (.iload 4, 2) := by decide +kernel
theorem dX1_lastOperand_49 : decode cX1_lastOperand 49 = .ok (.iload_n 2, 1) := by decide +kernel
theorem dX1_lastOperand_50 : decode cX1_lastOperand 50 = .ok (.iastore, 1) := by decide +kernel
theorem dX1_lastOperand_51 : decode cX1_lastOperand 51 = .ok (.aload_n 0, 1) := by decide +kernel
theorem dX1_lastOperand_52 : decode cX1_lastOperand 52 = .ok (.getfield 9, 3) := by decide +kernel
theorem dX1_lastOperand_55 : decode cX1_lastOperand 55 = .ok (.iload 4, 2) := by decide +kernel
theorem dX1_lastOperand_57 : decode cX1_lastOperand 57 = .ok (.iconst 1, 1) := by decide +kernel
theorem dX1_lastOperand_58 : decode cX1_lastOperand 58 = .ok (.iadd, 1) := by decide +kernel
theorem dX1_lastOperand_59 : decode cX1_lastOperand 59 = .ok (.iload_n 3, 1) := by decide +kernel
theorem dX1_lastOperand_60 : decode cX1_lastOperand 60 = .ok (.iastore, 1) := by decide +kernel
set_option maxRecDepth 20000 in
theorem k_X1_lastOperand (d : Nat) {T : CT} {σ : MS} {a : Nat} {i : Int} {k : Int} {y : Int} (ha : OB T a 1) (h_i : -2147483648 ≤ i ∧ i ≤ 2147483647) (h_k : -2147483648 ≤ k ∧ k ≤ 2147483647) (h_y : -2147483648 ≤ y ∧ y ≤ 2147483647) (hw : WT T σ) : Tn (d + 1) m_X1_lastOperand 0 T σ [(0, .ref a), (1, .int (iI i)), (2, .int (iI k)), (3, .int (iI y))] [] (fun ro T2 σ2 => ro = none ∧ T = T2 ∧ WT T2 σ2 ∧ FrC T [] σ σ2) := by
  refine tn_aload_n dX1_lastOperand_0 rfl 0 rfl ?_
  refine tn_getI (ci := 1) (i := 1) (n := 6) (t := σ.2.1 6 a) dX1_lastOperand_1 rfl lay_1 (by decide) fl1_33 ha rfl rfl (rfl) ?_
  have g1 : ((0 : Int) ≤ σ.2.1 6 a ∧ σ.2.1 6 a ≤ 5000) ∧ ((T a).1 = 50 → σ.2.1 6 a ≤ 200) := wf_6 hw ha
  have g1x := g1.2
  replace g1 := g1.1
  clear g1x
  refine tn_iconst dX1_lastOperand_4 ?_
  refine tn_isub dX1_lastOperand_5 ?_
  refine tn_bipush dX1_lastOperand_6 (by decide) ?_
  refine tn_imul dX1_lastOperand_8 ?_
  refine tn_iconst dX1_lastOperand_9 ?_
  refine tn_iadd dX1_lastOperand_10 ?_
  refine tn_iconst dX1_lastOperand_11 ?_
  refine tn_iload_n dX1_lastOperand_12 rfl 1 rfl ?_
  refine tn_imul dX1_lastOperand_13 ?_
  refine tn_iadd dX1_lastOperand_14 ?_
  refine tn_istore (L' := [(4, .int (iI (((((σ.2.1 6 a) - 1) * 13) + 3) + (2 * i)))), (0, .ref a), (1, .int (iI i)), (2, .int (iI k)), (3, .int (iI y))]) dX1_lastOperand_15 (by decide) rfl ?_
  refine tn_iload_n dX1_lastOperand_17 rfl 2 rfl ?_
  refine tn_if_lt (tgt := 61) dX1_lastOperand_18 (by decide) ⟨by omega, by omega⟩ (fun h2 => ?_) (fun h2 => ?_)
  · exact tn_vret rfl dX1_lastOperand_61 ⟨rfl, rfl, hw, FrC.rfl⟩
  · refine tn_iload_n dX1_lastOperand_21 rfl 2 rfl ?_
    refine tn_iconst dX1_lastOperand_22 ?_
    refine tn_icmp_ge (tgt := 61) dX1_lastOperand_23 (by decide) ⟨by omega, by omega⟩ ⟨by decide, by decide⟩ (fun h3 => ?_) (fun h3 => ?_)
    · exact tn_vret rfl dX1_lastOperand_61 ⟨rfl, rfl, hw, FrC.rfl⟩
    · refine tn_iload dX1_lastOperand_26 0 rfl ?_
      refine tn_if_lt (tgt := 61) dX1_lastOperand_28 (by decide) ⟨by omega, by omega⟩ (fun h4 => ?_) (fun h4 => ?_)
      · exact tn_vret rfl dX1_lastOperand_61 ⟨rfl, rfl, hw, FrC.rfl⟩
      · refine tn_iload dX1_lastOperand_31 0 rfl ?_
        refine tn_iconst dX1_lastOperand_33 ?_
        refine tn_iadd dX1_lastOperand_34 ?_
        refine tn_aload_n dX1_lastOperand_35 rfl 1 rfl ?_
        obtain ⟨x5, hx6, hl8, hk7a, hk7b⟩ := wf_5 hw ha
        have hk7i : IA T x5 := by unfold IA; omega
        have hk7c : CELL T a x5 := ⟨hk7a, hk7b⟩
        clear hk7a hk7b
        refine tn_getR (ci := 1) (i := 0) (n := 5) (x := x5) dX1_lastOperand_36 rfl lay_1 (by decide) fl1_9 ha rfl rfl (hx6) ?_
        refine tn_alenX dX1_lastOperand_39 (Or.inl hk7i) ?_
        refine tn_icmp_ge (tgt := 61) dX1_lastOperand_40 (by decide) ⟨by omega, by omega⟩ ⟨by omega, by omega⟩ (fun h9 => ?_) (fun h9 => ?_)
        · exact tn_vret rfl dX1_lastOperand_61 ⟨rfl, rfl, hw, FrC.rfl⟩
        · refine tn_aload_n dX1_lastOperand_43 rfl 1 rfl ?_
          refine tn_getR (ci := 1) (i := 0) (n := 5) (x := x5) dX1_lastOperand_44 rfl lay_1 (by decide) fl1_9 ha rfl rfl (hx6) ?_
          refine tn_iload dX1_lastOperand_47 0 rfl ?_
          refine tn_iload_n dX1_lastOperand_49 rfl 3 rfl ?_
          refine tn_iast (z := ((((σ.2.1 6 a) - 1) * 13) + 3) + (2 * i)) (v := k) dX1_lastOperand_50 hk7i (by omega) (by omega) (by omega) ?_
          refine tn_aload_n dX1_lastOperand_51 rfl 1 rfl ?_
          refine tn_getR (ci := 1) (i := 0) (n := 5) (x := x5) dX1_lastOperand_52 rfl lay_1 (by decide) fl1_9 ha rfl rfl (rc_a (Or.inl (by decide)) (hx6)) ?_
          refine tn_iload dX1_lastOperand_55 0 rfl ?_
          refine tn_iconst dX1_lastOperand_57 ?_
          refine tn_iadd dX1_lastOperand_58 ?_
          refine tn_iload_n dX1_lastOperand_59 rfl 4 rfl ?_
          refine tn_iast (z := (((((σ.2.1 6 a) - 1) * 13) + 3) + (2 * i)) + 1) (v := y) dX1_lastOperand_60 hk7i (by omega) (by omega) (by omega) ?_
          exact tn_vret rfl dX1_lastOperand_61 ⟨rfl, rfl, ((hw.arr (Or.inl hk7i) (hk7c.vok (by omega) (fun q r => by omega))).arr (Or.inl hk7i) (hk7c.vok (by omega) (fun q r => by omega))), ((FrC.rfl.arr (hk_no (CELL.nh hk7c))).arr (hk_no (CELL.nh hk7c)))⟩
