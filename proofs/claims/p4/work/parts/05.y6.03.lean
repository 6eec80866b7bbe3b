theorem cd_X1_set : Cond.code yX1_set cX1_set 5 none ∈ pWW := pw3 (List.mem_of_getElem? (i := 205) rfl) rfl
abbrev m_X1_set : MT := (yX1_set, cX1_set, 5, none)
theorem ok_X1_set : pOk m_X1_set := ⟨⟨cd_X1_set, ini_1⟩, by decide +kernel, ⟨by decide +kernel, by decide +kernel⟩, Nat.le_of_ble_eq_true rfl⟩
theorem np_X1_set : (parseMethodDescriptor yX1_set.desc).map (fun d => d.parameters.length) = some 3 := by decide +kernel
theorem im_X1_set : Cond.instanceMethod yX1_set ∈ pWW := pw3 (List.mem_of_getElem? (i := 203) rfl) rfl
theorem se_X1_set : Cond.selects RX1 yX1_set yX1_set ∈ pWW := pw3 (List.mem_of_getElem? (i := 204) rfl) rfl
theorem dX1_set_0 : decode cX1_set 0 = .ok (.iload_n 1, 1) := by decide +kernel
theorem dX1_set_1 : decode cX1_set 1 = .ok (.bipush 13, 2) := by decide +kernel
theorem dX1_set_3 : decode cX1_set 3 = .ok (.imul, 1) := by decide +kernel
theorem dX1_set_4 : decode cX1_set 4 = .ok (.iload_n 2, 1) := by decide +kernel
theorem dX1_set_5 : decode cX1_set 5 = .ok (.iadd, 1) := by decide +kernel
theorem dX1_set_6 : decode cX1_set 6 = .ok (.istore 4, 2) := by decide +kernel
theorem dX1_set_8 : decode cX1_set 8 = .ok (.iload_n 1, 1) := by decide +kernel
theorem dX1_set_9 : decode cX1_set 9 = .ok (.ifCond .lt 34, 3) := by decide +kernel
theorem dX1_set_43 : decode cX1_set 43 = .ok (.return_, 1) := by decide +kernel
theorem dX1_set_12 : decode cX1_set 12 = .ok (.iload_n 1, 1) := by decide +kernel
theorem dX1_set_13 : decode cX1_set 13 = .ok (.aload_n 0, 1) := by decide +kernel
theorem dX1_set_14 : decode cX1_set 14 = .ok (.getfield 33, 3) := by decide +kernel
theorem dX1_set_17 : decode cX1_set 17 = .ok (.if_icmp .ge 26, 3) := by decide +kernel
theorem dX1_set_20 : decode cX1_set 20 = .ok (.iload 4, 2) := by decide +kernel
theorem dX1_set_22 : decode cX1_set 22 = .ok (.ifCond .lt 21, 3) := by decide +kernel
theorem dX1_set_25 : decode cX1_set 25 = .ok (.iload 4, 2) := by decide +kernel
theorem dX1_set_27 : decode cX1_set 27 = .ok (.aload_n 0, 1) := by decide +kernel
theorem dX1_set_28 : decode cX1_set 28 = .ok (.getfield 9, 3) := by decide +kernel
theorem dX1_set_31 : decode cX1_set 31 = .ok (.arraylength, 1) := by decide +kernel
theorem dX1_set_32 : decode cX1_set 32 = .ok (.if_icmp .ge 11, 3) := by decide +kernel
theorem dX1_set_35 : decode cX1_set 35 = .ok (.aload_n 0, 1) := by decide +kernel
theorem dX1_set_36 : decode cX1_set 36 = .ok (.getfield 9, 3) := by decide +kernel
theorem dX1_set_39 : decode cX1_set 39 = .ok (.iload 4, 2) := by decide +kernel
theorem dX1_set_41 : decode cX1_set 41 = .ok (.iload_n 3, 1) := by decide +kernel
theorem dX1_set_42 : decode cX1_set 42 = .ok (.iastore, 1) := by decide +kernel
set_option maxRecDepth 20000 in
theorem k_X1_set (d : Nat) {T : CT} {σ : MS} {a : Nat} {k : Int} {c : Int} {y : Int} (ha : OB T a 1) (h_k : -2147483648 ≤ k ∧ k ≤ 2147483647) (h_c : -2147483648 ≤ c ∧ c ≤ 2147483647) (h_y : -2147483648 ≤ y ∧ y ≤ 2147483647) (hw : WT T σ) (hc : 0 ≤ c ∧ c ≤ 12) (hk : (T a).1 ≠ 50 → 1 ≤ c) : Tn (d + 1) m_X1_set 0 T σ [(0, .ref a), (1, .int (iI k)), (2, .int (iI c)), (3, .int (iI y))] [] (fun ro T2 σ2 => ro = none ∧ T = T2 ∧ WT T2 σ2 ∧ FrC T [] σ σ2) := by
  refine tn_iload_n dX1_set_0 rfl 1 rfl ?_
  refine tn_bipush dX1_set_1 (by decide) ?_
  refine tn_imul dX1_set_3 ?_
  refine tn_iload_n dX1_set_4 rfl 2 rfl ?_
  refine tn_iadd dX1_set_5 ?_
  refine tn_istore (L' := [(4, .int (iI ((k * 13) + c))), (0, .ref a), (1, .int (iI k)), (2, .int (iI c)), (3, .int (iI y))]) dX1_set_6 (by decide) rfl ?_
  refine tn_iload_n dX1_set_8 rfl 2 rfl ?_
  refine tn_if_lt (tgt := 43) dX1_set_9 (by decide) ⟨by omega, by omega⟩ (fun h1 => ?_) (fun h1 => ?_)
  · exact tn_vret rfl dX1_set_43 ⟨rfl, rfl, hw, FrC.rfl⟩
  · refine tn_iload_n dX1_set_12 rfl 2 rfl ?_
    refine tn_aload_n dX1_set_13 rfl 1 rfl ?_
    refine tn_getI (ci := 1) (i := 1) (n := 6) (t := σ.2.1 6 a) dX1_set_14 rfl lay_1 (by decide) fl1_33 ha rfl rfl (rfl) ?_
    have g2 : ((0 : Int) ≤ σ.2.1 6 a ∧ σ.2.1 6 a ≤ 5000) ∧ ((T a).1 = 50 → σ.2.1 6 a ≤ 200) := wf_6 hw ha
    have g2x := g2.2
    replace g2 := g2.1
    clear g2x
    refine tn_icmp_ge (tgt := 43) dX1_set_17 (by decide) ⟨by omega, by omega⟩ ⟨by omega, by omega⟩ (fun h3 => ?_) (fun h3 => ?_)
    · exact tn_vret rfl dX1_set_43 ⟨rfl, rfl, hw, FrC.rfl⟩
    · refine tn_iload dX1_set_20 0 rfl ?_
      refine tn_if_lt (tgt := 43) dX1_set_22 (by decide) ⟨by omega, by omega⟩ (fun h4 => ?_) (fun h4 => ?_)
      · exact tn_vret rfl dX1_set_43 ⟨rfl, rfl, hw, FrC.rfl⟩
      · refine tn_iload dX1_set_25 0 rfl ?_
        refine tn_aload_n dX1_set_27 rfl 1 rfl ?_
        obtain ⟨x5, hx6, hl8, hk7a, hk7b⟩ := wf_5 hw ha
        have hk7i : IA T x5 := by unfold IA; omega
        have hk7c : CELL T a x5 := ⟨hk7a, hk7b⟩
        clear hk7a hk7b
        refine tn_getR (ci := 1) (i := 0) (n := 5) (x := x5) dX1_set_28 rfl lay_1 (by decide) fl1_9 ha rfl rfl (hx6) ?_
        refine tn_alenX dX1_set_31 (Or.inl hk7i) ?_
        refine tn_icmp_ge (tgt := 43) dX1_set_32 (by decide) ⟨by omega, by omega⟩ ⟨by omega, by omega⟩ (fun h9 => ?_) (fun h9 => ?_)
        · exact tn_vret rfl dX1_set_43 ⟨rfl, rfl, hw, FrC.rfl⟩
        · refine tn_aload_n dX1_set_35 rfl 1 rfl ?_
          refine tn_getR (ci := 1) (i := 0) (n := 5) (x := x5) dX1_set_36 rfl lay_1 (by decide) fl1_9 ha rfl rfl (hx6) ?_
          refine tn_iload dX1_set_39 0 rfl ?_
          refine tn_iload_n dX1_set_41 rfl 4 rfl ?_
          refine tn_iast (z := (k * 13) + c) (v := y) dX1_set_42 hk7i (by omega) (by omega) (by omega) ?_
          exact tn_vret rfl dX1_set_43 ⟨rfl, rfl, (hw.arr (Or.inl hk7i) (hk7c.vok (by omega) (fun q r => by have q8 := hk q; omega))), (FrC.rfl.arr (hk_no (CELL.nh hk7c)))⟩
