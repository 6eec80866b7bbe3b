theorem cd_X1_get : Cond.code yX1_get cX1_get 4 (some .int) ∈ pWW := pw4 (List.mem_of_getElem? (i := 8) rfl) rfl
theorem ini_1 : Cond.initialized RX1 ∈ pWW := pw1 (List.mem_of_getElem? (i := 4) rfl) rfl
abbrev m_X1_get : MT := (yX1_get, cX1_get, 4, (some .int))
theorem ok_X1_get : pOk m_X1_get := ⟨⟨cd_X1_get, ini_1⟩, by decide +kernel, ⟨by decide +kernel, by decide +kernel⟩, Nat.le_of_ble_eq_true rfl⟩
theorem np_X1_get : (parseMethodDescriptor yX1_get.desc).map (fun d => d.parameters.length) = some 2 := by decide +kernel
theorem im_X1_get : Cond.instanceMethod yX1_get ∈ pWW := pw4 (List.mem_of_getElem? (i := 6) rfl) rfl
theorem se_X1_get : Cond.selects RX1 yX1_get yX1_get ∈ pWW := pw4 (List.mem_of_getElem? (i := 7) rfl) rfl
theorem fl1_33 : Cond.fieldLink RX1 33 (TX1 1).1 (TX1 1).2.1 (TX1 1).2.2.1 ∈ pWW := pw1 (List.mem_of_getElem? (i := 78) rfl) rfl
theorem fl1_9 : Cond.fieldLink RX1 9 (TX1 0).1 (TX1 0).2.1 (TX1 0).2.2.1 ∈ pWW := pw1 (List.mem_of_getElem? (i := 77) rfl) rfl
theorem dX1_get_0 : decode cX1_get 0 = .ok (.iload_n 1, 1) := by decide +kernel
theorem dX1_get_1 : decode cX1_get 1 = .ok (.bipush 13, 2) := by decide +kernel
theorem dX1_get_3 : decode cX1_get 3 = .ok (.imul, 1) := by decide +kernel
theorem dX1_get_4 : decode cX1_get 4 = .ok (.iload_n 2, 1) := by decide +kernel
theorem dX1_get_5 : decode cX1_get 5 = .ok (.iadd, 1) := by decide +kernel
theorem dX1_get_6 : decode cX1_get 6 = .ok (.istore_n 3, 1) := by decide +kernel
theorem dX1_get_7 : decode cX1_get 7 = .ok (.iload_n 1, 1) := by decide +kernel
theorem dX1_get_8 : decode cX1_get 8 = .ok (.ifCond .lt 33, 3) := by decide +kernel
theorem dX1_get_41 : decode cX1_get 41 = .ok (.iconst 0, 1) := by decide +kernel
theorem dX1_get_42 : decode cX1_get 42 = .ok (.ireturn, 1) := by decide +kernel
theorem dX1_get_11 : decode cX1_get 11 = .ok (.iload_n 1, 1) := by decide +kernel
theorem dX1_get_12 : decode cX1_get 12 = .ok (.aload_n 0, 1) := by decide +kernel
theorem dX1_get_13 : decode cX1_get 13 = .ok (.getfield 33, 3) := by decide +kernel
theorem dX1_get_16 : decode cX1_get 16 = .ok (.if_icmp .ge 25, 3) := by decide +kernel
theorem dX1_get_19 : decode cX1_get 19 = .ok (.iload_n 3, 1) := by decide +kernel
theorem dX1_get_20 : decode cX1_get 20 = .ok (.ifCond .lt 21, 3) := by decide +kernel
theorem dX1_get_23 : decode cX1_get 23 = .ok (.iload_n 3, 1) := by decide +kernel
theorem dX1_get_24 : decode cX1_get 24 = .ok (.aload_n 0, 1) := by decide +kernel
theorem dX1_get_25 : decode cX1_get 25 = .ok (.getfield 9, 3) := by decide +kernel
theorem dX1_get_28 : decode cX1_get 28 = .ok (.arraylength, 1) := by decide +kernel
theorem dX1_get_29 : decode cX1_get 29 = .ok (.if_icmp .ge 12, 3) := by decide +kernel
theorem dX1_get_32 : decode cX1_get 32 = .ok (.aload_n 0, 1) := by decide +kernel
theorem dX1_get_33 : decode cX1_get 33 = .ok (.getfield 9, 3) := by decide +kernel
theorem dX1_get_36 : decode cX1_get 36 = .ok (.iload_n 3, 1) := by decide +kernel
theorem dX1_get_37 : decode cX1_get 37 = .ok (.iaload, 1) := by decide +kernel
theorem dX1_get_38 : decode cX1_get 38 = .ok (.goto 4, 3) := by decide +kernel
set_option maxHeartbeats 4000000 in
set_option maxRecDepth 20000 in
theorem k_X1_get (d : Nat) {T : CT} {σ : MS} {a : Nat} {k : Int} {c : Int} (ha : OB T a 1) (h_k : -2147483648 ≤ k ∧ k ≤ 2147483647) (h_c : -2147483648 ≤ c ∧ c ≤ 2147483647) (hw : WT T σ) : Tn (d + 1) m_X1_get 0 T σ [(0, .ref a), (1, .int (iI k)), (2, .int (iI c))] [] (fun ro σ2 => ∃ v : Int, ro = some (.int (iI v)) ∧ σ = σ2 ∧ (-2147483648 ≤ v ∧ v ≤ 2147483647)) := by
  refine tn_iload_n dX1_get_0 rfl 1 rfl ?_
  refine tn_bipush dX1_get_1 (by decide) ?_
  refine tn_imul dX1_get_3 ?_
  refine tn_any (fun z1 g2 => ?_)
  have g2r : -2147483648 ≤ z1 ∧ z1 ≤ 2147483647 := g2
  refine tn_iload_n dX1_get_4 rfl 2 rfl ?_
  refine tn_iadd dX1_get_5 ?_
  refine tn_any (fun z3 g4 => ?_)
  have g4r : -2147483648 ≤ z3 ∧ z3 ≤ 2147483647 := g4
  refine tn_istore_n (L' := [(3, .int (iI z3)), (0, .ref a), (1, .int (iI k)), (2, .int (iI c))]) dX1_get_6 rfl (by decide) rfl ?_
  refine tn_iload_n dX1_get_7 rfl 2 rfl ?_
  refine tn_if_lt (tgt := 41) dX1_get_8 (by decide) ⟨by omega, by omega⟩ (fun h5 => ?_) (fun h5 => ?_)
  · refine tn_iconst dX1_get_41 ?_
    exact tn_iret rfl dX1_get_42 ⟨_, rfl, rfl, by omega⟩
  · refine tn_iload_n dX1_get_11 rfl 2 rfl ?_
    refine tn_aload_n dX1_get_12 rfl 1 rfl ?_
    refine tn_getI (ci := 1) (i := 1) (n := 6) (t := σ.2.1 6 a) dX1_get_13 rfl lay_1 (by decide) fl1_33 ha rfl rfl (rfl) ?_
    have g6 : 0 ≤ σ.2.1 6 a ∧ σ.2.1 6 a ≤ 5000 := wf_6 hw ha
    refine tn_icmp_ge (tgt := 41) dX1_get_16 (by decide) ⟨by omega, by omega⟩ ⟨by omega, by omega⟩ (fun h7 => ?_) (fun h7 => ?_)
    · refine tn_iconst dX1_get_41 ?_
      exact tn_iret rfl dX1_get_42 ⟨_, rfl, rfl, by omega⟩
    · refine tn_iload_n dX1_get_19 rfl 0 rfl ?_
      refine tn_if_lt (tgt := 41) dX1_get_20 (by decide) ⟨by omega, by omega⟩ (fun h8 => ?_) (fun h8 => ?_)
      · refine tn_iconst dX1_get_41 ?_
        exact tn_iret rfl dX1_get_42 ⟨_, rfl, rfl, by omega⟩
      · refine tn_iload_n dX1_get_23 rfl 0 rfl ?_
        refine tn_aload_n dX1_get_24 rfl 1 rfl ?_
        obtain ⟨x9, hx10, hk11⟩ : ∃ x : Nat, σ.2.1 5 a = (x : Int) ∧ (AR T x 1 208 2600) := wf_5 hw ha
        have hk11l := hk11.2
        have hk11i : IA T x9 := Or.inl hk11.1
        refine tn_getR (ci := 1) (i := 0) (n := 5) (x := x9) dX1_get_25 rfl lay_1 (by decide) fl1_9 ha rfl rfl (hx10) ?_
        refine tn_alenX dX1_get_28 (Or.inl hk11i) ?_
        refine tn_icmp_ge (tgt := 41) dX1_get_29 (by decide) ⟨by omega, by omega⟩ ⟨by omega, by omega⟩ (fun h12 => ?_) (fun h12 => ?_)
        · refine tn_iconst dX1_get_41 ?_
          exact tn_iret rfl dX1_get_42 ⟨_, rfl, rfl, by omega⟩
        · refine tn_aload_n dX1_get_32 rfl 1 rfl ?_
          refine tn_getR (ci := 1) (i := 0) (n := 5) (x := x9) dX1_get_33 rfl lay_1 (by decide) fl1_9 ha rfl rfl (hx10) ?_
          refine tn_iload_n dX1_get_36 rfl 0 rfl ?_
          refine tn_ialdX (z := z3) hw dX1_get_37 hk11i (by omega) (by omega) (by omega) (fun v13 g14 g14k => ?_)
          clear g14k
          refine tn_goto (tgt := 42) dX1_get_38 (by decide) ?_
          exact tn_iret rfl dX1_get_42 ⟨_, rfl, rfl, by omega⟩
theorem cd_X1_set : Cond.code yX1_set cX1_set 5 none ∈ pWW := pw3 (List.mem_of_getElem? (i := 205) rfl) rfl
abbrev m_X1_set : MT := (yX1_set, cX1_set, 5, none)
theorem ok_X1_set : pOk m_X1_set := ⟨⟨cd_X1_set, ini_1⟩, by decide +kernel, ⟨by decide +kernel, by decide +kernel⟩, Nat.le_of_ble_eq_true rfl⟩
theorem np_X1_set : (parseMethodDescriptor yX1_set.desc).map (fun d => d.parameters.length) = some 3 := by decide +kernel
theorem im_X1_set : Cond.instanceMethod yX1_set ∈ pWW := pw3 (List.mem_of_getElem? (i := 203) rfl) rfl
theorem se_X1_set : Cond.selects RX1 yX1_set yX1_set ∈ pWW := pw3 (List.mem_of_getElem? (i := 204) rfl) rfl
theorem dX1_set_0 : decode cX1_set 0 = .ok (.iload_n 1, 1) := by decide +kernel
theorem dX1_set_1 : decode cX1_set 1 = .ok (.bipush 13, 2) := by decide +kernel
theorem dX1_set_3 : decode cX1_set 3 = .ok (.imul, 1) := by decide +kernel
theorem dX1_set_4 : decode cX1_set 4 = .ok (.iload_n 2, 1) := by decide +kernel
theorem dX1_set_5 : decode cX1_set 5 = .ok (.iadd, 1) := by decide +kernel
theorem dX1_set_6 : decode cX1_set 6 = .ok (.istore 4, 2) := by decide +kernel
theorem dX1_set_8 : decode cX1_set 8 = .ok (.iload_n 1, 1) := by decide +kernel
theorem dX1_set_9 : decode cX1_set 9 = .ok (.ifCond .lt 34, 3) := by decide +kernel
theorem dX1_set_43 : decode cX1_set 43 = .ok (.return_, 1) := by decide +kernel
theorem dX1_set_12 : decode cX1_set 12 = .ok (.iload_n 1, 1) := by decide +kernel
theorem dX1_set_13 : decode cX1_set 13 = .ok (.aload_n 0, 1) := by decide +kernel
theorem dX1_set_14 : decode cX1_set 14 = .ok (.getfield 33, 3) := by decide +kernel
theorem dX1_set_17 : decode cX1_set 17 = .ok (.if_icmp .ge 26, 3) := by decide +kernel
theorem dX1_set_20 : decode cX1_set 20 = .ok (.iload 4, 2) := by decide +kernel
theorem dX1_set_22 : decode cX1_set 22 = .ok (.ifCond .lt 21, 3) := by decide +kernel
theorem dX1_set_25 : decode cX1_set 25 = .ok (.iload 4, 2) := by decide +kernel
theorem dX1_set_27 : decode cX1_set 27 = .ok (.aload_n 0, 1) := by decide +kernel
theorem dX1_set_28 : decode cX1_set 28 = .ok (.getfield 9, 3) := by decide +kernel
theorem dX1_set_31 : decode cX1_set 31 = .ok (.arraylength, 1) := by decide +kernel
theorem dX1_set_32 : decode cX1_set 32 = .ok (.if_icmp .ge 11, 3) := by decide +kernel
theorem dX1_set_35 : decode cX1_set 35 = .ok (.aload_n 0, 1) := by decide +kernel
theorem dX1_set_36 : decode cX1_set 36 = .ok (.getfield 9, 3) := by decide +kernel
theorem dX1_set_39 : decode cX1_set 39 = .ok (.iload 4, 2) := by decide +kernel
theorem dX1_set_41 : decode cX1_set 41 = .ok (.iload_n 3, 1) := by decide +kernel
theorem dX1_set_42 : decode cX1_set 42 = .ok (.iastore, 1) := by decide +kernel
set_option maxHeartbeats 4000000 in
set_option maxRecDepth 20000 in
theorem k_X1_set (d : Nat) {T : CT} {σ : MS} {a : Nat} {k : Int} {c : Int} {y : Int} (ha : OB T a 1) (h_k : -2147483648 ≤ k ∧ k ≤ 2147483647) (h_c : -2147483648 ≤ c ∧ c ≤ 2147483647) (h_y : -2147483648 ≤ y ∧ y ≤ 2147483647) (hw : WT T σ) : Tn (d + 1) m_X1_set 0 T σ [(0, .ref a), (1, .int (iI k)), (2, .int (iI c)), (3, .int (iI y))] [] (fun ro σ2 => ro = none ∧ WT T σ2 ∧ FrC [] σ σ2) := by
  refine tn_iload_n dX1_set_0 rfl 1 rfl ?_
  refine tn_bipush dX1_set_1 (by decide) ?_
  refine tn_imul dX1_set_3 ?_
  refine tn_any (fun z1 g2 => ?_)
  have g2r : -2147483648 ≤ z1 ∧ z1 ≤ 2147483647 := g2
  refine tn_iload_n dX1_set_4 rfl 2 rfl ?_
  refine tn_iadd dX1_set_5 ?_
  refine tn_any (fun z3 g4 => ?_)
  have g4r : -2147483648 ≤ z3 ∧ z3 ≤ 2147483647 := g4
  refine tn_istore (L' := [(4, .int (iI z3)), (0, .ref a), (1, .int (iI k)), (2, .int (iI c)), (3, .int (iI y))]) dX1_set_6 (by decide) rfl ?_
  refine tn_iload_n dX1_set_8 rfl 2 rfl ?_
  refine tn_if_lt (tgt := 43) dX1_set_9 (by decide) ⟨by omega, by omega⟩ (fun h5 => ?_) (fun h5 => ?_)
  · exact tn_vret rfl dX1_set_43 ⟨rfl, hw, FrC.rfl⟩
  · refine tn_iload_n dX1_set_12 rfl 2 rfl ?_
    refine tn_aload_n dX1_set_13 rfl 1 rfl ?_
    refine tn_getI (ci := 1) (i := 1) (n := 6) (t := σ.2.1 6 a) dX1_set_14 rfl lay_1 (by decide) fl1_33 ha rfl rfl (rfl) ?_
    have g6 : 0 ≤ σ.2.1 6 a ∧ σ.2.1 6 a ≤ 5000 := wf_6 hw ha
    refine tn_icmp_ge (tgt := 43) dX1_set_17 (by decide) ⟨by omega, by omega⟩ ⟨by omega, by omega⟩ (fun h7 => ?_) (fun h7 => ?_)
    · exact tn_vret rfl dX1_set_43 ⟨rfl, hw, FrC.rfl⟩
    · refine tn_iload dX1_set_20 0 rfl ?_
      refine tn_if_lt (tgt := 43) dX1_set_22 (by decide) ⟨by omega, by omega⟩ (fun h8 => ?_) (fun h8 => ?_)
      · exact tn_vret rfl dX1_set_43 ⟨rfl, hw, FrC.rfl⟩
      · refine tn_iload dX1_set_25 0 rfl ?_
        refine tn_aload_n dX1_set_27 rfl 1 rfl ?_
        obtain ⟨x9, hx10, hk11⟩ : ∃ x : Nat, σ.2.1 5 a = (x : Int) ∧ (AR T x 1 208 2600) := wf_5 hw ha
        have hk11l := hk11.2
        have hk11i : IA T x9 := Or.inl hk11.1
        refine tn_getR (ci := 1) (i := 0) (n := 5) (x := x9) dX1_set_28 rfl lay_1 (by decide) fl1_9 ha rfl rfl (hx10) ?_
        refine tn_alenX dX1_set_31 (Or.inl hk11i) ?_
        refine tn_icmp_ge (tgt := 43) dX1_set_32 (by decide) ⟨by omega, by omega⟩ ⟨by omega, by omega⟩ (fun h12 => ?_) (fun h12 => ?_)
        · exact tn_vret rfl dX1_set_43 ⟨rfl, hw, FrC.rfl⟩
        · refine tn_aload_n dX1_set_35 rfl 1 rfl ?_
          refine tn_getR (ci := 1) (i := 0) (n := 5) (x := x9) dX1_set_36 rfl lay_1 (by decide) fl1_9 ha rfl rfl (hx10) ?_
          refine tn_iload dX1_set_39 0 rfl ?_
          refine tn_iload_n dX1_set_41 rfl 4 rfl ?_
          refine tn_iast (z := z3) (v := y) dX1_set_42 hk11i (by omega) (by omega) (by omega) ?_
          exact tn_vret rfl dX1_set_43 ⟨rfl, (hw.arr (by have q := hk11i; unfold IA at q; omega) (fun q => absurd q (by have w := hk11.1; omega)) ⟨by omega, by omega⟩), (FrC.rfl.arr)⟩
theorem cd_X1_kindAt : Cond.code yX1_kindAt cX1_kindAt 2 (some .int) ∈ pWW := pw4 (List.mem_of_getElem? (i := 1) rfl) rfl
abbrev m_X1_kindAt : MT := (yX1_kindAt, cX1_kindAt, 2, (some .int))
theorem ok_X1_kindAt : pOk m_X1_kindAt := ⟨⟨cd_X1_kindAt, ini_1⟩, by decide +kernel, ⟨by decide +kernel, by decide +kernel⟩, Nat.le_of_ble_eq_true rfl⟩
theorem np_X1_kindAt : (parseMethodDescriptor yX1_kindAt.desc).map (fun d => d.parameters.length) = some 1 := by decide +kernel
theorem im_X1_kindAt : Cond.instanceMethod yX1_kindAt ∈ pWW := pw3 (List.mem_of_getElem? (i := 239) rfl) rfl
theorem se_X1_kindAt : Cond.selects RX1 yX1_kindAt yX1_kindAt ∈ pWW := pw4 (List.mem_of_getElem? (i := 0) rfl) rfl
theorem dX1_kindAt_0 : decode cX1_kindAt 0 = .ok (.iload_n 1, 1) := by decide +kernel
theorem dX1_kindAt_1 : decode cX1_kindAt 1 = .ok (.ifCond .lt 35, 3) := by decide +kernel
theorem dX1_kindAt_36 : decode cX1_kindAt 36 = .ok (.iconst (-1), 1) := by decide +kernel
theorem dX1_kindAt_37 : decode cX1_kindAt 37 = .ok (.ireturn, 1) := by decide +kernel
theorem dX1_kindAt_4 : decode cX1_kindAt 4 = .ok (.iload_n 1, 1) := by decide +kernel
theorem dX1_kindAt_5 : decode cX1_kindAt 5 = .ok (.aload_n 0, 1) := by decide +kernel
theorem dX1_kindAt_6 : decode cX1_kindAt 6 = .ok (.getfield 33, 3) := by decide +kernel
theorem dX1_kindAt_9 : decode cX1_kindAt 9 = .ok (.if_icmp .ge 27, 3) := by decide +kernel
theorem dX1_kindAt_12 : decode cX1_kindAt 12 = .ok (.iload_n 1, 1) := by decide +kernel
theorem dX1_kindAt_13 : decode cX1_kindAt 13 = .ok (.bipush 13, 2) := by decide +kernel
theorem dX1_kindAt_15 : decode cX1_kindAt 15 = .ok (.imul, 1) := by decide +kernel
theorem dX1_kindAt_16 : decode cX1_kindAt 16 = .ok (.aload_n 0, 1) := by decide +kernel
theorem dX1_kindAt_17 : decode cX1_kindAt 17 = .ok (.getfield 9, 3) := by decide +kernel
theorem dX1_kindAt_20 : decode cX1_kindAt 20 = .ok (.arraylength, 1) := by decide +kernel
theorem dX1_kindAt_21 : decode cX1_kindAt 21 = .ok (.if_icmp .ge 15, 3) := by decide +kernel
theorem dX1_kindAt_24 : decode cX1_kindAt 24 = .ok (.aload_n 0, 1) := by decide +kernel
theorem dX1_kindAt_25 : decode cX1_kindAt 25 = .ok (.getfield 9, 3) := by decide +kernel
theorem dX1_kindAt_28 : decode cX1_kindAt 28 = .ok (.iload_n 1, 1) := by decide +kernel
theorem dX1_kindAt_29 : decode cX1_kindAt 29 = .ok (.bipush 13, 2) := by decide +kernel
theorem dX1_kindAt_31 : decode cX1_kindAt 31 = .ok (.imul, 1) := by decide +kernel
theorem dX1_kindAt_32 : decode cX1_kindAt 32 = .ok (.iaload, 1) := by decide +kernel
theorem dX1_kindAt_33 : decode cX1_kindAt 33 = .ok (.goto 4, 3) := by decide +kernel
set_option maxHeartbeats 4000000 in
set_option maxRecDepth 20000 in
theorem k_X1_kindAt (d : Nat) {T : CT} {σ : MS} {a : Nat} {k : Int} (ha : OB T a 1) (h_k : -2147483648 ≤ k ∧ k ≤ 2147483647) (hw : WT T σ) : Tn (d + 1) m_X1_kindAt 0 T σ [(0, .ref a), (1, .int (iI k))] [] (fun ro σ2 => ∃ v : Int, ro = some (.int (iI v)) ∧ σ = σ2 ∧ (-2147483648 ≤ v ∧ v ≤ 2147483647)) := by
  refine tn_iload_n dX1_kindAt_0 rfl 1 rfl ?_
  refine tn_if_lt (tgt := 36) dX1_kindAt_1 (by decide) ⟨by omega, by omega⟩ (fun h1 => ?_) (fun h1 => ?_)
  · refine tn_iconst dX1_kindAt_36 ?_
    exact tn_iret rfl dX1_kindAt_37 ⟨_, rfl, rfl, by omega⟩
  · refine tn_iload_n dX1_kindAt_4 rfl 1 rfl ?_
    refine tn_aload_n dX1_kindAt_5 rfl 0 rfl ?_
    refine tn_getI (ci := 1) (i := 1) (n := 6) (t := σ.2.1 6 a) dX1_kindAt_6 rfl lay_1 (by decide) fl1_33 ha rfl rfl (rfl) ?_
    have g2 : 0 ≤ σ.2.1 6 a ∧ σ.2.1 6 a ≤ 5000 := wf_6 hw ha
    refine tn_icmp_ge (tgt := 36) dX1_kindAt_9 (by decide) ⟨by omega, by omega⟩ ⟨by omega, by omega⟩ (fun h3 => ?_) (fun h3 => ?_)
    · refine tn_iconst dX1_kindAt_36 ?_
      exact tn_iret rfl dX1_kindAt_37 ⟨_, rfl, rfl, by omega⟩
    · refine tn_iload_n dX1_kindAt_12 rfl 1 rfl ?_
      refine tn_bipush dX1_kindAt_13 (by decide) ?_
      refine tn_imul dX1_kindAt_15 ?_
      refine tn_aload_n dX1_kindAt_16 rfl 0 rfl ?_
      obtain ⟨x4, hx5, hk6⟩ : ∃ x : Nat, σ.2.1 5 a = (x : Int) ∧ (AR T x 1 208 2600) := wf_5 hw ha
      have hk6l := hk6.2
      have hk6i : IA T x4 := Or.inl hk6.1
      refine tn_getR (ci := 1) (i := 0) (n := 5) (x := x4) dX1_kindAt_17 rfl lay_1 (by decide) fl1_9 ha rfl rfl (hx5) ?_
      refine tn_alenX dX1_kindAt_20 (Or.inl hk6i) ?_
      refine tn_icmp_ge (tgt := 36) dX1_kindAt_21 (by decide) ⟨by omega, by omega⟩ ⟨by omega, by omega⟩ (fun h7 => ?_) (fun h7 => ?_)
      · refine tn_iconst dX1_kindAt_36 ?_
        exact tn_iret rfl dX1_kindAt_37 ⟨_, rfl, rfl, by omega⟩
      · refine tn_aload_n dX1_kindAt_24 rfl 0 rfl ?_
        refine tn_getR (ci := 1) (i := 0) (n := 5) (x := x4) dX1_kindAt_25 rfl lay_1 (by decide) fl1_9 ha rfl rfl (hx5) ?_
        refine tn_iload_n dX1_kindAt_28 rfl 1 rfl ?_
        refine tn_bipush dX1_kindAt_29 (by decide) ?_
        refine tn_imul dX1_kindAt_31 ?_
        refine tn_ialdX (z := k * 13) hw dX1_kindAt_32 hk6i (by omega) (by omega) (by omega) (fun v8 g9 g9k => ?_)
        clear g9k
        refine tn_goto (tgt := 37) dX1_kindAt_33 (by decide) ?_
        exact tn_iret rfl dX1_kindAt_37 ⟨_, rfl, rfl, by omega⟩
theorem cd_X1_homeOf : Cond.code yX1_homeOf cX1_homeOf 3 (some .int) ∈ pWW := pw4 (List.mem_of_getElem? (i := 78) rfl) rfl
abbrev m_X1_homeOf : MT := (yX1_homeOf, cX1_homeOf, 3, (some .int))
theorem ok_X1_homeOf : pOk m_X1_homeOf := ⟨⟨cd_X1_homeOf, ini_1⟩, by decide +kernel, ⟨by decide +kernel, by decide +kernel⟩, Nat.le_of_ble_eq_true rfl⟩
theorem np_X1_homeOf : (parseMethodDescriptor yX1_homeOf.desc).map (fun d => d.parameters.length) = some 2 := by decide +kernel
theorem im_X1_homeOf : Cond.instanceMethod yX1_homeOf ∈ pWW := pw4 (List.mem_of_getElem? (i := 76) rfl) rfl
theorem se_X1_homeOf : Cond.selects RX1 yX1_homeOf yX1_homeOf ∈ pWW := pw4 (List.mem_of_getElem? (i := 77) rfl) rfl
theorem fl1_27 : Cond.fieldLink RX1 27 (TX1 10).1 (TX1 10).2.1 (TX1 10).2.2.1 ∈ pWW := pw1 (List.mem_of_getElem? (i := 123) rfl) rfl
theorem nl1_53 : (RX1, 53, yX11_at, "LineKeeper") ∈ nst_M := List.mem_of_getElem? (i := 14) rfl
theorem dX1_homeOf_0 : decode cX1_homeOf 0 = .ok (.aload_n 0, 1) := by decide +kernel
theorem dX1_homeOf_1 : decode cX1_homeOf 1 = .ok (.getfield 27, 3) := by decide +kernel
theorem dX1_homeOf_4 : decode cX1_homeOf 4 = .ok (.iload_n 1, 1) := by decide +kernel
theorem dX1_homeOf_5 : decode cX1_homeOf 5 = .ok (.bipush 12, 2) := by decide +kernel
theorem dX1_homeOf_7 : decode cX1_homeOf 7 = .ok (.imul, 1) := by decide +kernel
theorem dX1_homeOf_8 : decode cX1_homeOf 8 = .ok (.iload_n 2, 1) := by decide +kernel
theorem dX1_homeOf_9 : decode cX1_homeOf 9 = .ok (.iadd, 1) := by decide +kernel
theorem dX1_homeOf_10 : decode cX1_homeOf 10 = .ok (.invokestatic 53, 3) := by decide +kernel
theorem dX1_homeOf_13 : decode cX1_homeOf 13 = .ok (.ireturn, 1) := by decide +kernel
set_option maxHeartbeats 4000000 in
set_option maxRecDepth 20000 in
theorem k_X1_homeOf (d : Nat) {T : CT} {σ : MS} {a : Nat} {f : Int} {m : Int} (ha : OB T a 1) (h_f : -2147483648 ≤ f ∧ f ≤ 2147483647) (h_m : -2147483648 ≤ m ∧ m ≤ 2147483647) (hw : WT T σ) : Tn (d + 2) m_X1_homeOf 0 T σ [(0, .ref a), (1, .int (iI f)), (2, .int (iI m))] [] (fun ro σ2 => ∃ v : Int, ro = some (.int (iI v)) ∧ σ = σ2 ∧ (-2147483648 ≤ v ∧ v ≤ 2147483647)) := by
  refine tn_aload_n dX1_homeOf_0 rfl 0 rfl ?_
  obtain ⟨x1, hx2, hk3⟩ : ∃ x : Nat, σ.2.1 15 a = (x : Int) ∧ (AR T x 1 144 144) := wf_15 hw ha
  have hk3l := hk3.2
  have hk3i : IA T x1 := Or.inl hk3.1
  refine tn_getR (ci := 1) (i := 10) (n := 15) (x := x1) dX1_homeOf_1 rfl lay_1 (by decide) fl1_27 ha rfl rfl (hx2) ?_
  refine tn_iload_n dX1_homeOf_4 rfl 1 rfl ?_
  refine tn_bipush dX1_homeOf_5 (by decide) ?_
  refine tn_imul dX1_homeOf_7 ?_
  refine tn_any (fun z4 g5 => ?_)
  have g5r : -2147483648 ≤ z4 ∧ z4 ≤ 2147483647 := g5
  refine tn_iload_n dX1_homeOf_8 rfl 2 rfl ?_
  refine tn_iadd dX1_homeOf_9 ?_
  refine tn_any (fun z6 g7 => ?_)
  have g7r : -2147483648 ≤ z6 ∧ z6 ≤ 2147483647 := g7
  refine tn_callSN (M := m_X1_homeOf) (pc := 10) (ix := 53) (M' := m_X11_at) (As := [.ref x1, .int (iI z6)]) (rest := []) dX1_homeOf_10 ok_X11_at stt_X11_at nl1_53 np_X11_at rfl (Nat.le_of_ble_eq_true rfl) (Nat.le_of_ble_eq_true rfl) rfl (k_X11_at (d) (T := T) (σ := σ) (x := x1) (i := z6) hk3i (by omega) hw (by omega)) (fun r8 σ9 hp => ?_)
  obtain ⟨v12, rfl, rfl, f10, f11⟩ := hp
  clear f11
  show Tn _ _ 13 T σ [(0, .ref a), (1, .int (iI f)), (2, .int (iI m))] [.int (iI v12)] _
  exact tn_iret rfl dX1_homeOf_13 ⟨_, rfl, rfl, by omega⟩
theorem cd_X1_hasName : Cond.code yX1_hasName cX1_hasName 3 (some .boolean) ∈ pWW := pw4 (List.mem_of_getElem? (i := 104) rfl) rfl
abbrev m_X1_hasName : MT := (yX1_hasName, cX1_hasName, 3, (some .boolean))
theorem ok_X1_hasName : pOk m_X1_hasName := ⟨⟨cd_X1_hasName, ini_1⟩, by decide +kernel, ⟨by decide +kernel, by decide +kernel⟩, Nat.le_of_ble_eq_true rfl⟩
theorem np_X1_hasName : (parseMethodDescriptor yX1_hasName.desc).map (fun d => d.parameters.length) = some 2 := by decide +kernel
theorem im_X1_hasName : Cond.instanceMethod yX1_hasName ∈ pWW := pw4 (List.mem_of_getElem? (i := 102) rfl) rfl
theorem se_X1_hasName : Cond.selects RX1 yX1_hasName yX1_hasName ∈ pWW := pw4 (List.mem_of_getElem? (i := 103) rfl) rfl
theorem fl1_46 : Cond.fieldLink RX1 46 (TX1 5).1 (TX1 5).2.1 (TX1 5).2.2.1 ∈ pWW := pw1 (List.mem_of_getElem? (i := 102) rfl) rfl
theorem fl1_24 : Cond.fieldLink RX1 24 (TX1 9).1 (TX1 9).2.1 (TX1 9).2.2.1 ∈ pWW := pw1 (List.mem_of_getElem? (i := 118) rfl) rfl
theorem dX1_hasName_0 : decode cX1_hasName 0 = .ok (.iload_n 1, 1) := by decide +kernel
theorem dX1_hasName_1 : decode cX1_hasName 1 = .ok (.ifCond .lt 31, 3) := by decide +kernel
theorem dX1_hasName_32 : decode cX1_hasName 32 = .ok (.iconst 0, 1) := by decide +kernel
theorem dX1_hasName_33 : decode cX1_hasName 33 = .ok (.ireturn, 1) := by decide +kernel
theorem dX1_hasName_4 : decode cX1_hasName 4 = .ok (.iload_n 1, 1) := by decide +kernel
theorem dX1_hasName_5 : decode cX1_hasName 5 = .ok (.aload_n 0, 1) := by decide +kernel
theorem dX1_hasName_6 : decode cX1_hasName 6 = .ok (.getfield 46, 3) := by decide +kernel
theorem dX1_hasName_9 : decode cX1_hasName 9 = .ok (.if_icmp .ge 23, 3) := by decide +kernel
theorem dX1_hasName_12 : decode cX1_hasName 12 = .ok (.iload_n 2, 1) := by decide +kernel
theorem dX1_hasName_13 : decode cX1_hasName 13 = .ok (.ifCond .lt 19, 3) := by decide +kernel
theorem dX1_hasName_16 : decode cX1_hasName 16 = .ok (.iload_n 2, 1) := by decide +kernel
theorem dX1_hasName_17 : decode cX1_hasName 17 = .ok (.aload_n 0, 1) := by decide +kernel
theorem dX1_hasName_18 : decode cX1_hasName 18 = .ok (.getfield 24, 3) := by decide +kernel
theorem dX1_hasName_21 : decode cX1_hasName 21 = .ok (.iload_n 1, 1) := by decide +kernel
theorem dX1_hasName_22 : decode cX1_hasName 22 = .ok (.invokestatic 53, 3) := by decide +kernel
theorem dX1_hasName_25 : decode cX1_hasName 25 = .ok (.if_icmp .ge 7, 3) := by decide +kernel
theorem dX1_hasName_28 : decode cX1_hasName 28 = .ok (.iconst 1, 1) := by decide +kernel
theorem dX1_hasName_29 : decode cX1_hasName 29 = .ok (.goto 4, 3) := by decide +kernel
set_option maxHeartbeats 4000000 in
set_option maxRecDepth 20000 in
theorem k_X1_hasName (d : Nat) {T : CT} {σ : MS} {a : Nat} {f : Int} {m : Int} (ha : OB T a 1) (h_f : -2147483648 ≤ f ∧ f ≤ 2147483647) (h_m : -2147483648 ≤ m ∧ m ≤ 2147483647) (hw : WT T σ) : Tn (d + 2) m_X1_hasName 0 T σ [(0, .ref a), (1, .int (iI f)), (2, .int (iI m))] [] (fun ro σ2 => ∃ v : Int, ro = some (.int (iI v)) ∧ σ = σ2 ∧ (v = 0 ∨ v = 1)) := by
  refine tn_iload_n dX1_hasName_0 rfl 1 rfl ?_
  refine tn_if_lt (tgt := 32) dX1_hasName_1 (by decide) ⟨by omega, by omega⟩ (fun h1 => ?_) (fun h1 => ?_)
  · refine tn_iconst dX1_hasName_32 ?_
    exact tn_zret (v := 0) rfl (by decide) dX1_hasName_33 ⟨_, rfl, rfl, by omega⟩
  · refine tn_iload_n dX1_hasName_4 rfl 1 rfl ?_
    refine tn_aload_n dX1_hasName_5 rfl 0 rfl ?_
    refine tn_getI (ci := 1) (i := 5) (n := 10) (t := σ.2.1 10 a) dX1_hasName_6 rfl lay_1 (by decide) fl1_46 ha rfl rfl (rfl) ?_
    have g2 : 0 ≤ σ.2.1 10 a ∧ σ.2.1 10 a ≤ 12 := wf_10 hw ha
    refine tn_icmp_ge (tgt := 32) dX1_hasName_9 (by decide) ⟨by omega, by omega⟩ ⟨by omega, by omega⟩ (fun h3 => ?_) (fun h3 => ?_)
    · refine tn_iconst dX1_hasName_32 ?_
      exact tn_zret (v := 0) rfl (by decide) dX1_hasName_33 ⟨_, rfl, rfl, by omega⟩
    · refine tn_iload_n dX1_hasName_12 rfl 2 rfl ?_
      refine tn_if_lt (tgt := 32) dX1_hasName_13 (by decide) ⟨by omega, by omega⟩ (fun h4 => ?_) (fun h4 => ?_)
      · refine tn_iconst dX1_hasName_32 ?_
        exact tn_zret (v := 0) rfl (by decide) dX1_hasName_33 ⟨_, rfl, rfl, by omega⟩
      · refine tn_iload_n dX1_hasName_16 rfl 2 rfl ?_
        refine tn_aload_n dX1_hasName_17 rfl 0 rfl ?_
        obtain ⟨x5, hx6, hk7⟩ : ∃ x : Nat, σ.2.1 14 a = (x : Int) ∧ (AR T x 11 12 12) := wf_14 hw ha
        have hk7l := hk7.2
        have hk7i : IA T x5 := Or.inr hk7.1
        refine tn_getR (ci := 1) (i := 9) (n := 14) (x := x5) dX1_hasName_18 rfl lay_1 (by decide) fl1_24 ha rfl rfl (hx6) ?_
        refine tn_iload_n dX1_hasName_21 rfl 1 rfl ?_
        refine tn_callSN (M := m_X1_hasName) (pc := 22) (ix := 53) (M' := m_X11_at) (As := [.ref x5, .int (iI f)]) (rest := [.int (iI m)]) dX1_hasName_22 ok_X11_at stt_X11_at nl1_53 np_X11_at rfl (Nat.le_of_ble_eq_true rfl) (Nat.le_of_ble_eq_true rfl) rfl (k_X11_at (d) (T := T) (σ := σ) (x := x5) (i := f) hk7i (by omega) hw (by omega)) (fun r8 σ9 hp => ?_)
        obtain ⟨v12, rfl, rfl, f10, f11⟩ := hp
        have f11n := f11 hk7.1
        clear f11
        show Tn _ _ 25 T σ [(0, .ref a), (1, .int (iI f)), (2, .int (iI m))] [.int (iI v12), .int (iI m)] _
        refine tn_icmp_ge (tgt := 32) dX1_hasName_25 (by decide) ⟨by omega, by omega⟩ ⟨by omega, by omega⟩ (fun h13 => ?_) (fun h13 => ?_)
        · refine tn_iconst dX1_hasName_32 ?_
          exact tn_zret (v := 0) rfl (by decide) dX1_hasName_33 ⟨_, rfl, rfl, by omega⟩
        · refine tn_iconst dX1_hasName_28 ?_
          refine tn_goto (tgt := 33) dX1_hasName_29 (by decide) ?_
          exact tn_zret (v := 1) rfl (by decide) dX1_hasName_33 ⟨_, rfl, rfl, by omega⟩
theorem cd_X1_writtenBy : Cond.code yX1_writtenBy cX1_writtenBy 3 (some .int) ∈ pWW := pw3 (List.mem_of_getElem? (i := 237) rfl) rfl
abbrev m_X1_writtenBy : MT := (yX1_writtenBy, cX1_writtenBy, 3, (some .int))
theorem ok_X1_writtenBy : pOk m_X1_writtenBy := ⟨⟨cd_X1_writtenBy, ini_1⟩, by decide +kernel, ⟨by decide +kernel, by decide +kernel⟩, Nat.le_of_ble_eq_true rfl⟩
theorem np_X1_writtenBy : (parseMethodDescriptor yX1_writtenBy.desc).map (fun d => d.parameters.length) = some 1 := by decide +kernel
theorem im_X1_writtenBy : Cond.instanceMethod yX1_writtenBy ∈ pWW := pw3 (List.mem_of_getElem? (i := 235) rfl) rfl
theorem se_X1_writtenBy : Cond.selects RX1 yX1_writtenBy yX1_writtenBy ∈ pWW := pw3 (List.mem_of_getElem? (i := 236) rfl) rfl
theorem ml1_97 : Cond.methodLink RX1 97 yX1_kindAt ∈ pWW := pw3 (List.mem_of_getElem? (i := 238) rfl) rfl
theorem nl1_100 : (RX1, 100, yX11_isPure, "LineKeeper") ∈ nst_M := List.mem_of_getElem? (i := 11) rfl
theorem ml1_86 : Cond.methodLink RX1 86 yX1_get ∈ pWW := pw4 (List.mem_of_getElem? (i := 5) rfl) rfl
theorem dX1_writtenBy_0 : decode cX1_writtenBy 0 = .ok (.aload_n 0, 1) := by decide +kernel
theorem dX1_writtenBy_1 : decode cX1_writtenBy 1 = .ok (.iload_n 1, 1) := by decide +kernel
theorem dX1_writtenBy_2 : decode cX1_writtenBy 2 = .ok (.invokevirtual 97, 3) := by decide +kernel
theorem dX1_writtenBy_5 : decode cX1_writtenBy 5 = .ok (.istore_n 2, 1) := by decide +kernel
theorem dX1_writtenBy_6 : decode cX1_writtenBy 6 = .ok (.iload_n 2, 1) := by decide +kernel
theorem dX1_writtenBy_7 : decode cX1_writtenBy 7 = .ok (.invokestatic 100, 3) := by decide +kernel
theorem dX1_writtenBy_10 : decode cX1_writtenBy 10 = .ok (.ifCond .ne 9, 3) := by decide +kernel
theorem dX1_writtenBy_19 : decode cX1_writtenBy 19 = .ok (.aload_n 0, 1) := by decide +kernel
theorem dX1_writtenBy_20 : decode cX1_writtenBy 20 = .ok (.iload_n 1, 1) := by decide +kernel
theorem dX1_writtenBy_21 : decode cX1_writtenBy 21 = .ok (.iconst 1, 1) := by decide +kernel
theorem dX1_writtenBy_22 : decode cX1_writtenBy 22 = .ok (.invokevirtual 86, 3) := by decide +kernel
theorem dX1_writtenBy_25 : decode cX1_writtenBy 25 = .ok (.goto 4, 3) := by decide +kernel
theorem dX1_writtenBy_29 : decode cX1_writtenBy 29 = .ok (.ireturn, 1) := by decide +kernel
theorem dX1_writtenBy_13 : decode cX1_writtenBy 13 = .ok (.iload_n 2, 1) := by decide +kernel
theorem dX1_writtenBy_14 : decode cX1_writtenBy 14 = .ok (.bipush 10, 2) := by decide +kernel
theorem dX1_writtenBy_16 : decode cX1_writtenBy 16 = .ok (.if_icmp .ne 12, 3) := by decide +kernel
theorem dX1_writtenBy_28 : decode cX1_writtenBy 28 = .ok (.iconst (-1), 1) := by decide +kernel
set_option maxHeartbeats 4000000 in
set_option maxRecDepth 20000 in
theorem k_X1_writtenBy (d : Nat) {T : CT} {σ : MS} {a : Nat} {k : Int} (ha : OB T a 1) (h_k : -2147483648 ≤ k ∧ k ≤ 2147483647) (hw : WT T σ) : Tn (d + 2) m_X1_writtenBy 0 T σ [(0, .ref a), (1, .int (iI k))] [] (fun ro σ2 => ∃ v : Int, ro = some (.int (iI v)) ∧ σ = σ2 ∧ (-2147483648 ≤ v ∧ v ≤ 2147483647)) := by
  refine tn_aload_n dX1_writtenBy_0 rfl 0 rfl ?_
  refine tn_iload_n dX1_writtenBy_1 rfl 1 rfl ?_
  refine tn_callV (M := m_X1_writtenBy) (pc := 2) (ix := 97) (ci := 1) (M' := m_X1_kindAt) (As := [.int (iI k)]) (rest := []) dX1_writtenBy_2 ok_X1_kindAt im_X1_kindAt se_X1_kindAt ml1_97 np_X1_kindAt rfl rfl ha rfl (Nat.le_of_ble_eq_true rfl) (Nat.le_of_ble_eq_true rfl) rfl (k_X1_kindAt (d) (T := T) (σ := σ) (a := a) (k := k) ha (by omega) hw ) (fun r1 σ2 hp => ?_)
  obtain ⟨v4, rfl, rfl, f3⟩ := hp
  show Tn _ _ 5 T σ [(0, .ref a), (1, .int (iI k))] [.int (iI v4)] _
  refine tn_istore_n (L' := [(2, .int (iI v4)), (0, .ref a), (1, .int (iI k))]) dX1_writtenBy_5 rfl (by decide) rfl ?_
  refine tn_iload_n dX1_writtenBy_6 rfl 0 rfl ?_
  refine tn_callSN (M := m_X1_writtenBy) (pc := 7) (ix := 100) (M' := m_X11_isPure) (As := [.int (iI v4)]) (rest := []) dX1_writtenBy_7 ok_X11_isPure stt_X11_isPure nl1_100 np_X11_isPure rfl (Nat.le_of_ble_eq_true rfl) (Nat.le_of_ble_eq_true rfl) rfl (k_X11_isPure (d) (T := T) (σ := σ) (k := v4) (by omega) hw ) (fun r5 σ6 hp => ?_)
  obtain ⟨v8, rfl, rfl, f7⟩ := hp
  show Tn _ _ 10 T σ [(2, .int (iI v4)), (0, .ref a), (1, .int (iI k))] [.int (iI v8)] _
  refine tn_if_ne (tgt := 19) dX1_writtenBy_10 (by decide) ⟨by omega, by omega⟩ (fun h9 => ?_) (fun h9 => ?_)
  · refine tn_aload_n dX1_writtenBy_19 rfl 1 rfl ?_
    refine tn_iload_n dX1_writtenBy_20 rfl 2 rfl ?_
    refine tn_iconst dX1_writtenBy_21 ?_
    refine tn_callV (M := m_X1_writtenBy) (pc := 22) (ix := 86) (ci := 1) (M' := m_X1_get) (As := [.int (iI k), .int (iI 1)]) (rest := []) dX1_writtenBy_22 ok_X1_get im_X1_get se_X1_get ml1_86 np_X1_get rfl rfl ha rfl (Nat.le_of_ble_eq_true rfl) (Nat.le_of_ble_eq_true rfl) rfl (k_X1_get (d) (T := T) (σ := σ) (a := a) (k := k) (c := 1) ha (by omega) (by decide) hw ) (fun r10 σ11 hp => ?_)
    obtain ⟨v13, rfl, rfl, f12⟩ := hp
    show Tn _ _ 25 T σ [(2, .int (iI v4)), (0, .ref a), (1, .int (iI k))] [.int (iI v13)] _
    refine tn_goto (tgt := 29) dX1_writtenBy_25 (by decide) ?_
    exact tn_iret rfl dX1_writtenBy_29 ⟨_, rfl, rfl, by omega⟩
  · refine tn_iload_n dX1_writtenBy_13 rfl 0 rfl ?_
    refine tn_bipush dX1_writtenBy_14 (by decide) ?_
    refine tn_icmp_ne (tgt := 28) dX1_writtenBy_16 (by decide) ⟨by omega, by omega⟩ ⟨by decide, by decide⟩ (fun h14 => ?_) (fun h14 => ?_)
    · refine tn_iconst dX1_writtenBy_28 ?_
      exact tn_iret rfl dX1_writtenBy_29 ⟨_, rfl, rfl, by omega⟩
    · refine tn_aload_n dX1_writtenBy_19 rfl 1 rfl ?_
      refine tn_iload_n dX1_writtenBy_20 rfl 2 rfl ?_
      refine tn_iconst dX1_writtenBy_21 ?_
      refine tn_callV (M := m_X1_writtenBy) (pc := 22) (ix := 86) (ci := 1) (M' := m_X1_get) (As := [.int (iI k), .int (iI 1)]) (rest := []) dX1_writtenBy_22 ok_X1_get im_X1_get se_X1_get ml1_86 np_X1_get rfl rfl ha rfl (Nat.le_of_ble_eq_true rfl) (Nat.le_of_ble_eq_true rfl) rfl (k_X1_get (d) (T := T) (σ := σ) (a := a) (k := k) (c := 1) ha (by omega) (by decide) hw ) (fun r15 σ16 hp => ?_)
      obtain ⟨v18, rfl, rfl, f17⟩ := hp
      show Tn _ _ 25 T σ [(2, .int (iI v4)), (0, .ref a), (1, .int (iI k))] [.int (iI v18)] _
      refine tn_goto (tgt := 29) dX1_writtenBy_25 (by decide) ?_
      exact tn_iret rfl dX1_writtenBy_29 ⟨_, rfl, rfl, by omega⟩
theorem cd_X1_targetOf : Cond.code yX1_targetOf cX1_targetOf 3 (some .int) ∈ pWW := pw4 (List.mem_of_getElem? (i := 159) rfl) rfl
abbrev m_X1_targetOf : MT := (yX1_targetOf, cX1_targetOf, 3, (some .int))
theorem ok_X1_targetOf : pOk m_X1_targetOf := ⟨⟨cd_X1_targetOf, ini_1⟩, by decide +kernel, ⟨by decide +kernel, by decide +kernel⟩, Nat.le_of_ble_eq_true rfl⟩
theorem np_X1_targetOf : (parseMethodDescriptor yX1_targetOf.desc).map (fun d => d.parameters.length) = some 1 := by decide +kernel
theorem im_X1_targetOf : Cond.instanceMethod yX1_targetOf ∈ pWW := pw4 (List.mem_of_getElem? (i := 157) rfl) rfl
theorem se_X1_targetOf : Cond.selects RX1 yX1_targetOf yX1_targetOf ∈ pWW := pw4 (List.mem_of_getElem? (i := 158) rfl) rfl
theorem dX1_targetOf_0 : decode cX1_targetOf 0 = .ok (.aload_n 0, 1) := by decide +kernel
theorem dX1_targetOf_1 : decode cX1_targetOf 1 = .ok (.iload_n 1, 1) := by decide +kernel
theorem dX1_targetOf_2 : decode cX1_targetOf 2 = .ok (.invokevirtual 97, 3) := by decide +kernel
theorem dX1_targetOf_5 : decode cX1_targetOf 5 = .ok (.istore_n 2, 1) := by decide +kernel
theorem dX1_targetOf_6 : decode cX1_targetOf 6 = .ok (.iload_n 2, 1) := by decide +kernel
theorem dX1_targetOf_7 : decode cX1_targetOf 7 = .ok (.bipush 8, 2) := by decide +kernel
theorem dX1_targetOf_9 : decode cX1_targetOf 9 = .ok (.if_icmp .eq 9, 3) := by decide +kernel
theorem dX1_targetOf_18 : decode cX1_targetOf 18 = .ok (.aload_n 0, 1) := by decide +kernel
theorem dX1_targetOf_19 : decode cX1_targetOf 19 = .ok (.iload_n 1, 1) := by decide +kernel
theorem dX1_targetOf_20 : decode cX1_targetOf 20 = .ok (.bipush 12, 2) := by decide +kernel
theorem dX1_targetOf_22 : decode cX1_targetOf 22 = .ok (.invokevirtual 86, 3) := by decide +kernel
theorem dX1_targetOf_25 : decode cX1_targetOf 25 = .ok (.goto 4, 3) := by decide +kernel
theorem dX1_targetOf_29 : decode cX1_targetOf 29 = .ok (.ireturn, 1) := by decide +kernel
theorem dX1_targetOf_12 : decode cX1_targetOf 12 = .ok (.iload_n 2, 1) := by decide +kernel
theorem dX1_targetOf_13 : decode cX1_targetOf 13 = .ok (.bipush 9, 2) := by decide +kernel
theorem dX1_targetOf_15 : decode cX1_targetOf 15 = .ok (.if_icmp .ne 13, 3) := by decide +kernel
theorem dX1_targetOf_28 : decode cX1_targetOf 28 = .ok (.iconst (-1), 1) := by decide +kernel
set_option maxHeartbeats 4000000 in
set_option maxRecDepth 20000 in
theorem k_X1_targetOf (d : Nat) {T : CT} {σ : MS} {a : Nat} {k : Int} (ha : OB T a 1) (h_k : -2147483648 ≤ k ∧ k ≤ 2147483647) (hw : WT T σ) : Tn (d + 2) m_X1_targetOf 0 T σ [(0, .ref a), (1, .int (iI k))] [] (fun ro σ2 => ∃ v : Int, ro = some (.int (iI v)) ∧ σ = σ2 ∧ (-2147483648 ≤ v ∧ v ≤ 2147483647)) := by
  refine tn_aload_n dX1_targetOf_0 rfl 0 rfl ?_
  refine tn_iload_n dX1_targetOf_1 rfl 1 rfl ?_
  refine tn_callV (M := m_X1_targetOf) (pc := 2) (ix := 97) (ci := 1) (M' := m_X1_kindAt) (As := [.int (iI k)]) (rest := []) dX1_targetOf_2 ok_X1_kindAt im_X1_kindAt se_X1_kindAt ml1_97 np_X1_kindAt rfl rfl ha rfl (Nat.le_of_ble_eq_true rfl) (Nat.le_of_ble_eq_true rfl) rfl (k_X1_kindAt (d) (T := T) (σ := σ) (a := a) (k := k) ha (by omega) hw ) (fun r1 σ2 hp => ?_)
  obtain ⟨v4, rfl, rfl, f3⟩ := hp
  show Tn _ _ 5 T σ [(0, .ref a), (1, .int (iI k))] [.int (iI v4)] _
  refine tn_istore_n (L' := [(2, .int (iI v4)), (0, .ref a), (1, .int (iI k))]) dX1_targetOf_5 rfl (by decide) rfl ?_
  refine tn_iload_n dX1_targetOf_6 rfl 0 rfl ?_
  refine tn_bipush dX1_targetOf_7 (by decide) ?_
  refine tn_icmp_eq (tgt := 18) dX1_targetOf_9 (by decide) ⟨by omega, by omega⟩ ⟨by decide, by decide⟩ (fun h5 => ?_) (fun h5 => ?_)
  · refine tn_aload_n dX1_targetOf_18 rfl 1 rfl ?_
    refine tn_iload_n dX1_targetOf_19 rfl 2 rfl ?_
    refine tn_bipush dX1_targetOf_20 (by decide) ?_
    refine tn_callV (M := m_X1_targetOf) (pc := 22) (ix := 86) (ci := 1) (M' := m_X1_get) (As := [.int (iI k), .int (iI 12)]) (rest := []) dX1_targetOf_22 ok_X1_get im_X1_get se_X1_get ml1_86 np_X1_get rfl rfl ha rfl (Nat.le_of_ble_eq_true rfl) (Nat.le_of_ble_eq_true rfl) rfl (k_X1_get (d) (T := T) (σ := σ) (a := a) (k := k) (c := 12) ha (by omega) (by decide) hw ) (fun r6 σ7 hp => ?_)
    obtain ⟨v9, rfl, rfl, f8⟩ := hp
    show Tn _ _ 25 T σ [(2, .int (iI v4)), (0, .ref a), (1, .int (iI k))] [.int (iI v9)] _
    refine tn_goto (tgt := 29) dX1_targetOf_25 (by decide) ?_
    exact tn_iret rfl dX1_targetOf_29 ⟨_, rfl, rfl, by omega⟩
  · refine tn_iload_n dX1_targetOf_12 rfl 0 rfl ?_
    refine tn_bipush dX1_targetOf_13 (by decide) ?_
    refine tn_icmp_ne (tgt := 28) dX1_targetOf_15 (by decide) ⟨by omega, by omega⟩ ⟨by decide, by decide⟩ (fun h10 => ?_) (fun h10 => ?_)
    · refine tn_iconst dX1_targetOf_28 ?_
      exact tn_iret rfl dX1_targetOf_29 ⟨_, rfl, rfl, by omega⟩
    · refine tn_aload_n dX1_targetOf_18 rfl 1 rfl ?_
      refine tn_iload_n dX1_targetOf_19 rfl 2 rfl ?_
      refine tn_bipush dX1_targetOf_20 (by decide) ?_
      refine tn_callV (M := m_X1_targetOf) (pc := 22) (ix := 86) (ci := 1) (M' := m_X1_get) (As := [.int (iI k), .int (iI 12)]) (rest := []) dX1_targetOf_22 ok_X1_get im_X1_get se_X1_get ml1_86 np_X1_get rfl rfl ha rfl (Nat.le_of_ble_eq_true rfl) (Nat.le_of_ble_eq_true rfl) rfl (k_X1_get (d) (T := T) (σ := σ) (a := a) (k := k) (c := 12) ha (by omega) (by decide) hw ) (fun r11 σ12 hp => ?_)
      obtain ⟨v14, rfl, rfl, f13⟩ := hp
      show Tn _ _ 25 T σ [(2, .int (iI v4)), (0, .ref a), (1, .int (iI k))] [.int (iI v14)] _
      refine tn_goto (tgt := 29) dX1_targetOf_25 (by decide) ?_
      exact tn_iret rfl dX1_targetOf_29 ⟨_, rfl, rfl, by omega⟩
theorem cd_X1_fallsOn : Cond.code yX1_fallsOn cX1_fallsOn 3 (some .boolean) ∈ pWW := pw4 (List.mem_of_getElem? (i := 151) rfl) rfl
abbrev m_X1_fallsOn : MT := (yX1_fallsOn, cX1_fallsOn, 3, (some .boolean))
theorem ok_X1_fallsOn : pOk m_X1_fallsOn := ⟨⟨cd_X1_fallsOn, ini_1⟩, by decide +kernel, ⟨by decide +kernel, by decide +kernel⟩, Nat.le_of_ble_eq_true rfl⟩
theorem np_X1_fallsOn : (parseMethodDescriptor yX1_fallsOn.desc).map (fun d => d.parameters.length) = some 1 := by decide +kernel
theorem im_X1_fallsOn : Cond.instanceMethod yX1_fallsOn ∈ pWW := pw4 (List.mem_of_getElem? (i := 149) rfl) rfl
theorem se_X1_fallsOn : Cond.selects RX1 yX1_fallsOn yX1_fallsOn ∈ pWW := pw4 (List.mem_of_getElem? (i := 150) rfl) rfl
theorem dX1_fallsOn_0 : decode cX1_fallsOn 0 = .ok (.aload_n 0, 1) := by decide +kernel
theorem dX1_fallsOn_1 : decode cX1_fallsOn 1 = .ok (.iload_n 1, 1) := by decide +kernel
theorem dX1_fallsOn_2 : decode cX1_fallsOn 2 = .ok (.invokevirtual 97, 3) := by decide +kernel
theorem dX1_fallsOn_5 : decode cX1_fallsOn 5 = .ok (.istore_n 2, 1) := by decide +kernel
theorem dX1_fallsOn_6 : decode cX1_fallsOn 6 = .ok (.iload_n 2, 1) := by decide +kernel
theorem dX1_fallsOn_7 : decode cX1_fallsOn 7 = .ok (.bipush 8, 2) := by decide +kernel
theorem dX1_fallsOn_9 : decode cX1_fallsOn 9 = .ok (.if_icmp .eq 13, 3) := by decide +kernel
theorem dX1_fallsOn_22 : decode cX1_fallsOn 22 = .ok (.iconst 0, 1) := by decide +kernel
theorem dX1_fallsOn_23 : decode cX1_fallsOn 23 = .ok (.ireturn, 1) := by decide +kernel
theorem dX1_fallsOn_12 : decode cX1_fallsOn 12 = .ok (.iload_n 2, 1) := by decide +kernel
theorem dX1_fallsOn_13 : decode cX1_fallsOn 13 = .ok (.bipush 7, 2) := by decide +kernel
theorem dX1_fallsOn_15 : decode cX1_fallsOn 15 = .ok (.if_icmp .eq 7, 3) := by decide +kernel
theorem dX1_fallsOn_18 : decode cX1_fallsOn 18 = .ok (.iconst 1, 1) := by decide +kernel
theorem dX1_fallsOn_19 : decode cX1_fallsOn 19 = .ok (.goto 4, 3) := by decide +kernel
set_option maxHeartbeats 4000000 in
set_option maxRecDepth 20000 in
theorem k_X1_fallsOn (d : Nat) {T : CT} {σ : MS} {a : Nat} {k : Int} (ha : OB T a 1) (h_k : -2147483648 ≤ k ∧ k ≤ 2147483647) (hw : WT T σ) : Tn (d + 2) m_X1_fallsOn 0 T σ [(0, .ref a), (1, .int (iI k))] [] (fun ro σ2 => ∃ v : Int, ro = some (.int (iI v)) ∧ σ = σ2 ∧ (v = 0 ∨ v = 1)) := by
  refine tn_aload_n dX1_fallsOn_0 rfl 0 rfl ?_
  refine tn_iload_n dX1_fallsOn_1 rfl 1 rfl ?_
  refine tn_callV (M := m_X1_fallsOn) (pc := 2) (ix := 97) (ci := 1) (M' := m_X1_kindAt) (As := [.int (iI k)]) (rest := []) dX1_fallsOn_2 ok_X1_kindAt im_X1_kindAt se_X1_kindAt ml1_97 np_X1_kindAt rfl rfl ha rfl (Nat.le_of_ble_eq_true rfl) (Nat.le_of_ble_eq_true rfl) rfl (k_X1_kindAt (d) (T := T) (σ := σ) (a := a) (k := k) ha (by omega) hw ) (fun r1 σ2 hp => ?_)
  obtain ⟨v4, rfl, rfl, f3⟩ := hp
  show Tn _ _ 5 T σ [(0, .ref a), (1, .int (iI k))] [.int (iI v4)] _
  refine tn_istore_n (L' := [(2, .int (iI v4)), (0, .ref a), (1, .int (iI k))]) dX1_fallsOn_5 rfl (by decide) rfl ?_
  refine tn_iload_n dX1_fallsOn_6 rfl 0 rfl ?_
  refine tn_bipush dX1_fallsOn_7 (by decide) ?_
  refine tn_icmp_eq (tgt := 22) dX1_fallsOn_9 (by decide) ⟨by omega, by omega⟩ ⟨by decide, by decide⟩ (fun h5 => ?_) (fun h5 => ?_)
  · refine tn_iconst dX1_fallsOn_22 ?_
    exact tn_zret (v := 0) rfl (by decide) dX1_fallsOn_23 ⟨_, rfl, rfl, by omega⟩
  · refine tn_iload_n dX1_fallsOn_12 rfl 0 rfl ?_
    refine tn_bipush dX1_fallsOn_13 (by decide) ?_
    refine tn_icmp_eq (tgt := 22) dX1_fallsOn_15 (by decide) ⟨by omega, by omega⟩ ⟨by decide, by decide⟩ (fun h6 => ?_) (fun h6 => ?_)
    · refine tn_iconst dX1_fallsOn_22 ?_
      exact tn_zret (v := 0) rfl (by decide) dX1_fallsOn_23 ⟨_, rfl, rfl, by omega⟩
    · refine tn_iconst dX1_fallsOn_18 ?_
      refine tn_goto (tgt := 23) dX1_fallsOn_19 (by decide) ?_
      exact tn_zret (v := 1) rfl (by decide) dX1_fallsOn_23 ⟨_, rfl, rfl, by omega⟩
theorem cd_X1_leansOn : Cond.code yX1_leansOn cX1_leansOn 4 (some .boolean) ∈ pWW := pw4 (List.mem_of_getElem? (i := 147) rfl) rfl
abbrev m_X1_leansOn : MT := (yX1_leansOn, cX1_leansOn, 4, (some .boolean))
theorem ok_X1_leansOn : pOk m_X1_leansOn := ⟨⟨cd_X1_leansOn, ini_1⟩, by decide +kernel, ⟨by decide +kernel, by decide +kernel⟩, Nat.le_of_ble_eq_true rfl⟩
theorem np_X1_leansOn : (parseMethodDescriptor yX1_leansOn.desc).map (fun d => d.parameters.length) = some 2 := by decide +kernel
theorem im_X1_leansOn : Cond.instanceMethod yX1_leansOn ∈ pWW := pw4 (List.mem_of_getElem? (i := 145) rfl) rfl
theorem se_X1_leansOn : Cond.selects RX1 yX1_leansOn yX1_leansOn ∈ pWW := pw4 (List.mem_of_getElem? (i := 146) rfl) rfl
theorem dX1_leansOn_0 : decode cX1_leansOn 0 = .ok (.aload_n 0, 1) := by decide +kernel
theorem dX1_leansOn_1 : decode cX1_leansOn 1 = .ok (.iload_n 1, 1) := by decide +kernel
theorem dX1_leansOn_2 : decode cX1_leansOn 2 = .ok (.invokevirtual 97, 3) := by decide +kernel
theorem dX1_leansOn_5 : decode cX1_leansOn 5 = .ok (.bipush 12, 2) := by decide +kernel
theorem dX1_leansOn_7 : decode cX1_leansOn 7 = .ok (.if_icmp .eq 5, 3) := by decide +kernel
theorem dX1_leansOn_12 : decode cX1_leansOn 12 = .ok (.aload_n 0, 1) := by decide +kernel
theorem dX1_leansOn_13 : decode cX1_leansOn 13 = .ok (.iload_n 1, 1) := by decide +kernel
theorem dX1_leansOn_14 : decode cX1_leansOn 14 = .ok (.bipush 11, 2) := by decide +kernel
theorem dX1_leansOn_16 : decode cX1_leansOn 16 = .ok (.invokevirtual 86, 3) := by decide +kernel
theorem dX1_leansOn_19 : decode cX1_leansOn 19 = .ok (.istore_n 3, 1) := by decide +kernel
theorem dX1_leansOn_20 : decode cX1_leansOn 20 = .ok (.iload_n 3, 1) := by decide +kernel
theorem dX1_leansOn_21 : decode cX1_leansOn 21 = .ok (.iconst 2, 1) := by decide +kernel
theorem dX1_leansOn_22 : decode cX1_leansOn 22 = .ok (.if_icmp .ne 19, 3) := by decide +kernel
theorem dX1_leansOn_41 : decode cX1_leansOn 41 = .ok (.aload_n 0, 1) := by decide +kernel
theorem dX1_leansOn_42 : decode cX1_leansOn 42 = .ok (.iload_n 1, 1) := by decide +kernel
theorem dX1_leansOn_43 : decode cX1_leansOn 43 = .ok (.iconst 3, 1) := by decide +kernel
theorem dX1_leansOn_44 : decode cX1_leansOn 44 = .ok (.invokevirtual 86, 3) := by decide +kernel
theorem dX1_leansOn_47 : decode cX1_leansOn 47 = .ok (.iconst 2, 1) := by decide +kernel
theorem dX1_leansOn_48 : decode cX1_leansOn 48 = .ok (.if_icmp .ne 13, 3) := by decide +kernel
theorem dX1_leansOn_61 : decode cX1_leansOn 61 = .ok (.aload_n 0, 1) := by decide +kernel
theorem dX1_leansOn_62 : decode cX1_leansOn 62 = .ok (.iload_n 1, 1) := by decide +kernel
theorem dX1_leansOn_63 : decode cX1_leansOn 63 = .ok (.iconst 5, 1) := by decide +kernel
theorem dX1_leansOn_64 : decode cX1_leansOn 64 = .ok (.invokevirtual 86, 3) := by decide +kernel
theorem dX1_leansOn_67 : decode cX1_leansOn 67 = .ok (.iconst 2, 1) := by decide +kernel
theorem dX1_leansOn_68 : decode cX1_leansOn 68 = .ok (.if_icmp .ne 18, 3) := by decide +kernel
theorem dX1_leansOn_86 : decode cX1_leansOn 86 = .ok (.iconst 0, 1) := by decide +kernel
theorem dX1_leansOn_87 : decode cX1_leansOn 87 = .ok (.ireturn, 1) := by decide +kernel
theorem dX1_leansOn_71 : decode cX1_leansOn 71 = .ok (.aload_n 0, 1) := by decide +kernel
theorem dX1_leansOn_72 : decode cX1_leansOn 72 = .ok (.iload_n 1, 1) := by decide +kernel
theorem dX1_leansOn_73 : decode cX1_leansOn 73 = .ok (.bipush 6, 2) := by decide +kernel
theorem dX1_leansOn_75 : decode cX1_leansOn 75 = .ok (.invokevirtual 86, 3) := by decide +kernel
theorem dX1_leansOn_78 : decode cX1_leansOn 78 = .ok (.iload_n 2, 1) := by decide +kernel
theorem dX1_leansOn_79 : decode cX1_leansOn 79 = .ok (.if_icmp .ne 7, 3) := by decide +kernel
theorem dX1_leansOn_82 : decode cX1_leansOn 82 = .ok (.iconst 1, 1) := by decide +kernel
theorem dX1_leansOn_83 : decode cX1_leansOn 83 = .ok (.goto 4, 3) := by decide +kernel
theorem dX1_leansOn_51 : decode cX1_leansOn 51 = .ok (.aload_n 0, 1) := by decide +kernel
theorem dX1_leansOn_52 : decode cX1_leansOn 52 = .ok (.iload_n 1, 1) := by decide +kernel
theorem dX1_leansOn_53 : decode cX1_leansOn 53 = .ok (.iconst 4, 1) := by decide +kernel
theorem dX1_leansOn_54 : decode cX1_leansOn 54 = .ok (.invokevirtual 86, 3) := by decide +kernel
theorem dX1_leansOn_57 : decode cX1_leansOn 57 = .ok (.iload_n 2, 1) := by decide +kernel
theorem dX1_leansOn_58 : decode cX1_leansOn 58 = .ok (.if_icmp .eq 24, 3) := by decide +kernel
theorem dX1_leansOn_25 : decode cX1_leansOn 25 = .ok (.aload_n 0, 1) := by decide +kernel
theorem dX1_leansOn_26 : decode cX1_leansOn 26 = .ok (.iload_n 1, 1) := by decide +kernel
theorem dX1_leansOn_27 : decode cX1_leansOn 27 = .ok (.iconst 4, 1) := by decide +kernel
theorem dX1_leansOn_28 : decode cX1_leansOn 28 = .ok (.invokevirtual 86, 3) := by decide +kernel
theorem dX1_leansOn_31 : decode cX1_leansOn 31 = .ok (.iload_n 2, 1) := by decide +kernel
theorem dX1_leansOn_32 : decode cX1_leansOn 32 = .ok (.if_icmp .ne 7, 3) := by decide +kernel
theorem dX1_leansOn_39 : decode cX1_leansOn 39 = .ok (.iconst 0, 1) := by decide +kernel
theorem dX1_leansOn_40 : decode cX1_leansOn 40 = .ok (.ireturn, 1) := by decide +kernel
theorem dX1_leansOn_35 : decode cX1_leansOn 35 = .ok (.iconst 1, 1) := by decide +kernel
theorem dX1_leansOn_36 : decode cX1_leansOn 36 = .ok (.goto 4, 3) := by decide +kernel
theorem dX1_leansOn_10 : decode cX1_leansOn 10 = .ok (.iconst 0, 1) := by decide +kernel
theorem dX1_leansOn_11 : decode cX1_leansOn 11 = .ok (.ireturn, 1) := by decide +kernel
set_option maxHeartbeats 4000000 in
set_option maxRecDepth 20000 in
theorem k_X1_leansOn (d : Nat) {T : CT} {σ : MS} {a : Nat} {k : Int} {r : Int} (ha : OB T a 1) (h_k : -2147483648 ≤ k ∧ k ≤ 2147483647) (h_r : -2147483648 ≤ r ∧ r ≤ 2147483647) (hw : WT T σ) : Tn (d + 2) m_X1_leansOn 0 T σ [(0, .ref a), (1, .int (iI k)), (2, .int (iI r))] [] (fun ro σ2 => ∃ v : Int, ro = some (.int (iI v)) ∧ σ = σ2 ∧ (v = 0 ∨ v = 1)) := by
  refine tn_aload_n dX1_leansOn_0 rfl 0 rfl ?_
  refine tn_iload_n dX1_leansOn_1 rfl 1 rfl ?_
  refine tn_callV (M := m_X1_leansOn) (pc := 2) (ix := 97) (ci := 1) (M' := m_X1_kindAt) (As := [.int (iI k)]) (rest := []) dX1_leansOn_2 ok_X1_kindAt im_X1_kindAt se_X1_kindAt ml1_97 np_X1_kindAt rfl rfl ha rfl (Nat.le_of_ble_eq_true rfl) (Nat.le_of_ble_eq_true rfl) rfl (k_X1_kindAt (d) (T := T) (σ := σ) (a := a) (k := k) ha (by omega) hw ) (fun r1 σ2 hp => ?_)
  obtain ⟨v4, rfl, rfl, f3⟩ := hp
  show Tn _ _ 5 T σ [(0, .ref a), (1, .int (iI k)), (2, .int (iI r))] [.int (iI v4)] _
  refine tn_bipush dX1_leansOn_5 (by decide) ?_
  refine tn_icmp_eq (tgt := 12) dX1_leansOn_7 (by decide) ⟨by omega, by omega⟩ ⟨by decide, by decide⟩ (fun h5 => ?_) (fun h5 => ?_)
  · refine tn_aload_n dX1_leansOn_12 rfl 0 rfl ?_
    refine tn_iload_n dX1_leansOn_13 rfl 1 rfl ?_
    refine tn_bipush dX1_leansOn_14 (by decide) ?_
    refine tn_callV (M := m_X1_leansOn) (pc := 16) (ix := 86) (ci := 1) (M' := m_X1_get) (As := [.int (iI k), .int (iI 11)]) (rest := []) dX1_leansOn_16 ok_X1_get im_X1_get se_X1_get ml1_86 np_X1_get rfl rfl ha rfl (Nat.le_of_ble_eq_true rfl) (Nat.le_of_ble_eq_true rfl) rfl (k_X1_get (d) (T := T) (σ := σ) (a := a) (k := k) (c := 11) ha (by omega) (by decide) hw ) (fun r6 σ7 hp => ?_)
    obtain ⟨v9, rfl, rfl, f8⟩ := hp
    show Tn _ _ 19 T σ [(0, .ref a), (1, .int (iI k)), (2, .int (iI r))] [.int (iI v9)] _
    refine tn_istore_n (L' := [(3, .int (iI v9)), (0, .ref a), (1, .int (iI k)), (2, .int (iI r))]) dX1_leansOn_19 rfl (by decide) rfl ?_
    refine tn_iload_n dX1_leansOn_20 rfl 0 rfl ?_
    refine tn_iconst dX1_leansOn_21 ?_
    refine tn_icmp_ne (tgt := 41) dX1_leansOn_22 (by decide) ⟨by omega, by omega⟩ ⟨by decide, by decide⟩ (fun h10 => ?_) (fun h10 => ?_)
    · refine tn_aload_n dX1_leansOn_41 rfl 1 rfl ?_
      refine tn_iload_n dX1_leansOn_42 rfl 2 rfl ?_
      refine tn_iconst dX1_leansOn_43 ?_
      refine tn_callV (M := m_X1_leansOn) (pc := 44) (ix := 86) (ci := 1) (M' := m_X1_get) (As := [.int (iI k), .int (iI 3)]) (rest := []) dX1_leansOn_44 ok_X1_get im_X1_get se_X1_get ml1_86 np_X1_get rfl rfl ha rfl (Nat.le_of_ble_eq_true rfl) (Nat.le_of_ble_eq_true rfl) rfl (k_X1_get (d) (T := T) (σ := σ) (a := a) (k := k) (c := 3) ha (by omega) (by decide) hw ) (fun r11 σ12 hp => ?_)
      obtain ⟨v14, rfl, rfl, f13⟩ := hp
      show Tn _ _ 47 T σ [(3, .int (iI v9)), (0, .ref a), (1, .int (iI k)), (2, .int (iI r))] [.int (iI v14)] _
      refine tn_iconst dX1_leansOn_47 ?_
      refine tn_icmp_ne (tgt := 61) dX1_leansOn_48 (by decide) ⟨by omega, by omega⟩ ⟨by decide, by decide⟩ (fun h15 => ?_) (fun h15 => ?_)
      · refine tn_aload_n dX1_leansOn_61 rfl 1 rfl ?_
        refine tn_iload_n dX1_leansOn_62 rfl 2 rfl ?_
        refine tn_iconst dX1_leansOn_63 ?_
        refine tn_callV (M := m_X1_leansOn) (pc := 64) (ix := 86) (ci := 1) (M' := m_X1_get) (As := [.int (iI k), .int (iI 5)]) (rest := []) dX1_leansOn_64 ok_X1_get im_X1_get se_X1_get ml1_86 np_X1_get rfl rfl ha rfl (Nat.le_of_ble_eq_true rfl) (Nat.le_of_ble_eq_true rfl) rfl (k_X1_get (d) (T := T) (σ := σ) (a := a) (k := k) (c := 5) ha (by omega) (by decide) hw ) (fun r16 σ17 hp => ?_)
        obtain ⟨v19, rfl, rfl, f18⟩ := hp
        show Tn _ _ 67 T σ [(3, .int (iI v9)), (0, .ref a), (1, .int (iI k)), (2, .int (iI r))] [.int (iI v19)] _
        refine tn_iconst dX1_leansOn_67 ?_
        refine tn_icmp_ne (tgt := 86) dX1_leansOn_68 (by decide) ⟨by omega, by omega⟩ ⟨by decide, by decide⟩ (fun h20 => ?_) (fun h20 => ?_)
        · refine tn_iconst dX1_leansOn_86 ?_
          exact tn_zret (v := 0) rfl (by decide) dX1_leansOn_87 ⟨_, rfl, rfl, by omega⟩
        · refine tn_aload_n dX1_leansOn_71 rfl 1 rfl ?_
          refine tn_iload_n dX1_leansOn_72 rfl 2 rfl ?_
          refine tn_bipush dX1_leansOn_73 (by decide) ?_
          refine tn_callV (M := m_X1_leansOn) (pc := 75) (ix := 86) (ci := 1) (M' := m_X1_get) (As := [.int (iI k), .int (iI 6)]) (rest := []) dX1_leansOn_75 ok_X1_get im_X1_get se_X1_get ml1_86 np_X1_get rfl rfl ha rfl (Nat.le_of_ble_eq_true rfl) (Nat.le_of_ble_eq_true rfl) rfl (k_X1_get (d) (T := T) (σ := σ) (a := a) (k := k) (c := 6) ha (by omega) (by decide) hw ) (fun r21 σ22 hp => ?_)
          obtain ⟨v24, rfl, rfl, f23⟩ := hp
          show Tn _ _ 78 T σ [(3, .int (iI v9)), (0, .ref a), (1, .int (iI k)), (2, .int (iI r))] [.int (iI v24)] _
          refine tn_iload_n dX1_leansOn_78 rfl 3 rfl ?_
          refine tn_icmp_ne (tgt := 86) dX1_leansOn_79 (by decide) ⟨by omega, by omega⟩ ⟨by omega, by omega⟩ (fun h25 => ?_) (fun h25 => ?_)
          · refine tn_iconst dX1_leansOn_86 ?_
            exact tn_zret (v := 0) rfl (by decide) dX1_leansOn_87 ⟨_, rfl, rfl, by omega⟩
          · refine tn_iconst dX1_leansOn_82 ?_
            refine tn_goto (tgt := 87) dX1_leansOn_83 (by decide) ?_
            exact tn_zret (v := 1) rfl (by decide) dX1_leansOn_87 ⟨_, rfl, rfl, by omega⟩
      · refine tn_aload_n dX1_leansOn_51 rfl 1 rfl ?_
        refine tn_iload_n dX1_leansOn_52 rfl 2 rfl ?_
        refine tn_iconst dX1_leansOn_53 ?_
        refine tn_callV (M := m_X1_leansOn) (pc := 54) (ix := 86) (ci := 1) (M' := m_X1_get) (As := [.int (iI k), .int (iI 4)]) (rest := []) dX1_leansOn_54 ok_X1_get im_X1_get se_X1_get ml1_86 np_X1_get rfl rfl ha rfl (Nat.le_of_ble_eq_true rfl) (Nat.le_of_ble_eq_true rfl) rfl (k_X1_get (d) (T := T) (σ := σ) (a := a) (k := k) (c := 4) ha (by omega) (by decide) hw ) (fun r26 σ27 hp => ?_)
        obtain ⟨v29, rfl, rfl, f28⟩ := hp
        show Tn _ _ 57 T σ [(3, .int (iI v9)), (0, .ref a), (1, .int (iI k)), (2, .int (iI r))] [.int (iI v29)] _
        refine tn_iload_n dX1_leansOn_57 rfl 3 rfl ?_
        refine tn_icmp_eq (tgt := 82) dX1_leansOn_58 (by decide) ⟨by omega, by omega⟩ ⟨by omega, by omega⟩ (fun h30 => ?_) (fun h30 => ?_)
        · refine tn_iconst dX1_leansOn_82 ?_
          refine tn_goto (tgt := 87) dX1_leansOn_83 (by decide) ?_
          exact tn_zret (v := 1) rfl (by decide) dX1_leansOn_87 ⟨_, rfl, rfl, by omega⟩
        · refine tn_aload_n dX1_leansOn_61 rfl 1 rfl ?_
          refine tn_iload_n dX1_leansOn_62 rfl 2 rfl ?_
          refine tn_iconst dX1_leansOn_63 ?_
          refine tn_callV (M := m_X1_leansOn) (pc := 64) (ix := 86) (ci := 1) (M' := m_X1_get) (As := [.int (iI k), .int (iI 5)]) (rest := []) dX1_leansOn_64 ok_X1_get im_X1_get se_X1_get ml1_86 np_X1_get rfl rfl ha rfl (Nat.le_of_ble_eq_true rfl) (Nat.le_of_ble_eq_true rfl) rfl (k_X1_get (d) (T := T) (σ := σ) (a := a) (k := k) (c := 5) ha (by omega) (by decide) hw ) (fun r31 σ32 hp => ?_)
          obtain ⟨v34, rfl, rfl, f33⟩ := hp
          show Tn _ _ 67 T σ [(3, .int (iI v9)), (0, .ref a), (1, .int (iI k)), (2, .int (iI r))] [.int (iI v34)] _
          refine tn_iconst dX1_leansOn_67 ?_
          refine tn_icmp_ne (tgt := 86) dX1_leansOn_68 (by decide) ⟨by omega, by omega⟩ ⟨by decide, by decide⟩ (fun h35 => ?_) (fun h35 => ?_)
          · refine tn_iconst dX1_leansOn_86 ?_
            exact tn_zret (v := 0) rfl (by decide) dX1_leansOn_87 ⟨_, rfl, rfl, by omega⟩
          · refine tn_aload_n dX1_leansOn_71 rfl 1 rfl ?_
            refine tn_iload_n dX1_leansOn_72 rfl 2 rfl ?_
            refine tn_bipush dX1_leansOn_73 (by decide) ?_
            refine tn_callV (M := m_X1_leansOn) (pc := 75) (ix := 86) (ci := 1) (M' := m_X1_get) (As := [.int (iI k), .int (iI 6)]) (rest := []) dX1_leansOn_75 ok_X1_get im_X1_get se_X1_get ml1_86 np_X1_get rfl rfl ha rfl (Nat.le_of_ble_eq_true rfl) (Nat.le_of_ble_eq_true rfl) rfl (k_X1_get (d) (T := T) (σ := σ) (a := a) (k := k) (c := 6) ha (by omega) (by decide) hw ) (fun r36 σ37 hp => ?_)
            obtain ⟨v39, rfl, rfl, f38⟩ := hp
            show Tn _ _ 78 T σ [(3, .int (iI v9)), (0, .ref a), (1, .int (iI k)), (2, .int (iI r))] [.int (iI v39)] _
            refine tn_iload_n dX1_leansOn_78 rfl 3 rfl ?_
            refine tn_icmp_ne (tgt := 86) dX1_leansOn_79 (by decide) ⟨by omega, by omega⟩ ⟨by omega, by omega⟩ (fun h40 => ?_) (fun h40 => ?_)
            · refine tn_iconst dX1_leansOn_86 ?_
              exact tn_zret (v := 0) rfl (by decide) dX1_leansOn_87 ⟨_, rfl, rfl, by omega⟩
            · refine tn_iconst dX1_leansOn_82 ?_
              refine tn_goto (tgt := 87) dX1_leansOn_83 (by decide) ?_
              exact tn_zret (v := 1) rfl (by decide) dX1_leansOn_87 ⟨_, rfl, rfl, by omega⟩
    · refine tn_aload_n dX1_leansOn_25 rfl 1 rfl ?_
      refine tn_iload_n dX1_leansOn_26 rfl 2 rfl ?_
      refine tn_iconst dX1_leansOn_27 ?_
      refine tn_callV (M := m_X1_leansOn) (pc := 28) (ix := 86) (ci := 1) (M' := m_X1_get) (As := [.int (iI k), .int (iI 4)]) (rest := []) dX1_leansOn_28 ok_X1_get im_X1_get se_X1_get ml1_86 np_X1_get rfl rfl ha rfl (Nat.le_of_ble_eq_true rfl) (Nat.le_of_ble_eq_true rfl) rfl (k_X1_get (d) (T := T) (σ := σ) (a := a) (k := k) (c := 4) ha (by omega) (by decide) hw ) (fun r41 σ42 hp => ?_)
      obtain ⟨v44, rfl, rfl, f43⟩ := hp
      show Tn _ _ 31 T σ [(3, .int (iI v9)), (0, .ref a), (1, .int (iI k)), (2, .int (iI r))] [.int (iI v44)] _
      refine tn_iload_n dX1_leansOn_31 rfl 3 rfl ?_
      refine tn_icmp_ne (tgt := 39) dX1_leansOn_32 (by decide) ⟨by omega, by omega⟩ ⟨by omega, by omega⟩ (fun h45 => ?_) (fun h45 => ?_)
      · refine tn_iconst dX1_leansOn_39 ?_
        exact tn_zret (v := 0) rfl (by decide) dX1_leansOn_40 ⟨_, rfl, rfl, by omega⟩
      · refine tn_iconst dX1_leansOn_35 ?_
        refine tn_goto (tgt := 40) dX1_leansOn_36 (by decide) ?_
        exact tn_zret (v := 1) rfl (by decide) dX1_leansOn_40 ⟨_, rfl, rfl, by omega⟩
  · refine tn_iconst dX1_leansOn_10 ?_
    exact tn_zret (v := 0) rfl (by decide) dX1_leansOn_11 ⟨_, rfl, rfl, by omega⟩
theorem cd_X1_setWhere : Cond.code yX1_setWhere cX1_setWhere 4 none ∈ pWW := pw3 (List.mem_of_getElem? (i := 201) rfl) rfl
abbrev m_X1_setWhere : MT := (yX1_setWhere, cX1_setWhere, 4, none)
theorem ok_X1_setWhere : pOk m_X1_setWhere := ⟨⟨cd_X1_setWhere, ini_1⟩, by decide +kernel, ⟨by decide +kernel, by decide +kernel⟩, Nat.le_of_ble_eq_true rfl⟩
theorem np_X1_setWhere : (parseMethodDescriptor yX1_setWhere.desc).map (fun d => d.parameters.length) = some 3 := by decide +kernel
theorem im_X1_setWhere : Cond.instanceMethod yX1_setWhere ∈ pWW := pw3 (List.mem_of_getElem? (i := 199) rfl) rfl
theorem se_X1_setWhere : Cond.selects RX1 yX1_setWhere yX1_setWhere ∈ pWW := pw3 (List.mem_of_getElem? (i := 200) rfl) rfl
theorem ml1_93 : Cond.methodLink RX1 93 yX1_set ∈ pWW := pw3 (List.mem_of_getElem? (i := 202) rfl) rfl
theorem dX1_setWhere_0 : decode cX1_setWhere 0 = .ok (.aload_n 0, 1) := by decide +kernel
theorem dX1_setWhere_1 : decode cX1_setWhere 1 = .ok (.iload_n 1, 1) := by decide +kernel
theorem dX1_setWhere_2 : decode cX1_setWhere 2 = .ok (.bipush 11, 2) := by decide +kernel
theorem dX1_setWhere_4 : decode cX1_setWhere 4 = .ok (.iload_n 2, 1) := by decide +kernel
theorem dX1_setWhere_5 : decode cX1_setWhere 5 = .ok (.invokevirtual 93, 3) := by decide +kernel
theorem dX1_setWhere_8 : decode cX1_setWhere 8 = .ok (.aload_n 0, 1) := by decide +kernel
theorem dX1_setWhere_9 : decode cX1_setWhere 9 = .ok (.iload_n 1, 1) := by decide +kernel
theorem dX1_setWhere_10 : decode cX1_setWhere 10 = .ok (.iconst 3, 1) := by decide +kernel
theorem dX1_setWhere_11 : decode cX1_setWhere 11 = .ok (.iconst 0, 1) := by decide +kernel
theorem dX1_setWhere_12 : decode cX1_setWhere 12 = .ok (.invokevirtual 93, 3) := by decide +kernel
theorem dX1_setWhere_15 : decode cX1_setWhere 15 = .ok (.aload_n 0, 1) := by decide +kernel
theorem dX1_setWhere_16 : decode cX1_setWhere 16 = .ok (.iload_n 1, 1) := by decide +kernel
theorem dX1_setWhere_17 : decode cX1_setWhere 17 = .ok (.iconst 4, 1) := by decide +kernel
theorem dX1_setWhere_18 : decode cX1_setWhere 18 = .ok (.iload_n 3, 1) := by decide +kernel
theorem dX1_setWhere_19 : decode cX1_setWhere 19 = .ok (.invokevirtual 93, 3) := by decide +kernel
theorem dX1_setWhere_22 : decode cX1_setWhere 22 = .ok (.aload_n 0, 1) := by decide +kernel
theorem dX1_setWhere_23 : decode cX1_setWhere 23 = .ok (.iload_n 1, 1) := by decide +kernel
theorem dX1_setWhere_24 : decode cX1_setWhere 24 = .ok (.iconst 5, 1) := by decide +kernel
theorem dX1_setWhere_25 : decode cX1_setWhere 25 = .ok (.iconst 0, 1) := by decide +kernel
theorem dX1_setWhere_26 : decode cX1_setWhere 26 = .ok (.invokevirtual 93, 3) := by decide +kernel
theorem dX1_setWhere_29 : decode cX1_setWhere 29 = .ok (.aload_n 0, 1) := by decide +kernel
theorem dX1_setWhere_30 : decode cX1_setWhere 30 = .ok (.iload_n 1, 1) := by decide +kernel
theorem dX1_setWhere_31 : decode cX1_setWhere 31 = .ok (.bipush 6, 2) := by decide +kernel
theorem dX1_setWhere_33 : decode cX1_setWhere 33 = .ok (.iconst 0, 1) := by decide +kernel
theorem dX1_setWhere_34 : decode cX1_setWhere 34 = .ok (.invokevirtual 93, 3) := by decide +kernel
theorem dX1_setWhere_37 : decode cX1_setWhere 37 = .ok (.return_, 1) := by decide +kernel
set_option maxHeartbeats 4000000 in
set_option maxRecDepth 20000 in
theorem k_X1_setWhere (d : Nat) {T : CT} {σ : MS} {a : Nat} {k : Int} {y : Int} {z : Int} (ha : OB T a 1) (h_k : -2147483648 ≤ k ∧ k ≤ 2147483647) (h_y : -2147483648 ≤ y ∧ y ≤ 2147483647) (h_z : -2147483648 ≤ z ∧ z ≤ 2147483647) (hw : WT T σ) : Tn (d + 2) m_X1_setWhere 0 T σ [(0, .ref a), (1, .int (iI k)), (2, .int (iI y)), (3, .int (iI z))] [] (fun ro σ2 => ro = none ∧ WT T σ2 ∧ FrC [] σ σ2) := by
  refine tn_aload_n dX1_setWhere_0 rfl 0 rfl ?_
  refine tn_iload_n dX1_setWhere_1 rfl 1 rfl ?_
  refine tn_bipush dX1_setWhere_2 (by decide) ?_
  refine tn_iload_n dX1_setWhere_4 rfl 2 rfl ?_
  refine tn_callV (M := m_X1_setWhere) (pc := 5) (ix := 93) (ci := 1) (M' := m_X1_set) (As := [.int (iI k), .int (iI 11), .int (iI y)]) (rest := []) dX1_setWhere_5 ok_X1_set im_X1_set se_X1_set ml1_93 np_X1_set rfl rfl ha rfl (Nat.le_of_ble_eq_true rfl) (Nat.le_of_ble_eq_true rfl) rfl (k_X1_set (d) (T := T) (σ := σ) (a := a) (k := k) (c := 11) (y := y) ha (by omega) (by decide) (by omega) hw ) (fun r1 σ2 hp => ?_)
  obtain ⟨rfl, w4, F5⟩ := hp
  show Tn _ _ 8 T σ2 [(0, .ref a), (1, .int (iI k)), (2, .int (iI y)), (3, .int (iI z))] [] _
  refine tn_aload_n dX1_setWhere_8 rfl 0 rfl ?_
  refine tn_iload_n dX1_setWhere_9 rfl 1 rfl ?_
  refine tn_iconst dX1_setWhere_10 ?_
  refine tn_iconst dX1_setWhere_11 ?_
  refine tn_callV (M := m_X1_setWhere) (pc := 12) (ix := 93) (ci := 1) (M' := m_X1_set) (As := [.int (iI k), .int (iI 3), .int (iI 0)]) (rest := []) dX1_setWhere_12 ok_X1_set im_X1_set se_X1_set ml1_93 np_X1_set rfl rfl ha rfl (Nat.le_of_ble_eq_true rfl) (Nat.le_of_ble_eq_true rfl) rfl (k_X1_set (d) (T := T) (σ := σ2) (a := a) (k := k) (c := 3) (y := 0) ha (by omega) (by decide) (by decide) w4 ) (fun r6 σ7 hp => ?_)
  obtain ⟨rfl, w9, F10⟩ := hp
  show Tn _ _ 15 T σ7 [(0, .ref a), (1, .int (iI k)), (2, .int (iI y)), (3, .int (iI z))] [] _
  refine tn_aload_n dX1_setWhere_15 rfl 0 rfl ?_
  refine tn_iload_n dX1_setWhere_16 rfl 1 rfl ?_
  refine tn_iconst dX1_setWhere_17 ?_
  refine tn_iload_n dX1_setWhere_18 rfl 3 rfl ?_
  refine tn_callV (M := m_X1_setWhere) (pc := 19) (ix := 93) (ci := 1) (M' := m_X1_set) (As := [.int (iI k), .int (iI 4), .int (iI z)]) (rest := []) dX1_setWhere_19 ok_X1_set im_X1_set se_X1_set ml1_93 np_X1_set rfl rfl ha rfl (Nat.le_of_ble_eq_true rfl) (Nat.le_of_ble_eq_true rfl) rfl (k_X1_set (d) (T := T) (σ := σ7) (a := a) (k := k) (c := 4) (y := z) ha (by omega) (by decide) (by omega) w9 ) (fun r11 σ12 hp => ?_)
  obtain ⟨rfl, w14, F15⟩ := hp
  show Tn _ _ 22 T σ12 [(0, .ref a), (1, .int (iI k)), (2, .int (iI y)), (3, .int (iI z))] [] _
  refine tn_aload_n dX1_setWhere_22 rfl 0 rfl ?_
  refine tn_iload_n dX1_setWhere_23 rfl 1 rfl ?_
  refine tn_iconst dX1_setWhere_24 ?_
  refine tn_iconst dX1_setWhere_25 ?_
  refine tn_callV (M := m_X1_setWhere) (pc := 26) (ix := 93) (ci := 1) (M' := m_X1_set) (As := [.int (iI k), .int (iI 5), .int (iI 0)]) (rest := []) dX1_setWhere_26 ok_X1_set im_X1_set se_X1_set ml1_93 np_X1_set rfl rfl ha rfl (Nat.le_of_ble_eq_true rfl) (Nat.le_of_ble_eq_true rfl) rfl (k_X1_set (d) (T := T) (σ := σ12) (a := a) (k := k) (c := 5) (y := 0) ha (by omega) (by decide) (by decide) w14 ) (fun r16 σ17 hp => ?_)
  obtain ⟨rfl, w19, F20⟩ := hp
  show Tn _ _ 29 T σ17 [(0, .ref a), (1, .int (iI k)), (2, .int (iI y)), (3, .int (iI z))] [] _
  refine tn_aload_n dX1_setWhere_29 rfl 0 rfl ?_
  refine tn_iload_n dX1_setWhere_30 rfl 1 rfl ?_
  refine tn_bipush dX1_setWhere_31 (by decide) ?_
  refine tn_iconst dX1_setWhere_33 ?_
  refine tn_callV (M := m_X1_setWhere) (pc := 34) (ix := 93) (ci := 1) (M' := m_X1_set) (As := [.int (iI k), .int (iI 6), .int (iI 0)]) (rest := []) dX1_setWhere_34 ok_X1_set im_X1_set se_X1_set ml1_93 np_X1_set rfl rfl ha rfl (Nat.le_of_ble_eq_true rfl) (Nat.le_of_ble_eq_true rfl) rfl (k_X1_set (d) (T := T) (σ := σ17) (a := a) (k := k) (c := 6) (y := 0) ha (by omega) (by decide) (by decide) w19 ) (fun r21 σ22 hp => ?_)
  obtain ⟨rfl, w24, F25⟩ := hp
  show Tn _ _ 37 T σ22 [(0, .ref a), (1, .int (iI k)), (2, .int (iI y)), (3, .int (iI z))] [] _
  exact tn_vret rfl dX1_setWhere_37 ⟨rfl, w24, (((((FrC.rfl.trans (FrC.sub F5 (by decide))).trans (FrC.sub F10 (by decide))).trans (FrC.sub F15 (by decide))).trans (FrC.sub F20 (by decide))).trans (FrC.sub F25 (by decide)))⟩
theorem cd_X1_becomeCopy : Cond.code yX1_becomeCopy cX1_becomeCopy 4 none ∈ pWW := pw4 (List.mem_of_getElem? (i := 215) rfl) rfl
abbrev m_X1_becomeCopy : MT := (yX1_becomeCopy, cX1_becomeCopy, 4, none)
theorem ok_X1_becomeCopy : pOk m_X1_becomeCopy := ⟨⟨cd_X1_becomeCopy, ini_1⟩, by decide +kernel, ⟨by decide +kernel, by decide +kernel⟩, Nat.le_of_ble_eq_true rfl⟩
theorem np_X1_becomeCopy : (parseMethodDescriptor yX1_becomeCopy.desc).map (fun d => d.parameters.length) = some 3 := by decide +kernel
theorem im_X1_becomeCopy : Cond.instanceMethod yX1_becomeCopy ∈ pWW := pw4 (List.mem_of_getElem? (i := 213) rfl) rfl
theorem se_X1_becomeCopy : Cond.selects RX1 yX1_becomeCopy yX1_becomeCopy ∈ pWW := pw4 (List.mem_of_getElem? (i := 214) rfl) rfl
theorem dX1_becomeCopy_0 : decode cX1_becomeCopy 0 = .ok (.aload_n 0, 1) := by decide +kernel
theorem dX1_becomeCopy_1 : decode cX1_becomeCopy 1 = .ok (.iload_n 1, 1) := by decide +kernel
theorem dX1_becomeCopy_2 : decode cX1_becomeCopy 2 = .ok (.iconst 0, 1) := by decide +kernel
theorem dX1_becomeCopy_3 : decode cX1_becomeCopy 3 = .ok (.iconst 0, 1) := by decide +kernel
theorem dX1_becomeCopy_4 : decode cX1_becomeCopy 4 = .ok (.invokevirtual 93, 3) := by decide +kernel
theorem dX1_becomeCopy_7 : decode cX1_becomeCopy 7 = .ok (.aload_n 0, 1) := by decide +kernel
theorem dX1_becomeCopy_8 : decode cX1_becomeCopy 8 = .ok (.iload_n 1, 1) := by decide +kernel
theorem dX1_becomeCopy_9 : decode cX1_becomeCopy 9 = .ok (.iconst 3, 1) := by decide +kernel
theorem dX1_becomeCopy_10 : decode cX1_becomeCopy 10 = .ok (.iload_n 2, 1) := by decide +kernel
theorem dX1_becomeCopy_11 : decode cX1_becomeCopy 11 = .ok (.invokevirtual 93, 3) := by decide +kernel
theorem dX1_becomeCopy_14 : decode cX1_becomeCopy 14 = .ok (.aload_n 0, 1) := by decide +kernel
theorem dX1_becomeCopy_15 : decode cX1_becomeCopy 15 = .ok (.iload_n 1, 1) := by decide +kernel
theorem dX1_becomeCopy_16 : decode cX1_becomeCopy 16 = .ok (.iconst 4, 1) := by decide +kernel
theorem dX1_becomeCopy_17 : decode cX1_becomeCopy 17 = .ok (.iload_n 3, 1) := by decide +kernel
theorem dX1_becomeCopy_18 : decode cX1_becomeCopy 18 = .ok (.invokevirtual 93, 3) := by decide +kernel
theorem dX1_becomeCopy_21 : decode cX1_becomeCopy 21 = .ok (.aload_n 0, 1) := by decide +kernel
theorem dX1_becomeCopy_22 : decode cX1_becomeCopy 22 = .ok (.iload_n 1, 1) := by decide +kernel
theorem dX1_becomeCopy_23 : decode cX1_becomeCopy 23 = .ok (.iconst 5, 1) := by decide +kernel
theorem dX1_becomeCopy_24 : decode cX1_becomeCopy 24 = .ok (.iconst 0, 1) := by decide +kernel
theorem dX1_becomeCopy_25 : decode cX1_becomeCopy 25 = .ok (.invokevirtual 93, 3) := by decide +kernel
theorem dX1_becomeCopy_28 : decode cX1_becomeCopy 28 = .ok (.aload_n 0, 1) := by decide +kernel
theorem dX1_becomeCopy_29 : decode cX1_becomeCopy 29 = .ok (.iload_n 1, 1) := by decide +kernel
theorem dX1_becomeCopy_30 : decode cX1_becomeCopy 30 = .ok (.bipush 6, 2) := by decide +kernel
theorem dX1_becomeCopy_32 : decode cX1_becomeCopy 32 = .ok (.iconst 0, 1) := by decide +kernel
theorem dX1_becomeCopy_33 : decode cX1_becomeCopy 33 = .ok (.invokevirtual 93, 3) := by decide +kernel
theorem dX1_becomeCopy_36 : decode cX1_becomeCopy 36 = .ok (.return_, 1) := by decide +kernel
set_option maxHeartbeats 4000000 in
set_option maxRecDepth 20000 in
theorem k_X1_becomeCopy (d : Nat) {T : CT} {σ : MS} {a : Nat} {k : Int} {y : Int} {z : Int} (ha : OB T a 1) (h_k : -2147483648 ≤ k ∧ k ≤ 2147483647) (h_y : -2147483648 ≤ y ∧ y ≤ 2147483647) (h_z : -2147483648 ≤ z ∧ z ≤ 2147483647) (hw : WT T σ) : Tn (d + 2) m_X1_becomeCopy 0 T σ [(0, .ref a), (1, .int (iI k)), (2, .int (iI y)), (3, .int (iI z))] [] (fun ro σ2 => ro = none ∧ WT T σ2 ∧ FrC [] σ σ2) := by
  refine tn_aload_n dX1_becomeCopy_0 rfl 0 rfl ?_
  refine tn_iload_n dX1_becomeCopy_1 rfl 1 rfl ?_
  refine tn_iconst dX1_becomeCopy_2 ?_
  refine tn_iconst dX1_becomeCopy_3 ?_
  refine tn_callV (M := m_X1_becomeCopy) (pc := 4) (ix := 93) (ci := 1) (M' := m_X1_set) (As := [.int (iI k), .int (iI 0), .int (iI 0)]) (rest := []) dX1_becomeCopy_4 ok_X1_set im_X1_set se_X1_set ml1_93 np_X1_set rfl rfl ha rfl (Nat.le_of_ble_eq_true rfl) (Nat.le_of_ble_eq_true rfl) rfl (k_X1_set (d) (T := T) (σ := σ) (a := a) (k := k) (c := 0) (y := 0) ha (by omega) (by decide) (by decide) hw ) (fun r1 σ2 hp => ?_)
  obtain ⟨rfl, w4, F5⟩ := hp
  show Tn _ _ 7 T σ2 [(0, .ref a), (1, .int (iI k)), (2, .int (iI y)), (3, .int (iI z))] [] _
  refine tn_aload_n dX1_becomeCopy_7 rfl 0 rfl ?_
  refine tn_iload_n dX1_becomeCopy_8 rfl 1 rfl ?_
  refine tn_iconst dX1_becomeCopy_9 ?_
  refine tn_iload_n dX1_becomeCopy_10 rfl 2 rfl ?_
  refine tn_callV (M := m_X1_becomeCopy) (pc := 11) (ix := 93) (ci := 1) (M' := m_X1_set) (As := [.int (iI k), .int (iI 3), .int (iI y)]) (rest := []) dX1_becomeCopy_11 ok_X1_set im_X1_set se_X1_set ml1_93 np_X1_set rfl rfl ha rfl (Nat.le_of_ble_eq_true rfl) (Nat.le_of_ble_eq_true rfl) rfl (k_X1_set (d) (T := T) (σ := σ2) (a := a) (k := k) (c := 3) (y := y) ha (by omega) (by decide) (by omega) w4 ) (fun r6 σ7 hp => ?_)
  obtain ⟨rfl, w9, F10⟩ := hp
  show Tn _ _ 14 T σ7 [(0, .ref a), (1, .int (iI k)), (2, .int (iI y)), (3, .int (iI z))] [] _
  refine tn_aload_n dX1_becomeCopy_14 rfl 0 rfl ?_
  refine tn_iload_n dX1_becomeCopy_15 rfl 1 rfl ?_
  refine tn_iconst dX1_becomeCopy_16 ?_
  refine tn_iload_n dX1_becomeCopy_17 rfl 3 rfl ?_
  refine tn_callV (M := m_X1_becomeCopy) (pc := 18) (ix := 93) (ci := 1) (M' := m_X1_set) (As := [.int (iI k), .int (iI 4), .int (iI z)]) (rest := []) dX1_becomeCopy_18 ok_X1_set im_X1_set se_X1_set ml1_93 np_X1_set rfl rfl ha rfl (Nat.le_of_ble_eq_true rfl) (Nat.le_of_ble_eq_true rfl) rfl (k_X1_set (d) (T := T) (σ := σ7) (a := a) (k := k) (c := 4) (y := z) ha (by omega) (by decide) (by omega) w9 ) (fun r11 σ12 hp => ?_)
  obtain ⟨rfl, w14, F15⟩ := hp
  show Tn _ _ 21 T σ12 [(0, .ref a), (1, .int (iI k)), (2, .int (iI y)), (3, .int (iI z))] [] _
  refine tn_aload_n dX1_becomeCopy_21 rfl 0 rfl ?_
  refine tn_iload_n dX1_becomeCopy_22 rfl 1 rfl ?_
  refine tn_iconst dX1_becomeCopy_23 ?_
  refine tn_iconst dX1_becomeCopy_24 ?_
  refine tn_callV (M := m_X1_becomeCopy) (pc := 25) (ix := 93) (ci := 1) (M' := m_X1_set) (As := [.int (iI k), .int (iI 5), .int (iI 0)]) (rest := []) dX1_becomeCopy_25 ok_X1_set im_X1_set se_X1_set ml1_93 np_X1_set rfl rfl ha rfl (Nat.le_of_ble_eq_true rfl) (Nat.le_of_ble_eq_true rfl) rfl (k_X1_set (d) (T := T) (σ := σ12) (a := a) (k := k) (c := 5) (y := 0) ha (by omega) (by decide) (by decide) w14 ) (fun r16 σ17 hp => ?_)
  obtain ⟨rfl, w19, F20⟩ := hp
  show Tn _ _ 28 T σ17 [(0, .ref a), (1, .int (iI k)), (2, .int (iI y)), (3, .int (iI z))] [] _
  refine tn_aload_n dX1_becomeCopy_28 rfl 0 rfl ?_
  refine tn_iload_n dX1_becomeCopy_29 rfl 1 rfl ?_
  refine tn_bipush dX1_becomeCopy_30 (by decide) ?_
  refine tn_iconst dX1_becomeCopy_32 ?_
  refine tn_callV (M := m_X1_becomeCopy) (pc := 33) (ix := 93) (ci := 1) (M' := m_X1_set) (As := [.int (iI k), .int (iI 6), .int (iI 0)]) (rest := []) dX1_becomeCopy_33 ok_X1_set im_X1_set se_X1_set ml1_93 np_X1_set rfl rfl ha rfl (Nat.le_of_ble_eq_true rfl) (Nat.le_of_ble_eq_true rfl) rfl (k_X1_set (d) (T := T) (σ := σ17) (a := a) (k := k) (c := 6) (y := 0) ha (by omega) (by decide) (by decide) w19 ) (fun r21 σ22 hp => ?_)
  obtain ⟨rfl, w24, F25⟩ := hp
  show Tn _ _ 36 T σ22 [(0, .ref a), (1, .int (iI k)), (2, .int (iI y)), (3, .int (iI z))] [] _
  exact tn_vret rfl dX1_becomeCopy_36 ⟨rfl, w24, (((((FrC.rfl.trans (FrC.sub F5 (by decide))).trans (FrC.sub F10 (by decide))).trans (FrC.sub F15 (by decide))).trans (FrC.sub F20 (by decide))).trans (FrC.sub F25 (by decide)))⟩
theorem cd_X1_sameOperands : Cond.code yX1_sameOperands cX1_sameOperands 3 (some .boolean) ∈ pWW := pw4 (List.mem_of_getElem? (i := 128) rfl) rfl
abbrev m_X1_sameOperands : MT := (yX1_sameOperands, cX1_sameOperands, 3, (some .boolean))
theorem ok_X1_sameOperands : pOk m_X1_sameOperands := ⟨⟨cd_X1_sameOperands, ini_1⟩, by decide +kernel, ⟨by decide +kernel, by decide +kernel⟩, Nat.le_of_ble_eq_true rfl⟩
theorem np_X1_sameOperands : (parseMethodDescriptor yX1_sameOperands.desc).map (fun d => d.parameters.length) = some 2 := by decide +kernel
theorem im_X1_sameOperands : Cond.instanceMethod yX1_sameOperands ∈ pWW := pw4 (List.mem_of_getElem? (i := 126) rfl) rfl
theorem se_X1_sameOperands : Cond.selects RX1 yX1_sameOperands yX1_sameOperands ∈ pWW := pw4 (List.mem_of_getElem? (i := 127) rfl) rfl
theorem dX1_sameOperands_0 : decode cX1_sameOperands 0 = .ok (.aload_n 0, 1) := by decide +kernel
theorem dX1_sameOperands_1 : decode cX1_sameOperands 1 = .ok (.iload_n 1, 1) := by decide +kernel
theorem dX1_sameOperands_2 : decode cX1_sameOperands 2 = .ok (.iconst 3, 1) := by decide +kernel
theorem dX1_sameOperands_3 : decode cX1_sameOperands 3 = .ok (.invokevirtual 86, 3) := by decide +kernel
theorem dX1_sameOperands_6 : decode cX1_sameOperands 6 = .ok (.aload_n 0, 1) := by decide +kernel
theorem dX1_sameOperands_7 : decode cX1_sameOperands 7 = .ok (.iload_n 2, 1) := by decide +kernel
theorem dX1_sameOperands_8 : decode cX1_sameOperands 8 = .ok (.iconst 3, 1) := by decide +kernel
theorem dX1_sameOperands_9 : decode cX1_sameOperands 9 = .ok (.invokevirtual 86, 3) := by decide +kernel
theorem dX1_sameOperands_12 : decode cX1_sameOperands 12 = .ok (.if_icmp .ne 54, 3) := by decide +kernel
theorem dX1_sameOperands_66 : decode cX1_sameOperands 66 = .ok (.iconst 0, 1) := by decide +kernel
theorem dX1_sameOperands_67 : decode cX1_sameOperands 67 = .ok (.ireturn, 1) := by decide +kernel
theorem dX1_sameOperands_15 : decode cX1_sameOperands 15 = .ok (.aload_n 0, 1) := by decide +kernel
theorem dX1_sameOperands_16 : decode cX1_sameOperands 16 = .ok (.iload_n 1, 1) := by decide +kernel
theorem dX1_sameOperands_17 : decode cX1_sameOperands 17 = .ok (.iconst 4, 1) := by decide +kernel
theorem dX1_sameOperands_18 : decode cX1_sameOperands 18 = .ok (.invokevirtual 86, 3) := by decide +kernel
theorem dX1_sameOperands_21 : decode cX1_sameOperands 21 = .ok (.aload_n 0, 1) := by decide +kernel
theorem dX1_sameOperands_22 : decode cX1_sameOperands 22 = .ok (.iload_n 2, 1) := by decide +kernel
theorem dX1_sameOperands_23 : decode cX1_sameOperands 23 = .ok (.iconst 4, 1) := by decide +kernel
theorem dX1_sameOperands_24 : decode cX1_sameOperands 24 = .ok (.invokevirtual 86, 3) := by decide +kernel
theorem dX1_sameOperands_27 : decode cX1_sameOperands 27 = .ok (.if_icmp .ne 39, 3) := by decide +kernel
theorem dX1_sameOperands_30 : decode cX1_sameOperands 30 = .ok (.aload_n 0, 1) := by decide +kernel
theorem dX1_sameOperands_31 : decode cX1_sameOperands 31 = .ok (.iload_n 1, 1) := by decide +kernel
theorem dX1_sameOperands_32 : decode cX1_sameOperands 32 = .ok (.iconst 5, 1) := by decide +kernel
theorem dX1_sameOperands_33 : decode cX1_sameOperands 33 = .ok (.invokevirtual 86, 3) := by decide +kernel
theorem dX1_sameOperands_36 : decode cX1_sameOperands 36 = .ok (.aload_n 0, 1) := by decide +kernel
theorem dX1_sameOperands_37 : decode cX1_sameOperands 37 = .ok (.iload_n 2, 1) := by decide +kernel
theorem dX1_sameOperands_38 : decode cX1_sameOperands 38 = .ok (.iconst 5, 1) := by decide +kernel
theorem dX1_sameOperands_39 : decode cX1_sameOperands 39 = .ok (.invokevirtual 86, 3) := by decide +kernel
theorem dX1_sameOperands_42 : decode cX1_sameOperands 42 = .ok (.if_icmp .ne 24, 3) := by decide +kernel
theorem dX1_sameOperands_45 : decode cX1_sameOperands 45 = .ok (.aload_n 0, 1) := by decide +kernel
theorem dX1_sameOperands_46 : decode cX1_sameOperands 46 = .ok (.iload_n 1, 1) := by decide +kernel
theorem dX1_sameOperands_47 : decode cX1_sameOperands 47 = .ok (.bipush 6, 2) := by decide +kernel
theorem dX1_sameOperands_49 : decode cX1_sameOperands 49 = .ok (.invokevirtual 86, 3) := by decide +kernel
theorem dX1_sameOperands_52 : decode cX1_sameOperands 52 = .ok (.aload_n 0, 1) := by decide +kernel
theorem dX1_sameOperands_53 : decode cX1_sameOperands 53 = .ok (.iload_n 2, 1) := by decide +kernel
theorem dX1_sameOperands_54 : decode cX1_sameOperands 54 = .ok (.bipush 6, 2) := by decide +kernel
theorem dX1_sameOperands_56 : decode cX1_sameOperands 56 = .ok (.invokevirtual 86, 3) := by decide +kernel
theorem dX1_sameOperands_59 : decode cX1_sameOperands 59 = .ok (.if_icmp .ne 7, 3) := by decide +kernel
theorem dX1_sameOperands_62 : decode cX1_sameOperands 62 = .ok (.iconst 1, 1) := by decide +kernel
theorem dX1_sameOperands_63 : decode cX1_sameOperands 63 = .ok (.goto 4, 3) := by decide +kernel
set_option maxHeartbeats 4000000 in
set_option maxRecDepth 20000 in
theorem k_X1_sameOperands (d : Nat) {T : CT} {σ : MS} {a : Nat} {k : Int} {j : Int} (ha : OB T a 1) (h_k : -2147483648 ≤ k ∧ k ≤ 2147483647) (h_j : -2147483648 ≤ j ∧ j ≤ 2147483647) (hw : WT T σ) : Tn (d + 2) m_X1_sameOperands 0 T σ [(0, .ref a), (1, .int (iI k)), (2, .int (iI j))] [] (fun ro σ2 => ∃ v : Int, ro = some (.int (iI v)) ∧ σ = σ2 ∧ (v = 0 ∨ v = 1)) := by
  refine tn_aload_n dX1_sameOperands_0 rfl 0 rfl ?_
  refine tn_iload_n dX1_sameOperands_1 rfl 1 rfl ?_
  refine tn_iconst dX1_sameOperands_2 ?_
  refine tn_callV (M := m_X1_sameOperands) (pc := 3) (ix := 86) (ci := 1) (M' := m_X1_get) (As := [.int (iI k), .int (iI 3)]) (rest := []) dX1_sameOperands_3 ok_X1_get im_X1_get se_X1_get ml1_86 np_X1_get rfl rfl ha rfl (Nat.le_of_ble_eq_true rfl) (Nat.le_of_ble_eq_true rfl) rfl (k_X1_get (d) (T := T) (σ := σ) (a := a) (k := k) (c := 3) ha (by omega) (by decide) hw ) (fun r1 σ2 hp => ?_)
  obtain ⟨v4, rfl, rfl, f3⟩ := hp
  show Tn _ _ 6 T σ [(0, .ref a), (1, .int (iI k)), (2, .int (iI j))] [.int (iI v4)] _
  refine tn_aload_n dX1_sameOperands_6 rfl 0 rfl ?_
  refine tn_iload_n dX1_sameOperands_7 rfl 2 rfl ?_
  refine tn_iconst dX1_sameOperands_8 ?_
  refine tn_callV (M := m_X1_sameOperands) (pc := 9) (ix := 86) (ci := 1) (M' := m_X1_get) (As := [.int (iI j), .int (iI 3)]) (rest := [.int (iI v4)]) dX1_sameOperands_9 ok_X1_get im_X1_get se_X1_get ml1_86 np_X1_get rfl rfl ha rfl (Nat.le_of_ble_eq_true rfl) (Nat.le_of_ble_eq_true rfl) rfl (k_X1_get (d) (T := T) (σ := σ) (a := a) (k := j) (c := 3) ha (by omega) (by decide) hw ) (fun r5 σ6 hp => ?_)
  obtain ⟨v8, rfl, rfl, f7⟩ := hp
  show Tn _ _ 12 T σ [(0, .ref a), (1, .int (iI k)), (2, .int (iI j))] [.int (iI v8), .int (iI v4)] _
  refine tn_icmp_ne (tgt := 66) dX1_sameOperands_12 (by decide) ⟨by omega, by omega⟩ ⟨by omega, by omega⟩ (fun h9 => ?_) (fun h9 => ?_)
  · refine tn_iconst dX1_sameOperands_66 ?_
    exact tn_zret (v := 0) rfl (by decide) dX1_sameOperands_67 ⟨_, rfl, rfl, by omega⟩
  · refine tn_aload_n dX1_sameOperands_15 rfl 0 rfl ?_
    refine tn_iload_n dX1_sameOperands_16 rfl 1 rfl ?_
    refine tn_iconst dX1_sameOperands_17 ?_
    refine tn_callV (M := m_X1_sameOperands) (pc := 18) (ix := 86) (ci := 1) (M' := m_X1_get) (As := [.int (iI k), .int (iI 4)]) (rest := []) dX1_sameOperands_18 ok_X1_get im_X1_get se_X1_get ml1_86 np_X1_get rfl rfl ha rfl (Nat.le_of_ble_eq_true rfl) (Nat.le_of_ble_eq_true rfl) rfl (k_X1_get (d) (T := T) (σ := σ) (a := a) (k := k) (c := 4) ha (by omega) (by decide) hw ) (fun r10 σ11 hp => ?_)
    obtain ⟨v13, rfl, rfl, f12⟩ := hp
    show Tn _ _ 21 T σ [(0, .ref a), (1, .int (iI k)), (2, .int (iI j))] [.int (iI v13)] _
    refine tn_aload_n dX1_sameOperands_21 rfl 0 rfl ?_
    refine tn_iload_n dX1_sameOperands_22 rfl 2 rfl ?_
    refine tn_iconst dX1_sameOperands_23 ?_
    refine tn_callV (M := m_X1_sameOperands) (pc := 24) (ix := 86) (ci := 1) (M' := m_X1_get) (As := [.int (iI j), .int (iI 4)]) (rest := [.int (iI v13)]) dX1_sameOperands_24 ok_X1_get im_X1_get se_X1_get ml1_86 np_X1_get rfl rfl ha rfl (Nat.le_of_ble_eq_true rfl) (Nat.le_of_ble_eq_true rfl) rfl (k_X1_get (d) (T := T) (σ := σ) (a := a) (k := j) (c := 4) ha (by omega) (by decide) hw ) (fun r14 σ15 hp => ?_)
    obtain ⟨v17, rfl, rfl, f16⟩ := hp
    show Tn _ _ 27 T σ [(0, .ref a), (1, .int (iI k)), (2, .int (iI j))] [.int (iI v17), .int (iI v13)] _
    refine tn_icmp_ne (tgt := 66) dX1_sameOperands_27 (by decide) ⟨by omega, by omega⟩ ⟨by omega, by omega⟩ (fun h18 => ?_) (fun h18 => ?_)
    · refine tn_iconst dX1_sameOperands_66 ?_
      exact tn_zret (v := 0) rfl (by decide) dX1_sameOperands_67 ⟨_, rfl, rfl, by omega⟩
    · refine tn_aload_n dX1_sameOperands_30 rfl 0 rfl ?_
      refine tn_iload_n dX1_sameOperands_31 rfl 1 rfl ?_
      refine tn_iconst dX1_sameOperands_32 ?_
      refine tn_callV (M := m_X1_sameOperands) (pc := 33) (ix := 86) (ci := 1) (M' := m_X1_get) (As := [.int (iI k), .int (iI 5)]) (rest := []) dX1_sameOperands_33 ok_X1_get im_X1_get se_X1_get ml1_86 np_X1_get rfl rfl ha rfl (Nat.le_of_ble_eq_true rfl) (Nat.le_of_ble_eq_true rfl) rfl (k_X1_get (d) (T := T) (σ := σ) (a := a) (k := k) (c := 5) ha (by omega) (by decide) hw ) (fun r19 σ20 hp => ?_)
      obtain ⟨v22, rfl, rfl, f21⟩ := hp
      show Tn _ _ 36 T σ [(0, .ref a), (1, .int (iI k)), (2, .int (iI j))] [.int (iI v22)] _
      refine tn_aload_n dX1_sameOperands_36 rfl 0 rfl ?_
      refine tn_iload_n dX1_sameOperands_37 rfl 2 rfl ?_
      refine tn_iconst dX1_sameOperands_38 ?_
      refine tn_callV (M := m_X1_sameOperands) (pc := 39) (ix := 86) (ci := 1) (M' := m_X1_get) (As := [.int (iI j), .int (iI 5)]) (rest := [.int (iI v22)]) dX1_sameOperands_39 ok_X1_get im_X1_get se_X1_get ml1_86 np_X1_get rfl rfl ha rfl (Nat.le_of_ble_eq_true rfl) (Nat.le_of_ble_eq_true rfl) rfl (k_X1_get (d) (T := T) (σ := σ) (a := a) (k := j) (c := 5) ha (by omega) (by decide) hw ) (fun r23 σ24 hp => ?_)
      obtain ⟨v26, rfl, rfl, f25⟩ := hp
      show Tn _ _ 42 T σ [(0, .ref a), (1, .int (iI k)), (2, .int (iI j))] [.int (iI v26), .int (iI v22)] _
      refine tn_icmp_ne (tgt := 66) dX1_sameOperands_42 (by decide) ⟨by omega, by omega⟩ ⟨by omega, by omega⟩ (fun h27 => ?_) (fun h27 => ?_)
      · refine tn_iconst dX1_sameOperands_66 ?_
        exact tn_zret (v := 0) rfl (by decide) dX1_sameOperands_67 ⟨_, rfl, rfl, by omega⟩
      · refine tn_aload_n dX1_sameOperands_45 rfl 0 rfl ?_
        refine tn_iload_n dX1_sameOperands_46 rfl 1 rfl ?_
        refine tn_bipush dX1_sameOperands_47 (by decide) ?_
        refine tn_callV (M := m_X1_sameOperands) (pc := 49) (ix := 86) (ci := 1) (M' := m_X1_get) (As := [.int (iI k), .int (iI 6)]) (rest := []) dX1_sameOperands_49 ok_X1_get im_X1_get se_X1_get ml1_86 np_X1_get rfl rfl ha rfl (Nat.le_of_ble_eq_true rfl) (Nat.le_of_ble_eq_true rfl) rfl (k_X1_get (d) (T := T) (σ := σ) (a := a) (k := k) (c := 6) ha (by omega) (by decide) hw ) (fun r28 σ29 hp => ?_)
        obtain ⟨v31, rfl, rfl, f30⟩ := hp
        show Tn _ _ 52 T σ [(0, .ref a), (1, .int (iI k)), (2, .int (iI j))] [.int (iI v31)] _
        refine tn_aload_n dX1_sameOperands_52 rfl 0 rfl ?_
        refine tn_iload_n dX1_sameOperands_53 rfl 2 rfl ?_
        refine tn_bipush dX1_sameOperands_54 (by decide) ?_
        refine tn_callV (M := m_X1_sameOperands) (pc := 56) (ix := 86) (ci := 1) (M' := m_X1_get) (As := [.int (iI j), .int (iI 6)]) (rest := [.int (iI v31)]) dX1_sameOperands_56 ok_X1_get im_X1_get se_X1_get ml1_86 np_X1_get rfl rfl ha rfl (Nat.le_of_ble_eq_true rfl) (Nat.le_of_ble_eq_true rfl) rfl (k_X1_get (d) (T := T) (σ := σ) (a := a) (k := j) (c := 6) ha (by omega) (by decide) hw ) (fun r32 σ33 hp => ?_)
        obtain ⟨v35, rfl, rfl, f34⟩ := hp
        show Tn _ _ 59 T σ [(0, .ref a), (1, .int (iI k)), (2, .int (iI j))] [.int (iI v35), .int (iI v31)] _
        refine tn_icmp_ne (tgt := 66) dX1_sameOperands_59 (by decide) ⟨by omega, by omega⟩ ⟨by omega, by omega⟩ (fun h36 => ?_) (fun h36 => ?_)
        · refine tn_iconst dX1_sameOperands_66 ?_
          exact tn_zret (v := 0) rfl (by decide) dX1_sameOperands_67 ⟨_, rfl, rfl, by omega⟩
        · refine tn_iconst dX1_sameOperands_62 ?_
          refine tn_goto (tgt := 67) dX1_sameOperands_63 (by decide) ?_
          exact tn_zret (v := 1) rfl (by decide) dX1_sameOperands_67 ⟨_, rfl, rfl, by omega⟩
theorem cd_X1_sameWhere : Cond.code yX1_sameWhere cX1_sameWhere 3 (some .boolean) ∈ pWW := pw4 (List.mem_of_getElem? (i := 124) rfl) rfl
abbrev m_X1_sameWhere : MT := (yX1_sameWhere, cX1_sameWhere, 3, (some .boolean))
theorem ok_X1_sameWhere : pOk m_X1_sameWhere := ⟨⟨cd_X1_sameWhere, ini_1⟩, by decide +kernel, ⟨by decide +kernel, by decide +kernel⟩, Nat.le_of_ble_eq_true rfl⟩
theorem np_X1_sameWhere : (parseMethodDescriptor yX1_sameWhere.desc).map (fun d => d.parameters.length) = some 2 := by decide +kernel
theorem im_X1_sameWhere : Cond.instanceMethod yX1_sameWhere ∈ pWW := pw4 (List.mem_of_getElem? (i := 122) rfl) rfl
theorem se_X1_sameWhere : Cond.selects RX1 yX1_sameWhere yX1_sameWhere ∈ pWW := pw4 (List.mem_of_getElem? (i := 123) rfl) rfl
theorem ml1_103 : Cond.methodLink RX1 103 yX1_sameOperands ∈ pWW := pw4 (List.mem_of_getElem? (i := 125) rfl) rfl
theorem dX1_sameWhere_0 : decode cX1_sameWhere 0 = .ok (.aload_n 0, 1) := by decide +kernel
theorem dX1_sameWhere_1 : decode cX1_sameWhere 1 = .ok (.iload_n 1, 1) := by decide +kernel
theorem dX1_sameWhere_2 : decode cX1_sameWhere 2 = .ok (.bipush 11, 2) := by decide +kernel
theorem dX1_sameWhere_4 : decode cX1_sameWhere 4 = .ok (.invokevirtual 86, 3) := by decide +kernel
theorem dX1_sameWhere_7 : decode cX1_sameWhere 7 = .ok (.aload_n 0, 1) := by decide +kernel
theorem dX1_sameWhere_8 : decode cX1_sameWhere 8 = .ok (.iload_n 2, 1) := by decide +kernel
theorem dX1_sameWhere_9 : decode cX1_sameWhere 9 = .ok (.bipush 11, 2) := by decide +kernel
theorem dX1_sameWhere_11 : decode cX1_sameWhere 11 = .ok (.invokevirtual 86, 3) := by decide +kernel
theorem dX1_sameWhere_14 : decode cX1_sameWhere 14 = .ok (.if_icmp .ne 16, 3) := by decide +kernel
theorem dX1_sameWhere_30 : decode cX1_sameWhere 30 = .ok (.iconst 0, 1) := by decide +kernel
theorem dX1_sameWhere_31 : decode cX1_sameWhere 31 = .ok (.ireturn, 1) := by decide +kernel
theorem dX1_sameWhere_17 : decode cX1_sameWhere 17 = .ok (.aload_n 0, 1) := by decide +kernel
theorem dX1_sameWhere_18 : decode cX1_sameWhere 18 = .ok (.iload_n 1, 1) := by decide +kernel
theorem dX1_sameWhere_19 : decode cX1_sameWhere 19 = .ok (.iload_n 2, 1) := by decide +kernel
theorem dX1_sameWhere_20 : decode cX1_sameWhere 20 = .ok (.invokevirtual 103, 3) := by decide +kernel
theorem dX1_sameWhere_23 : decode cX1_sameWhere 23 = .ok (.ifCond .eq 7, 3) := by decide +kernel
theorem dX1_sameWhere_26 : decode cX1_sameWhere 26 = .ok (.iconst 1, 1) := by decide +kernel
theorem dX1_sameWhere_27 : decode cX1_sameWhere 27 = .ok (.goto 4, 3) := by decide +kernel
set_option maxHeartbeats 4000000 in
set_option maxRecDepth 20000 in
theorem k_X1_sameWhere (d : Nat) {T : CT} {σ : MS} {a : Nat} {k : Int} {j : Int} (ha : OB T a 1) (h_k : -2147483648 ≤ k ∧ k ≤ 2147483647) (h_j : -2147483648 ≤ j ∧ j ≤ 2147483647) (hw : WT T σ) : Tn (d + 3) m_X1_sameWhere 0 T σ [(0, .ref a), (1, .int (iI k)), (2, .int (iI j))] [] (fun ro σ2 => ∃ v : Int, ro = some (.int (iI v)) ∧ σ = σ2 ∧ (v = 0 ∨ v = 1)) := by
  refine tn_aload_n dX1_sameWhere_0 rfl 0 rfl ?_
  refine tn_iload_n dX1_sameWhere_1 rfl 1 rfl ?_
  refine tn_bipush dX1_sameWhere_2 (by decide) ?_
  refine tn_callV (M := m_X1_sameWhere) (pc := 4) (ix := 86) (ci := 1) (M' := m_X1_get) (As := [.int (iI k), .int (iI 11)]) (rest := []) dX1_sameWhere_4 ok_X1_get im_X1_get se_X1_get ml1_86 np_X1_get rfl rfl ha rfl (Nat.le_of_ble_eq_true rfl) (Nat.le_of_ble_eq_true rfl) rfl (k_X1_get (d + 1) (T := T) (σ := σ) (a := a) (k := k) (c := 11) ha (by omega) (by decide) hw ) (fun r1 σ2 hp => ?_)
  obtain ⟨v4, rfl, rfl, f3⟩ := hp
  show Tn _ _ 7 T σ [(0, .ref a), (1, .int (iI k)), (2, .int (iI j))] [.int (iI v4)] _
  refine tn_aload_n dX1_sameWhere_7 rfl 0 rfl ?_
  refine tn_iload_n dX1_sameWhere_8 rfl 2 rfl ?_
  refine tn_bipush dX1_sameWhere_9 (by decide) ?_
  refine tn_callV (M := m_X1_sameWhere) (pc := 11) (ix := 86) (ci := 1) (M' := m_X1_get) (As := [.int (iI j), .int (iI 11)]) (rest := [.int (iI v4)]) dX1_sameWhere_11 ok_X1_get im_X1_get se_X1_get ml1_86 np_X1_get rfl rfl ha rfl (Nat.le_of_ble_eq_true rfl) (Nat.le_of_ble_eq_true rfl) rfl (k_X1_get (d + 1) (T := T) (σ := σ) (a := a) (k := j) (c := 11) ha (by omega) (by decide) hw ) (fun r5 σ6 hp => ?_)
  obtain ⟨v8, rfl, rfl, f7⟩ := hp
  show Tn _ _ 14 T σ [(0, .ref a), (1, .int (iI k)), (2, .int (iI j))] [.int (iI v8), .int (iI v4)] _
  refine tn_icmp_ne (tgt := 30) dX1_sameWhere_14 (by decide) ⟨by omega, by omega⟩ ⟨by omega, by omega⟩ (fun h9 => ?_) (fun h9 => ?_)
  · refine tn_iconst dX1_sameWhere_30 ?_
    exact tn_zret (v := 0) rfl (by decide) dX1_sameWhere_31 ⟨_, rfl, rfl, by omega⟩
  · refine tn_aload_n dX1_sameWhere_17 rfl 0 rfl ?_
    refine tn_iload_n dX1_sameWhere_18 rfl 1 rfl ?_
    refine tn_iload_n dX1_sameWhere_19 rfl 2 rfl ?_
    refine tn_callV (M := m_X1_sameWhere) (pc := 20) (ix := 103) (ci := 1) (M' := m_X1_sameOperands) (As := [.int (iI k), .int (iI j)]) (rest := []) dX1_sameWhere_20 ok_X1_sameOperands im_X1_sameOperands se_X1_sameOperands ml1_103 np_X1_sameOperands rfl rfl ha rfl (Nat.le_of_ble_eq_true rfl) (Nat.le_of_ble_eq_true rfl) rfl (k_X1_sameOperands (d) (T := T) (σ := σ) (a := a) (k := k) (j := j) ha (by omega) (by omega) hw ) (fun r10 σ11 hp => ?_)
    obtain ⟨v13, rfl, rfl, f12⟩ := hp
    show Tn _ _ 23 T σ [(0, .ref a), (1, .int (iI k)), (2, .int (iI j))] [.int (iI v13)] _
    refine tn_if_eq (tgt := 30) dX1_sameWhere_23 (by decide) ⟨by omega, by omega⟩ (fun h14 => ?_) (fun h14 => ?_)
    · refine tn_iconst dX1_sameWhere_30 ?_
      exact tn_zret (v := 0) rfl (by decide) dX1_sameWhere_31 ⟨_, rfl, rfl, by omega⟩
    · refine tn_iconst dX1_sameWhere_26 ?_
      refine tn_goto (tgt := 31) dX1_sameWhere_27 (by decide) ?_
      exact tn_zret (v := 1) rfl (by decide) dX1_sameWhere_31 ⟨_, rfl, rfl, by omega⟩
