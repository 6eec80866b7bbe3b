theorem cd_X1_get : Cond.code yX1_get cX1_get 4 (some .int) ∈ pWW := pw4 (List.mem_of_getElem? (i := 8) rfl) rfl
abbrev m_X1_get : MT := (yX1_get, cX1_get, 4, (some .int))
theorem ok_X1_get : pOk m_X1_get := ⟨⟨cd_X1_get, ini_1⟩, by decide +kernel, ⟨by decide +kernel, by decide +kernel⟩, Nat.le_of_ble_eq_true rfl⟩
theorem np_X1_get : (parseMethodDescriptor yX1_get.desc).map (fun d => d.parameters.length) = some 2 := by decide +kernel
theorem im_X1_get : Cond.instanceMethod yX1_get ∈ pWW := pw4 (List.mem_of_getElem? (i := 6) rfl) rfl
theorem se_X1_get : Cond.selects RX1 yX1_get yX1_get ∈ pWW := pw4 (List.mem_of_getElem? (i := 7) rfl) rfl
theorem fl1_9 : Cond.fieldLink RX1 9 (TX1 0).1 (TX1 0).2.1 (TX1 0).2.2.1 ∈ pWW := pw1 (List.mem_of_getElem? (i := 77) rfl) rfl
theorem dX1_get_0 : decode cX1_get 0 = .ok (.iload_n 1, 1) := by decide +kernel
theorem dX1_get_1 : decode cX1_get 1 = .ok (.bipush 13, 2) := by decide +kernel
theorem dX1_get_3 : decode cX1_get 3 = .ok (.imul, 1) := by decide +kernel
theorem dX1_get_4 : decode cX1_get 4 = .ok (.iload_n 2, 1) := by decide +kernel
theorem dX1_get_5 : decode cX1_get 5 = .ok (.iadd, 1) := by decide +kernel
theorem dX1_get_6 : decode cX1_get 6 = .ok (.istore_n 3, 1) := by decide +kernel
theorem dX1_get_7 : decode cX1_get 7 = .ok (.iload_n 1, 1) := by decide +kernel
theorem dX1_get_8 : decode cX1_get 8 = .ok (.ifCond .lt 33, 3) := by decide +kernel
theorem dX1_get_41 : decode cX1_get 41 = .ok (.iconst 0, 1) := by decide +kernel
theorem dX1_get_42 : decode cX1_get 42 = .ok (.ireturn, 1) := by decide +kernel
theorem dX1_get_11 : decode cX1_get 11 = .ok (.iload_n 1, 1) := by decide +kernel
theorem dX1_get_12 : decode cX1_get 12 = .ok (.aload_n 0, 1) := by decide +kernel
theorem dX1_get_13 : decode cX1_get 13 = .ok (.getfield 33, 3) := by decide +kernel
theorem dX1_get_16 : decode cX1_get 16 = .ok (.if_icmp .ge 25, 3) := by decide +kernel
theorem dX1_get_19 : decode cX1_get 19 = .ok (.iload_n 3, 1) := by decide +kernel
theorem dX1_get_20 : decode cX1_get 20 = .ok (.ifCond .lt 21, 3) := by decide +kernel
theorem dX1_get_23 : decode cX1_get 23 = .ok (.iload_n 3, 1) := by decide +kernel
theorem dX1_get_24 : decode cX1_get 24 = .ok (.aload_n 0, 1) := by decide +kernel
theorem dX1_get_25 : decode cX1_get 25 = .ok (.getfield 9, 3) := by decide +kernel
theorem dX1_get_28 : decode cX1_get 28 = .ok (.arraylength, 1) := by decide +kernel
theorem dX1_get_29 : decode cX1_get 29 = .ok (.if_icmp .ge 12, 3) := by decide +kernel
theorem dX1_get_32 : decode cX1_get 32 = .ok (.aload_n 0, 1) := by decide +kernel
theorem dX1_get_33 : decode cX1_get 33 = .ok (.getfield 9, 3) := by decide +kernel
theorem dX1_get_36 : decode cX1_get 36 = .ok (.iload_n 3, 1) := by decide +kernel
theorem dX1_get_37 : decode cX1_get 37 = .ok (.iaload, 1) := by decide +kernel
theorem dX1_get_38 : decode cX1_get 38 = .ok (.goto 4, 3) := by decide +kernel
set_option maxRecDepth 20000 in
theorem k_X1_get (d : Nat) {T : CT} {σ : MS} {a : Nat} {k : Int} {c : Int} (ha : OB T a 1) (h_k : -2147483648 ≤ k ∧ k ≤ 2147483647) (h_c : -2147483648 ≤ c ∧ c ≤ 2147483647) (hw : WT T σ) (hc : 0 ≤ c ∧ c ≤ 12) : Tn (d + 1) m_X1_get 0 T σ [(0, .ref a), (1, .int (iI k)), (2, .int (iI c))] [] (fun ro T2 σ2 => ∃ v : Int, ro = some (.int (iI v)) ∧ T = T2 ∧ σ = σ2 ∧ (-2147483648 ≤ v ∧ v ≤ 2147483647)) := by
  refine tn_iload_n dX1_get_0 rfl 1 rfl ?_
  refine tn_bipush dX1_get_1 (by decide) ?_
  refine tn_imul dX1_get_3 ?_
  refine tn_iload_n dX1_get_4 rfl 2 rfl ?_
  refine tn_iadd dX1_get_5 ?_
  refine tn_istore_n (L' := [(3, .int (iI ((k * 13) + c))), (0, .ref a), (1, .int (iI k)), (2, .int (iI c))]) dX1_get_6 rfl (by decide) rfl ?_
  refine tn_iload_n dX1_get_7 rfl 2 rfl ?_
  refine tn_if_lt (tgt := 41) dX1_get_8 (by decide) ⟨by omega, by omega⟩ (fun h1 => ?_) (fun h1 => ?_)
  · refine tn_iconst dX1_get_41 ?_
    exact tn_iret rfl dX1_get_42 ⟨_, rfl, rfl, rfl, by omega⟩
  · refine tn_iload_n dX1_get_11 rfl 2 rfl ?_
    refine tn_aload_n dX1_get_12 rfl 1 rfl ?_
    refine tn_getI (ci := 1) (i := 1) (n := 6) (t := σ.2.1 6 a) dX1_get_13 rfl lay_1 (by decide) fl1_33 ha rfl rfl (rfl) ?_
    have g2 : ((0 : Int) ≤ σ.2.1 6 a ∧ σ.2.1 6 a ≤ 5000) ∧ ((T a).1 = 50 → σ.2.1 6 a ≤ 200) := wf_6 hw ha
    have g2x := g2.2
    replace g2 := g2.1
    clear g2x
    refine tn_icmp_ge (tgt := 41) dX1_get_16 (by decide) ⟨by omega, by omega⟩ ⟨by omega, by omega⟩ (fun h3 => ?_) (fun h3 => ?_)
    · refine tn_iconst dX1_get_41 ?_
      exact tn_iret rfl dX1_get_42 ⟨_, rfl, rfl, rfl, by omega⟩
    · refine tn_iload_n dX1_get_19 rfl 0 rfl ?_
      refine tn_if_lt (tgt := 41) dX1_get_20 (by decide) ⟨by omega, by omega⟩ (fun h4 => ?_) (fun h4 => ?_)
      · refine tn_iconst dX1_get_41 ?_
        exact tn_iret rfl dX1_get_42 ⟨_, rfl, rfl, rfl, by omega⟩
      · refine tn_iload_n dX1_get_23 rfl 0 rfl ?_
        refine tn_aload_n dX1_get_24 rfl 1 rfl ?_
        obtain ⟨x5, hx6, hl8, hk7a, hk7b⟩ := wf_5 hw ha
        have hk7i : IA T x5 := by unfold IA; omega
        have hk7c : CELL T a x5 := ⟨hk7a, hk7b⟩
        clear hk7a hk7b
        refine tn_getR (ci := 1) (i := 0) (n := 5) (x := x5) dX1_get_25 rfl lay_1 (by decide) fl1_9 ha rfl rfl (hx6) ?_
        refine tn_alenX dX1_get_28 (Or.inl hk7i) ?_
        refine tn_icmp_ge (tgt := 41) dX1_get_29 (by decide) ⟨by omega, by omega⟩ ⟨by omega, by omega⟩ (fun h9 => ?_) (fun h9 => ?_)
        · refine tn_iconst dX1_get_41 ?_
          exact tn_iret rfl dX1_get_42 ⟨_, rfl, rfl, rfl, by omega⟩
        · refine tn_aload_n dX1_get_32 rfl 1 rfl ?_
          refine tn_getR (ci := 1) (i := 0) (n := 5) (x := x5) dX1_get_33 rfl lay_1 (by decide) fl1_9 ha rfl rfl (hx6) ?_
          refine tn_iload_n dX1_get_36 rfl 0 rfl ?_
          refine tn_ialdX (z := (k * 13) + c) hw dX1_get_37 hk7i (by omega) (by omega) (by omega) (fun v10 g11q g11 g11k => ?_)
          clear g11k g11q
          refine tn_goto (tgt := 42) dX1_get_38 (by decide) ?_
          exact tn_iret rfl dX1_get_42 ⟨_, rfl, rfl, rfl, by omega⟩
