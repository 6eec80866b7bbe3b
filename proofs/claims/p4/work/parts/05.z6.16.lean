theorem cd_X11_stack : Cond.code yX11_stack cX11_stack 3 (some .int) ∈ pWW := pw6 (List.mem_of_getElem? (i := 100) rfl) rfl
abbrev m_X11_stack : MT := (yX11_stack, cX11_stack, 3, (some .int))
theorem ok_X11_stack : pOk m_X11_stack := ⟨⟨cd_X11_stack, ini_11⟩, by decide +kernel, ⟨by decide +kernel, by decide +kernel⟩, Nat.le_of_ble_eq_true rfl⟩
theorem np_X11_stack : (parseMethodDescriptor yX11_stack.desc).map (fun d => d.parameters.length) = some 2 := by decide +kernel
theorem im_X11_stack : Cond.instanceMethod yX11_stack ∈ pWW := pw6 (List.mem_of_getElem? (i := 98) rfl) rfl
theorem se_X11_stack : Cond.selects RX11 yX11_stack yX11_stack ∈ pWW := pw6 (List.mem_of_getElem? (i := 99) rfl) rfl
theorem ml11_214 : Cond.methodLink RX11 214 yX7_find ∈ pWW := pw6 (List.mem_of_getElem? (i := 101) rfl) rfl
theorem ml11_224 : Cond.methodLink RX11 224 yX7_foundNames ∈ pWW := pw6 (List.mem_of_getElem? (i := 121) rfl) rfl
theorem ml11_221 : Cond.methodLink RX11 221 yX7_foundRoutine ∈ pWW := pw6 (List.mem_of_getElem? (i := 117) rfl) rfl
theorem ml11_218 : Cond.methodLink RX11 218 yX7_foundLine ∈ pWW := pw6 (List.mem_of_getElem? (i := 113) rfl) rfl
theorem dX11_stack_0 : decode cX11_stack 0 = .ok (.iload_n 2, 1) := by decide +kernel
theorem dX11_stack_1 : decode cX11_stack 1 = .ok (.ifCond .lt 19, 3) := by decide +kernel
theorem dX11_stack_20 : decode cX11_stack 20 = .ok (.iconst (-1), 1) := by decide +kernel
theorem dX11_stack_21 : decode cX11_stack 21 = .ok (.ireturn, 1) := by decide +kernel
theorem dX11_stack_4 : decode cX11_stack 4 = .ok (.iload_n 2, 1) := by decide +kernel
theorem dX11_stack_5 : decode cX11_stack 5 = .ok (.iconst 2, 1) := by decide +kernel
theorem dX11_stack_6 : decode cX11_stack 6 = .ok (.if_icmp .gt 14, 3) := by decide +kernel
theorem dX11_stack_9 : decode cX11_stack 9 = .ok (.aload_n 0, 1) := by decide +kernel
theorem dX11_stack_10 : decode cX11_stack 10 = .ok (.getfield 83, 3) := by decide +kernel
theorem dX11_stack_13 : decode cX11_stack 13 = .ok (.iload_n 1, 1) := by decide +kernel
theorem dX11_stack_14 : decode cX11_stack 14 = .ok (.invokevirtual 214, 3) := by decide +kernel
theorem dX11_stack_17 : decode cX11_stack 17 = .ok (.ifCond .ne 5, 3) := by decide +kernel
theorem dX11_stack_22 : decode cX11_stack 22 = .ok (.iload_n 2, 1) := by decide +kernel
theorem dX11_stack_23 : decode cX11_stack 23 = .ok (.iconst 1, 1) := by decide +kernel
theorem dX11_stack_24 : decode cX11_stack 24 = .ok (.if_icmp .ne 11, 3) := by decide +kernel
theorem dX11_stack_35 : decode cX11_stack 35 = .ok (.iload_n 2, 1) := by decide +kernel
theorem dX11_stack_36 : decode cX11_stack 36 = .ok (.ifCond .ne 13, 3) := by decide +kernel
theorem dX11_stack_49 : decode cX11_stack 49 = .ok (.aload_n 0, 1) := by decide +kernel
theorem dX11_stack_50 : decode cX11_stack 50 = .ok (.getfield 83, 3) := by decide +kernel
theorem dX11_stack_53 : decode cX11_stack 53 = .ok (.invokevirtual 224, 3) := by decide +kernel
theorem dX11_stack_56 : decode cX11_stack 56 = .ok (.ireturn, 1) := by decide +kernel
theorem dX11_stack_39 : decode cX11_stack 39 = .ok (.aload_n 0, 1) := by decide +kernel
theorem dX11_stack_40 : decode cX11_stack 40 = .ok (.getfield 83, 3) := by decide +kernel
theorem dX11_stack_43 : decode cX11_stack 43 = .ok (.invokevirtual 221, 3) := by decide +kernel
theorem dX11_stack_46 : decode cX11_stack 46 = .ok (.goto 10, 3) := by decide +kernel
theorem dX11_stack_27 : decode cX11_stack 27 = .ok (.aload_n 0, 1) := by decide +kernel
theorem dX11_stack_28 : decode cX11_stack 28 = .ok (.getfield 83, 3) := by decide +kernel
theorem dX11_stack_31 : decode cX11_stack 31 = .ok (.invokevirtual 218, 3) := by decide +kernel
theorem dX11_stack_34 : decode cX11_stack 34 = .ok (.ireturn, 1) := by decide +kernel
set_option maxRecDepth 20000 in
theorem k_X11_stack (d : Nat) {T : CT} {σ : MS} {a : Nat} {k : Int} {w : Int} (ha : OB T a 11) (h_k : -2147483648 ≤ k ∧ k ≤ 2147483647) (h_w : -2147483648 ≤ w ∧ w ≤ 2147483647) (hw : WT T σ) : Tn (d + 5) m_X11_stack 0 T σ [(0, .ref a), (1, .int (iI k)), (2, .int (iI w))] [] (fun ro T2 σ2 => ∃ v : Int, ro = some (.int (iI v)) ∧ T = T2 ∧ WT T2 σ2 ∧ FrC T [70, 71] σ σ2 ∧ (-2147483648 ≤ v ∧ v ≤ 2147483647)) := by
  refine tn_iload_n dX11_stack_0 rfl 2 rfl ?_
  refine tn_if_lt (tgt := 20) dX11_stack_1 (by decide) ⟨by omega, by omega⟩ (fun h1 => ?_) (fun h1 => ?_)
  · refine tn_iconst dX11_stack_20 ?_
    exact tn_iret rfl dX11_stack_21 ⟨_, rfl, rfl, hw, FrC.rfl, by omega⟩
  · refine tn_iload_n dX11_stack_4 rfl 2 rfl ?_
    refine tn_iconst dX11_stack_5 ?_
    refine tn_icmp_gt (tgt := 20) dX11_stack_6 (by decide) ⟨by omega, by omega⟩ ⟨by decide, by decide⟩ (fun h2 => ?_) (fun h2 => ?_)
    · refine tn_iconst dX11_stack_20 ?_
      exact tn_iret rfl dX11_stack_21 ⟨_, rfl, rfl, hw, FrC.rfl, by omega⟩
    · refine tn_aload_n dX11_stack_9 rfl 0 rfl ?_
      obtain ⟨x3, hx4, hk5⟩ : ∃ x : Nat, σ.2.1 103 a = (x : Int) ∧ (T x).1 = 37 := wf_103 hw ha
      have hk5o : OB T x3 7 := ⟨by omega, by rw [hk5]; rfl, by omega⟩
      refine tn_getR (ci := 11) (i := 8) (n := 103) (x := x3) dX11_stack_10 rfl lay_11 (by decide) fl11_83 ha rfl rfl (hx4) ?_
      refine tn_iload_n dX11_stack_13 rfl 1 rfl ?_
      refine tn_callV (M := m_X11_stack) (pc := 14) (ix := 214) (ci := 7) (M' := m_X7_find) (As := [.int (iI k)]) (rest := []) dX11_stack_14 ok_X7_find im_X7_find se_X7_find ml11_214 np_X7_find rfl rfl hk5o rfl (Nat.le_of_ble_eq_true rfl) (Nat.le_of_ble_eq_true rfl) rfl (k_X7_find (d) (T := T) (σ := σ) (a := x3) (k := k) hk5o (by omega) hw ) (fun r7 T9 σ8 gt10 hp => ?_)
      obtain ⟨v13, rfl, rfl, w14, F15, f11, f12⟩ := hp
      clear gt10
      clear f12
      show Tn _ _ 17 T σ8 [(0, .ref a), (1, .int (iI k)), (2, .int (iI w))] [.int (iI v13)] _
      refine tn_if_ne (tgt := 22) dX11_stack_17 (by decide) ⟨by omega, by omega⟩ (fun h16 => ?_) (fun h16 => ?_)
      · refine tn_iload_n dX11_stack_22 rfl 2 rfl ?_
        refine tn_iconst dX11_stack_23 ?_
        refine tn_icmp_ne (tgt := 35) dX11_stack_24 (by decide) ⟨by omega, by omega⟩ ⟨by decide, by decide⟩ (fun h17 => ?_) (fun h17 => ?_)
        · refine tn_iload_n dX11_stack_35 rfl 2 rfl ?_
          refine tn_if_ne (tgt := 49) dX11_stack_36 (by decide) ⟨by omega, by omega⟩ (fun h18 => ?_) (fun h18 => ?_)
          · refine tn_aload_n dX11_stack_49 rfl 0 rfl ?_
            refine tn_getR (ci := 11) (i := 8) (n := 103) (x := x3) dX11_stack_50 rfl lay_11 (by decide) fl11_83 ha rfl rfl (rc_F F15 (Or.inl (by decide)) (by decide) (hx4)) ?_
            refine tn_callV (M := m_X11_stack) (pc := 53) (ix := 224) (ci := 7) (M' := m_X7_foundNames) (As := []) (rest := []) dX11_stack_53 ok_X7_foundNames im_X7_foundNames se_X7_foundNames ml11_224 np_X7_foundNames rfl rfl hk5o rfl (Nat.le_of_ble_eq_true rfl) (Nat.le_of_ble_eq_true rfl) rfl (k_X7_foundNames (d + 1) (T := T) (σ := σ8) (a := x3) hk5o w14 ) (fun r19 T21 σ20 gt22 hp => ?_)
            obtain ⟨v24, rfl, rfl, rfl, f23⟩ := hp
            clear gt22
            show Tn _ _ 56 T σ8 [(0, .ref a), (1, .int (iI k)), (2, .int (iI w))] [.int (iI v24)] _
            exact tn_iret rfl dX11_stack_56 ⟨_, rfl, rfl, w14, (FrC.rfl.trans (FrC.sub F15 (by decide))), by omega⟩
          · refine tn_aload_n dX11_stack_39 rfl 0 rfl ?_
            refine tn_getR (ci := 11) (i := 8) (n := 103) (x := x3) dX11_stack_40 rfl lay_11 (by decide) fl11_83 ha rfl rfl (rc_F F15 (Or.inl (by decide)) (by decide) (hx4)) ?_
            refine tn_callV (M := m_X11_stack) (pc := 43) (ix := 221) (ci := 7) (M' := m_X7_foundRoutine) (As := []) (rest := []) dX11_stack_43 ok_X7_foundRoutine im_X7_foundRoutine se_X7_foundRoutine ml11_221 np_X7_foundRoutine rfl rfl hk5o rfl (Nat.le_of_ble_eq_true rfl) (Nat.le_of_ble_eq_true rfl) rfl (k_X7_foundRoutine (d + 1) (T := T) (σ := σ8) (a := x3) hk5o w14 ) (fun r25 T27 σ26 gt28 hp => ?_)
            obtain ⟨v30, rfl, rfl, rfl, f29⟩ := hp
            clear gt28
            show Tn _ _ 46 T σ8 [(0, .ref a), (1, .int (iI k)), (2, .int (iI w))] [.int (iI v30)] _
            refine tn_goto (tgt := 56) dX11_stack_46 (by decide) ?_
            exact tn_iret rfl dX11_stack_56 ⟨_, rfl, rfl, w14, (FrC.rfl.trans (FrC.sub F15 (by decide))), by omega⟩
        · refine tn_aload_n dX11_stack_27 rfl 0 rfl ?_
          refine tn_getR (ci := 11) (i := 8) (n := 103) (x := x3) dX11_stack_28 rfl lay_11 (by decide) fl11_83 ha rfl rfl (rc_F F15 (Or.inl (by decide)) (by decide) (hx4)) ?_
          refine tn_callV (M := m_X11_stack) (pc := 31) (ix := 218) (ci := 7) (M' := m_X7_foundLine) (As := []) (rest := []) dX11_stack_31 ok_X7_foundLine im_X7_foundLine se_X7_foundLine ml11_218 np_X7_foundLine rfl rfl hk5o rfl (Nat.le_of_ble_eq_true rfl) (Nat.le_of_ble_eq_true rfl) rfl (k_X7_foundLine (d + 2) (T := T) (σ := σ8) (a := x3) hk5o w14 ) (fun r31 T33 σ32 gt34 hp => ?_)
          obtain ⟨v36, rfl, rfl, rfl, f35⟩ := hp
          clear gt34
          show Tn _ _ 34 T σ8 [(0, .ref a), (1, .int (iI k)), (2, .int (iI w))] [.int (iI v36)] _
          exact tn_iret rfl dX11_stack_34 ⟨_, rfl, rfl, w14, (FrC.rfl.trans (FrC.sub F15 (by decide))), by omega⟩
      · refine tn_iconst dX11_stack_20 ?_
        exact tn_iret rfl dX11_stack_21 ⟨_, rfl, rfl, w14, (FrC.rfl.trans (FrC.sub F15 (by decide))), by omega⟩
