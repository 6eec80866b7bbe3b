theorem cd_X1_slotOf : Cond.code yX1_slotOf cX1_slotOf 5 (some .int) ∈ pWW := pw4 (List.mem_of_getElem? (i := 112) rfl) rfl
abbrev m_X1_slotOf : MT := (yX1_slotOf, cX1_slotOf, 5, (some .int))
theorem ok_X1_slotOf : pOk m_X1_slotOf := ⟨⟨cd_X1_slotOf, ini_1⟩, by decide +kernel, ⟨by decide +kernel, by decide +kernel⟩, Nat.le_of_ble_eq_true rfl⟩
theorem np_X1_slotOf : (parseMethodDescriptor yX1_slotOf.desc).map (fun d => d.parameters.length) = some 2 := by decide +kernel
theorem im_X1_slotOf : Cond.instanceMethod yX1_slotOf ∈ pWW := pw4 (List.mem_of_getElem? (i := 110) rfl) rfl
theorem se_X1_slotOf : Cond.selects RX1 yX1_slotOf yX1_slotOf ∈ pWW := pw4 (List.mem_of_getElem? (i := 111) rfl) rfl
theorem dX1_slotOf_0 : decode cX1_slotOf 0 = .ok (.iconst 1, 1) := by decide +kernel
theorem dX1_slotOf_1 : decode cX1_slotOf 1 = .ok (.iload_n 2, 1) := by decide +kernel
theorem dX1_slotOf_2 : decode cX1_slotOf 2 = .ok (.iadd, 1) := by decide +kernel
theorem dX1_slotOf_3 : decode cX1_slotOf 3 = .ok (.istore_n 3, 1) := by decide +kernel
theorem dX1_slotOf_4 : decode cX1_slotOf 4 = .ok (.iconst 0, 1) := by decide +kernel
theorem dX1_slotOf_5 : decode cX1_slotOf 5 = .ok (.istore 4, 2) := by decide +kernel
theorem dX1_slotOf_7 : decode cX1_slotOf 7 = .ok (.iload 4, 2) := by decide +kernel
theorem dX1_slotOf_9 : decode cX1_slotOf 9 = .ok (.iload_n 1, 1) := by decide +kernel
theorem dX1_slotOf_10 : decode cX1_slotOf 10 = .ok (.if_icmp .ge 29, 3) := by decide +kernel
theorem dX1_slotOf_13 : decode cX1_slotOf 13 = .ok (.iload 4, 2) := by decide +kernel
theorem dX1_slotOf_15 : decode cX1_slotOf 15 = .ok (.aload_n 0, 1) := by decide +kernel
theorem dX1_slotOf_16 : decode cX1_slotOf 16 = .ok (.getfield 24, 3) := by decide +kernel
theorem dX1_slotOf_19 : decode cX1_slotOf 19 = .ok (.arraylength, 1) := by decide +kernel
theorem dX1_slotOf_20 : decode cX1_slotOf 20 = .ok (.if_icmp .ge 19, 3) := by decide +kernel
theorem dX1_slotOf_23 : decode cX1_slotOf 23 = .ok (.iload_n 3, 1) := by decide +kernel
theorem dX1_slotOf_24 : decode cX1_slotOf 24 = .ok (.aload_n 0, 1) := by decide +kernel
theorem dX1_slotOf_25 : decode cX1_slotOf 25 = .ok (.getfield 24, 3) := by decide +kernel
theorem dX1_slotOf_28 : decode cX1_slotOf 28 = .ok (.iload 4, 2) := by decide +kernel
theorem dX1_slotOf_30 : decode cX1_slotOf 30 = .ok (.iaload, 1) := by decide +kernel
theorem dX1_slotOf_31 : decode cX1_slotOf 31 = .ok (.iadd, 1) := by decide +kernel
theorem dX1_slotOf_32 : decode cX1_slotOf 32 = .ok (.istore_n 3, 1) := by decide +kernel
theorem dX1_slotOf_33 : decode cX1_slotOf 33 = .ok (.iinc 4 1, 3) := by decide +kernel
theorem dX1_slotOf_36 : decode cX1_slotOf 36 = .ok (.goto (-29), 3) := by decide +kernel
set_option maxRecDepth 20000 in
theorem l_X1_slotOf_7 (d : Nat) {T : CT} {σ : MS} {a : Nat} {c1 : Int} {mg : Int} {post : Option Value → CT → MS → Prop} (h_a : OB T a 1) (r_c1 : -2147483648 ≤ c1 ∧ c1 ≤ 2147483647) (hw : WT T σ) (hx_39 : ∀ (i3 : Int) (i4 : Int) , (-2147483648 ≤ i3 ∧ i3 ≤ 2147483647) → (0 ≤ i4 ∧ i4 ≤ 12) → (mg + 1 ≤ i3 ∧ i3 ≤ 1 + mg + 12 * i4 ∧ -2147483000 ≤ mg ∧ mg ≤ 2147483000) → Tn (d + 1) m_X1_slotOf 39 T σ [(0, .ref a), (1, .int (iI c1)), (3, .int (iI i3)), (4, .int (iI i4))] [] post) : ∀ (n : Nat) (i3 : Int) (i4 : Int) , (-2147483648 ≤ i3 ∧ i3 ≤ 2147483647) → (0 ≤ i4 ∧ i4 ≤ 12) → (mg + 1 ≤ i3 ∧ i3 ≤ 1 + mg + 12 * i4 ∧ -2147483000 ≤ mg ∧ mg ≤ 2147483000) → (2147483700 - i4).toNat = n → Tn (d + 1) m_X1_slotOf 7 T σ [(0, .ref a), (1, .int (iI c1)), (3, .int (iI i3)), (4, .int (iI i4))] [] post := by
  intro n
  induction n using Nat.strongRecOn with
  | _ n ih =>
    intro i3 i4 r_i3 r_i4 h0 hm
    refine tn_iload dX1_slotOf_7 3 rfl ?_
    refine tn_iload_n dX1_slotOf_9 rfl 1 rfl ?_
    refine tn_icmp_ge (tgt := 39) dX1_slotOf_10 (by decide) ⟨by omega, by omega⟩ ⟨by omega, by omega⟩ (fun h1 => ?_) (fun h1 => ?_)
    · exact tn_sub [0, 1, 2, 3] rfl (hx_39 (i3) (i4) (by omega) (by omega) (by omega))
    · refine tn_iload dX1_slotOf_13 3 rfl ?_
      refine tn_aload_n dX1_slotOf_15 rfl 0 rfl ?_
      obtain ⟨x2, hx3, hk4, hl5⟩ : ∃ x : Nat, σ.2.1 14 a = (x : Int) ∧ AR T x 11 12 12 := wf_14 hw h_a
      have hk4i : IA T x2 := by unfold IA; omega
      refine tn_getR (ci := 1) (i := 9) (n := 14) (x := x2) dX1_slotOf_16 rfl lay_1 (by decide) fl1_24 h_a rfl rfl (hx3) ?_
      refine tn_alenX dX1_slotOf_19 (Or.inl hk4i) ?_
      refine tn_icmp_ge (tgt := 39) dX1_slotOf_20 (by decide) ⟨by omega, by omega⟩ ⟨by omega, by omega⟩ (fun h6 => ?_) (fun h6 => ?_)
      · exact tn_sub [0, 1, 2, 3] rfl (hx_39 (i3) (i4) (by omega) (by omega) (by omega))
      · refine tn_iload_n dX1_slotOf_23 rfl 2 rfl ?_
        refine tn_aload_n dX1_slotOf_24 rfl 0 rfl ?_
        refine tn_getR (ci := 1) (i := 9) (n := 14) (x := x2) dX1_slotOf_25 rfl lay_1 (by decide) fl1_24 h_a rfl rfl (hx3) ?_
        refine tn_iload dX1_slotOf_28 3 rfl ?_
        refine tn_ialdX (z := i4) hw dX1_slotOf_30 hk4i (by omega) (by omega) (by omega) (fun v7 g8q g8 g8k => ?_)
        have g8n := g8k.2.1 hk4
        clear g8k g8q
        refine tn_iadd dX1_slotOf_31 ?_
        refine tn_istore_n (L' := [(3, .int (iI (i3 + v7))), (0, .ref a), (1, .int (iI c1)), (4, .int (iI i4))]) dX1_slotOf_32 rfl (by decide) rfl ?_
        refine tn_iinc (q0 := 3) (L' := [(4, .int (iI (i4 + 1))), (3, .int (iI (i3 + v7))), (0, .ref a), (1, .int (iI c1))]) dX1_slotOf_33 rfl (by decide) rfl ?_
        refine tn_goto (tgt := 7) dX1_slotOf_36 (by decide) ?_
        exact tn_sub [2, 3, 1, 0] rfl (ih _ (by omega) (i3 + v7) (i4 + 1) (by omega) (by omega) (by omega) rfl)
theorem dX1_slotOf_39 : decode cX1_slotOf 39 = .ok (.iload_n 3, 1) := by decide +kernel
theorem dX1_slotOf_40 : decode cX1_slotOf 40 = .ok (.ireturn, 1) := by decide +kernel
set_option maxRecDepth 20000 in
theorem k_X1_slotOf (d : Nat) {T : CT} {σ : MS} {a : Nat} {f : Int} {m : Int} (ha : OB T a 1) (h_f : -2147483648 ≤ f ∧ f ≤ 2147483647) (h_m : -2147483648 ≤ m ∧ m ≤ 2147483647) (hw : WT T σ) (hm : -2147483000 ≤ m ∧ m ≤ 2147483000) : Tn (d + 1) m_X1_slotOf 0 T σ [(0, .ref a), (1, .int (iI f)), (2, .int (iI m))] [] (fun ro T2 σ2 => ∃ v : Int, ro = some (.int (iI v)) ∧ T = T2 ∧ σ = σ2 ∧ (-2147483648 ≤ v ∧ v ≤ 2147483647) ∧ (1 + m ≤ v ∧ v ≤ 145 + m)) := by
  refine tn_iconst dX1_slotOf_0 ?_
  refine tn_iload_n dX1_slotOf_1 rfl 2 rfl ?_
  refine tn_iadd dX1_slotOf_2 ?_
  refine tn_istore_n (L' := [(3, .int (iI (1 + m))), (0, .ref a), (1, .int (iI f)), (2, .int (iI m))]) dX1_slotOf_3 rfl (by decide) rfl ?_
  refine tn_iconst dX1_slotOf_4 ?_
  refine tn_istore (L' := [(4, .int (iI 0)), (3, .int (iI (1 + m))), (0, .ref a), (1, .int (iI f)), (2, .int (iI m))]) dX1_slotOf_5 (by decide) rfl ?_
  refine tn_sub [2, 3, 1, 0] rfl (l_X1_slotOf_7 (d) (T := T) (σ := σ) (a := a) (c1 := f) (mg := m) ha (by omega) hw (fun i31 i42 r8 r9 f10 => ?_) _ (1 + m) (0) (by omega) (by omega) (by omega) rfl)
  show Tn _ _ 39 T σ [(0, .ref a), (1, .int (iI f)), (3, .int (iI i31)), (4, .int (iI i42))] [] _
  refine tn_iload_n dX1_slotOf_39 rfl 2 rfl ?_
  exact tn_iret rfl dX1_slotOf_40 ⟨_, rfl, rfl, rfl, by omega, by omega⟩
