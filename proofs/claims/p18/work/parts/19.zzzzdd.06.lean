section
set_option maxHeartbeats 1000000 in
set_option maxRecDepth 20000 in
theorem k_X10_whereOf_t (d : Nat) {T : CT} {σ : MS} {a : Nat} {c : Nat} {i : Int} {x : Nat} (ha : OB T a 10) (h_c : OB T c 1) (h_i : -2147483648 ≤ i ∧ i ≤ 2147483647) (hw : WT T σ) (hx : σ.2.1 5 c = (x : Int)) (hi : 0 ≤ i ∧ i ≤ 1000) : Tn (d + 2) m_X10_whereOf 0 T σ [(0, .ref a), (1, .ref c), (2, .int (iI i))] [] (fun ro T2 σ2 => ∃ v : Int, ro = some (.int (iI v)) ∧ T = T2 ∧ σ = σ2 ∧ (-2147483648 ≤ v ∧ v ≤ 2147483647) ∧ (v = jWO T σ c x i)) := by
  refine tn_iload_n dX10_whereOf_0 rfl 2 rfl ?_
  refine tn_iconst dX10_whereOf_1 ?_
  refine tn_icmp_ge (tgt := 10) dX10_whereOf_2 (by decide) ⟨by omega, by omega⟩ ⟨by decide, by decide⟩ (fun h1 => ?_) (fun h1 => ?_)
  · refine tn_iload_n dX10_whereOf_10 rfl 2 rfl ?_
    refine tn_bipush dX10_whereOf_11 (by decide) ?_
    refine tn_icmp_ge (tgt := 27) dX10_whereOf_13 (by decide) ⟨by omega, by omega⟩ ⟨by decide, by decide⟩ (fun h2 => ?_) (fun h2 => ?_)
    · refine tn_aload_n dX10_whereOf_27 rfl 1 rfl ?_
      refine tn_iload_n dX10_whereOf_28 rfl 2 rfl ?_
      refine tn_bipush dX10_whereOf_29 (by decide) ?_
      refine tn_isub dX10_whereOf_31 ?_
      refine tn_bipush dX10_whereOf_32 (by decide) ?_
      obtain ⟨hl6, hk5a, hk5b⟩ := cel_of (wf_5 hw h_c) hx
      have hk5i : IA T x := by unfold IA; omega
      have hk5c : CELL T c x := ⟨hk5a, hk5b⟩
      clear hk5a hk5b
      refine tn_callV (M := m_X10_whereOf) (pc := 34) (ix := 44) (ci := 1) (M' := m_X1_get) (As := [.int (iI (i - 10)), .int (iI 11)]) (rest := []) dX10_whereOf_34 ok_X1_get im_X1_get se_X1_get ml10_44 np_X1_get rfl rfl h_c rfl (Nat.le_of_ble_eq_true rfl) (Nat.le_of_ble_eq_true rfl) rfl (k_X1_get_j (d) (T := T) (σ := σ) (a := c) (k := i - 10) (c := 11) (x := x) h_c (by omega) (by decide) hw (hx) (by omega)) (fun r7 T9 σ8 gt10 hp => ?_)
      obtain ⟨v13, rfl, rfl, rfl, f11, f12⟩ := hp
      clear gt10
      show Tn _ _ 37 T σ [(0, .ref a), (1, .ref c), (2, .int (iI i))] [.int (iI v13)] _
      exact tn_iret rfl dX10_whereOf_37 ⟨_, rfl, rfl, rfl, by omega, by unfold jWO; rw [if_neg (by omega), if_neg (by omega)]; exact f12⟩
    · refine tn_iload_n dX10_whereOf_16 rfl 2 rfl ?_
      refine tn_iconst dX10_whereOf_17 ?_
      refine tn_icmp_ne (tgt := 25) dX10_whereOf_18 (by decide) ⟨by omega, by omega⟩ ⟨by decide, by decide⟩ (fun h14 => ?_) (fun h14 => ?_)
      · refine tn_iconst dX10_whereOf_25 ?_
        exact tn_iret rfl dX10_whereOf_26 ⟨_, rfl, rfl, rfl, by omega, by unfold jWO; rw [if_neg (by omega), if_pos (by omega), if_neg (by omega)]⟩
      · refine tn_iconst dX10_whereOf_21 ?_
        refine tn_goto (tgt := 26) dX10_whereOf_22 (by decide) ?_
        exact tn_iret rfl dX10_whereOf_26 ⟨_, rfl, rfl, rfl, by omega, by unfold jWO; rw [if_neg (by omega), if_pos (by omega), if_pos (by omega)]⟩
  · refine tn_bipush dX10_whereOf_5 (by decide) ?_
    refine tn_iload_n dX10_whereOf_7 rfl 2 rfl ?_
    refine tn_iadd dX10_whereOf_8 ?_
    exact tn_iret rfl dX10_whereOf_9 ⟨_, rfl, rfl, rfl, by omega, by unfold jWO; rw [if_pos (by omega)]⟩
end
