section
set_option maxHeartbeats 1000000 in
set_option maxRecDepth 20000 in
theorem k_X10_part_t (d : Nat) {T : CT} {σ : MS} {a : Nat} {c : Nat} {i : Int} {e : Int} {x : Nat} {xh : Nat} (ha : OB T a 10) (h_c : OB T c 1) (h_i : -2147483648 ≤ i ∧ i ≤ 2147483647) (h_e : -2147483648 ≤ e ∧ e ≤ 2147483647) (hw : WT T σ) (hx : σ.2.1 5 c = (x : Int)) (hxh : σ.2.1 15 c = (xh : Int)) (hc : 0 ≤ e ∧ e ≤ 12) (hi : 0 ≤ i ∧ i ≤ 1000) : Tn (d + 3) m_X10_part 0 T σ [(0, .ref a), (1, .ref c), (2, .int (iI i)), (3, .int (iI e))] [] (fun ro T2 σ2 => ∃ v : Int, ro = some (.int (iI v)) ∧ T = T2 ∧ σ = σ2 ∧ (-2147483648 ≤ v ∧ v ≤ 2147483647) ∧ (v = jPT T σ c x xh i e)) := by
  refine tn_iload_n dX10_part_0 rfl 2 rfl ?_
  refine tn_bipush dX10_part_1 (by decide) ?_
  refine tn_icmp_lt (tgt := 16) dX10_part_3 (by decide) ⟨by omega, by omega⟩ ⟨by decide, by decide⟩ (fun h1 => ?_) (fun h1 => ?_)
  · refine tn_iload_n dX10_part_16 rfl 2 rfl ?_
    refine tn_bipush dX10_part_17 (by decide) ?_
    refine tn_icmp_lt (tgt := 39) dX10_part_19 (by decide) ⟨by omega, by omega⟩ ⟨by decide, by decide⟩ (fun h2 => ?_) (fun h2 => ?_)
    · refine tn_iconst dX10_part_39 ?_
      exact tn_iret rfl dX10_part_40 ⟨_, rfl, rfl, rfl, by omega, by unfold jPT; rw [if_neg (by omega), if_neg (by omega)]⟩
    · refine tn_iload_n dX10_part_22 rfl 3 rfl ?_
      refine tn_iconst dX10_part_23 ?_
      refine tn_icmp_ne (tgt := 39) dX10_part_24 (by decide) ⟨by omega, by omega⟩ ⟨by decide, by decide⟩ (fun h3 => ?_) (fun h3 => ?_)
      · refine tn_iconst dX10_part_39 ?_
        exact tn_iret rfl dX10_part_40 ⟨_, rfl, rfl, rfl, by omega, by unfold jPT; rw [if_neg (by omega), if_neg (by omega)]⟩
      · refine tn_aload_n dX10_part_27 rfl 1 rfl ?_
        refine tn_iconst dX10_part_28 ?_
        refine tn_iload_n dX10_part_29 rfl 2 rfl ?_
        refine tn_bipush dX10_part_30 (by decide) ?_
        refine tn_isub dX10_part_32 ?_
        obtain ⟨hk6, hl7⟩ : AR T xh 1 144 144 := ar_of (wf_15 hw h_c) hxh
        have hk6i : IA T xh := by unfold IA; omega
        refine tn_callV (M := m_X10_part) (pc := 33) (ix := 47) (ci := 1) (M' := m_X1_homeOf) (As := [.int (iI 0), .int (iI (i - 6))]) (rest := []) dX10_part_33 ok_X1_homeOf im_X1_homeOf se_X1_homeOf ml10_47 np_X1_homeOf rfl rfl h_c rfl (Nat.le_of_ble_eq_true rfl) (Nat.le_of_ble_eq_true rfl) rfl (k_X1_homeOf_j (d) (T := T) (σ := σ) (a := c) (f := 0) (m := i - 6) (xh := xh) h_c (by decide) (by omega) hw (hxh) (by omega)) (fun r8 T10 σ9 gt11 hp => ?_)
        obtain ⟨v14, rfl, rfl, rfl, f12, f13⟩ := hp
        clear gt11
        show Tn _ _ 36 T σ [(0, .ref a), (1, .ref c), (2, .int (iI i)), (3, .int (iI e))] [.int (iI v14)] _
        refine tn_goto (tgt := 40) dX10_part_36 (by decide) ?_
        exact tn_iret rfl dX10_part_40 ⟨_, rfl, rfl, rfl, by omega, by unfold jPT; rw [if_neg (by omega), if_pos (by omega)]; exact f13⟩
  · refine tn_aload_n dX10_part_6 rfl 1 rfl ?_
    refine tn_iload_n dX10_part_7 rfl 2 rfl ?_
    refine tn_bipush dX10_part_8 (by decide) ?_
    refine tn_isub dX10_part_10 ?_
    refine tn_iload_n dX10_part_11 rfl 3 rfl ?_
    obtain ⟨hl18, hk17a, hk17b⟩ := cel_of (wf_5 hw h_c) hx
    have hk17i : IA T x := by unfold IA; omega
    have hk17c : CELL T c x := ⟨hk17a, hk17b⟩
    clear hk17a hk17b
    refine tn_callV (M := m_X10_part) (pc := 12) (ix := 44) (ci := 1) (M' := m_X1_get) (As := [.int (iI (i - 10)), .int (iI e)]) (rest := []) dX10_part_12 ok_X1_get im_X1_get se_X1_get ml10_44 np_X1_get rfl rfl h_c rfl (Nat.le_of_ble_eq_true rfl) (Nat.le_of_ble_eq_true rfl) rfl (k_X1_get_j (d + 1) (T := T) (σ := σ) (a := c) (k := i - 10) (c := e) (x := x) h_c (by omega) (by omega) hw (hx) (by omega)) (fun r19 T21 σ20 gt22 hp => ?_)
    obtain ⟨v25, rfl, rfl, rfl, f23, f24⟩ := hp
    clear gt22
    show Tn _ _ 15 T σ [(0, .ref a), (1, .ref c), (2, .int (iI i)), (3, .int (iI e))] [.int (iI v25)] _
    exact tn_iret rfl dX10_part_15 ⟨_, rfl, rfl, rfl, by omega, by unfold jPT; rw [if_pos (by omega)]; exact f24⟩
end
