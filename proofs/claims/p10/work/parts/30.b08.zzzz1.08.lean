set_option maxHeartbeats 1000000 in
set_option maxRecDepth 20000 in
theorem k_X7_operand_j (d : Nat) {T : CT} {σ : MS} {a : Nat} {k : Int} {c : Int} {xe : Nat} (ha : OB T a 7) (h_k : -2147483648 ≤ k ∧ k ≤ 2147483647) (h_c : -2147483648 ≤ c ∧ c ≤ 2147483647) (hw : WT T σ) (hxe : σ.2.1 63 a = (xe : Int)) (hn : 0 ≤ σ.2.1 69 a) (hc : 0 ≤ c ∧ c ≤ 11) : Tn (d + 2) m_X7_operand 0 T σ [(0, .ref a), (1, .int (iI k)), (2, .int (iI c))] [] (fun ro T2 σ2 => ∃ v : Int, ro = some (.int (iI v)) ∧ T = T2 ∧ σ = σ2 ∧ (-2147483648 ≤ v ∧ v ≤ 2147483647) ∧ (JOP T σ a xe k c v)) := by
  refine tn_aload_n dX7_operand_0 rfl 0 rfl ?_
  obtain ⟨xq5, hx6, hk7a, hk7b⟩ := (wf_69 hw ha).resolve_left (by have q9 := hn; omega)
  have hk7o : OB T xq5 1 := (show RC T a xq5 from ⟨hk7a, hk7b⟩).ob
  clear hk7a hk7b
  refine tn_getR (ci := 7) (i := 14) (n := 69) (x := xq5) dX7_operand_1 rfl lay_7 (by decide) fl7_72 ha rfl rfl (hx6) ?_
  refine tn_iload_n dX7_operand_4 rfl 1 rfl ?_
  refine tn_iload_n dX7_operand_5 rfl 2 rfl ?_
  refine tn_iconst dX7_operand_6 ?_
  refine tn_iadd dX7_operand_7 ?_
  obtain ⟨xq8, hx9, hl11, hk10a, hk10b⟩ := wf_5 hw hk7o
  have hk10i : IA T xq8 := by unfold IA; omega
  have hk10c : CELL T xq5 xq8 := ⟨hk10a, hk10b⟩
  clear hk10a hk10b
  refine tn_callV (M := m_X7_operand) (pc := 8) (ix := 117) (ci := 1) (M' := m_X1_get) (As := [.int (iI k), .int (iI (c + 1))]) (rest := []) dX7_operand_8 ok_X1_get im_X1_get se_X1_get ml7_117 np_X1_get rfl rfl hk7o rfl (Nat.le_of_ble_eq_true rfl) (Nat.le_of_ble_eq_true rfl) rfl (k_X1_get_j (d) (T := T) (σ := σ) (a := xq5) (k := k) (c := c + 1) (x := xq8) hk7o (by omega) (by omega) hw (hx9) (by omega)) (fun r12 T14 σ13 gt15 hp => ?_)
  obtain ⟨v18, rfl, rfl, rfl, f16, f17⟩ := hp
  clear gt15
  show Tn _ _ 11 T σ [(0, .ref a), (1, .int (iI k)), (2, .int (iI c))] [.int (iI v18)] _
  refine tn_istore_n (L' := [(3, .int (iI v18)), (0, .ref a), (1, .int (iI k)), (2, .int (iI c))]) dX7_operand_11 rfl (by decide) rfl ?_
  refine tn_aload_n dX7_operand_12 rfl 1 rfl ?_
  refine tn_getR (ci := 7) (i := 14) (n := 69) (x := xq5) dX7_operand_13 rfl lay_7 (by decide) fl7_72 ha rfl rfl (hx6) ?_
  refine tn_iload_n dX7_operand_16 rfl 2 rfl ?_
  refine tn_iload_n dX7_operand_17 rfl 3 rfl ?_
  refine tn_callV (M := m_X7_operand) (pc := 18) (ix := 117) (ci := 1) (M' := m_X1_get) (As := [.int (iI k), .int (iI c)]) (rest := []) dX7_operand_18 ok_X1_get im_X1_get se_X1_get ml7_117 np_X1_get rfl rfl hk7o rfl (Nat.le_of_ble_eq_true rfl) (Nat.le_of_ble_eq_true rfl) rfl (k_X1_get_j (d) (T := T) (σ := σ) (a := xq5) (k := k) (c := c) (x := xq8) hk7o (by omega) (by omega) hw (hx9) (by omega)) (fun r19 T21 σ20 gt22 hp => ?_)
  obtain ⟨v25, rfl, rfl, rfl, f23, f24⟩ := hp
  clear gt22
  show Tn _ _ 21 T σ [(3, .int (iI v18)), (0, .ref a), (1, .int (iI k)), (2, .int (iI c))] [.int (iI v25)] _
  refine tn_iconst dX7_operand_21 ?_
  refine tn_icmp_ne (tgt := 45) dX7_operand_22 (by decide) ⟨by omega, by omega⟩ ⟨by decide, by decide⟩ (fun h26 => ?_) (fun h26 => ?_)
  · refine tn_iload_n dX7_operand_45 rfl 0 rfl ?_
    exact tn_iret rfl dX7_operand_46 ⟨_, rfl, rfl, rfl, by omega, ⟨xq5, xq8, hx6, hx9, Or.inl ⟨by rw [← f24]; omega, f17⟩⟩⟩
  · refine tn_aload_n dX7_operand_25 rfl 1 rfl ?_
    obtain ⟨hk29, hl30⟩ : AR T xe 1 1728 1728 := ar_of (wf_63 hw ha) hxe
    have hk29i : IA T xe := by unfold IA; omega
    refine tn_getR (ci := 7) (i := 8) (n := 63) (x := xe) dX7_operand_26 rfl lay_7 (by decide) fl7_24 ha rfl rfl (hxe) ?_
    refine tn_aload_n dX7_operand_29 rfl 1 rfl ?_
    refine tn_getI (ci := 7) (i := 2) (n := 57) (t := σ.2.1 57 a) dX7_operand_30 rfl lay_7 (by decide) fl7_65 ha rfl rfl (rfl) ?_
    have g31 : ((0 : Int) ≤ σ.2.1 57 a ∧ σ.2.1 57 a ≤ 11184800) ∧ ((T a).1 = 57 → σ.2.1 57 a ≤ 8) := wf_57 hw ha
    have g31x := g31.2
    replace g31 := g31.1
    clear g31x
    refine tn_sipush dX7_operand_33 (by decide) ?_
    refine tn_imul dX7_operand_36 ?_
    refine tn_iload_n dX7_operand_37 rfl 0 rfl ?_
    refine tn_iadd dX7_operand_38 ?_
    rw [show iI (((σ.2.1 57 a) * 192) + v18) = iI (w32 (((σ.2.1 57 a) * 192) + v18)) from (iI_self _).symm]
    have g32r : -2147483648 ≤ w32 (((σ.2.1 57 a) * 192) + v18) ∧ w32 (((σ.2.1 57 a) * 192) + v18) ≤ 2147483647 := inR_toInt _
    refine tn_callSN (M := m_X7_operand) (pc := 39) (ix := 91) (M' := m_X11_at) (As := [.ref xe, .int (iI (w32 (((σ.2.1 57 a) * 192) + v18)))]) (rest := []) dX7_operand_39 ok_X11_at stt_X11_at nl7_91 np_X11_at rfl (Nat.le_of_ble_eq_true rfl) (Nat.le_of_ble_eq_true rfl) rfl (k_X11_at_j (d) (T := T) (σ := σ) (x := xe) (i := w32 (((σ.2.1 57 a) * 192) + v18)) hk29i (by omega) (by omega) hw ) (fun r33 T35 σ34 gt36 hp => ?_)
    obtain ⟨v40, rfl, rfl, rfl, f37, f38, f39⟩ := hp
    clear gt36
    clear f38
    show Tn _ _ 42 T σ [(3, .int (iI v18)), (0, .ref a), (1, .int (iI k)), (2, .int (iI c))] [.int (iI v40)] _
    refine tn_goto (tgt := 46) dX7_operand_42 (by decide) ?_
    exact tn_iret rfl dX7_operand_46 ⟨_, rfl, rfl, rfl, by omega, ⟨xq5, xq8, hx6, hx9, Or.inr ⟨by rw [← f24]; omega, by rw [← f17]; exact f39⟩⟩⟩
