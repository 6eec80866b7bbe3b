section
set_option maxHeartbeats 1000000 in
set_option maxRecDepth 20000 in
theorem k_X1_sameWhere_t (d : Nat) {T : CT} {σ : MS} {a : Nat} {k : Int} {j : Int} {x : Nat} {n : Int} {W : Int → It} (ha : OB T a 1) (h_k : -2147483648 ≤ k ∧ k ≤ 2147483647) (h_j : -2147483648 ≤ j ∧ j ≤ 2147483647) (hw : WT T σ) (hx : σ.2.1 5 a = (x : Int)) (hn : σ.2.1 6 a = n) (hW : cW σ x n = W) (hN : n ≤ 200) : Tn (d + 3) m_X1_sameWhere 0 T σ [(0, .ref a), (1, .int (iI k)), (2, .int (iI j))] [] (fun ro T2 σ2 => ∃ v : Int, ro = some (.int (iI v)) ∧ T = T2 ∧ σ = σ2 ∧ (v = 0 ∨ v = 1) ∧ (SWQ W k j v)) := by
  refine tn_aload_n dX1_sameWhere_0 rfl 0 rfl ?_
  refine tn_iload_n dX1_sameWhere_1 rfl 1 rfl ?_
  refine tn_bipush dX1_sameWhere_2 (by decide) ?_
  obtain ⟨hl4, hk3a, hk3b⟩ := cel_of (wf_5 hw ha) hx
  have hk3i : IA T x := by unfold IA; omega
  have hk3c : CELL T a x := ⟨hk3a, hk3b⟩
  clear hk3a hk3b
  refine tn_callV (M := m_X1_sameWhere) (pc := 4) (ix := 86) (ci := 1) (M' := m_X1_get) (As := [.int (iI k), .int (iI 11)]) (rest := []) dX1_sameWhere_4 ok_X1_get im_X1_get se_X1_get ml1_86 np_X1_get rfl rfl ha rfl (Nat.le_of_ble_eq_true rfl) (Nat.le_of_ble_eq_true rfl) rfl (k_X1_get_x (d + 1) (T := T) (σ := σ) (a := a) (k := k) (c := 11) (x := x) (n := n) (W := W) ha (by omega) (by decide) hw (hx) (hn) hW (by omega) (by omega)) (fun r5 T7 σ6 gt8 hp => ?_)
  obtain ⟨v11, rfl, rfl, rfl, f9, f10⟩ := hp
  clear gt8
  show Tn _ _ 7 T σ [(0, .ref a), (1, .int (iI k)), (2, .int (iI j))] [.int (iI v11)] _
  refine tn_aload_n dX1_sameWhere_7 rfl 0 rfl ?_
  refine tn_iload_n dX1_sameWhere_8 rfl 2 rfl ?_
  refine tn_bipush dX1_sameWhere_9 (by decide) ?_
  refine tn_callV (M := m_X1_sameWhere) (pc := 11) (ix := 86) (ci := 1) (M' := m_X1_get) (As := [.int (iI j), .int (iI 11)]) (rest := [.int (iI v11)]) dX1_sameWhere_11 ok_X1_get im_X1_get se_X1_get ml1_86 np_X1_get rfl rfl ha rfl (Nat.le_of_ble_eq_true rfl) (Nat.le_of_ble_eq_true rfl) rfl (k_X1_get_x (d + 1) (T := T) (σ := σ) (a := a) (k := j) (c := 11) (x := x) (n := n) (W := W) ha (by omega) (by decide) hw (hx) (hn) hW (by omega) (by omega)) (fun r12 T14 σ13 gt15 hp => ?_)
  obtain ⟨v18, rfl, rfl, rfl, f16, f17⟩ := hp
  clear gt15
  show Tn _ _ 14 T σ [(0, .ref a), (1, .int (iI k)), (2, .int (iI j))] [.int (iI v18), .int (iI v11)] _
  refine tn_icmp_ne (tgt := 30) dX1_sameWhere_14 (by decide) ⟨by omega, by omega⟩ ⟨by omega, by omega⟩ (fun h19 => ?_) (fun h19 => ?_)
  · refine tn_iconst dX1_sameWhere_30 ?_
    exact tn_zret (v := 0) rfl (by decide) dX1_sameWhere_31 ⟨_, rfl, rfl, rfl, by omega, Or.inr ⟨rfl, fun z => by have := z.1; omega⟩⟩
  · refine tn_aload_n dX1_sameWhere_17 rfl 0 rfl ?_
    refine tn_iload_n dX1_sameWhere_18 rfl 1 rfl ?_
    refine tn_iload_n dX1_sameWhere_19 rfl 2 rfl ?_
    refine tn_callV (M := m_X1_sameWhere) (pc := 20) (ix := 103) (ci := 1) (M' := m_X1_sameOperands) (As := [.int (iI k), .int (iI j)]) (rest := []) dX1_sameWhere_20 ok_X1_sameOperands im_X1_sameOperands se_X1_sameOperands ml1_103 np_X1_sameOperands rfl rfl ha rfl (Nat.le_of_ble_eq_true rfl) (Nat.le_of_ble_eq_true rfl) rfl (k_X1_sameOperands_x (d) (T := T) (σ := σ) (a := a) (k := k) (j := j) (x := x) (n := n) (W := W) ha (by omega) (by omega) hw (hx) (hn) hW (by omega)) (fun r20 T22 σ21 gt23 hp => ?_)
    obtain ⟨v26, rfl, rfl, rfl, f24, f25⟩ := hp
    clear gt23
    show Tn _ _ 23 T σ [(0, .ref a), (1, .int (iI k)), (2, .int (iI j))] [.int (iI v26)] _
    refine tn_if_eq (tgt := 30) dX1_sameWhere_23 (by decide) ⟨by omega, by omega⟩ (fun h27 => ?_) (fun h27 => ?_)
    · refine tn_iconst dX1_sameWhere_30 ?_
      exact tn_zret (v := 0) rfl (by decide) dX1_sameWhere_31 ⟨_, rfl, rfl, rfl, by omega, by have z := f25; unfold SMQ at z; rcases z with z | z; exfalso; omega; exact Or.inr ⟨rfl, fun y => z.2 y.2⟩⟩
    · refine tn_iconst dX1_sameWhere_26 ?_
      refine tn_goto (tgt := 31) dX1_sameWhere_27 (by decide) ?_
      exact tn_zret (v := 1) rfl (by decide) dX1_sameWhere_31 ⟨_, rfl, rfl, rfl, by omega, by have z := f25; unfold SMQ at z; rcases z with z | z; exact Or.inl ⟨rfl, by omega, z.2⟩; exfalso; omega⟩
end
