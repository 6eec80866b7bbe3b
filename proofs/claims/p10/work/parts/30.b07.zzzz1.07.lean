set_option maxHeartbeats 1000000 in
set_option maxRecDepth 20000 in
theorem k_X7_homeOfParam_j (d : Nat) {T : CT} {σ : MS} {a : Nat} {p1 : Int} (ha : OB T a 7) (h_p1 : -2147483648 ≤ p1 ∧ p1 ≤ 2147483647) (hw : WT T σ) (hp9 : 0 ≤ p1 ∧ p1 ≤ 3) : Tn (d + 3) m_X7_homeOfParam 0 T σ [(0, .ref a), (1, .int (iI p1))] [] (fun ro T2 σ2 => ∃ v : Int, ro = some (.int (iI v)) ∧ T = T2 ∧ σ = σ2 ∧ (-2147483648 ≤ v ∧ v ≤ 2147483647) ∧ (JHP T σ a p1 v)) := by
  refine tn_aload_n dX7_homeOfParam_0 rfl 0 rfl ?_
  rcases wf_69 hw ha with hx1 | ⟨xq2, hx1, hk3a, hk3b⟩
  · refine tn_getN (ci := 7) (i := 14) (n := 69) dX7_homeOfParam_1 rfl lay_7 (by decide) fl7_72 ha rfl rfl (Int.lt_of_le_of_lt (Int.le_of_eq (Eq.refl _)) hx1) ?_
    refine tn_ifnullN (tgt := 39) dX7_homeOfParam_4 (by decide) ?_
    refine tn_iconst dX7_homeOfParam_39 ?_
    exact tn_iret rfl dX7_homeOfParam_40 ⟨_, rfl, rfl, rfl, by omega, Or.inl ⟨rfl, Or.inl (by omega)⟩⟩
  · have hk3o : OB T xq2 1 := by
      by_cases q9 : (T a).1 = 57
      · have w9 := hk3a q9; exact ⟨by omega, by rw [w9]; rfl, by omega⟩
      · have w9 := hk3b q9; exact ⟨by omega, by rw [w9]; rfl, by omega⟩
    refine tn_getR (ci := 7) (i := 14) (n := 69) (x := xq2) dX7_homeOfParam_1 rfl lay_7 (by decide) fl7_72 ha rfl rfl (hx1) ?_
    refine tn_ifnull dX7_homeOfParam_4 ?_
    refine tn_iload_n dX7_homeOfParam_7 rfl 1 rfl ?_
    refine tn_aload_n dX7_homeOfParam_8 rfl 0 rfl ?_
    refine tn_getR (ci := 7) (i := 14) (n := 69) (x := xq2) dX7_homeOfParam_9 rfl lay_7 (by decide) fl7_72 ha rfl rfl (hx1) ?_
    refine tn_getI (ci := 1) (i := 3) (n := 8) (t := σ.2.1 8 xq2) dX7_homeOfParam_12 rfl lay_1 (by decide) fl7_82 hk3o rfl rfl (rfl) ?_
    have g5 : ((0 : Int) ≤ σ.2.1 8 xq2 ∧ σ.2.1 8 xq2 ≤ 4) := wf_8 hw hk3o
    refine tn_icmp_ge (tgt := 39) dX7_homeOfParam_15 (by decide) ⟨by omega, by omega⟩ ⟨by omega, by omega⟩ (fun h6 => ?_) (fun h6 => ?_)
    · refine tn_iconst dX7_homeOfParam_39 ?_
      exact tn_iret rfl dX7_homeOfParam_40 ⟨_, rfl, rfl, rfl, by omega, Or.inl ⟨rfl, Or.inr ⟨xq2, hx1, by omega⟩⟩⟩
    · refine tn_aload_n dX7_homeOfParam_18 rfl 0 rfl ?_
      refine tn_getI (ci := 7) (i := 2) (n := 57) (t := σ.2.1 57 a) dX7_homeOfParam_19 rfl lay_7 (by decide) fl7_65 ha rfl rfl (rfl) ?_
      have g7 : ((0 : Int) ≤ σ.2.1 57 a ∧ σ.2.1 57 a ≤ 11184800) ∧ ((T a).1 = 57 → σ.2.1 57 a ≤ 8) := wf_57 hw ha
      have g7x := g7.2
      replace g7 := g7.1
      clear g7x
      refine tn_sipush dX7_homeOfParam_22 (by decide) ?_
      refine tn_imul dX7_homeOfParam_25 ?_
      refine tn_aload_n dX7_homeOfParam_26 rfl 0 rfl ?_
      refine tn_getR (ci := 7) (i := 14) (n := 69) (x := xq2) dX7_homeOfParam_27 rfl lay_7 (by decide) fl7_72 ha rfl rfl (hx1) ?_
      refine tn_iconst dX7_homeOfParam_30 ?_
      refine tn_iload_n dX7_homeOfParam_31 rfl 1 rfl ?_
      obtain ⟨xq8, hx9, hk10, hl11⟩ : ∃ x : Nat, σ.2.1 15 xq2 = (x : Int) ∧ AR T x 1 144 144 := wf_15 hw hk3o
      have hk10i : IA T xq8 := by unfold IA; omega
      refine tn_callV (M := m_X7_homeOfParam) (pc := 32) (ix := 87) (ci := 1) (M' := m_X1_homeOf) (As := [.int (iI 0), .int (iI p1)]) (rest := [.int (iI ((σ.2.1 57 a) * 192))]) dX7_homeOfParam_32 ok_X1_homeOf im_X1_homeOf se_X1_homeOf ml7_87 np_X1_homeOf rfl rfl hk3o rfl (Nat.le_of_ble_eq_true rfl) (Nat.le_of_ble_eq_true rfl) rfl (k_X1_homeOf_j (d) (T := T) (σ := σ) (a := xq2) (f := 0) (m := p1) (xh := xq8) hk3o (by decide) (by omega) hw (hx9) (by omega)) (fun r12 T14 σ13 gt15 hp => ?_)
      obtain ⟨v18, rfl, rfl, rfl, f16, f17⟩ := hp
      clear gt15
      show Tn _ _ 35 T σ [(0, .ref a), (1, .int (iI p1))] [.int (iI v18), .int (iI ((σ.2.1 57 a) * 192))] _
      refine tn_iadd dX7_homeOfParam_35 ?_
      rw [show iI (((σ.2.1 57 a) * 192) + v18) = iI (w32 (((σ.2.1 57 a) * 192) + v18)) from (iI_self _).symm]
      have g19r : -2147483648 ≤ w32 (((σ.2.1 57 a) * 192) + v18) ∧ w32 (((σ.2.1 57 a) * 192) + v18) ≤ 2147483647 := inR_toInt _
      refine tn_goto (tgt := 40) dX7_homeOfParam_36 (by decide) ?_
      exact tn_iret rfl dX7_homeOfParam_40 ⟨_, rfl, rfl, rfl, by omega, Or.inr ⟨xq2, xq8, hx1, by omega, hx9, by rw [← f17]⟩⟩
