section
set_option maxHeartbeats 1000000 in
set_option maxRecDepth 20000 in
theorem k_X10_slotAt_t (d : Nat) {T : CT} {σ : MS} {a : Nat} {c : Nat} {k : Int} {f : Int} {xn : Nat} {Rn : Int → Int} {Fr : Int} (ha : OB T a 10) (h_c : OB T c 1) (h_k : -2147483648 ≤ k ∧ k ≤ 2147483647) (h_f : -2147483648 ≤ f ∧ f ≤ 2147483647) (hw : WT T σ) (hxn : σ.2.1 14 c = (xn : Int)) (hRn : σ.2.1 (1000 + xn) = Rn) (hFr : σ.2.1 10 c = Fr) (hf : 0 ≤ f ∧ f ≤ 12) (hk : 0 ≤ k ∧ k ≤ 200) : Tn (d + 2) m_X10_slotAt 0 T σ [(0, .ref a), (1, .ref c), (2, .int (iI k)), (3, .int (iI f))] [] (fun ro T2 σ2 => ∃ v : Int, ro = some (.int (iI v)) ∧ T = T2 ∧ σ = σ2 ∧ (-2147483648 ≤ v ∧ v ≤ 2147483647) ∧ (v = k * slF Rn Fr + slF Rn f) ∧ (0 ≤ v ∧ v ≤ 29145)) := by
  refine tn_aload_n dX10_slotAt_0 rfl 1 rfl ?_
  refine tn_ifnonnull (tgt := 8) dX10_slotAt_1 (by decide) ?_
  refine tn_iload_n dX10_slotAt_8 rfl 2 rfl ?_
  refine tn_aload_n dX10_slotAt_9 rfl 1 rfl ?_
  refine tn_aload_n dX10_slotAt_10 rfl 1 rfl ?_
  refine tn_getI (ci := 1) (i := 5) (n := 10) (t := σ.2.1 10 c) dX10_slotAt_11 rfl lay_1 (by decide) fl10_30 h_c rfl rfl (rfl) ?_
  have g1 : ((0 : Int) ≤ σ.2.1 10 c ∧ σ.2.1 10 c ≤ 12) := wf_10 hw h_c
  refine tn_iconst dX10_slotAt_14 ?_
  obtain ⟨hk4, hl5⟩ : AR T xn 11 12 12 := ar_of (wf_14 hw h_c) hxn
  have hk4i : IA T xn := by unfold IA; omega
  refine tn_callV (M := m_X10_slotAt) (pc := 15) (ix := 36) (ci := 1) (M' := m_X1_slotOf) (As := [.int (iI (σ.2.1 10 c)), .int (iI 0)]) (rest := [.int (iI k)]) dX10_slotAt_15 ok_X1_slotOf im_X1_slotOf se_X1_slotOf ml10_36 np_X1_slotOf rfl rfl h_c rfl (Nat.le_of_ble_eq_true rfl) (Nat.le_of_ble_eq_true rfl) rfl (k_X1_slotOf_t (d) (T := T) (σ := σ) (a := c) (f := σ.2.1 10 c) (m := 0) (xn := xn) (Rn := Rn) h_c (by omega) (by decide) hw (hxn) hRn (by omega) (by omega)) (fun r6 T8 σ7 gt9 hp => ?_)
  obtain ⟨v13, rfl, rfl, rfl, f10, f11, f12⟩ := hp
  clear gt9
  show Tn _ _ 18 T σ [(0, .ref a), (1, .ref c), (2, .int (iI k)), (3, .int (iI f))] [.int (iI v13), .int (iI k)] _
  refine tn_imul dX10_slotAt_18 ?_
  have g15 : 0 ≤ k * v13 ∧ k * v13 ≤ 29000 := mul_rng (b := 200) (d := 145) (by omega) (by omega) (by omega) (by omega) (by decide) (by decide)
  generalize ez16 : k * v13 = z14 at g15 ⊢
  refine tn_aload_n dX10_slotAt_19 rfl 1 rfl ?_
  refine tn_iload_n dX10_slotAt_20 rfl 3 rfl ?_
  refine tn_iconst dX10_slotAt_21 ?_
  refine tn_callV (M := m_X10_slotAt) (pc := 22) (ix := 36) (ci := 1) (M' := m_X1_slotOf) (As := [.int (iI f), .int (iI 0)]) (rest := [.int (iI z14)]) dX10_slotAt_22 ok_X1_slotOf im_X1_slotOf se_X1_slotOf ml10_36 np_X1_slotOf rfl rfl h_c rfl (Nat.le_of_ble_eq_true rfl) (Nat.le_of_ble_eq_true rfl) rfl (k_X1_slotOf_t (d) (T := T) (σ := σ) (a := c) (f := f) (m := 0) (xn := xn) (Rn := Rn) h_c (by omega) (by decide) hw (hxn) hRn (by omega) (by omega)) (fun r17 T19 σ18 gt20 hp => ?_)
  obtain ⟨v24, rfl, rfl, rfl, f21, f22, f23⟩ := hp
  clear gt20
  show Tn _ _ 25 T σ [(0, .ref a), (1, .ref c), (2, .int (iI k)), (3, .int (iI f))] [.int (iI v24), .int (iI z14)] _
  refine tn_iadd dX10_slotAt_25 ?_
  exact tn_iret rfl dX10_slotAt_26 ⟨_, rfl, rfl, rfl, by omega, by have e9 : v13 = slF Rn Fr := (by have z1 := f11; rw [hFr] at z1; omega); have z2 := f22; rw [← e9, ez16]; omega, by omega⟩
end
