set_option maxHeartbeats 1000000 in
set_option maxRecDepth 20000 in
theorem k_X1_get_j (d : Nat) {T : CT} {σ : MS} {a : Nat} {k : Int} {c : Int} {x : Nat} (ha : OB T a 1) (h_k : -2147483648 ≤ k ∧ k ≤ 2147483647) (h_c : -2147483648 ≤ c ∧ c ≤ 2147483647) (hw : WT T σ) (hx : σ.2.1 5 a = (x : Int)) (hc : 0 ≤ c ∧ c ≤ 12) : Tn (d + 1) m_X1_get 0 T σ [(0, .ref a), (1, .int (iI k)), (2, .int (iI c))] [] (fun ro T2 σ2 => ∃ v : Int, ro = some (.int (iI v)) ∧ T = T2 ∧ σ = σ2 ∧ (-2147483648 ≤ v ∧ v ≤ 2147483647) ∧ (v = jG T σ a x k c)) := by
  refine tn_iload_n dX1_get_0 rfl 1 rfl ?_
  refine tn_bipush dX1_get_1 (by decide) ?_
  refine tn_imul dX1_get_3 ?_
  refine tn_iload_n dX1_get_4 rfl 2 rfl ?_
  refine tn_iadd dX1_get_5 ?_
  refine tn_istore_n (L' := [(3, .int (iI ((k * 13) + c))), (0, .ref a), (1, .int (iI k)), (2, .int (iI c))]) dX1_get_6 rfl (by decide) rfl ?_
  refine tn_iload_n dX1_get_7 rfl 2 rfl ?_
  refine tn_if_lt (tgt := 41) dX1_get_8 (by decide) ⟨by omega, by omega⟩ (fun h1 => ?_) (fun h1 => ?_)
  · refine tn_iconst dX1_get_41 ?_
    exact tn_iret rfl dX1_get_42 ⟨_, rfl, rfl, rfl, by omega, by unfold jG; rw [if_neg (by omega)]⟩
  · refine tn_iload_n dX1_get_11 rfl 2 rfl ?_
    refine tn_aload_n dX1_get_12 rfl 1 rfl ?_
    refine tn_getI (ci := 1) (i := 1) (n := 6) (t := σ.2.1 6 a) dX1_get_13 rfl lay_1 (by decide) fl1_33 ha rfl rfl (rfl) ?_
    have g2 : ((0 : Int) ≤ σ.2.1 6 a ∧ σ.2.1 6 a ≤ 5000) ∧ ((T a).1 = 50 → σ.2.1 6 a ≤ 200) := wf_6 hw ha
    have g2x := g2.2
    replace g2 := g2.1
    clear g2x
    refine tn_icmp_ge (tgt := 41) dX1_get_16 (by decide) ⟨by omega, by omega⟩ ⟨by omega, by omega⟩ (fun h3 => ?_) (fun h3 => ?_)
    · refine tn_iconst dX1_get_41 ?_
      exact tn_iret rfl dX1_get_42 ⟨_, rfl, rfl, rfl, by omega, by unfold jG; rw [if_neg (by omega)]⟩
    · refine tn_iload_n dX1_get_19 rfl 0 rfl ?_
      refine tn_if_lt (tgt := 41) dX1_get_20 (by decide) ⟨by omega, by omega⟩ (fun h4 => ?_) (fun h4 => ?_)
      · refine tn_iconst dX1_get_41 ?_
        exact tn_iret rfl dX1_get_42 ⟨_, rfl, rfl, rfl, by omega, by unfold jG; rw [if_neg (by omega)]⟩
      · refine tn_iload_n dX1_get_23 rfl 0 rfl ?_
        refine tn_aload_n dX1_get_24 rfl 1 rfl ?_
        obtain ⟨hl8, hk7a, hk7b⟩ := cel_of (wf_5 hw ha) hx
        have hk7i : IA T x := by unfold IA; omega
        have hk7c : CELL T a x := ⟨hk7a, hk7b⟩
        clear hk7a hk7b
        refine tn_getR (ci := 1) (i := 0) (n := 5) (x := x) dX1_get_25 rfl lay_1 (by decide) fl1_9 ha rfl rfl (hx) ?_
        refine tn_alenX dX1_get_28 (Or.inl hk7i) ?_
        refine tn_icmp_ge (tgt := 41) dX1_get_29 (by decide) ⟨by omega, by omega⟩ ⟨by omega, by omega⟩ (fun h9 => ?_) (fun h9 => ?_)
        · refine tn_iconst dX1_get_41 ?_
          exact tn_iret rfl dX1_get_42 ⟨_, rfl, rfl, rfl, by omega, by unfold jG; rw [if_neg (by omega)]⟩
        · refine tn_aload_n dX1_get_32 rfl 1 rfl ?_
          refine tn_getR (ci := 1) (i := 0) (n := 5) (x := x) dX1_get_33 rfl lay_1 (by decide) fl1_9 ha rfl rfl (hx) ?_
          refine tn_iload_n dX1_get_36 rfl 0 rfl ?_
          refine tn_ialdX (z := (k * 13) + c) hw dX1_get_37 hk7i (by omega) (by omega) (by omega) (fun v10 g11q g11 g11k => ?_)
          have g11u := g11q
          clear g11k g11q
          refine tn_goto (tgt := 42) dX1_get_38 (by decide) ?_
          exact tn_iret rfl dX1_get_42 ⟨_, rfl, rfl, rfl, by omega, by unfold jG; rw [if_pos ⟨⟨by omega, by omega⟩, by omega⟩]; exact g11u⟩
