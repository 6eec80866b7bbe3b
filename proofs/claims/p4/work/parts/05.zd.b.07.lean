set_option maxHeartbeats 4000000 in
set_option maxRecDepth 20000 in
theorem l_X5_nameIndex_f_2 (d : Nat) {T : CT} {σ : MS} {a : Nat} {c1 : Int} {post : Option Value → CT → MS → Prop} (h_a : OB T a 5) (r_c1 : -2147483648 ≤ c1 ∧ c1 ≤ 2147483647) (hw : WT T σ) (hx_32 : ∀ (i2 : Int) , (0 ≤ i2 ∧ i2 ≤ 2147483647) → (True) → (NIY σ a c1 i2) → Tn (d + 1) m_X5_nameIndex 32 T σ [(0, .ref a), (1, .int (iI c1)), (2, .int (iI i2))] [] post) (hx_40 : ∀ (i2 : Int) , (0 ≤ i2 ∧ i2 ≤ 2147483647) → (True) → (NIN σ a c1) → Tn (d + 1) m_X5_nameIndex 40 T σ [(0, .ref a), (1, .int (iI c1)), (2, .int (iI i2))] [] post) : ∀ (n : Nat) (i2 : Int) , (0 ≤ i2 ∧ i2 ≤ 2147483647) → (NIV σ a c1 i2) → (2147483700 - i2).toNat = n → Tn (d + 1) m_X5_nameIndex 2 T σ [(0, .ref a), (1, .int (iI c1)), (2, .int (iI i2))] [] post := by
  intro n
  induction n using Nat.strongRecOn with
  | _ n ih =>
    intro i2 r_i2 hni hm
    refine tn_iload_n dX5_nameIndex_2 rfl 2 rfl ?_
    refine tn_aload_n dX5_nameIndex_3 rfl 0 rfl ?_
    obtain ⟨x1, hx2, hk3⟩ : ∃ x : Nat, σ.2.1 35 a = (x : Int) ∧ (T x).1 = 31 := wf_35 hw h_a
    have hk3o : OB T x1 1 := ⟨by omega, by rw [hk3]; rfl, by omega⟩
    refine tn_getR (ci := 5) (i := 2) (n := 35) (x := x1) dX5_nameIndex_4 rfl lay_5 (by decide) fl5_47 h_a rfl rfl (hx2) ?_
    refine tn_getI (ci := 1) (i := 2) (n := 7) (t := σ.2.1 7 x1) dX5_nameIndex_7 rfl lay_1 (by decide) fl5_152 hk3o rfl rfl (rfl) ?_
    have g5 : ((0 : Int) ≤ σ.2.1 7 x1 ∧ σ.2.1 7 x1 ≤ 12) := wf_7 hw hk3o
    refine tn_icmp_ge (tgt := 40) dX5_nameIndex_10 (by decide) ⟨by omega, by omega⟩ ⟨by omega, by omega⟩ (fun h6 => ?_) (fun h6 => ?_)
    · obtain ⟨x7, hx8, hk9, hl10⟩ : ∃ x : Nat, σ.2.1 48 a = (x : Int) ∧ AR T x 21 12 12 := wf_48 hw h_a
      have hk9i : IA T x7 := by unfold IA; omega
      have g11 := wf_7 hw (code_ob hw h_a hx2)
      exact tn_sub [0, 1, 2] rfl (hx_40 (i2) (by omega) True.intro (fun d y h1 h2 i i0 i1 => by
            have e1 : d = x1 := by omega
            rw [e1] at i1; exact hni y h2 i i0 (by omega)))
    · refine tn_iload_n dX5_nameIndex_13 rfl 2 rfl ?_
      refine tn_aload_n dX5_nameIndex_14 rfl 0 rfl ?_
      obtain ⟨x12, hx13, hk14, hl15⟩ : ∃ x : Nat, σ.2.1 48 a = (x : Int) ∧ AR T x 21 12 12 := wf_48 hw h_a
      have hk14i : IA T x12 := by unfold IA; omega
      refine tn_getR (ci := 5) (i := 15) (n := 48) (x := x12) dX5_nameIndex_15 rfl lay_5 (by decide) fl5_40 h_a rfl rfl (hx13) ?_
      refine tn_alenX dX5_nameIndex_18 (Or.inl hk14i) ?_
      refine tn_icmp_ge (tgt := 40) dX5_nameIndex_19 (by decide) ⟨by omega, by omega⟩ ⟨by omega, by omega⟩ (fun h16 => absurd h16 (by omega)) (fun h16 => ?_)
      refine tn_aload_n dX5_nameIndex_22 rfl 0 rfl ?_
      refine tn_getR (ci := 5) (i := 15) (n := 48) (x := x12) dX5_nameIndex_23 rfl lay_5 (by decide) fl5_40 h_a rfl rfl (hx13) ?_
      refine tn_iload_n dX5_nameIndex_26 rfl 2 rfl ?_
      refine tn_ialdX (z := i2) hw dX5_nameIndex_27 hk14i (by omega) (by omega) (by omega) (fun v17 g18q g18 g18k => ?_)
      have g18Q := g18q
      clear g18k g18q
      refine tn_iload_n dX5_nameIndex_28 rfl 1 rfl ?_
      refine tn_icmp_ne (tgt := 34) dX5_nameIndex_29 (by decide) ⟨by omega, by omega⟩ ⟨by omega, by omega⟩ (fun h19 => ?_) (fun h19 => ?_)
      · refine tn_iinc (q0 := 2) (L' := [(2, .int (iI (i2 + 1))), (0, .ref a), (1, .int (iI c1))]) dX5_nameIndex_34 rfl (by decide) rfl ?_
        refine tn_goto (tgt := 2) dX5_nameIndex_37 (by decide) ?_
        exact tn_sub [1, 2, 0] rfl (ih _ (by omega) (i2 + 1) (by omega) (fun y hy i h1 h2 => by
              have e : y = x12 := by omega
              rw [e]
              by_cases q : i = i2
              · rw [q]; omega
              · exact hni x12 hx13 i h1 (by omega)) rfl)
      · exact tn_sub [0, 1, 2] rfl (hx_32 (i2) (by omega) True.intro (fun d y h1 h2 => by
              have e1 : d = x1 := by omega
              have e2 : y = x12 := by omega
              rw [e1, e2]; exact ⟨by omega, by omega, by omega⟩))
set_option maxHeartbeats 4000000 in
set_option maxRecDepth 20000 in
theorem k_X5_nameIndex_f (d : Nat) {T : CT} {σ : MS} {a : Nat} {k : Int} (ha : OB T a 5) (h_k : -2147483648 ≤ k ∧ k ≤ 2147483647) (hw : WT T σ) : Tn (d + 1) m_X5_nameIndex 0 T σ [(0, .ref a), (1, .int (iI k))] [] (fun ro T2 σ2 => ∃ v : Int, ro = some (.int (iI v)) ∧ T = T2 ∧ σ = σ2 ∧ (-2147483648 ≤ v ∧ v ≤ 2147483647) ∧ (NIQ σ a k v)) := by
  refine tn_iconst dX5_nameIndex_0 ?_
  refine tn_istore_n (L' := [(2, .int (iI 0)), (0, .ref a), (1, .int (iI k))]) dX5_nameIndex_1 rfl (by decide) rfl ?_
  refine tn_sub [1, 2, 0] rfl (l_X5_nameIndex_f_2 (d) (T := T) (σ := σ) (a := a) (c1 := k) ha (by omega) hw (fun i21 r7 f8 f9 => ?_) (fun i210 r16 f17 f18 => ?_) _ (0) (by omega) (fun _ _ i h1 h2 => absurd h2 (by omega)) rfl)
  · show Tn _ _ 32 T σ [(0, .ref a), (1, .int (iI k)), (2, .int (iI i21))] [] _
    refine tn_iload_n dX5_nameIndex_32 rfl 2 rfl ?_
    exact tn_iret rfl dX5_nameIndex_33 ⟨_, rfl, rfl, rfl, by omega, Or.inr ⟨by omega, f9⟩⟩
  · show Tn _ _ 40 T σ [(0, .ref a), (1, .int (iI k)), (2, .int (iI i210))] [] _
    refine tn_iconst dX5_nameIndex_40 ?_
    exact tn_iret rfl dX5_nameIndex_41 ⟨_, rfl, rfl, rfl, by omega, Or.inl ⟨rfl, f18⟩⟩
