set_option maxHeartbeats 4000000 in
set_option maxRecDepth 20000 in
theorem l_X5_routineOf_f_2 (d : Nat) {T : CT} {σ : MS} {a : Nat} {c1 : Int} {post : Option Value → CT → MS → Prop} (h_a : OB T a 5) (r_c1 : -2147483648 ≤ c1 ∧ c1 ≤ 2147483647) (hw : WT T σ) (hx_22 : ∀ (i2 : Int) , (0 ≤ i2 ∧ i2 ≤ 2147483647) → (ROV σ a c1 i2) → (ROY σ a c1 i2) → Tn (d + 2) m_X5_routineOf 22 T σ [(0, .ref a), (1, .int (iI c1)), (2, .int (iI i2))] [] post) (hx_30 : ∀ (i2 : Int) , (0 ≤ i2 ∧ i2 ≤ 2147483647) → (ROV σ a c1 i2) → (σ.2.1 38 a ≤ i2) → Tn (d + 2) m_X5_routineOf 30 T σ [(0, .ref a), (1, .int (iI c1)), (2, .int (iI i2))] [] post) : ∀ (n : Nat) (i2 : Int) , (0 ≤ i2 ∧ i2 ≤ 2147483647) → (ROV σ a c1 i2) → (2147483700 - i2).toNat = n → Tn (d + 2) m_X5_routineOf 2 T σ [(0, .ref a), (1, .int (iI c1)), (2, .int (iI i2))] [] post := by
  intro n
  induction n using Nat.strongRecOn with
  | _ n ih =>
    intro i2 r_i2 hro hm
    refine tn_iload_n dX5_routineOf_2 rfl 2 rfl ?_
    refine tn_aload_n dX5_routineOf_3 rfl 0 rfl ?_
    refine tn_getI (ci := 5) (i := 5) (n := 38) (t := σ.2.1 38 a) dX5_routineOf_4 rfl lay_5 (by decide) fl5_58 h_a rfl rfl (rfl) ?_
    have g1 : ((0 : Int) ≤ σ.2.1 38 a ∧ σ.2.1 38 a ≤ 256) := wf_38 hw h_a
    refine tn_icmp_ge (tgt := 30) dX5_routineOf_7 (by decide) ⟨by omega, by omega⟩ ⟨by omega, by omega⟩ (fun h2 => ?_) (fun h2 => ?_)
    · exact tn_sub [0, 1, 2] rfl (hx_30 (i2) (by omega) hro (by omega))
    · refine tn_aload_n dX5_routineOf_10 rfl 0 rfl ?_
      obtain ⟨x3, hx4, hk5, hl6⟩ : ∃ x : Nat, σ.2.1 36 a = (x : Int) ∧ AR T x 16 256 256 := wf_36 hw h_a
      have hk5i : IA T x3 := by unfold IA; omega
      refine tn_getR (ci := 5) (i := 3) (n := 36) (x := x3) dX5_routineOf_11 rfl lay_5 (by decide) fl5_24 h_a rfl rfl (hx4) ?_
      refine tn_iload_n dX5_routineOf_14 rfl 2 rfl ?_
      refine tn_callSN (M := m_X5_routineOf) (pc := 15) (ix := 231) (M' := m_X11_at) (As := [.ref x3, .int (iI i2)]) (rest := []) dX5_routineOf_15 ok_X11_at stt_X11_at nl5_231 np_X11_at rfl (Nat.le_of_ble_eq_true rfl) (Nat.le_of_ble_eq_true rfl) rfl (k_X11_at (d) (T := T) (σ := σ) (x := x3) (i := i2) hk5i (by omega) (by omega) hw ) (fun r7 T9 σ8 gt10 hp => ?_)
      obtain ⟨v14, rfl, rfl, rfl, f11, f12, f13⟩ := hp
      clear gt10
      show Tn _ _ 18 T σ [(0, .ref a), (1, .int (iI c1)), (2, .int (iI i2))] [.int (iI v14)] _
      refine tn_iload_n dX5_routineOf_18 rfl 1 rfl ?_
      refine tn_icmp_ne (tgt := 24) dX5_routineOf_19 (by decide) ⟨by omega, by omega⟩ ⟨by omega, by omega⟩ (fun h15 => ?_) (fun h15 => ?_)
      · refine tn_iinc (q0 := 2) (L' := [(2, .int (iI (i2 + 1))), (0, .ref a), (1, .int (iI c1))]) dX5_routineOf_24 rfl (by decide) rfl ?_
        refine tn_goto (tgt := 2) dX5_routineOf_27 (by decide) ?_
        have g17 := (wf_36 hw h_a)
        have w16 : (T x3).2 = 256 := by
          obtain ⟨y, h1, -, h3, h4⟩ := g17
          have e : x3 = y := by omega
          rw [e]; omega
        exact tn_sub [1, 2, 0] rfl (ih _ (by omega) (i2 + 1) (by omega) (fun y hy i h1 h2 h3 => by
              have e : y = x3 := by omega
              rw [e]
              by_cases q : i = i2
              · have w9 := f13; unfold ATV at w9; rw [if_pos ⟨by omega, by omega⟩] at w9; rw [q]; omega
              · exact hro x3 hx4 i h1 (by omega) h3) rfl)
      · have g19 := (wf_36 hw h_a)
        have w18 : (T x3).2 = 256 := by
          obtain ⟨y, h1, -, h3, h4⟩ := g19
          have e : x3 = y := by omega
          rw [e]; omega
        exact tn_sub [0, 1, 2] rfl (hx_22 (i2) (by omega) hro ⟨⟨by omega, by omega⟩, fun y hy => by
              have e : y = x3 := by omega
              have w9 := f13; unfold ATV at w9; rw [if_pos ⟨by omega, by omega⟩] at w9; rw [e]; omega⟩)
set_option maxHeartbeats 4000000 in
set_option maxRecDepth 20000 in
theorem k_X5_routineOf_f (d : Nat) {T : CT} {σ : MS} {a : Nat} {k : Int} (ha : OB T a 5) (h_k : -2147483648 ≤ k ∧ k ≤ 2147483647) (hw : WT T σ) : Tn (d + 2) m_X5_routineOf 0 T σ [(0, .ref a), (1, .int (iI k))] [] (fun ro T2 σ2 => ∃ v : Int, ro = some (.int (iI v)) ∧ T = T2 ∧ σ = σ2 ∧ (-2147483648 ≤ v ∧ v ≤ 2147483647) ∧ (ROQ σ a k v)) := by
  refine tn_iconst dX5_routineOf_0 ?_
  refine tn_istore_n (L' := [(2, .int (iI 0)), (0, .ref a), (1, .int (iI k))]) dX5_routineOf_1 rfl (by decide) rfl ?_
  refine tn_sub [1, 2, 0] rfl (l_X5_routineOf_f_2 (d) (T := T) (σ := σ) (a := a) (c1 := k) ha (by omega) hw (fun i21 r7 f8 f9 => ?_) (fun i210 r16 f17 f18 => ?_) _ (0) (by omega) (fun _ _ i h1 h2 _ => absurd h2 (by omega)) rfl)
  · show Tn _ _ 22 T σ [(0, .ref a), (1, .int (iI k)), (2, .int (iI i21))] [] _
    refine tn_iload_n dX5_routineOf_22 rfl 2 rfl ?_
    exact tn_iret rfl dX5_routineOf_23 ⟨_, rfl, rfl, rfl, by omega, Or.inr ⟨f9, f8⟩⟩
  · show Tn _ _ 30 T σ [(0, .ref a), (1, .int (iI k)), (2, .int (iI i210))] [] _
    refine tn_iconst dX5_routineOf_30 ?_
    exact tn_iret rfl dX5_routineOf_31 ⟨_, rfl, rfl, rfl, by omega, Or.inl ⟨rfl, fun y hy i h1 h2 h3 => f17 y hy i h1 (by have q9 := f18; omega) h3⟩⟩
