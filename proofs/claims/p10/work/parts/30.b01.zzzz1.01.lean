set_option maxHeartbeats 1000000 in
set_option maxRecDepth 20000 in
theorem k_X11_at_j (d : Nat) {T : CT} {σ : MS} {x : Nat} {i : Int} (h_x : IA T x) (l_x : (T x).2 ≤ 1000000) (h_i : -2147483648 ≤ i ∧ i ≤ 2147483647) (hw : WT T σ) : Tn (d + 1) m_X11_at 0 T σ [(0, .ref x), (1, .int (iI i))] [] (fun ro T2 σ2 => ∃ v : Int, ro = some (.int (iI v)) ∧ T = T2 ∧ σ = σ2 ∧ (-2147483648 ≤ v ∧ v ≤ 2147483647) ∧ (VOK (T x).1 i v) ∧ (v = jA T x i σ)) := by
  refine tn_aload_n dX11_at_0 rfl 0 rfl ?_
  refine tn_ifnull dX11_at_1 ?_
  refine tn_iload_n dX11_at_4 rfl 1 rfl ?_
  refine tn_if_lt (tgt := 20) dX11_at_5 (by decide) ⟨by omega, by omega⟩ (fun h1 => ?_) (fun h1 => ?_)
  · refine tn_iconst dX11_at_20 ?_
    exact tn_iret rfl dX11_at_21 ⟨_, rfl, rfl, rfl, by omega, vok_0, by unfold jA; rw [if_neg (by omega)]⟩
  · refine tn_iload_n dX11_at_8 rfl 1 rfl ?_
    refine tn_aload_n dX11_at_9 rfl 0 rfl ?_
    refine tn_alenX dX11_at_10 (Or.inl h_x) ?_
    refine tn_icmp_ge (tgt := 20) dX11_at_11 (by decide) ⟨by omega, by omega⟩ ⟨by omega, by omega⟩ (fun h2 => ?_) (fun h2 => ?_)
    · refine tn_iconst dX11_at_20 ?_
      exact tn_iret rfl dX11_at_21 ⟨_, rfl, rfl, rfl, by omega, vok_0, by unfold jA; rw [if_neg (by omega)]⟩
    · refine tn_aload_n dX11_at_14 rfl 0 rfl ?_
      refine tn_iload_n dX11_at_15 rfl 1 rfl ?_
      refine tn_ialdX (z := i) hw dX11_at_16 h_x (by omega) (by omega) (by omega) (fun v3 g4q g4 g4k => ?_)
      have g4u := g4k
      have g4w := g4q
      clear g4k g4q
      refine tn_goto (tgt := 21) dX11_at_17 (by decide) ?_
      exact tn_iret rfl dX11_at_21 ⟨_, rfl, rfl, rfl, by omega, by assumption, by unfold jA; rw [if_pos ⟨by omega, by omega⟩]; assumption⟩
