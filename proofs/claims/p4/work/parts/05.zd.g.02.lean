set_option maxHeartbeats 4000000 in
set_option maxRecDepth 20000 in
theorem l_X9_wordKind_f_2 (d : Nat) {T : CT} {σ : MS} {a : Nat} {post : Option Value → CT → MS → Prop} (h_a : OB T a 9) (hw : WT T σ) (hx_22 : ∀ (i1 : Int) , (0 ≤ i1 ∧ i1 ≤ 5) → (True) → (258 + i1 = wkF (σ.2.1 86 a)) → Tn (d + 1) m_X9_wordKind 22 T σ [(0, .ref a), (1, .int (iI i1))] [] post) (hx_34 : ∀ (i1 : Int) , (0 ≤ i1 ∧ i1 ≤ 5) → (True) → (256 = wkF (σ.2.1 86 a)) → Tn (d + 1) m_X9_wordKind 34 T σ [(0, .ref a), (1, .int (iI i1))] [] post) : ∀ (n : Nat) (i1 : Int) , (0 ≤ i1 ∧ i1 ≤ 5) → (WKI (σ.2.1 86 a) i1) → (2147483700 - i1).toNat = n → Tn (d + 1) m_X9_wordKind 2 T σ [(0, .ref a), (1, .int (iI i1))] [] post := by
  intro n
  induction n using Nat.strongRecOn with
  | _ n ih =>
    intro i1 r_i1 hwk hm
    refine tn_iload_n dX9_wordKind_2 rfl 1 rfl ?_
    refine tn_stLen st_wk dX9_wordKind_3 fl9_66 dX9_wordKind_6 ?_
    show Tn _ _ 7 T σ [(0, .ref a), (1, .int (iI i1))] (.int (iI 5) :: [.int (iI i1)]) _
    refine tn_icmp_ge (tgt := 34) dX9_wordKind_7 (by decide) ⟨by omega, by omega⟩ ⟨by decide, by decide⟩ (fun h1 => ?_) (fun h1 => ?_)
    · exact tn_sub [0, 1] rfl (hx_34 (i1) (by omega) True.intro (WKI.no hwk (by omega) (by have q9 := wf_86 hw h_a; omega)))
    · refine tn_stIntX (z := i1) st_wk dX9_wordKind_10 fl9_66 (Or.inl ⟨_, rfl, rfl, dX9_wordKind_13⟩) (q := 1) rfl dX9_wordKind_14 (by omega) (by omega) (by decide) (fun v2 g3 => ?_)
      have g3r : -2147483648 ≤ v2 ∧ v2 ≤ 2147483647 := g3.1
      show Tn _ _ 15 T σ [(0, .ref a), (1, .int (iI i1))] [.int (iI v2)] _
      refine tn_aload_n dX9_wordKind_15 rfl 0 rfl ?_
      refine tn_getI (ci := 9) (i := 5) (n := 86) (t := σ.2.1 86 a) dX9_wordKind_16 rfl lay_9 (by decide) fl9_55 h_a rfl rfl (rfl) ?_
      have g4 : ((-2147483648 : Int) ≤ σ.2.1 86 a ∧ σ.2.1 86 a ≤ 2147483647) := wf_86 hw h_a
      refine tn_icmp_ne (tgt := 28) dX9_wordKind_19 (by decide) ⟨by omega, by omega⟩ ⟨by omega, by omega⟩ (fun h5 => ?_) (fun h5 => ?_)
      · refine tn_iinc (q0 := 1) (L' := [(1, .int (iI (i1 + 1))), (0, .ref a)]) dX9_wordKind_28 rfl (by decide) rfl ?_
        refine tn_goto (tgt := 2) dX9_wordKind_31 (by decide) ?_
        exact tn_sub [1, 0] rfl (ih _ (by omega) (i1 + 1) (by omega) (WKI.up hwk (by omega) g3 (by omega) (by omega)) rfl)
      · exact tn_sub [0, 1] rfl (hx_22 (i1) (by omega) True.intro (WKI.yes hwk ⟨by omega, by omega⟩ g3 (by omega) (by omega)))
set_option maxHeartbeats 4000000 in
set_option maxRecDepth 20000 in
theorem k_X9_wordKind_f (d : Nat) {T : CT} {σ : MS} {a : Nat} (ha : OB T a 9) (hw : WT T σ) : Tn (d + 1) m_X9_wordKind 0 T σ [(0, .ref a)] [] (fun ro T2 σ2 => ∃ v : Int, ro = some (.int (iI v)) ∧ T = T2 ∧ σ = σ2 ∧ (-2147483648 ≤ v ∧ v ≤ 2147483647) ∧ (v = wkF (σ.2.1 86 a))) := by
  refine tn_iconst dX9_wordKind_0 ?_
  refine tn_istore_n (L' := [(1, .int (iI 0)), (0, .ref a)]) dX9_wordKind_1 rfl (by decide) rfl ?_
  refine tn_sub [1, 0] rfl (l_X9_wordKind_f_2 (d) (T := T) (σ := σ) (a := a) ha hw (fun i11 r7 f8 f9 => ?_) (fun i110 r16 f17 f18 => ?_) _ (0) (by omega) (fun j hj => absurd hj (by omega)) rfl)
  · show Tn _ _ 22 T σ [(0, .ref a), (1, .int (iI i11))] [] _
    refine tn_sipush dX9_wordKind_22 (by decide) ?_
    refine tn_iload_n dX9_wordKind_25 rfl 1 rfl ?_
    refine tn_iadd dX9_wordKind_26 ?_
    exact tn_iret rfl dX9_wordKind_27 ⟨_, rfl, rfl, rfl, by omega, f9⟩
  · show Tn _ _ 34 T σ [(0, .ref a), (1, .int (iI i110))] [] _
    refine tn_sipush dX9_wordKind_34 (by decide) ?_
    exact tn_iret rfl dX9_wordKind_37 ⟨_, rfl, rfl, rfl, by omega, f18⟩
