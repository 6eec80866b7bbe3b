set_option maxHeartbeats 4000000 in
set_option maxRecDepth 20000 in
theorem l_X9_isSign_f_2 (d : Nat) {T : CT} {σ : MS} {c0 : Int} {post : Option Value → CT → MS → Prop} (r_c0 : -2147483648 ≤ c0 ∧ c0 ≤ 2147483647) (hw : WT T σ) (hx_19 : ∀ (i1 : Int) , (0 ≤ i1 ∧ i1 ≤ 2147483647) → (True) → (c0 ∈ sgL) → Tn (d + 1) m_X9_isSign 19 T σ [(0, .int (iI c0)), (1, .int (iI i1))] [] post) (hx_27 : ∀ (i1 : Int) , (0 ≤ i1 ∧ i1 ≤ 2147483647) → (True) → (c0 ∉ sgL) → Tn (d + 1) m_X9_isSign 27 T σ [(0, .int (iI c0)), (1, .int (iI i1))] [] post) : ∀ (n : Nat) (i1 : Int) , (0 ≤ i1 ∧ i1 ≤ 2147483647) → (SGI c0 i1) → (2147483700 - i1).toNat = n → Tn (d + 1) m_X9_isSign 2 T σ [(0, .int (iI c0)), (1, .int (iI i1))] [] post := by
  intro n
  induction n using Nat.strongRecOn with
  | _ n ih =>
    intro i1 r_i1 hsg hm
    refine tn_iload_n dX9_isSign_2 rfl 1 rfl ?_
    refine tn_stLen st_sg dX9_isSign_3 fl9_69 dX9_isSign_6 ?_
    show Tn _ _ 7 T σ [(0, .int (iI c0)), (1, .int (iI i1))] (.int (iI 11) :: [.int (iI i1)]) _
    refine tn_icmp_ge (tgt := 27) dX9_isSign_7 (by decide) ⟨by omega, by omega⟩ ⟨by decide, by decide⟩ (fun h1 => ?_) (fun h1 => ?_)
    · exact tn_sub [0, 1] rfl (hx_27 (i1) (by omega) True.intro (hsg.no (by omega) (by omega)))
    · refine tn_stChrX (z := i1) st_sg dX9_isSign_10 fl9_69 dX9_isSign_13 rfl (q := 1) rfl dX9_isSign_14 (by omega) (by omega) (by decide) (fun v2 g3 => ?_)
      have g3r : -2147483648 ≤ v2 ∧ v2 ≤ 2147483647 := g3.1
      show Tn _ _ 15 T σ [(0, .int (iI c0)), (1, .int (iI i1))] [.int (iI v2)] _
      refine tn_iload_n dX9_isSign_15 rfl 0 rfl ?_
      refine tn_icmp_ne (tgt := 21) dX9_isSign_16 (by decide) ⟨by omega, by omega⟩ ⟨by omega, by omega⟩ (fun h4 => ?_) (fun h4 => ?_)
      · refine tn_iinc (q0 := 1) (L' := [(1, .int (iI (i1 + 1))), (0, .int (iI c0))]) dX9_isSign_21 rfl (by decide) rfl ?_
        refine tn_goto (tgt := 2) dX9_isSign_24 (by decide) ?_
        exact tn_sub [1, 0] rfl (ih _ (by omega) (i1 + 1) (by omega) (SGI.up hsg (by omega) g3 (by omega) (by omega)) rfl)
      · exact tn_sub [0, 1] rfl (hx_19 (i1) (by omega) True.intro ((sgB_iff (by omega)).mpr ⟨i1.toNat, by omega, by have q9 := g3.2; rw [show v2 = c0 by omega] at q9; exact q9⟩))
set_option maxHeartbeats 4000000 in
set_option maxRecDepth 20000 in
theorem k_X9_isSign_f (d : Nat) {T : CT} {σ : MS} {o : Int} (h_o : -2147483648 ≤ o ∧ o ≤ 2147483647) (hw : WT T σ) : Tn (d + 1) m_X9_isSign 0 T σ [(0, .int (iI o))] [] (fun ro T2 σ2 => ∃ v : Int, ro = some (.int (iI v)) ∧ T = T2 ∧ σ = σ2 ∧ (v = 0 ∨ v = 1) ∧ (SGQ o v)) := by
  refine tn_iconst dX9_isSign_0 ?_
  refine tn_istore_n (L' := [(1, .int (iI 0)), (0, .int (iI o))]) dX9_isSign_1 rfl (by decide) rfl ?_
  refine tn_sub [1, 0] rfl (l_X9_isSign_f_2 (d) (T := T) (σ := σ) (c0 := o) (by omega) hw (fun i11 r7 f8 f9 => ?_) (fun i110 r16 f17 f18 => ?_) _ (0) (by omega) (fun j hj => absurd hj (by omega)) rfl)
  · show Tn _ _ 19 T σ [(0, .int (iI o)), (1, .int (iI i11))] [] _
    refine tn_iconst dX9_isSign_19 ?_
    exact tn_zret (v := 1) rfl (by decide) dX9_isSign_20 ⟨_, rfl, rfl, rfl, by omega, ⟨fun _ => f9, fun q => absurd q (by decide)⟩⟩
  · show Tn _ _ 27 T σ [(0, .int (iI o)), (1, .int (iI i110))] [] _
    refine tn_iconst dX9_isSign_27 ?_
    exact tn_zret (v := 0) rfl (by decide) dX9_isSign_28 ⟨_, rfl, rfl, rfl, by omega, ⟨fun q => absurd q (by decide), fun _ => f18⟩⟩
