section
set_option maxHeartbeats 1000000 in
set_option maxRecDepth 20000 in
theorem l_X1_slotOf_t_7 (d : Nat) {T : CT} {σ : MS} {a : Nat} {c1 : Int} {mg : Int} {xn : Nat} {Rn : Int → Int} {post : Option Value → CT → MS → Prop} (h_a : OB T a 1) (r_c1 : -2147483648 ≤ c1 ∧ c1 ≤ 2147483647) (hw : WT T σ) (hxn : σ.2.1 14 a = (xn : Int)) (hRn : σ.2.1 (1000 + xn) = Rn) (hx_39 : ∀ (i3 : Int) (i4 : Int) , (-2147483648 ≤ i3 ∧ i3 ≤ 2147483647) → (0 ≤ i4 ∧ i4 ≤ 12) → (mg + 1 ≤ i3 ∧ i3 ≤ 1 + mg + 12 * i4 ∧ -1000 ≤ mg ∧ mg ≤ 1000 ∧ c1 ≤ 12) → (i3 = slF Rn c1 + mg) → Tn (d + 1) m_X1_slotOf 39 T σ [(0, .ref a), (1, .int (iI c1)), (3, .int (iI i3)), (4, .int (iI i4))] [] post) : ∀ (nq9 : Nat) (i3 : Int) (i4 : Int) , (-2147483648 ≤ i3 ∧ i3 ≤ 2147483647) → (0 ≤ i4 ∧ i4 ≤ 12) → (mg + 1 ≤ i3 ∧ i3 ≤ 1 + mg + 12 * i4 ∧ -1000 ≤ mg ∧ mg ≤ 1000 ∧ c1 ≤ 12) → (i3 = slF Rn i4 + mg ∧ i4 ≤ c1) → (2147483700 - i4).toNat = nq9 → Tn (d + 1) m_X1_slotOf 7 T σ [(0, .ref a), (1, .int (iI c1)), (3, .int (iI i3)), (4, .int (iI i4))] [] post := by
  intro nq9
  induction nq9 using Nat.strongRecOn with
  | _ nq9 ih =>
    intro i3 i4 r_i3 r_i4 h0 hs hm
    refine tn_iload dX1_slotOf_7 3 rfl ?_
    refine tn_iload_n dX1_slotOf_9 rfl 1 rfl ?_
    refine tn_icmp_ge (tgt := 39) dX1_slotOf_10 (by decide) ⟨by omega, by omega⟩ ⟨by omega, by omega⟩ (fun h1 => ?_) (fun h1 => ?_)
    · exact tn_sub [0, 1, 2, 3] rfl (hx_39 (i3) (i4) (by omega) (by omega) (by omega) (by rw [show c1 = i4 by omega]; omega))
    · refine tn_iload dX1_slotOf_13 3 rfl ?_
      refine tn_aload_n dX1_slotOf_15 rfl 0 rfl ?_
      obtain ⟨hk4, hl5⟩ : AR T xn 11 12 12 := ar_of (wf_14 hw h_a) hxn
      have hk4i : IA T xn := by unfold IA; omega
      refine tn_getR (ci := 1) (i := 9) (n := 14) (x := xn) dX1_slotOf_16 rfl lay_1 (by decide) fl1_24 h_a rfl rfl (hxn) ?_
      refine tn_alenX dX1_slotOf_19 (Or.inl hk4i) ?_
      refine tn_icmp_ge (tgt := 39) dX1_slotOf_20 (by decide) ⟨by omega, by omega⟩ ⟨by omega, by omega⟩ (fun h6 => ?_) (fun h6 => ?_)
      · exact tn_sub [0, 1, 2, 3] rfl (hx_39 (i3) (i4) (by omega) (by omega) (by omega) (by rw [show c1 = i4 by omega]; omega))
      · refine tn_iload_n dX1_slotOf_23 rfl 2 rfl ?_
        refine tn_aload_n dX1_slotOf_24 rfl 0 rfl ?_
        refine tn_getR (ci := 1) (i := 9) (n := 14) (x := xn) dX1_slotOf_25 rfl lay_1 (by decide) fl1_24 h_a rfl rfl (hxn) ?_
        refine tn_iload dX1_slotOf_28 3 rfl ?_
        refine tn_ialdX (z := i4) hw dX1_slotOf_30 hk4i (by omega) (by omega) (by omega) (fun v7 g8q g8 g8k => ?_)
        have g8n := g8k.2.1 hk4
        have g8u := g8q
        clear g8k g8q
        refine tn_iadd dX1_slotOf_31 ?_
        refine tn_istore_n (L' := [(3, .int (iI (i3 + v7))), (0, .ref a), (1, .int (iI c1)), (4, .int (iI i4))]) dX1_slotOf_32 rfl (by decide) rfl ?_
        refine tn_iinc (q0 := 3) (L' := [(4, .int (iI (i4 + 1))), (3, .int (iI (i3 + v7))), (0, .ref a), (1, .int (iI c1))]) dX1_slotOf_33 rfl (by decide) rfl ?_
        refine tn_goto (tgt := 7) dX1_slotOf_36 (by decide) ?_
        exact tn_sub [2, 3, 1, 0] rfl (ih _ (by omega) (i3 + v7) (i4 + 1) (by omega) (by omega) (by omega) (by have z := g8u; rw [hRn] at z; rw [slF_s (by omega)]; omega) rfl)
set_option maxHeartbeats 1000000 in
set_option maxRecDepth 20000 in
theorem k_X1_slotOf_t (d : Nat) {T : CT} {σ : MS} {a : Nat} {f : Int} {m : Int} {xn : Nat} {Rn : Int → Int} (ha : OB T a 1) (h_f : -2147483648 ≤ f ∧ f ≤ 2147483647) (h_m : -2147483648 ≤ m ∧ m ≤ 2147483647) (hw : WT T σ) (hxn : σ.2.1 14 a = (xn : Int)) (hRn : σ.2.1 (1000 + xn) = Rn) (hm : -1000 ≤ m ∧ m ≤ 1000) (hf : 0 ≤ f ∧ f ≤ 12) : Tn (d + 1) m_X1_slotOf 0 T σ [(0, .ref a), (1, .int (iI f)), (2, .int (iI m))] [] (fun ro T2 σ2 => ∃ v : Int, ro = some (.int (iI v)) ∧ T = T2 ∧ σ = σ2 ∧ (-2147483648 ≤ v ∧ v ≤ 2147483647) ∧ (v = slF Rn f + m) ∧ (1 + m ≤ v ∧ v ≤ 145 + m)) := by
  refine tn_iconst dX1_slotOf_0 ?_
  refine tn_iload_n dX1_slotOf_1 rfl 2 rfl ?_
  refine tn_iadd dX1_slotOf_2 ?_
  refine tn_istore_n (L' := [(3, .int (iI (1 + m))), (0, .ref a), (1, .int (iI f)), (2, .int (iI m))]) dX1_slotOf_3 rfl (by decide) rfl ?_
  refine tn_iconst dX1_slotOf_4 ?_
  refine tn_istore (L' := [(4, .int (iI 0)), (3, .int (iI (1 + m))), (0, .ref a), (1, .int (iI f)), (2, .int (iI m))]) dX1_slotOf_5 (by decide) rfl ?_
  refine tn_sub [2, 3, 1, 0] rfl (l_X1_slotOf_t_7 (d) (T := T) (σ := σ) (a := a) (c1 := f) (xn := xn) (Rn := (Rn)) (mg := m) ha (by omega) hw (hxn) hRn (fun i31 i42 r8 r9 f10 f11 => ?_) _ (1 + m) (0) (by omega) (by omega) (by omega) ⟨by have e0 : slF Rn 0 = 1 := rfl; omega, by omega⟩ rfl)
  show Tn _ _ 39 T σ [(0, .ref a), (1, .int (iI f)), (3, .int (iI i31)), (4, .int (iI i42))] [] _
  refine tn_iload_n dX1_slotOf_39 rfl 2 rfl ?_
  exact tn_iret rfl dX1_slotOf_40 ⟨_, rfl, rfl, rfl, by omega, f11, by omega⟩
end
