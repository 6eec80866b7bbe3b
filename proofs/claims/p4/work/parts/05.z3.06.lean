theorem cd_X5_nameIndex : Cond.code yX5_nameIndex cX5_nameIndex 3 (some .int) ∈ pWW := pw3 (List.mem_of_getElem? (i := 108) rfl) rfl
abbrev m_X5_nameIndex : MT := (yX5_nameIndex, cX5_nameIndex, 3, (some .int))
theorem ok_X5_nameIndex : pOk m_X5_nameIndex := ⟨⟨cd_X5_nameIndex, ini_5⟩, by decide +kernel, ⟨by decide +kernel, by decide +kernel⟩, Nat.le_of_ble_eq_true rfl⟩
theorem np_X5_nameIndex : (parseMethodDescriptor yX5_nameIndex.desc).map (fun d => d.parameters.length) = some 1 := by decide +kernel
theorem im_X5_nameIndex : Cond.instanceMethod yX5_nameIndex ∈ pWW := pw3 (List.mem_of_getElem? (i := 107) rfl) rfl
theorem se_X5_nameIndex : Cond.selects RX5 yX5_nameIndex yX5_nameIndex ∈ pWW := pws (List.mem_map.mpr ⟨_, lw_pin 12 rfl, rfl⟩) rfl
theorem fl5_47 : Cond.fieldLink RX5 47 (TX5 2).1 (TX5 2).2.1 (TX5 2).2.2.1 ∈ pWW := pw1 (List.mem_of_getElem? (i := 155) rfl) rfl
theorem fl5_152 : Cond.fieldLink RX5 152 (TX1 2).1 (TX1 2).2.1 (TX1 2).2.2.1 ∈ pWW := pw1 (List.mem_of_getElem? (i := 91) rfl) rfl
theorem fl5_40 : Cond.fieldLink RX5 40 (TX5 15).1 (TX5 15).2.1 (TX5 15).2.2.1 ∈ pWW := pw1 (List.mem_of_getElem? (i := 171) rfl) rfl
theorem dX5_nameIndex_0 : decode cX5_nameIndex 0 = .ok (.iconst 0, 1) := by decide +kernel
theorem dX5_nameIndex_1 : decode cX5_nameIndex 1 = .ok (.istore_n 2, 1) := by decide +kernel
theorem dX5_nameIndex_2 : decode cX5_nameIndex 2 = .ok (.iload_n 2, 1) := by decide +kernel
theorem dX5_nameIndex_3 : decode cX5_nameIndex 3 = .ok (.aload_n 0, 1) := by decide +kernel
theorem dX5_nameIndex_4 : decode cX5_nameIndex 4 = .ok (.getfield 47, 3) := by decide +kernel
theorem dX5_nameIndex_7 : decode cX5_nameIndex 7 = .ok (.getfield 152, 3) := by decide +kernel
theorem dX5_nameIndex_10 : decode cX5_nameIndex 10 = .ok (.if_icmp .ge 30, 3) := by decide +kernel
theorem dX5_nameIndex_13 : decode cX5_nameIndex 13 = .ok (.iload_n 2, 1) := by decide +kernel
theorem dX5_nameIndex_14 : decode cX5_nameIndex 14 = .ok (.aload_n 0, 1) := by decide +kernel
theorem dX5_nameIndex_15 : decode cX5_nameIndex 15 = .ok (.getfield 40, 3) := by decide +kernel
theorem dX5_nameIndex_18 : decode cX5_nameIndex 18 = .ok (.arraylength, 1) := by decide +kernel
theorem dX5_nameIndex_19 : decode cX5_nameIndex 19 = .ok (.if_icmp .ge 21, 3) := by decide +kernel
theorem dX5_nameIndex_22 : decode cX5_nameIndex 22 = .ok (.aload_n 0, 1) := by decide +kernel
theorem dX5_nameIndex_23 : decode cX5_nameIndex 23 = .ok (.getfield 40, 3) := by decide +kernel
theorem dX5_nameIndex_26 : decode cX5_nameIndex 26 = .ok (.iload_n 2, 1) := by decide +kernel
theorem dX5_nameIndex_27 : decode cX5_nameIndex 27 = .ok (.iaload, 1) := by decide +kernel
theorem dX5_nameIndex_28 : decode cX5_nameIndex 28 = .ok (.iload_n 1, 1) := by decide +kernel
theorem dX5_nameIndex_29 : decode cX5_nameIndex 29 = .ok (.if_icmp .ne 5, 3) := by decide +kernel
theorem dX5_nameIndex_34 : decode cX5_nameIndex 34 = .ok (.iinc 2 1, 3) := by decide +kernel
theorem dX5_nameIndex_37 : decode cX5_nameIndex 37 = .ok (.goto (-35), 3) := by decide +kernel
set_option maxRecDepth 20000 in
theorem l_X5_nameIndex_2 (d : Nat) {T : CT} {σ : MS} {a : Nat} {c1 : Int} {post : Option Value → CT → MS → Prop} (h_a : OB T a 5) (r_c1 : -2147483648 ≤ c1 ∧ c1 ≤ 2147483647) (hw : WT T σ) (hx_32 : ∀ (i2 : Int) , (0 ≤ i2 ∧ i2 ≤ 2147483647) → Tn (d + 1) m_X5_nameIndex 32 T σ [(0, .ref a), (1, .int (iI c1)), (2, .int (iI i2))] [] post) (hx_40 : ∀ (i2 : Int) , (0 ≤ i2 ∧ i2 ≤ 2147483647) → Tn (d + 1) m_X5_nameIndex 40 T σ [(0, .ref a), (1, .int (iI c1)), (2, .int (iI i2))] [] post) : ∀ (n : Nat) (i2 : Int) , (0 ≤ i2 ∧ i2 ≤ 2147483647) → (2147483700 - i2).toNat = n → Tn (d + 1) m_X5_nameIndex 2 T σ [(0, .ref a), (1, .int (iI c1)), (2, .int (iI i2))] [] post := by
  intro n
  induction n using Nat.strongRecOn with
  | _ n ih =>
    intro i2 r_i2 hm
    refine tn_iload_n dX5_nameIndex_2 rfl 2 rfl ?_
    refine tn_aload_n dX5_nameIndex_3 rfl 0 rfl ?_
    obtain ⟨x1, hx2, hk3⟩ : ∃ x : Nat, σ.2.1 35 a = (x : Int) ∧ (T x).1 = 31 := wf_35 hw h_a
    have hk3o : OB T x1 1 := ⟨by omega, by rw [hk3]; rfl, by omega⟩
    refine tn_getR (ci := 5) (i := 2) (n := 35) (x := x1) dX5_nameIndex_4 rfl lay_5 (by decide) fl5_47 h_a rfl rfl (hx2) ?_
    refine tn_getI (ci := 1) (i := 2) (n := 7) (t := σ.2.1 7 x1) dX5_nameIndex_7 rfl lay_1 (by decide) fl5_152 hk3o rfl rfl (rfl) ?_
    have g5 : ((0 : Int) ≤ σ.2.1 7 x1 ∧ σ.2.1 7 x1 ≤ 12) := wf_7 hw hk3o
    refine tn_icmp_ge (tgt := 40) dX5_nameIndex_10 (by decide) ⟨by omega, by omega⟩ ⟨by omega, by omega⟩ (fun h6 => ?_) (fun h6 => ?_)
    · exact tn_sub [0, 1, 2] rfl (hx_40 (i2) (by omega))
    · refine tn_iload_n dX5_nameIndex_13 rfl 2 rfl ?_
      refine tn_aload_n dX5_nameIndex_14 rfl 0 rfl ?_
      obtain ⟨x7, hx8, hk9, hl10⟩ : ∃ x : Nat, σ.2.1 48 a = (x : Int) ∧ AR T x 21 12 12 := wf_48 hw h_a
      have hk9i : IA T x7 := by unfold IA; omega
      refine tn_getR (ci := 5) (i := 15) (n := 48) (x := x7) dX5_nameIndex_15 rfl lay_5 (by decide) fl5_40 h_a rfl rfl (hx8) ?_
      refine tn_alenX dX5_nameIndex_18 (Or.inl hk9i) ?_
      refine tn_icmp_ge (tgt := 40) dX5_nameIndex_19 (by decide) ⟨by omega, by omega⟩ ⟨by omega, by omega⟩ (fun h11 => absurd h11 (by omega)) (fun h11 => ?_)
      refine tn_aload_n dX5_nameIndex_22 rfl 0 rfl ?_
      refine tn_getR (ci := 5) (i := 15) (n := 48) (x := x7) dX5_nameIndex_23 rfl lay_5 (by decide) fl5_40 h_a rfl rfl (hx8) ?_
      refine tn_iload_n dX5_nameIndex_26 rfl 2 rfl ?_
      refine tn_ialdX (z := i2) hw dX5_nameIndex_27 hk9i (by omega) (by omega) (by omega) (fun v12 g13q g13 g13k => ?_)
      clear g13k g13q
      refine tn_iload_n dX5_nameIndex_28 rfl 1 rfl ?_
      refine tn_icmp_ne (tgt := 34) dX5_nameIndex_29 (by decide) ⟨by omega, by omega⟩ ⟨by omega, by omega⟩ (fun h14 => ?_) (fun h14 => ?_)
      · refine tn_iinc (q0 := 2) (L' := [(2, .int (iI (i2 + 1))), (0, .ref a), (1, .int (iI c1))]) dX5_nameIndex_34 rfl (by decide) rfl ?_
        refine tn_goto (tgt := 2) dX5_nameIndex_37 (by decide) ?_
        exact tn_sub [1, 2, 0] rfl (ih _ (by omega) (i2 + 1) (by omega) rfl)
      · exact tn_sub [0, 1, 2] rfl (hx_32 (i2) (by omega))
theorem dX5_nameIndex_32 : decode cX5_nameIndex 32 = .ok (.iload_n 2, 1) := by decide +kernel
theorem dX5_nameIndex_33 : decode cX5_nameIndex 33 = .ok (.ireturn, 1) := by decide +kernel
theorem dX5_nameIndex_40 : decode cX5_nameIndex 40 = .ok (.iconst (-1), 1) := by decide +kernel
theorem dX5_nameIndex_41 : decode cX5_nameIndex 41 = .ok (.ireturn, 1) := by decide +kernel
set_option maxRecDepth 20000 in
theorem k_X5_nameIndex (d : Nat) {T : CT} {σ : MS} {a : Nat} {k : Int} (ha : OB T a 5) (h_k : -2147483648 ≤ k ∧ k ≤ 2147483647) (hw : WT T σ) : Tn (d + 1) m_X5_nameIndex 0 T σ [(0, .ref a), (1, .int (iI k))] [] (fun ro T2 σ2 => ∃ v : Int, ro = some (.int (iI v)) ∧ T = T2 ∧ σ = σ2 ∧ (-2147483648 ≤ v ∧ v ≤ 2147483647)) := by
  refine tn_iconst dX5_nameIndex_0 ?_
  refine tn_istore_n (L' := [(2, .int (iI 0)), (0, .ref a), (1, .int (iI k))]) dX5_nameIndex_1 rfl (by decide) rfl ?_
  refine tn_sub [1, 2, 0] rfl (l_X5_nameIndex_2 (d) (T := T) (σ := σ) (a := a) (c1 := k) ha (by omega) hw (fun i21 r7 => ?_) (fun i28 r14 => ?_) _ (0) (by omega) rfl)
  · show Tn _ _ 32 T σ [(0, .ref a), (1, .int (iI k)), (2, .int (iI i21))] [] _
    refine tn_iload_n dX5_nameIndex_32 rfl 2 rfl ?_
    exact tn_iret rfl dX5_nameIndex_33 ⟨_, rfl, rfl, rfl, by omega⟩
  · show Tn _ _ 40 T σ [(0, .ref a), (1, .int (iI k)), (2, .int (iI i28))] [] _
    refine tn_iconst dX5_nameIndex_40 ?_
    exact tn_iret rfl dX5_nameIndex_41 ⟨_, rfl, rfl, rfl, by omega⟩
