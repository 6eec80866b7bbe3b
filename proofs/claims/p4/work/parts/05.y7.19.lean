theorem cd_X6_lastJumpTo : Cond.code yX6_lastJumpTo cX6_lastJumpTo 4 (some .int) ∈ pWW := pw5 (List.mem_of_getElem? (i := 93) rfl) rfl
abbrev m_X6_lastJumpTo : MT := (yX6_lastJumpTo, cX6_lastJumpTo, 4, (some .int))
theorem ok_X6_lastJumpTo : pOk m_X6_lastJumpTo := ⟨⟨cd_X6_lastJumpTo, ini_6⟩, by decide +kernel, ⟨by decide +kernel, by decide +kernel⟩, Nat.le_of_ble_eq_true rfl⟩
theorem np_X6_lastJumpTo : (parseMethodDescriptor yX6_lastJumpTo.desc).map (fun d => d.parameters.length) = some 2 := by decide +kernel
theorem im_X6_lastJumpTo : Cond.instanceMethod yX6_lastJumpTo ∈ pWW := pw5 (List.mem_of_getElem? (i := 92) rfl) rfl
theorem se_X6_lastJumpTo : Cond.selects RX6 yX6_lastJumpTo yX6_lastJumpTo ∈ pWW := pws (List.mem_map.mpr ⟨_, lw_pin 58 rfl, rfl⟩) rfl
theorem dX6_lastJumpTo_0 : decode cX6_lastJumpTo 0 = .ok (.aload_n 1, 1) := by decide +kernel
theorem dX6_lastJumpTo_1 : decode cX6_lastJumpTo 1 = .ok (.getfield 22, 3) := by decide +kernel
theorem dX6_lastJumpTo_4 : decode cX6_lastJumpTo 4 = .ok (.iconst 1, 1) := by decide +kernel
theorem dX6_lastJumpTo_5 : decode cX6_lastJumpTo 5 = .ok (.isub, 1) := by decide +kernel
theorem dX6_lastJumpTo_6 : decode cX6_lastJumpTo 6 = .ok (.istore_n 3, 1) := by decide +kernel
theorem dX6_lastJumpTo_7 : decode cX6_lastJumpTo 7 = .ok (.iload_n 3, 1) := by decide +kernel
theorem dX6_lastJumpTo_8 : decode cX6_lastJumpTo 8 = .ok (.iload_n 2, 1) := by decide +kernel
theorem dX6_lastJumpTo_9 : decode cX6_lastJumpTo 9 = .ok (.if_icmp .le 37, 3) := by decide +kernel
theorem dX6_lastJumpTo_12 : decode cX6_lastJumpTo 12 = .ok (.aload_n 1, 1) := by decide +kernel
theorem dX6_lastJumpTo_13 : decode cX6_lastJumpTo 13 = .ok (.iload_n 3, 1) := by decide +kernel
theorem dX6_lastJumpTo_14 : decode cX6_lastJumpTo 14 = .ok (.iconst 0, 1) := by decide +kernel
theorem dX6_lastJumpTo_15 : decode cX6_lastJumpTo 15 = .ok (.invokevirtual 34, 3) := by decide +kernel
theorem dX6_lastJumpTo_18 : decode cX6_lastJumpTo 18 = .ok (.bipush 8, 2) := by decide +kernel
theorem dX6_lastJumpTo_20 : decode cX6_lastJumpTo 20 = .ok (.if_icmp .ne 20, 3) := by decide +kernel
theorem dX6_lastJumpTo_40 : decode cX6_lastJumpTo 40 = .ok (.iinc 3 (-1), 3) := by decide +kernel
theorem dX6_lastJumpTo_43 : decode cX6_lastJumpTo 43 = .ok (.goto (-36), 3) := by decide +kernel
theorem dX6_lastJumpTo_23 : decode cX6_lastJumpTo 23 = .ok (.aload_n 1, 1) := by decide +kernel
theorem dX6_lastJumpTo_24 : decode cX6_lastJumpTo 24 = .ok (.iload_n 3, 1) := by decide +kernel
theorem dX6_lastJumpTo_25 : decode cX6_lastJumpTo 25 = .ok (.iconst 1, 1) := by decide +kernel
theorem dX6_lastJumpTo_26 : decode cX6_lastJumpTo 26 = .ok (.invokevirtual 34, 3) := by decide +kernel
theorem dX6_lastJumpTo_29 : decode cX6_lastJumpTo 29 = .ok (.aload_n 1, 1) := by decide +kernel
theorem dX6_lastJumpTo_30 : decode cX6_lastJumpTo 30 = .ok (.iload_n 2, 1) := by decide +kernel
theorem dX6_lastJumpTo_31 : decode cX6_lastJumpTo 31 = .ok (.iconst 1, 1) := by decide +kernel
theorem dX6_lastJumpTo_32 : decode cX6_lastJumpTo 32 = .ok (.invokevirtual 34, 3) := by decide +kernel
theorem dX6_lastJumpTo_35 : decode cX6_lastJumpTo 35 = .ok (.if_icmp .ne 5, 3) := by decide +kernel
set_option maxRecDepth 20000 in
theorem l_X6_lastJumpTo_7 (d : Nat) {T : CT} {σ : MS} {rx1 : Nat} {c2 : Int} {post : Option Value → CT → MS → Prop} (h_rx1 : OB T rx1 1) (t_rx1 : (T rx1).1 = 50) (r_c2 : 0 ≤ c2 ∧ c2 ≤ 2147483647) (hw : WT T σ) (hx_38 : ∀ (i3 : Int) , (-1 ≤ i3 ∧ i3 ≤ 199) → Tn (d + 2) m_X6_lastJumpTo 38 T σ [(1, .ref rx1), (2, .int (iI c2)), (3, .int (iI i3))] [] post) (hx_46 : ∀ (i3 : Int) , (-1 ≤ i3 ∧ i3 ≤ 199) → Tn (d + 2) m_X6_lastJumpTo 46 T σ [(1, .ref rx1), (2, .int (iI c2)), (3, .int (iI i3))] [] post) : ∀ (n : Nat) (i3 : Int) , (-1 ≤ i3 ∧ i3 ≤ 199) → (i3 + 20).toNat = n → Tn (d + 2) m_X6_lastJumpTo 7 T σ [(1, .ref rx1), (2, .int (iI c2)), (3, .int (iI i3))] [] post := by
  intro n
  induction n using Nat.strongRecOn with
  | _ n ih =>
    intro i3 r_i3 hm
    refine tn_iload_n dX6_lastJumpTo_7 rfl 2 rfl ?_
    refine tn_iload_n dX6_lastJumpTo_8 rfl 1 rfl ?_
    refine tn_icmp_le (tgt := 46) dX6_lastJumpTo_9 (by decide) ⟨by omega, by omega⟩ ⟨by omega, by omega⟩ (fun h1 => ?_) (fun h1 => ?_)
    · exact tn_sub [0, 1, 2] rfl (hx_46 (i3) (by omega))
    · refine tn_aload_n dX6_lastJumpTo_12 rfl 0 rfl ?_
      refine tn_iload_n dX6_lastJumpTo_13 rfl 2 rfl ?_
      refine tn_iconst dX6_lastJumpTo_14 ?_
      refine tn_callV (M := m_X6_lastJumpTo) (pc := 15) (ix := 34) (ci := 1) (M' := m_X1_get) (As := [.int (iI i3), .int (iI 0)]) (rest := []) dX6_lastJumpTo_15 ok_X1_get im_X1_get se_X1_get ml6_34 np_X1_get rfl rfl h_rx1 rfl (Nat.le_of_ble_eq_true rfl) (Nat.le_of_ble_eq_true rfl) rfl (k_X1_get (d) (T := T) (σ := σ) (a := rx1) (k := i3) (c := 0) h_rx1 (by omega) (by decide) hw (by omega)) (fun r2 T4 σ3 gt5 hp => ?_)
      obtain ⟨v7, rfl, rfl, rfl, f6⟩ := hp
      clear gt5
      show Tn _ _ 18 T σ [(1, .ref rx1), (2, .int (iI c2)), (3, .int (iI i3))] [.int (iI v7)] _
      refine tn_bipush dX6_lastJumpTo_18 (by decide) ?_
      refine tn_icmp_ne (tgt := 40) dX6_lastJumpTo_20 (by decide) ⟨by omega, by omega⟩ ⟨by decide, by decide⟩ (fun h8 => ?_) (fun h8 => ?_)
      · refine tn_iinc (q0 := 2) (L' := [(3, .int (iI (i3 + (-1)))), (1, .ref rx1), (2, .int (iI c2))]) dX6_lastJumpTo_40 rfl (by decide) rfl ?_
        refine tn_goto (tgt := 7) dX6_lastJumpTo_43 (by decide) ?_
        exact tn_sub [1, 2, 0] rfl (ih _ (by omega) (i3 + (-1)) (by omega) rfl)
      · refine tn_aload_n dX6_lastJumpTo_23 rfl 0 rfl ?_
        refine tn_iload_n dX6_lastJumpTo_24 rfl 2 rfl ?_
        refine tn_iconst dX6_lastJumpTo_25 ?_
        refine tn_callV (M := m_X6_lastJumpTo) (pc := 26) (ix := 34) (ci := 1) (M' := m_X1_get) (As := [.int (iI i3), .int (iI 1)]) (rest := []) dX6_lastJumpTo_26 ok_X1_get im_X1_get se_X1_get ml6_34 np_X1_get rfl rfl h_rx1 rfl (Nat.le_of_ble_eq_true rfl) (Nat.le_of_ble_eq_true rfl) rfl (k_X1_get (d) (T := T) (σ := σ) (a := rx1) (k := i3) (c := 1) h_rx1 (by omega) (by decide) hw (by omega)) (fun r9 T11 σ10 gt12 hp => ?_)
        obtain ⟨v14, rfl, rfl, rfl, f13⟩ := hp
        clear gt12
        show Tn _ _ 29 T σ [(1, .ref rx1), (2, .int (iI c2)), (3, .int (iI i3))] [.int (iI v14)] _
        refine tn_aload_n dX6_lastJumpTo_29 rfl 0 rfl ?_
        refine tn_iload_n dX6_lastJumpTo_30 rfl 1 rfl ?_
        refine tn_iconst dX6_lastJumpTo_31 ?_
        refine tn_callV (M := m_X6_lastJumpTo) (pc := 32) (ix := 34) (ci := 1) (M' := m_X1_get) (As := [.int (iI c2), .int (iI 1)]) (rest := [.int (iI v14)]) dX6_lastJumpTo_32 ok_X1_get im_X1_get se_X1_get ml6_34 np_X1_get rfl rfl h_rx1 rfl (Nat.le_of_ble_eq_true rfl) (Nat.le_of_ble_eq_true rfl) rfl (k_X1_get (d) (T := T) (σ := σ) (a := rx1) (k := c2) (c := 1) h_rx1 (by omega) (by decide) hw (by omega)) (fun r15 T17 σ16 gt18 hp => ?_)
        obtain ⟨v20, rfl, rfl, rfl, f19⟩ := hp
        clear gt18
        show Tn _ _ 35 T σ [(1, .ref rx1), (2, .int (iI c2)), (3, .int (iI i3))] [.int (iI v20), .int (iI v14)] _
        refine tn_icmp_ne (tgt := 40) dX6_lastJumpTo_35 (by decide) ⟨by omega, by omega⟩ ⟨by omega, by omega⟩ (fun h21 => ?_) (fun h21 => ?_)
        · refine tn_iinc (q0 := 2) (L' := [(3, .int (iI (i3 + (-1)))), (1, .ref rx1), (2, .int (iI c2))]) dX6_lastJumpTo_40 rfl (by decide) rfl ?_
          refine tn_goto (tgt := 7) dX6_lastJumpTo_43 (by decide) ?_
          exact tn_sub [1, 2, 0] rfl (ih _ (by omega) (i3 + (-1)) (by omega) rfl)
        · exact tn_sub [0, 1, 2] rfl (hx_38 (i3) (by omega))
theorem dX6_lastJumpTo_38 : decode cX6_lastJumpTo 38 = .ok (.iload_n 3, 1) := by decide +kernel
theorem dX6_lastJumpTo_39 : decode cX6_lastJumpTo 39 = .ok (.ireturn, 1) := by decide +kernel
theorem dX6_lastJumpTo_46 : decode cX6_lastJumpTo 46 = .ok (.iconst (-1), 1) := by decide +kernel
theorem dX6_lastJumpTo_47 : decode cX6_lastJumpTo 47 = .ok (.ireturn, 1) := by decide +kernel
set_option maxRecDepth 20000 in
theorem k_X6_lastJumpTo (d : Nat) {T : CT} {σ : MS} {a : Nat} {p1 : Nat} {p2 : Int} (ha : OB T a 6) (h_p1 : OB T p1 1) (t_p1 : (T p1).1 = 50) (h_p2 : -2147483648 ≤ p2 ∧ p2 ≤ 2147483647) (hw : WT T σ) (hl : 0 ≤ p2) : Tn (d + 2) m_X6_lastJumpTo 0 T σ [(0, .ref a), (1, .ref p1), (2, .int (iI p2))] [] (fun ro T2 σ2 => ∃ v : Int, ro = some (.int (iI v)) ∧ T = T2 ∧ σ = σ2 ∧ (-1 ≤ v ∧ v ≤ 5000) ∧ (-1 ≤ v ∧ v ≤ 5000)) := by
  refine tn_aload_n dX6_lastJumpTo_0 rfl 1 rfl ?_
  refine tn_getI (ci := 1) (i := 1) (n := 6) (t := σ.2.1 6 p1) dX6_lastJumpTo_1 rfl lay_1 (by decide) fl6_22 h_p1 rfl rfl (rfl) ?_
  have g1 : ((0 : Int) ≤ σ.2.1 6 p1 ∧ σ.2.1 6 p1 ≤ 5000) ∧ ((T p1).1 = 50 → σ.2.1 6 p1 ≤ 200) := wf_6 hw h_p1
  have g1x := g1.2
  replace g1 := g1.1
  have g1x := g1x t_p1
  refine tn_iconst dX6_lastJumpTo_4 ?_
  refine tn_isub dX6_lastJumpTo_5 ?_
  refine tn_istore_n (L' := [(3, .int (iI ((σ.2.1 6 p1) - 1))), (0, .ref a), (1, .ref p1), (2, .int (iI p2))]) dX6_lastJumpTo_6 rfl (by decide) rfl ?_
  refine tn_sub [2, 3, 0] rfl (l_X6_lastJumpTo_7 (d) (T := T) (σ := σ) (rx1 := p1) (c2 := p2) h_p1 t_p1 (by omega) hw (fun i32 r8 => ?_) (fun i39 r15 => ?_) _ ((σ.2.1 6 p1) - 1) (by omega) rfl)
  · show Tn _ _ 38 T σ [(1, .ref p1), (2, .int (iI p2)), (3, .int (iI i32))] [] _
    refine tn_iload_n dX6_lastJumpTo_38 rfl 2 rfl ?_
    exact tn_iret rfl dX6_lastJumpTo_39 ⟨_, rfl, rfl, rfl, by omega, by omega⟩
  · show Tn _ _ 46 T σ [(1, .ref p1), (2, .int (iI p2)), (3, .int (iI i39))] [] _
    refine tn_iconst dX6_lastJumpTo_46 ?_
    exact tn_iret rfl dX6_lastJumpTo_47 ⟨_, rfl, rfl, rfl, by omega, by omega⟩
