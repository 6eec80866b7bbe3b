theorem cd_X6_isOnlyWriter : Cond.code yX6_isOnlyWriter cX6_isOnlyWriter 5 (some .boolean) ∈ pWW := pw5 (List.mem_of_getElem? (i := 117) rfl) rfl
abbrev m_X6_isOnlyWriter : MT := (yX6_isOnlyWriter, cX6_isOnlyWriter, 5, (some .boolean))
theorem ok_X6_isOnlyWriter : pOk m_X6_isOnlyWriter := ⟨⟨cd_X6_isOnlyWriter, ini_6⟩, by decide +kernel, ⟨by decide +kernel, by decide +kernel⟩, Nat.le_of_ble_eq_true rfl⟩
theorem np_X6_isOnlyWriter : (parseMethodDescriptor yX6_isOnlyWriter.desc).map (fun d => d.parameters.length) = some 2 := by decide +kernel
theorem im_X6_isOnlyWriter : Cond.instanceMethod yX6_isOnlyWriter ∈ pWW := pw5 (List.mem_of_getElem? (i := 116) rfl) rfl
theorem se_X6_isOnlyWriter : Cond.selects RX6 yX6_isOnlyWriter yX6_isOnlyWriter ∈ pWW := pws (List.mem_map.mpr ⟨_, lw_pin 62 rfl, rfl⟩) rfl
theorem dX6_isOnlyWriter_0 : decode cX6_isOnlyWriter 0 = .ok (.aload_n 1, 1) := by decide +kernel
theorem dX6_isOnlyWriter_1 : decode cX6_isOnlyWriter 1 = .ok (.iload_n 2, 1) := by decide +kernel
theorem dX6_isOnlyWriter_2 : decode cX6_isOnlyWriter 2 = .ok (.invokevirtual 84, 3) := by decide +kernel
theorem dX6_isOnlyWriter_5 : decode cX6_isOnlyWriter 5 = .ok (.istore_n 3, 1) := by decide +kernel
theorem dX6_isOnlyWriter_6 : decode cX6_isOnlyWriter 6 = .ok (.iconst 0, 1) := by decide +kernel
theorem dX6_isOnlyWriter_7 : decode cX6_isOnlyWriter 7 = .ok (.istore 4, 2) := by decide +kernel
theorem dX6_isOnlyWriter_9 : decode cX6_isOnlyWriter 9 = .ok (.iload 4, 2) := by decide +kernel
theorem dX6_isOnlyWriter_11 : decode cX6_isOnlyWriter 11 = .ok (.aload_n 1, 1) := by decide +kernel
theorem dX6_isOnlyWriter_12 : decode cX6_isOnlyWriter 12 = .ok (.getfield 22, 3) := by decide +kernel
theorem dX6_isOnlyWriter_15 : decode cX6_isOnlyWriter 15 = .ok (.if_icmp .ge 27, 3) := by decide +kernel
theorem dX6_isOnlyWriter_18 : decode cX6_isOnlyWriter 18 = .ok (.iload 4, 2) := by decide +kernel
theorem dX6_isOnlyWriter_20 : decode cX6_isOnlyWriter 20 = .ok (.iload_n 2, 1) := by decide +kernel
theorem dX6_isOnlyWriter_21 : decode cX6_isOnlyWriter 21 = .ok (.if_icmp .eq 15, 3) := by decide +kernel
theorem dX6_isOnlyWriter_36 : decode cX6_isOnlyWriter 36 = .ok (.iinc 4 1, 3) := by decide +kernel
theorem dX6_isOnlyWriter_39 : decode cX6_isOnlyWriter 39 = .ok (.goto (-30), 3) := by decide +kernel
theorem dX6_isOnlyWriter_24 : decode cX6_isOnlyWriter 24 = .ok (.aload_n 1, 1) := by decide +kernel
theorem dX6_isOnlyWriter_25 : decode cX6_isOnlyWriter 25 = .ok (.iload 4, 2) := by decide +kernel
theorem dX6_isOnlyWriter_27 : decode cX6_isOnlyWriter 27 = .ok (.invokevirtual 84, 3) := by decide +kernel
theorem dX6_isOnlyWriter_30 : decode cX6_isOnlyWriter 30 = .ok (.iload_n 3, 1) := by decide +kernel
theorem dX6_isOnlyWriter_31 : decode cX6_isOnlyWriter 31 = .ok (.if_icmp .ne 5, 3) := by decide +kernel
set_option maxRecDepth 20000 in
theorem l_X6_isOnlyWriter_9 (d : Nat) {T : CT} {σ : MS} {rx1 : Nat} {c2 : Int} {c3 : Int} {post : Option Value → CT → MS → Prop} (h_rx1 : OB T rx1 1) (t_rx1 : (T rx1).1 = 50) (r_c2 : -2147483648 ≤ c2 ∧ c2 ≤ 2147483647) (r_c3 : -2147483648 ≤ c3 ∧ c3 ≤ 2147483647) (hw : WT T σ) (hx_34 : ∀ (i4 : Int) , (0 ≤ i4 ∧ i4 ≤ 2147483647) → Tn (d + 3) m_X6_isOnlyWriter 34 T σ [(1, .ref rx1), (2, .int (iI c2)), (3, .int (iI c3)), (4, .int (iI i4))] [] post) (hx_42 : ∀ (i4 : Int) , (0 ≤ i4 ∧ i4 ≤ 2147483647) → Tn (d + 3) m_X6_isOnlyWriter 42 T σ [(1, .ref rx1), (2, .int (iI c2)), (3, .int (iI c3)), (4, .int (iI i4))] [] post) : ∀ (n : Nat) (i4 : Int) , (0 ≤ i4 ∧ i4 ≤ 2147483647) → (2147483700 - i4).toNat = n → Tn (d + 3) m_X6_isOnlyWriter 9 T σ [(1, .ref rx1), (2, .int (iI c2)), (3, .int (iI c3)), (4, .int (iI i4))] [] post := by
  intro n
  induction n using Nat.strongRecOn with
  | _ n ih =>
    intro i4 r_i4 hm
    refine tn_iload dX6_isOnlyWriter_9 3 rfl ?_
    refine tn_aload_n dX6_isOnlyWriter_11 rfl 0 rfl ?_
    refine tn_getI (ci := 1) (i := 1) (n := 6) (t := σ.2.1 6 rx1) dX6_isOnlyWriter_12 rfl lay_1 (by decide) fl6_22 h_rx1 rfl rfl (rfl) ?_
    have g1 : ((0 : Int) ≤ σ.2.1 6 rx1 ∧ σ.2.1 6 rx1 ≤ 5000) ∧ ((T rx1).1 = 50 → σ.2.1 6 rx1 ≤ 200) := wf_6 hw h_rx1
    have g1x := g1.2
    replace g1 := g1.1
    have g1x := g1x t_rx1
    refine tn_icmp_ge (tgt := 42) dX6_isOnlyWriter_15 (by decide) ⟨by omega, by omega⟩ ⟨by omega, by omega⟩ (fun h2 => ?_) (fun h2 => ?_)
    · exact tn_sub [0, 1, 2, 3] rfl (hx_42 (i4) (by omega))
    · refine tn_iload dX6_isOnlyWriter_18 3 rfl ?_
      refine tn_iload_n dX6_isOnlyWriter_20 rfl 1 rfl ?_
      refine tn_icmp_eq (tgt := 36) dX6_isOnlyWriter_21 (by decide) ⟨by omega, by omega⟩ ⟨by omega, by omega⟩ (fun h3 => ?_) (fun h3 => ?_)
      · refine tn_iinc (q0 := 3) (L' := [(4, .int (iI (i4 + 1))), (1, .ref rx1), (2, .int (iI c2)), (3, .int (iI c3))]) dX6_isOnlyWriter_36 rfl (by decide) rfl ?_
        refine tn_goto (tgt := 9) dX6_isOnlyWriter_39 (by decide) ?_
        exact tn_sub [1, 2, 3, 0] rfl (ih _ (by omega) (i4 + 1) (by omega) rfl)
      · refine tn_aload_n dX6_isOnlyWriter_24 rfl 0 rfl ?_
        refine tn_iload dX6_isOnlyWriter_25 3 rfl ?_
        refine tn_callV (M := m_X6_isOnlyWriter) (pc := 27) (ix := 84) (ci := 1) (M' := m_X1_writtenBy) (As := [.int (iI i4)]) (rest := []) dX6_isOnlyWriter_27 ok_X1_writtenBy im_X1_writtenBy se_X1_writtenBy ml6_84 np_X1_writtenBy rfl rfl h_rx1 rfl (Nat.le_of_ble_eq_true rfl) (Nat.le_of_ble_eq_true rfl) rfl (k_X1_writtenBy (d) (T := T) (σ := σ) (a := rx1) (k := i4) h_rx1 (by omega) hw ) (fun r4 T6 σ5 gt7 hp => ?_)
        obtain ⟨v9, rfl, rfl, rfl, f8⟩ := hp
        clear gt7
        show Tn _ _ 30 T σ [(1, .ref rx1), (2, .int (iI c2)), (3, .int (iI c3)), (4, .int (iI i4))] [.int (iI v9)] _
        refine tn_iload_n dX6_isOnlyWriter_30 rfl 2 rfl ?_
        refine tn_icmp_ne (tgt := 36) dX6_isOnlyWriter_31 (by decide) ⟨by omega, by omega⟩ ⟨by omega, by omega⟩ (fun h10 => ?_) (fun h10 => ?_)
        · refine tn_iinc (q0 := 3) (L' := [(4, .int (iI (i4 + 1))), (1, .ref rx1), (2, .int (iI c2)), (3, .int (iI c3))]) dX6_isOnlyWriter_36 rfl (by decide) rfl ?_
          refine tn_goto (tgt := 9) dX6_isOnlyWriter_39 (by decide) ?_
          exact tn_sub [1, 2, 3, 0] rfl (ih _ (by omega) (i4 + 1) (by omega) rfl)
        · exact tn_sub [0, 1, 2, 3] rfl (hx_34 (i4) (by omega))
theorem dX6_isOnlyWriter_34 : decode cX6_isOnlyWriter 34 = .ok (.iconst 0, 1) := by decide +kernel
theorem dX6_isOnlyWriter_35 : decode cX6_isOnlyWriter 35 = .ok (.ireturn, 1) := by decide +kernel
theorem dX6_isOnlyWriter_42 : decode cX6_isOnlyWriter 42 = .ok (.iconst 1, 1) := by decide +kernel
theorem dX6_isOnlyWriter_43 : decode cX6_isOnlyWriter 43 = .ok (.ireturn, 1) := by decide +kernel
set_option maxRecDepth 20000 in
theorem k_X6_isOnlyWriter (d : Nat) {T : CT} {σ : MS} {a : Nat} {p1 : Nat} {p2 : Int} (ha : OB T a 6) (h_p1 : OB T p1 1) (t_p1 : (T p1).1 = 50) (h_p2 : -2147483648 ≤ p2 ∧ p2 ≤ 2147483647) (hw : WT T σ) : Tn (d + 3) m_X6_isOnlyWriter 0 T σ [(0, .ref a), (1, .ref p1), (2, .int (iI p2))] [] (fun ro T2 σ2 => ∃ v : Int, ro = some (.int (iI v)) ∧ T = T2 ∧ σ = σ2 ∧ (v = 0 ∨ v = 1)) := by
  refine tn_aload_n dX6_isOnlyWriter_0 rfl 1 rfl ?_
  refine tn_iload_n dX6_isOnlyWriter_1 rfl 2 rfl ?_
  refine tn_callV (M := m_X6_isOnlyWriter) (pc := 2) (ix := 84) (ci := 1) (M' := m_X1_writtenBy) (As := [.int (iI p2)]) (rest := []) dX6_isOnlyWriter_2 ok_X1_writtenBy im_X1_writtenBy se_X1_writtenBy ml6_84 np_X1_writtenBy rfl rfl h_p1 rfl (Nat.le_of_ble_eq_true rfl) (Nat.le_of_ble_eq_true rfl) rfl (k_X1_writtenBy (d) (T := T) (σ := σ) (a := p1) (k := p2) h_p1 (by omega) hw ) (fun r1 T3 σ2 gt4 hp => ?_)
  obtain ⟨v6, rfl, rfl, rfl, f5⟩ := hp
  clear gt4
  show Tn _ _ 5 T σ [(0, .ref a), (1, .ref p1), (2, .int (iI p2))] [.int (iI v6)] _
  refine tn_istore_n (L' := [(3, .int (iI v6)), (0, .ref a), (1, .ref p1), (2, .int (iI p2))]) dX6_isOnlyWriter_5 rfl (by decide) rfl ?_
  refine tn_iconst dX6_isOnlyWriter_6 ?_
  refine tn_istore (L' := [(4, .int (iI 0)), (3, .int (iI v6)), (0, .ref a), (1, .ref p1), (2, .int (iI p2))]) dX6_isOnlyWriter_7 (by decide) rfl ?_
  refine tn_sub [3, 4, 1, 0] rfl (l_X6_isOnlyWriter_9 (d) (T := T) (σ := σ) (rx1 := p1) (c2 := p2) (c3 := v6) h_p1 t_p1 (by omega) (by omega) hw (fun i47 r13 => ?_) (fun i414 r20 => ?_) _ (0) (by omega) rfl)
  · show Tn _ _ 34 T σ [(1, .ref p1), (2, .int (iI p2)), (3, .int (iI v6)), (4, .int (iI i47))] [] _
    refine tn_iconst dX6_isOnlyWriter_34 ?_
    exact tn_zret (v := 0) rfl (by decide) dX6_isOnlyWriter_35 ⟨_, rfl, rfl, rfl, by omega⟩
  · show Tn _ _ 42 T σ [(1, .ref p1), (2, .int (iI p2)), (3, .int (iI v6)), (4, .int (iI i414))] [] _
    refine tn_iconst dX6_isOnlyWriter_42 ?_
    exact tn_zret (v := 1) rfl (by decide) dX6_isOnlyWriter_43 ⟨_, rfl, rfl, rfl, by omega⟩
