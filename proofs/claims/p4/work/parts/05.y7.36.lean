theorem cd_X8_leansOnLost : Cond.code yX8_leansOnLost cX8_leansOnLost 5 (some .boolean) ∈ pWW := pw6 (List.mem_of_getElem? (i := 16) rfl) rfl
abbrev m_X8_leansOnLost : MT := (yX8_leansOnLost, cX8_leansOnLost, 5, (some .boolean))
theorem ok_X8_leansOnLost : pOk m_X8_leansOnLost := ⟨⟨cd_X8_leansOnLost, ini_8⟩, by decide +kernel, ⟨by decide +kernel, by decide +kernel⟩, Nat.le_of_ble_eq_true rfl⟩
theorem np_X8_leansOnLost : (parseMethodDescriptor yX8_leansOnLost.desc).map (fun d => d.parameters.length) = some 3 := by decide +kernel
theorem im_X8_leansOnLost : Cond.instanceMethod yX8_leansOnLost ∈ pWW := pw6 (List.mem_of_getElem? (i := 15) rfl) rfl
theorem se_X8_leansOnLost : Cond.selects RX8 yX8_leansOnLost yX8_leansOnLost ∈ pWW := pws (List.mem_map.mpr ⟨_, lw_pin 83 rfl, rfl⟩) rfl
theorem ml8_166 : Cond.methodLink RX8 166 yX1_get ∈ pWW := pw6 (List.mem_of_getElem? (i := 17) rfl) rfl
theorem ml8_169 : Cond.methodLink RX8 169 yX1_leansOn ∈ pWW := pw6 (List.mem_of_getElem? (i := 18) rfl) rfl
theorem dX8_leansOnLost_0 : decode cX8_leansOnLost 0 = .ok (.aload_n 1, 1) := by decide +kernel
theorem dX8_leansOnLost_1 : decode cX8_leansOnLost 1 = .ok (.iload_n 2, 1) := by decide +kernel
theorem dX8_leansOnLost_2 : decode cX8_leansOnLost 2 = .ok (.iconst 0, 1) := by decide +kernel
theorem dX8_leansOnLost_3 : decode cX8_leansOnLost 3 = .ok (.invokevirtual 166, 3) := by decide +kernel
theorem dX8_leansOnLost_6 : decode cX8_leansOnLost 6 = .ok (.bipush 12, 2) := by decide +kernel
theorem dX8_leansOnLost_8 : decode cX8_leansOnLost 8 = .ok (.if_icmp .ne 15, 3) := by decide +kernel
theorem dX8_leansOnLost_23 : decode cX8_leansOnLost 23 = .ok (.iconst 0, 1) := by decide +kernel
theorem dX8_leansOnLost_24 : decode cX8_leansOnLost 24 = .ok (.ireturn, 1) := by decide +kernel
theorem dX8_leansOnLost_11 : decode cX8_leansOnLost 11 = .ok (.aload_n 1, 1) := by decide +kernel
theorem dX8_leansOnLost_12 : decode cX8_leansOnLost 12 = .ok (.iload_n 2, 1) := by decide +kernel
theorem dX8_leansOnLost_13 : decode cX8_leansOnLost 13 = .ok (.bipush 11, 2) := by decide +kernel
theorem dX8_leansOnLost_15 : decode cX8_leansOnLost 15 = .ok (.invokevirtual 166, 3) := by decide +kernel
theorem dX8_leansOnLost_18 : decode cX8_leansOnLost 18 = .ok (.bipush 10, 2) := by decide +kernel
theorem dX8_leansOnLost_20 : decode cX8_leansOnLost 20 = .ok (.if_icmp .lt 5, 3) := by decide +kernel
theorem dX8_leansOnLost_25 : decode cX8_leansOnLost 25 = .ok (.iconst 0, 1) := by decide +kernel
theorem dX8_leansOnLost_26 : decode cX8_leansOnLost 26 = .ok (.istore 4, 2) := by decide +kernel
theorem dX8_leansOnLost_28 : decode cX8_leansOnLost 28 = .ok (.iload 4, 2) := by decide +kernel
theorem dX8_leansOnLost_30 : decode cX8_leansOnLost 30 = .ok (.iload_n 3, 1) := by decide +kernel
theorem dX8_leansOnLost_31 : decode cX8_leansOnLost 31 = .ok (.if_icmp .ge 34, 3) := by decide +kernel
theorem dX8_leansOnLost_34 : decode cX8_leansOnLost 34 = .ok (.aload_n 1, 1) := by decide +kernel
theorem dX8_leansOnLost_35 : decode cX8_leansOnLost 35 = .ok (.iload_n 2, 1) := by decide +kernel
theorem dX8_leansOnLost_36 : decode cX8_leansOnLost 36 = .ok (.iload 4, 2) := by decide +kernel
theorem dX8_leansOnLost_38 : decode cX8_leansOnLost 38 = .ok (.invokevirtual 169, 3) := by decide +kernel
theorem dX8_leansOnLost_41 : decode cX8_leansOnLost 41 = .ok (.ifCond .eq 18, 3) := by decide +kernel
theorem dX8_leansOnLost_59 : decode cX8_leansOnLost 59 = .ok (.iinc 4 1, 3) := by decide +kernel
theorem dX8_leansOnLost_62 : decode cX8_leansOnLost 62 = .ok (.goto (-34), 3) := by decide +kernel
theorem dX8_leansOnLost_44 : decode cX8_leansOnLost 44 = .ok (.aload_n 0, 1) := by decide +kernel
theorem dX8_leansOnLost_45 : decode cX8_leansOnLost 45 = .ok (.getfield 25, 3) := by decide +kernel
theorem dX8_leansOnLost_48 : decode cX8_leansOnLost 48 = .ok (.iload_n 2, 1) := by decide +kernel
theorem dX8_leansOnLost_49 : decode cX8_leansOnLost 49 = .ok (.iload 4, 2) := by decide +kernel
theorem dX8_leansOnLost_51 : decode cX8_leansOnLost 51 = .ok (.invokestatic 112, 3) := by decide +kernel
theorem dX8_leansOnLost_54 : decode cX8_leansOnLost 54 = .ok (.ifCond .ne 5, 3) := by decide +kernel
set_option maxRecDepth 20000 in
theorem l_X8_leansOnLost_28 (d : Nat) {T : CT} {σ : MS} {a : Nat} {rx1 : Nat} {c2 : Int} {c3 : Int} {post : Option Value → CT → MS → Prop} (h_a : OB T a 8) (h_rx1 : OB T rx1 1) (t_rx1 : (T rx1).1 = 50) (r_c2 : -2147483648 ≤ c2 ∧ c2 ≤ 2147483647) (r_c3 : -2147483648 ≤ c3 ∧ c3 ≤ 2147483647) (hw : WT T σ) (hx_57 : ∀ (i4 : Int) , (0 ≤ i4 ∧ i4 ≤ 2147483647) → Tn (d + 3) m_X8_leansOnLost 57 T σ [(0, .ref a), (1, .ref rx1), (2, .int (iI c2)), (3, .int (iI c3)), (4, .int (iI i4))] [] post) (hx_65 : ∀ (i4 : Int) , (0 ≤ i4 ∧ i4 ≤ 2147483647) → Tn (d + 3) m_X8_leansOnLost 65 T σ [(0, .ref a), (1, .ref rx1), (2, .int (iI c2)), (3, .int (iI c3)), (4, .int (iI i4))] [] post) : ∀ (n : Nat) (i4 : Int) , (0 ≤ i4 ∧ i4 ≤ 2147483647) → (2147483700 - i4).toNat = n → Tn (d + 3) m_X8_leansOnLost 28 T σ [(0, .ref a), (1, .ref rx1), (2, .int (iI c2)), (3, .int (iI c3)), (4, .int (iI i4))] [] post := by
  intro n
  induction n using Nat.strongRecOn with
  | _ n ih =>
    intro i4 r_i4 hm
    refine tn_iload dX8_leansOnLost_28 4 rfl ?_
    refine tn_iload_n dX8_leansOnLost_30 rfl 3 rfl ?_
    refine tn_icmp_ge (tgt := 65) dX8_leansOnLost_31 (by decide) ⟨by omega, by omega⟩ ⟨by omega, by omega⟩ (fun h1 => ?_) (fun h1 => ?_)
    · exact tn_sub [0, 1, 2, 3, 4] rfl (hx_65 (i4) (by omega))
    · refine tn_aload_n dX8_leansOnLost_34 rfl 1 rfl ?_
      refine tn_iload_n dX8_leansOnLost_35 rfl 2 rfl ?_
      refine tn_iload dX8_leansOnLost_36 4 rfl ?_
      refine tn_callV (M := m_X8_leansOnLost) (pc := 38) (ix := 169) (ci := 1) (M' := m_X1_leansOn) (As := [.int (iI c2), .int (iI i4)]) (rest := []) dX8_leansOnLost_38 ok_X1_leansOn im_X1_leansOn se_X1_leansOn ml8_169 np_X1_leansOn rfl rfl h_rx1 rfl (Nat.le_of_ble_eq_true rfl) (Nat.le_of_ble_eq_true rfl) rfl (k_X1_leansOn (d) (T := T) (σ := σ) (a := rx1) (k := c2) (r := i4) h_rx1 (by omega) (by omega) hw ) (fun r2 T4 σ3 gt5 hp => ?_)
      obtain ⟨v7, rfl, rfl, rfl, f6⟩ := hp
      clear gt5
      show Tn _ _ 41 T σ [(0, .ref a), (1, .ref rx1), (2, .int (iI c2)), (3, .int (iI c3)), (4, .int (iI i4))] [.int (iI v7)] _
      refine tn_if_eq (tgt := 59) dX8_leansOnLost_41 (by decide) ⟨by omega, by omega⟩ (fun h8 => ?_) (fun h8 => ?_)
      · refine tn_iinc (q0 := 4) (L' := [(4, .int (iI (i4 + 1))), (0, .ref a), (1, .ref rx1), (2, .int (iI c2)), (3, .int (iI c3))]) dX8_leansOnLost_59 rfl (by decide) rfl ?_
        refine tn_goto (tgt := 28) dX8_leansOnLost_62 (by decide) ?_
        exact tn_sub [1, 2, 3, 4, 0] rfl (ih _ (by omega) (i4 + 1) (by omega) rfl)
      · refine tn_aload_n dX8_leansOnLost_44 rfl 0 rfl ?_
        obtain ⟨x9, hx10, hk11, hl12⟩ : ∃ x : Nat, σ.2.1 77 a = (x : Int) ∧ AR T x 3 603 603 := wf_77 hw h_a
        refine tn_getR (ci := 8) (i := 5) (n := 77) (x := x9) dX8_leansOnLost_45 rfl lay_8 (by decide) fl8_25 h_a rfl rfl (hx10) ?_
        refine tn_iload_n dX8_leansOnLost_48 rfl 2 rfl ?_
        refine tn_iload dX8_leansOnLost_49 4 rfl ?_
        refine tn_callSN (M := m_X8_leansOnLost) (pc := 51) (ix := 112) (M' := m_X11_has) (As := [.ref x9, .int (iI c2), .int (iI i4)]) (rest := []) dX8_leansOnLost_51 ok_X11_has stt_X11_has nl8_112 np_X11_has rfl (Nat.le_of_ble_eq_true rfl) (Nat.le_of_ble_eq_true rfl) rfl (k_X11_has (d) (T := T) (σ := σ) (x := x9) (k := c2) (r := i4) hk11 (by omega) (by omega) (by omega) hw ) (fun r13 T15 σ14 gt16 hp => ?_)
        obtain ⟨v18, rfl, rfl, rfl, f17⟩ := hp
        clear gt16
        show Tn _ _ 54 T σ [(0, .ref a), (1, .ref rx1), (2, .int (iI c2)), (3, .int (iI c3)), (4, .int (iI i4))] [.int (iI v18)] _
        refine tn_if_ne (tgt := 59) dX8_leansOnLost_54 (by decide) ⟨by omega, by omega⟩ (fun h19 => ?_) (fun h19 => ?_)
        · refine tn_iinc (q0 := 4) (L' := [(4, .int (iI (i4 + 1))), (0, .ref a), (1, .ref rx1), (2, .int (iI c2)), (3, .int (iI c3))]) dX8_leansOnLost_59 rfl (by decide) rfl ?_
          refine tn_goto (tgt := 28) dX8_leansOnLost_62 (by decide) ?_
          exact tn_sub [1, 2, 3, 4, 0] rfl (ih _ (by omega) (i4 + 1) (by omega) rfl)
        · exact tn_sub [0, 1, 2, 3, 4] rfl (hx_57 (i4) (by omega))
theorem dX8_leansOnLost_57 : decode cX8_leansOnLost 57 = .ok (.iconst 1, 1) := by decide +kernel
theorem dX8_leansOnLost_58 : decode cX8_leansOnLost 58 = .ok (.ireturn, 1) := by decide +kernel
theorem dX8_leansOnLost_65 : decode cX8_leansOnLost 65 = .ok (.iconst 0, 1) := by decide +kernel
theorem dX8_leansOnLost_66 : decode cX8_leansOnLost 66 = .ok (.ireturn, 1) := by decide +kernel
set_option maxRecDepth 20000 in
theorem k_X8_leansOnLost (d : Nat) {T : CT} {σ : MS} {a : Nat} {p1 : Nat} {p2 : Int} {p3 : Int} (ha : OB T a 8) (h_p1 : OB T p1 1) (t_p1 : (T p1).1 = 50) (h_p2 : -2147483648 ≤ p2 ∧ p2 ≤ 2147483647) (h_p3 : -2147483648 ≤ p3 ∧ p3 ≤ 2147483647) (hw : WT T σ) : Tn (d + 3) m_X8_leansOnLost 0 T σ [(0, .ref a), (1, .ref p1), (2, .int (iI p2)), (3, .int (iI p3))] [] (fun ro T2 σ2 => ∃ v : Int, ro = some (.int (iI v)) ∧ T = T2 ∧ σ = σ2 ∧ (v = 0 ∨ v = 1)) := by
  refine tn_aload_n dX8_leansOnLost_0 rfl 1 rfl ?_
  refine tn_iload_n dX8_leansOnLost_1 rfl 2 rfl ?_
  refine tn_iconst dX8_leansOnLost_2 ?_
  refine tn_callV (M := m_X8_leansOnLost) (pc := 3) (ix := 166) (ci := 1) (M' := m_X1_get) (As := [.int (iI p2), .int (iI 0)]) (rest := []) dX8_leansOnLost_3 ok_X1_get im_X1_get se_X1_get ml8_166 np_X1_get rfl rfl h_p1 rfl (Nat.le_of_ble_eq_true rfl) (Nat.le_of_ble_eq_true rfl) rfl (k_X1_get (d + 1) (T := T) (σ := σ) (a := p1) (k := p2) (c := 0) h_p1 (by omega) (by decide) hw (by omega)) (fun r1 T3 σ2 gt4 hp => ?_)
  obtain ⟨v6, rfl, rfl, rfl, f5⟩ := hp
  clear gt4
  show Tn _ _ 6 T σ [(0, .ref a), (1, .ref p1), (2, .int (iI p2)), (3, .int (iI p3))] [.int (iI v6)] _
  refine tn_bipush dX8_leansOnLost_6 (by decide) ?_
  refine tn_icmp_ne (tgt := 23) dX8_leansOnLost_8 (by decide) ⟨by omega, by omega⟩ ⟨by decide, by decide⟩ (fun h7 => ?_) (fun h7 => ?_)
  · refine tn_iconst dX8_leansOnLost_23 ?_
    exact tn_zret (v := 0) rfl (by decide) dX8_leansOnLost_24 ⟨_, rfl, rfl, rfl, by omega⟩
  · refine tn_aload_n dX8_leansOnLost_11 rfl 1 rfl ?_
    refine tn_iload_n dX8_leansOnLost_12 rfl 2 rfl ?_
    refine tn_bipush dX8_leansOnLost_13 (by decide) ?_
    refine tn_callV (M := m_X8_leansOnLost) (pc := 15) (ix := 166) (ci := 1) (M' := m_X1_get) (As := [.int (iI p2), .int (iI 11)]) (rest := []) dX8_leansOnLost_15 ok_X1_get im_X1_get se_X1_get ml8_166 np_X1_get rfl rfl h_p1 rfl (Nat.le_of_ble_eq_true rfl) (Nat.le_of_ble_eq_true rfl) rfl (k_X1_get (d + 1) (T := T) (σ := σ) (a := p1) (k := p2) (c := 11) h_p1 (by omega) (by decide) hw (by omega)) (fun r8 T10 σ9 gt11 hp => ?_)
    obtain ⟨v13, rfl, rfl, rfl, f12⟩ := hp
    clear gt11
    show Tn _ _ 18 T σ [(0, .ref a), (1, .ref p1), (2, .int (iI p2)), (3, .int (iI p3))] [.int (iI v13)] _
    refine tn_bipush dX8_leansOnLost_18 (by decide) ?_
    refine tn_icmp_lt (tgt := 25) dX8_leansOnLost_20 (by decide) ⟨by omega, by omega⟩ ⟨by decide, by decide⟩ (fun h14 => ?_) (fun h14 => ?_)
    · refine tn_iconst dX8_leansOnLost_25 ?_
      refine tn_istore (L' := [(4, .int (iI 0)), (0, .ref a), (1, .ref p1), (2, .int (iI p2)), (3, .int (iI p3))]) dX8_leansOnLost_26 (by decide) rfl ?_
      refine tn_sub [1, 2, 3, 4, 0] rfl (l_X8_leansOnLost_28 (d) (T := T) (σ := σ) (a := a) (rx1 := p1) (c2 := p2) (c3 := p3) ha h_p1 t_p1 (by omega) (by omega) hw (fun i415 r21 => ?_) (fun i422 r28 => ?_) _ (0) (by omega) rfl)
      · show Tn _ _ 57 T σ [(0, .ref a), (1, .ref p1), (2, .int (iI p2)), (3, .int (iI p3)), (4, .int (iI i415))] [] _
        refine tn_iconst dX8_leansOnLost_57 ?_
        exact tn_zret (v := 1) rfl (by decide) dX8_leansOnLost_58 ⟨_, rfl, rfl, rfl, by omega⟩
      · show Tn _ _ 65 T σ [(0, .ref a), (1, .ref p1), (2, .int (iI p2)), (3, .int (iI p3)), (4, .int (iI i422))] [] _
        refine tn_iconst dX8_leansOnLost_65 ?_
        exact tn_zret (v := 0) rfl (by decide) dX8_leansOnLost_66 ⟨_, rfl, rfl, rfl, by omega⟩
    · refine tn_iconst dX8_leansOnLost_23 ?_
      exact tn_zret (v := 0) rfl (by decide) dX8_leansOnLost_24 ⟨_, rfl, rfl, rfl, by omega⟩
