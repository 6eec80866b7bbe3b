theorem cd_X8_meets : Cond.code yX8_meets cX8_meets 4 (some .boolean) ∈ pWW := pw5 (List.mem_of_getElem? (i := 231) rfl) rfl
abbrev m_X8_meets : MT := (yX8_meets, cX8_meets, 4, (some .boolean))
theorem ok_X8_meets : pOk m_X8_meets := ⟨⟨cd_X8_meets, ini_8⟩, by decide +kernel, ⟨by decide +kernel, by decide +kernel⟩, Nat.le_of_ble_eq_true rfl⟩
theorem np_X8_meets : (parseMethodDescriptor yX8_meets.desc).map (fun d => d.parameters.length) = some 2 := by decide +kernel
theorem im_X8_meets : Cond.instanceMethod yX8_meets ∈ pWW := pw5 (List.mem_of_getElem? (i := 230) rfl) rfl
theorem se_X8_meets : Cond.selects RX8 yX8_meets yX8_meets ∈ pWW := pws (List.mem_map.mpr ⟨_, lw_pin 79 rfl, rfl⟩) rfl
theorem fl8_22 : Cond.fieldLink RX8 22 (TX8 4).1 (TX8 4).2.1 (TX8 4).2.2.1 ∈ pWW := pw2 (List.mem_of_getElem? (i := 102) rfl) rfl
theorem nl8_132 : (RX8, 132, yX11_bitsAt, "LineKeeper") ∈ nst_M := List.mem_of_getElem? (i := 43) rfl
theorem dX8_meets_0 : decode cX8_meets 0 = .ok (.iconst 0, 1) := by decide +kernel
theorem dX8_meets_1 : decode cX8_meets 1 = .ok (.istore_n 3, 1) := by decide +kernel
theorem dX8_meets_2 : decode cX8_meets 2 = .ok (.iload_n 3, 1) := by decide +kernel
theorem dX8_meets_3 : decode cX8_meets 3 = .ok (.iconst 3, 1) := by decide +kernel
theorem dX8_meets_4 : decode cX8_meets 4 = .ok (.if_icmp .ge 41, 3) := by decide +kernel
theorem dX8_meets_7 : decode cX8_meets 7 = .ok (.aload_n 0, 1) := by decide +kernel
theorem dX8_meets_8 : decode cX8_meets 8 = .ok (.getfield 22, 3) := by decide +kernel
theorem dX8_meets_11 : decode cX8_meets 11 = .ok (.iload_n 1, 1) := by decide +kernel
theorem dX8_meets_12 : decode cX8_meets 12 = .ok (.iconst 3, 1) := by decide +kernel
theorem dX8_meets_13 : decode cX8_meets 13 = .ok (.imul, 1) := by decide +kernel
theorem dX8_meets_14 : decode cX8_meets 14 = .ok (.iload_n 3, 1) := by decide +kernel
theorem dX8_meets_15 : decode cX8_meets 15 = .ok (.iadd, 1) := by decide +kernel
theorem dX8_meets_16 : decode cX8_meets 16 = .ok (.invokestatic 132, 3) := by decide +kernel
theorem dX8_meets_19 : decode cX8_meets 19 = .ok (.aload_n 0, 1) := by decide +kernel
theorem dX8_meets_20 : decode cX8_meets 20 = .ok (.getfield 9, 3) := by decide +kernel
theorem dX8_meets_23 : decode cX8_meets 23 = .ok (.iload_n 2, 1) := by decide +kernel
theorem dX8_meets_24 : decode cX8_meets 24 = .ok (.iconst 3, 1) := by decide +kernel
theorem dX8_meets_25 : decode cX8_meets 25 = .ok (.imul, 1) := by decide +kernel
theorem dX8_meets_26 : decode cX8_meets 26 = .ok (.iload_n 3, 1) := by decide +kernel
theorem dX8_meets_27 : decode cX8_meets 27 = .ok (.iadd, 1) := by decide +kernel
theorem dX8_meets_28 : decode cX8_meets 28 = .ok (.invokestatic 132, 3) := by decide +kernel
theorem dX8_meets_31 : decode cX8_meets 31 = .ok (.land, 1) := by decide +kernel
theorem dX8_meets_32 : decode cX8_meets 32 = .ok (.lconst 0, 1) := by decide +kernel
theorem dX8_meets_33 : decode cX8_meets 33 = .ok (.lcmp, 1) := by decide +kernel
theorem dX8_meets_34 : decode cX8_meets 34 = .ok (.ifCond .eq 5, 3) := by decide +kernel
theorem dX8_meets_39 : decode cX8_meets 39 = .ok (.iinc 3 1, 3) := by decide +kernel
theorem dX8_meets_42 : decode cX8_meets 42 = .ok (.goto (-40), 3) := by decide +kernel
set_option maxRecDepth 20000 in
theorem l_X8_meets_2 (d : Nat) {T : CT} {σ : MS} {a : Nat} {c1 : Int} {c2 : Int} {post : Option Value → CT → MS → Prop} (h_a : OB T a 8) (r_c1 : -2147483648 ≤ c1 ∧ c1 ≤ 2147483647) (r_c2 : -2147483648 ≤ c2 ∧ c2 ≤ 2147483647) (hw : WT T σ) (hx_37 : ∀ (i3 : Int) , (0 ≤ i3 ∧ i3 ≤ 2147483647) → Tn (d + 2) m_X8_meets 37 T σ [(0, .ref a), (1, .int (iI c1)), (2, .int (iI c2)), (3, .int (iI i3))] [] post) (hx_45 : ∀ (i3 : Int) , (0 ≤ i3 ∧ i3 ≤ 2147483647) → Tn (d + 2) m_X8_meets 45 T σ [(0, .ref a), (1, .int (iI c1)), (2, .int (iI c2)), (3, .int (iI i3))] [] post) : ∀ (n : Nat) (i3 : Int) , (0 ≤ i3 ∧ i3 ≤ 2147483647) → (2147483700 - i3).toNat = n → Tn (d + 2) m_X8_meets 2 T σ [(0, .ref a), (1, .int (iI c1)), (2, .int (iI c2)), (3, .int (iI i3))] [] post := by
  intro n
  induction n using Nat.strongRecOn with
  | _ n ih =>
    intro i3 r_i3 hm
    refine tn_iload_n dX8_meets_2 rfl 3 rfl ?_
    refine tn_iconst dX8_meets_3 ?_
    refine tn_icmp_ge (tgt := 45) dX8_meets_4 (by decide) ⟨by omega, by omega⟩ ⟨by decide, by decide⟩ (fun h1 => ?_) (fun h1 => ?_)
    · exact tn_sub [0, 1, 2, 3] rfl (hx_45 (i3) (by omega))
    · refine tn_aload_n dX8_meets_7 rfl 0 rfl ?_
      obtain ⟨x2, hx3, hk4, hl5⟩ : ∃ x : Nat, σ.2.1 76 a = (x : Int) ∧ AR T x 3 576 576 := wf_76 hw h_a
      refine tn_getR (ci := 8) (i := 4) (n := 76) (x := x2) dX8_meets_8 rfl lay_8 (by decide) fl8_22 h_a rfl rfl (hx3) ?_
      refine tn_iload_n dX8_meets_11 rfl 1 rfl ?_
      refine tn_iconst dX8_meets_12 ?_
      refine tn_imul dX8_meets_13 ?_
      refine tn_any (fun z6 g7 => ?_)
      have g7r : -2147483648 ≤ z6 ∧ z6 ≤ 2147483647 := g7
      refine tn_iload_n dX8_meets_14 rfl 3 rfl ?_
      refine tn_iadd dX8_meets_15 ?_
      refine tn_any (fun z8 g9 => ?_)
      have g9r : -2147483648 ≤ z8 ∧ z8 ≤ 2147483647 := g9
      refine tn_callSN (M := m_X8_meets) (pc := 16) (ix := 132) (M' := m_X11_bitsAt) (As := [.ref x2, .int (iI z8)]) (rest := []) dX8_meets_16 ok_X11_bitsAt stt_X11_bitsAt nl8_132 np_X11_bitsAt rfl (Nat.le_of_ble_eq_true rfl) (Nat.le_of_ble_eq_true rfl) rfl (k_X11_bitsAt (d) (T := T) (σ := σ) (x := x2) (i := z8) hk4 (by omega) (by omega) hw ) (fun r10 T12 σ11 gt13 hp => ?_)
      obtain ⟨v14, rfl, rfl, rfl⟩ := hp
      clear gt13
      show Tn _ _ 19 T σ [(0, .ref a), (1, .int (iI c1)), (2, .int (iI c2)), (3, .int (iI i3))] [.long (v14)] _
      refine tn_aload_n dX8_meets_19 rfl 0 rfl ?_
      obtain ⟨x15, hx16, hk17, hl18⟩ : ∃ x : Nat, σ.2.1 73 a = (x : Int) ∧ AR T x 3 576 576 := wf_73 hw h_a
      refine tn_getR (ci := 8) (i := 1) (n := 73) (x := x15) dX8_meets_20 rfl lay_8 (by decide) fl8_9 h_a rfl rfl (hx16) ?_
      refine tn_iload_n dX8_meets_23 rfl 2 rfl ?_
      refine tn_iconst dX8_meets_24 ?_
      refine tn_imul dX8_meets_25 ?_
      refine tn_any (fun z19 g20 => ?_)
      have g20r : -2147483648 ≤ z19 ∧ z19 ≤ 2147483647 := g20
      refine tn_iload_n dX8_meets_26 rfl 3 rfl ?_
      refine tn_iadd dX8_meets_27 ?_
      refine tn_any (fun z21 g22 => ?_)
      have g22r : -2147483648 ≤ z21 ∧ z21 ≤ 2147483647 := g22
      refine tn_callSN (M := m_X8_meets) (pc := 28) (ix := 132) (M' := m_X11_bitsAt) (As := [.ref x15, .int (iI z21)]) (rest := [.long (v14)]) dX8_meets_28 ok_X11_bitsAt stt_X11_bitsAt nl8_132 np_X11_bitsAt rfl (Nat.le_of_ble_eq_true rfl) (Nat.le_of_ble_eq_true rfl) rfl (k_X11_bitsAt (d) (T := T) (σ := σ) (x := x15) (i := z21) hk17 (by omega) (by omega) hw ) (fun r23 T25 σ24 gt26 hp => ?_)
      obtain ⟨v27, rfl, rfl, rfl⟩ := hp
      clear gt26
      show Tn _ _ 31 T σ [(0, .ref a), (1, .int (iI c1)), (2, .int (iI c2)), (3, .int (iI i3))] [.long (v27), .long (v14)] _
      refine tn_land dX8_meets_31 ?_
      refine tn_longX (fun w28 => ?_)
      refine tn_lconst (v := 0) dX8_meets_32 rfl ?_
      refine tn_lcmpX dX8_meets_33 ?_
      refine tn_anyI (fun z29 g30 => ?_)
      have g30r : -2147483648 ≤ z29 ∧ z29 ≤ 2147483647 := g30
      refine tn_if_eq (tgt := 39) dX8_meets_34 (by decide) ⟨by omega, by omega⟩ (fun h31 => ?_) (fun h31 => ?_)
      · refine tn_iinc (q0 := 3) (L' := [(3, .int (iI (i3 + 1))), (0, .ref a), (1, .int (iI c1)), (2, .int (iI c2))]) dX8_meets_39 rfl (by decide) rfl ?_
        refine tn_goto (tgt := 2) dX8_meets_42 (by decide) ?_
        exact tn_sub [1, 2, 3, 0] rfl (ih _ (by omega) (i3 + 1) (by omega) rfl)
      · exact tn_sub [0, 1, 2, 3] rfl (hx_37 (i3) (by omega))
theorem dX8_meets_37 : decode cX8_meets 37 = .ok (.iconst 1, 1) := by decide +kernel
theorem dX8_meets_38 : decode cX8_meets 38 = .ok (.ireturn, 1) := by decide +kernel
theorem dX8_meets_45 : decode cX8_meets 45 = .ok (.iconst 0, 1) := by decide +kernel
theorem dX8_meets_46 : decode cX8_meets 46 = .ok (.ireturn, 1) := by decide +kernel
set_option maxRecDepth 20000 in
theorem k_X8_meets (d : Nat) {T : CT} {σ : MS} {a : Nat} {p1 : Int} {p2 : Int} (ha : OB T a 8) (h_p1 : -2147483648 ≤ p1 ∧ p1 ≤ 2147483647) (h_p2 : -2147483648 ≤ p2 ∧ p2 ≤ 2147483647) (hw : WT T σ) : Tn (d + 2) m_X8_meets 0 T σ [(0, .ref a), (1, .int (iI p1)), (2, .int (iI p2))] [] (fun ro T2 σ2 => ∃ v : Int, ro = some (.int (iI v)) ∧ T = T2 ∧ σ = σ2 ∧ (v = 0 ∨ v = 1)) := by
  refine tn_iconst dX8_meets_0 ?_
  refine tn_istore_n (L' := [(3, .int (iI 0)), (0, .ref a), (1, .int (iI p1)), (2, .int (iI p2))]) dX8_meets_1 rfl (by decide) rfl ?_
  refine tn_sub [1, 2, 3, 0] rfl (l_X8_meets_2 (d) (T := T) (σ := σ) (a := a) (c1 := p1) (c2 := p2) ha (by omega) (by omega) hw (fun i31 r7 => ?_) (fun i38 r14 => ?_) _ (0) (by omega) rfl)
  · show Tn _ _ 37 T σ [(0, .ref a), (1, .int (iI p1)), (2, .int (iI p2)), (3, .int (iI i31))] [] _
    refine tn_iconst dX8_meets_37 ?_
    exact tn_zret (v := 1) rfl (by decide) dX8_meets_38 ⟨_, rfl, rfl, rfl, by omega⟩
  · show Tn _ _ 45 T σ [(0, .ref a), (1, .int (iI p1)), (2, .int (iI p2)), (3, .int (iI i38))] [] _
    refine tn_iconst dX8_meets_45 ?_
    exact tn_zret (v := 0) rfl (by decide) dX8_meets_46 ⟨_, rfl, rfl, rfl, by omega⟩
