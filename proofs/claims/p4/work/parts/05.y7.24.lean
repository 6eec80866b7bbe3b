theorem cd_X6_emptyLoop : Cond.code yX6_emptyLoop cX6_emptyLoop 7 (some .int) ∈ pWW := pw5 (List.mem_of_getElem? (i := 89) rfl) rfl
abbrev m_X6_emptyLoop : MT := (yX6_emptyLoop, cX6_emptyLoop, 7, (some .int))
theorem ok_X6_emptyLoop : pOk m_X6_emptyLoop := ⟨⟨cd_X6_emptyLoop, ini_6⟩, by decide +kernel, ⟨by decide +kernel, by decide +kernel⟩, Nat.le_of_ble_eq_true rfl⟩
theorem np_X6_emptyLoop : (parseMethodDescriptor yX6_emptyLoop.desc).map (fun d => d.parameters.length) = some 2 := by decide +kernel
theorem im_X6_emptyLoop : Cond.instanceMethod yX6_emptyLoop ∈ pWW := pw5 (List.mem_of_getElem? (i := 88) rfl) rfl
theorem se_X6_emptyLoop : Cond.selects RX6 yX6_emptyLoop yX6_emptyLoop ∈ pWW := pws (List.mem_map.mpr ⟨_, lw_pin 57 rfl, rfl⟩) rfl
theorem ml6_96 : Cond.methodLink RX6 96 yX6_lastJumpTo ∈ pWW := pw5 (List.mem_of_getElem? (i := 90) rfl) rfl
theorem ml6_99 : Cond.methodLink RX6 99 yX6_firstMovable ∈ pWW := pw5 (List.mem_of_getElem? (i := 94) rfl) rfl
theorem ml6_103 : Cond.methodLink RX6 103 yX1_liftRow ∈ pWW := pw5 (List.mem_of_getElem? (i := 118) rfl) rfl
theorem dX6_emptyLoop_0 : decode cX6_emptyLoop 0 = .ok (.aload_n 0, 1) := by decide +kernel
theorem dX6_emptyLoop_1 : decode cX6_emptyLoop 1 = .ok (.aload_n 1, 1) := by decide +kernel
theorem dX6_emptyLoop_2 : decode cX6_emptyLoop 2 = .ok (.iload_n 2, 1) := by decide +kernel
theorem dX6_emptyLoop_3 : decode cX6_emptyLoop 3 = .ok (.invokevirtual 96, 3) := by decide +kernel
theorem dX6_emptyLoop_6 : decode cX6_emptyLoop 6 = .ok (.istore_n 3, 1) := by decide +kernel
theorem dX6_emptyLoop_7 : decode cX6_emptyLoop 7 = .ok (.iload_n 2, 1) := by decide +kernel
theorem dX6_emptyLoop_8 : decode cX6_emptyLoop 8 = .ok (.istore 4, 2) := by decide +kernel
theorem dX6_emptyLoop_10 : decode cX6_emptyLoop 10 = .ok (.iconst 0, 1) := by decide +kernel
theorem dX6_emptyLoop_11 : decode cX6_emptyLoop 11 = .ok (.istore 5, 2) := by decide +kernel
theorem dX6_emptyLoop_13 : decode cX6_emptyLoop 13 = .ok (.iload 5, 2) := by decide +kernel
theorem dX6_emptyLoop_15 : decode cX6_emptyLoop 15 = .ok (.sipush 200, 3) := by decide +kernel
theorem dX6_emptyLoop_18 : decode cX6_emptyLoop 18 = .ok (.if_icmp .ge 39, 3) := by decide +kernel
theorem dX6_emptyLoop_21 : decode cX6_emptyLoop 21 = .ok (.aload_n 0, 1) := by decide +kernel
theorem dX6_emptyLoop_22 : decode cX6_emptyLoop 22 = .ok (.aload_n 1, 1) := by decide +kernel
theorem dX6_emptyLoop_23 : decode cX6_emptyLoop 23 = .ok (.iload 4, 2) := by decide +kernel
theorem dX6_emptyLoop_25 : decode cX6_emptyLoop 25 = .ok (.iload_n 3, 1) := by decide +kernel
theorem dX6_emptyLoop_26 : decode cX6_emptyLoop 26 = .ok (.invokevirtual 99, 3) := by decide +kernel
theorem dX6_emptyLoop_29 : decode cX6_emptyLoop 29 = .ok (.istore 6, 2) := by decide +kernel
theorem dX6_emptyLoop_31 : decode cX6_emptyLoop 31 = .ok (.iload 6, 2) := by decide +kernel
theorem dX6_emptyLoop_33 : decode cX6_emptyLoop 33 = .ok (.iconst (-1), 1) := by decide +kernel
theorem dX6_emptyLoop_34 : decode cX6_emptyLoop 34 = .ok (.if_icmp .ne 6, 3) := by decide +kernel
theorem dX6_emptyLoop_40 : decode cX6_emptyLoop 40 = .ok (.aload_n 1, 1) := by decide +kernel
theorem dX6_emptyLoop_41 : decode cX6_emptyLoop 41 = .ok (.iload 6, 2) := by decide +kernel
theorem dX6_emptyLoop_43 : decode cX6_emptyLoop 43 = .ok (.iload 4, 2) := by decide +kernel
theorem dX6_emptyLoop_45 : decode cX6_emptyLoop 45 = .ok (.invokevirtual 103, 3) := by decide +kernel
theorem dX6_emptyLoop_48 : decode cX6_emptyLoop 48 = .ok (.iinc 4 1, 3) := by decide +kernel
theorem dX6_emptyLoop_51 : decode cX6_emptyLoop 51 = .ok (.iinc 5 1, 3) := by decide +kernel
theorem dX6_emptyLoop_54 : decode cX6_emptyLoop 54 = .ok (.goto (-41), 3) := by decide +kernel
set_option maxRecDepth 20000 in
theorem l_X6_emptyLoop_13 (d : Nat) {T : CT} {σ0 : MS} {a : Nat} {rx1 : Nat} {c2 : Int} {c3 : Int} {post : Option Value → CT → MS → Prop} (h_a : OB T a 6) (h_rx1 : OB T rx1 1) (t_rx1 : (T rx1).1 = 50) (r_c2 : -2147483648 ≤ c2 ∧ c2 ≤ 2147483647) (r_c3 : -1 ≤ c3 ∧ c3 ≤ 5000) (hw0 : WT T σ0) (hx_37 : ∀ (i4 : Int) (i5 : Int) (σ : MS) , (WT T σ) → (FrC T [] σ0 σ) → (-2147483648 ≤ i4 ∧ i4 ≤ 2147483647) → (0 ≤ i5 ∧ i5 ≤ 2147483647) → Tn (d + 6) m_X6_emptyLoop 37 T σ [(0, .ref a), (1, .ref rx1), (2, .int (iI c2)), (3, .int (iI c3)), (4, .int (iI i4)), (5, .int (iI i5))] [] post) (hx_57 : ∀ (i4 : Int) (i5 : Int) (σ : MS) , (WT T σ) → (FrC T [] σ0 σ) → (-2147483648 ≤ i4 ∧ i4 ≤ 2147483647) → (0 ≤ i5 ∧ i5 ≤ 2147483647) → Tn (d + 6) m_X6_emptyLoop 57 T σ [(0, .ref a), (1, .ref rx1), (2, .int (iI c2)), (3, .int (iI c3)), (4, .int (iI i4)), (5, .int (iI i5))] [] post) : ∀ (n : Nat) (i4 : Int) (i5 : Int) (σ : MS) , (WT T σ) → (FrC T [] σ0 σ) → (-2147483648 ≤ i4 ∧ i4 ≤ 2147483647) → (0 ≤ i5 ∧ i5 ≤ 2147483647) → (2147483700 - i5).toNat = n → Tn (d + 6) m_X6_emptyLoop 13 T σ [(0, .ref a), (1, .ref rx1), (2, .int (iI c2)), (3, .int (iI c3)), (4, .int (iI i4)), (5, .int (iI i5))] [] post := by
  intro n
  induction n using Nat.strongRecOn with
  | _ n ih =>
    intro i4 i5 σ hw hF r_i4 r_i5 hm
    refine tn_iload dX6_emptyLoop_13 5 rfl ?_
    refine tn_sipush dX6_emptyLoop_15 (by decide) ?_
    refine tn_icmp_ge (tgt := 57) dX6_emptyLoop_18 (by decide) ⟨by omega, by omega⟩ ⟨by decide, by decide⟩ (fun h1 => ?_) (fun h1 => ?_)
    · exact tn_sub [0, 1, 2, 3, 4, 5] rfl (hx_57 (i4) (i5) σ hw (FrC.rfl.trans (FrC.sub hF (by decide))) (by omega) (by omega))
    · refine tn_aload_n dX6_emptyLoop_21 rfl 0 rfl ?_
      refine tn_aload_n dX6_emptyLoop_22 rfl 1 rfl ?_
      refine tn_iload dX6_emptyLoop_23 4 rfl ?_
      refine tn_iload_n dX6_emptyLoop_25 rfl 3 rfl ?_
      refine tn_callV (M := m_X6_emptyLoop) (pc := 26) (ix := 99) (ci := 6) (M' := m_X6_firstMovable) (As := [.ref rx1, .int (iI i4), .int (iI c3)]) (rest := []) dX6_emptyLoop_26 ok_X6_firstMovable im_X6_firstMovable se_X6_firstMovable ml6_99 np_X6_firstMovable rfl rfl h_a rfl (Nat.le_of_ble_eq_true rfl) (Nat.le_of_ble_eq_true rfl) rfl (k_X6_firstMovable (d) (T := T) (σ := σ) (a := a) (p1 := rx1) (p2 := i4) (p3 := c3) h_a h_rx1 t_rx1 (by omega) (by omega) hw (by omega)) (fun r2 T4 σ3 gt5 hp => ?_)
      obtain ⟨v7, rfl, rfl, w8, F9, f6⟩ := hp
      clear gt5
      show Tn _ _ 29 T σ3 [(0, .ref a), (1, .ref rx1), (2, .int (iI c2)), (3, .int (iI c3)), (4, .int (iI i4)), (5, .int (iI i5))] [.int (iI v7)] _
      refine tn_istore (L' := [(6, .int (iI v7)), (0, .ref a), (1, .ref rx1), (2, .int (iI c2)), (3, .int (iI c3)), (4, .int (iI i4)), (5, .int (iI i5))]) dX6_emptyLoop_29 (by decide) rfl ?_
      refine tn_iload dX6_emptyLoop_31 0 rfl ?_
      refine tn_iconst dX6_emptyLoop_33 ?_
      refine tn_icmp_ne (tgt := 40) dX6_emptyLoop_34 (by decide) ⟨by omega, by omega⟩ ⟨by decide, by decide⟩ (fun h10 => ?_) (fun h10 => ?_)
      · refine tn_aload_n dX6_emptyLoop_40 rfl 2 rfl ?_
        refine tn_iload dX6_emptyLoop_41 0 rfl ?_
        refine tn_iload dX6_emptyLoop_43 5 rfl ?_
        refine tn_callV (M := m_X6_emptyLoop) (pc := 45) (ix := 103) (ci := 1) (M' := m_X1_liftRow) (As := [.int (iI v7), .int (iI i4)]) (rest := []) dX6_emptyLoop_45 ok_X1_liftRow im_X1_liftRow se_X1_liftRow ml6_103 np_X1_liftRow rfl rfl h_rx1 rfl (Nat.le_of_ble_eq_true rfl) (Nat.le_of_ble_eq_true rfl) rfl (k_X1_liftRow (d + 4) (T := T) (σ := σ3) (a := rx1) (f := v7) (t := i4) h_rx1 t_rx1 (by omega) (by omega) w8 ) (fun r11 T13 σ12 gt14 hp => ?_)
        obtain ⟨rfl, rfl, w16, F17⟩ := hp
        clear gt14
        show Tn _ _ 48 T σ12 [(6, .int (iI v7)), (0, .ref a), (1, .ref rx1), (2, .int (iI c2)), (3, .int (iI c3)), (4, .int (iI i4)), (5, .int (iI i5))] [] _
        refine tn_iinc (q0 := 5) (L' := [(4, .int (iI (i4 + 1))), (6, .int (iI v7)), (0, .ref a), (1, .ref rx1), (2, .int (iI c2)), (3, .int (iI c3)), (5, .int (iI i5))]) dX6_emptyLoop_48 rfl (by decide) rfl ?_
        obtain ⟨z18, g19, g19e⟩ := wr_ex (i4 + 1)
        rw [g19e]
        have g19r : -2147483648 ≤ z18 ∧ z18 ≤ 2147483647 := g19
        refine tn_iinc (q0 := 6) (L' := [(5, .int (iI (i5 + 1))), (4, .int (iI z18)), (6, .int (iI v7)), (0, .ref a), (1, .ref rx1), (2, .int (iI c2)), (3, .int (iI c3))]) dX6_emptyLoop_51 rfl (by decide) rfl ?_
        refine tn_goto (tgt := 13) dX6_emptyLoop_54 (by decide) ?_
        exact tn_sub [3, 4, 5, 6, 1, 0] rfl (ih _ (by omega) (z18) (i5 + 1) σ12 w16 (((FrC.rfl.trans (FrC.sub hF (by decide))).trans (FrC.sub F9 (by decide))).trans (FrC.sub F17 (by decide))) (by omega) (by omega) rfl)
      · exact tn_sub [1, 2, 3, 4, 5, 6] rfl (hx_37 (i4) (i5) σ3 w8 ((FrC.rfl.trans (FrC.sub hF (by decide))).trans (FrC.sub F9 (by decide))) (by omega) (by omega))
theorem dX6_emptyLoop_37 : decode cX6_emptyLoop 37 = .ok (.goto 20, 3) := by decide +kernel
theorem dX6_emptyLoop_57 : decode cX6_emptyLoop 57 = .ok (.iload 4, 2) := by decide +kernel
theorem dX6_emptyLoop_59 : decode cX6_emptyLoop 59 = .ok (.iload_n 2, 1) := by decide +kernel
theorem dX6_emptyLoop_60 : decode cX6_emptyLoop 60 = .ok (.isub, 1) := by decide +kernel
theorem dX6_emptyLoop_61 : decode cX6_emptyLoop 61 = .ok (.ireturn, 1) := by decide +kernel
set_option maxRecDepth 20000 in
theorem k_X6_emptyLoop (d : Nat) {T : CT} {σ : MS} {a : Nat} {p1 : Nat} {p2 : Int} (ha : OB T a 6) (h_p1 : OB T p1 1) (t_p1 : (T p1).1 = 50) (h_p2 : -2147483648 ≤ p2 ∧ p2 ≤ 2147483647) (hw : WT T σ) (hl : 0 ≤ p2) : Tn (d + 6) m_X6_emptyLoop 0 T σ [(0, .ref a), (1, .ref p1), (2, .int (iI p2))] [] (fun ro T2 σ2 => ∃ v : Int, ro = some (.int (iI v)) ∧ T = T2 ∧ WT T2 σ2 ∧ FrC T [] σ σ2 ∧ (-2147483648 ≤ v ∧ v ≤ 2147483647)) := by
  refine tn_aload_n dX6_emptyLoop_0 rfl 0 rfl ?_
  refine tn_aload_n dX6_emptyLoop_1 rfl 1 rfl ?_
  refine tn_iload_n dX6_emptyLoop_2 rfl 2 rfl ?_
  refine tn_callV (M := m_X6_emptyLoop) (pc := 3) (ix := 96) (ci := 6) (M' := m_X6_lastJumpTo) (As := [.ref p1, .int (iI p2)]) (rest := []) dX6_emptyLoop_3 ok_X6_lastJumpTo im_X6_lastJumpTo se_X6_lastJumpTo ml6_96 np_X6_lastJumpTo rfl rfl ha rfl (Nat.le_of_ble_eq_true rfl) (Nat.le_of_ble_eq_true rfl) rfl (k_X6_lastJumpTo (d + 3) (T := T) (σ := σ) (a := a) (p1 := p1) (p2 := p2) ha h_p1 t_p1 (by omega) hw (by omega)) (fun r1 T3 σ2 gt4 hp => ?_)
  obtain ⟨v7, rfl, rfl, rfl, f5, f6⟩ := hp
  clear gt4
  show Tn _ _ 6 T σ [(0, .ref a), (1, .ref p1), (2, .int (iI p2))] [.int (iI v7)] _
  refine tn_istore_n (L' := [(3, .int (iI v7)), (0, .ref a), (1, .ref p1), (2, .int (iI p2))]) dX6_emptyLoop_6 rfl (by decide) rfl ?_
  refine tn_iload_n dX6_emptyLoop_7 rfl 3 rfl ?_
  refine tn_istore (L' := [(4, .int (iI p2)), (3, .int (iI v7)), (0, .ref a), (1, .ref p1), (2, .int (iI p2))]) dX6_emptyLoop_8 (by decide) rfl ?_
  refine tn_iconst dX6_emptyLoop_10 ?_
  refine tn_istore (L' := [(5, .int (iI 0)), (4, .int (iI p2)), (3, .int (iI v7)), (0, .ref a), (1, .ref p1), (2, .int (iI p2))]) dX6_emptyLoop_11 (by decide) rfl ?_
  refine tn_sub [3, 4, 5, 2, 1, 0] rfl (l_X6_emptyLoop_13 (d) (T := T) (σ0 := σ) (a := a) (rx1 := p1) (c2 := p2) (c3 := v7) ha h_p1 t_p1 (by omega) (by omega) hw (fun i48 i59 σ10 w13 F14 r15 r16 => ?_) (fun i417 i518 σ19 w22 F23 r24 r25 => ?_) _ (p2) (0) σ hw FrC.rfl (by omega) (by omega) rfl)
  · show Tn _ _ 37 T σ10 [(0, .ref a), (1, .ref p1), (2, .int (iI p2)), (3, .int (iI v7)), (4, .int (iI i48)), (5, .int (iI i59))] [] _
    refine tn_goto (tgt := 57) dX6_emptyLoop_37 (by decide) ?_
    refine tn_iload dX6_emptyLoop_57 4 rfl ?_
    refine tn_iload_n dX6_emptyLoop_59 rfl 2 rfl ?_
    refine tn_isub dX6_emptyLoop_60 ?_
    refine tn_any (fun z26 g27 => ?_)
    have g27r : -2147483648 ≤ z26 ∧ z26 ≤ 2147483647 := g27
    exact tn_iret rfl dX6_emptyLoop_61 ⟨_, rfl, rfl, w13, (FrC.rfl.trans (FrC.sub F14 (by decide))), by omega⟩
  · show Tn _ _ 57 T σ19 [(0, .ref a), (1, .ref p1), (2, .int (iI p2)), (3, .int (iI v7)), (4, .int (iI i417)), (5, .int (iI i518))] [] _
    refine tn_iload dX6_emptyLoop_57 4 rfl ?_
    refine tn_iload_n dX6_emptyLoop_59 rfl 2 rfl ?_
    refine tn_isub dX6_emptyLoop_60 ?_
    refine tn_any (fun z28 g29 => ?_)
    have g29r : -2147483648 ≤ z28 ∧ z28 ≤ 2147483647 := g29
    exact tn_iret rfl dX6_emptyLoop_61 ⟨_, rfl, rfl, w22, (FrC.rfl.trans (FrC.sub F23 (by decide))), by omega⟩
