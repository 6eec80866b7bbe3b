theorem cd_X6_move : Cond.code yX6_move cX6_move 4 (some .int) ∈ pWW := pw5 (List.mem_of_getElem? (i := 85) rfl) rfl
abbrev m_X6_move : MT := (yX6_move, cX6_move, 4, (some .int))
theorem ok_X6_move : pOk m_X6_move := ⟨⟨cd_X6_move, ini_6⟩, by decide +kernel, ⟨by decide +kernel, by decide +kernel⟩, Nat.le_of_ble_eq_true rfl⟩
theorem np_X6_move : (parseMethodDescriptor yX6_move.desc).map (fun d => d.parameters.length) = some 1 := by decide +kernel
theorem im_X6_move : Cond.instanceMethod yX6_move ∈ pWW := pw5 (List.mem_of_getElem? (i := 83) rfl) rfl
theorem se_X6_move : Cond.selects RX6 yX6_move yX6_move ∈ pWW := pw5 (List.mem_of_getElem? (i := 84) rfl) rfl
theorem ml6_92 : Cond.methodLink RX6 92 yX6_emptyLoop ∈ pWW := pw5 (List.mem_of_getElem? (i := 86) rfl) rfl
theorem dX6_move_0 : decode cX6_move 0 = .ok (.iconst 0, 1) := by decide +kernel
theorem dX6_move_1 : decode cX6_move 1 = .ok (.istore_n 2, 1) := by decide +kernel
theorem dX6_move_2 : decode cX6_move 2 = .ok (.aload_n 1, 1) := by decide +kernel
theorem dX6_move_3 : decode cX6_move 3 = .ok (.getfield 22, 3) := by decide +kernel
theorem dX6_move_6 : decode cX6_move 6 = .ok (.iconst 1, 1) := by decide +kernel
theorem dX6_move_7 : decode cX6_move 7 = .ok (.isub, 1) := by decide +kernel
theorem dX6_move_8 : decode cX6_move 8 = .ok (.istore_n 3, 1) := by decide +kernel
theorem dX6_move_9 : decode cX6_move 9 = .ok (.iload_n 3, 1) := by decide +kernel
theorem dX6_move_10 : decode cX6_move 10 = .ok (.ifCond .lt 29, 3) := by decide +kernel
theorem dX6_move_13 : decode cX6_move 13 = .ok (.aload_n 1, 1) := by decide +kernel
theorem dX6_move_14 : decode cX6_move 14 = .ok (.iload_n 3, 1) := by decide +kernel
theorem dX6_move_15 : decode cX6_move 15 = .ok (.iconst 0, 1) := by decide +kernel
theorem dX6_move_16 : decode cX6_move 16 = .ok (.invokevirtual 34, 3) := by decide +kernel
theorem dX6_move_19 : decode cX6_move 19 = .ok (.bipush 13, 2) := by decide +kernel
theorem dX6_move_21 : decode cX6_move 21 = .ok (.if_icmp .ne 12, 3) := by decide +kernel
theorem dX6_move_33 : decode cX6_move 33 = .ok (.iinc 3 (-1), 3) := by decide +kernel
theorem dX6_move_36 : decode cX6_move 36 = .ok (.goto (-27), 3) := by decide +kernel
theorem dX6_move_24 : decode cX6_move 24 = .ok (.iload_n 2, 1) := by decide +kernel
theorem dX6_move_25 : decode cX6_move 25 = .ok (.aload_n 0, 1) := by decide +kernel
theorem dX6_move_26 : decode cX6_move 26 = .ok (.aload_n 1, 1) := by decide +kernel
theorem dX6_move_27 : decode cX6_move 27 = .ok (.iload_n 3, 1) := by decide +kernel
theorem dX6_move_28 : decode cX6_move 28 = .ok (.invokevirtual 92, 3) := by decide +kernel
theorem dX6_move_31 : decode cX6_move 31 = .ok (.iadd, 1) := by decide +kernel
theorem dX6_move_32 : decode cX6_move 32 = .ok (.istore_n 2, 1) := by decide +kernel
set_option maxRecDepth 20000 in
theorem l_X6_move_9 (d : Nat) {T : CT} {σ0 : MS} {a : Nat} {rx1 : Nat} {post : Option Value → CT → MS → Prop} (h_a : OB T a 6) (h_rx1 : OB T rx1 1) (t_rx1 : (T rx1).1 = 50) (hw0 : WT T σ0) (hx_39 : ∀ (i2 : Int) (i3 : Int) (σ : MS) , (WT T σ) → (FrC T [] σ0 σ) → (-2147483648 ≤ i2 ∧ i2 ≤ 2147483647) → (-1 ≤ i3 ∧ i3 ≤ 199) → Tn (d + 7) m_X6_move 39 T σ [(0, .ref a), (1, .ref rx1), (2, .int (iI i2)), (3, .int (iI i3))] [] post) : ∀ (n : Nat) (i2 : Int) (i3 : Int) (σ : MS) , (WT T σ) → (FrC T [] σ0 σ) → (-2147483648 ≤ i2 ∧ i2 ≤ 2147483647) → (-1 ≤ i3 ∧ i3 ≤ 199) → (i3 + 20).toNat = n → Tn (d + 7) m_X6_move 9 T σ [(0, .ref a), (1, .ref rx1), (2, .int (iI i2)), (3, .int (iI i3))] [] post := by
  intro n
  induction n using Nat.strongRecOn with
  | _ n ih =>
    intro i2 i3 σ hw hF r_i2 r_i3 hm
    refine tn_iload_n dX6_move_9 rfl 3 rfl ?_
    refine tn_if_lt (tgt := 39) dX6_move_10 (by decide) ⟨by omega, by omega⟩ (fun h1 => ?_) (fun h1 => ?_)
    · exact tn_sub [0, 1, 2, 3] rfl (hx_39 (i2) (i3) σ hw (FrC.rfl.trans (FrC.sub hF (by decide))) (by omega) (by omega))
    · refine tn_aload_n dX6_move_13 rfl 1 rfl ?_
      refine tn_iload_n dX6_move_14 rfl 3 rfl ?_
      refine tn_iconst dX6_move_15 ?_
      refine tn_callV (M := m_X6_move) (pc := 16) (ix := 34) (ci := 1) (M' := m_X1_get) (As := [.int (iI i3), .int (iI 0)]) (rest := []) dX6_move_16 ok_X1_get im_X1_get se_X1_get ml6_34 np_X1_get rfl rfl h_rx1 rfl (Nat.le_of_ble_eq_true rfl) (Nat.le_of_ble_eq_true rfl) rfl (k_X1_get (d + 5) (T := T) (σ := σ) (a := rx1) (k := i3) (c := 0) h_rx1 (by omega) (by decide) hw (by omega)) (fun r2 T4 σ3 gt5 hp => ?_)
      obtain ⟨v7, rfl, rfl, rfl, f6⟩ := hp
      clear gt5
      show Tn _ _ 19 T σ [(0, .ref a), (1, .ref rx1), (2, .int (iI i2)), (3, .int (iI i3))] [.int (iI v7)] _
      refine tn_bipush dX6_move_19 (by decide) ?_
      refine tn_icmp_ne (tgt := 33) dX6_move_21 (by decide) ⟨by omega, by omega⟩ ⟨by decide, by decide⟩ (fun h8 => ?_) (fun h8 => ?_)
      · refine tn_iinc (q0 := 3) (L' := [(3, .int (iI (i3 + (-1)))), (0, .ref a), (1, .ref rx1), (2, .int (iI i2))]) dX6_move_33 rfl (by decide) rfl ?_
        refine tn_goto (tgt := 9) dX6_move_36 (by decide) ?_
        exact tn_sub [1, 2, 3, 0] rfl (ih _ (by omega) (i2) (i3 + (-1)) σ hw (FrC.rfl.trans (FrC.sub hF (by decide))) (by omega) (by omega) rfl)
      · refine tn_iload_n dX6_move_24 rfl 2 rfl ?_
        refine tn_aload_n dX6_move_25 rfl 0 rfl ?_
        refine tn_aload_n dX6_move_26 rfl 1 rfl ?_
        refine tn_iload_n dX6_move_27 rfl 3 rfl ?_
        refine tn_callV (M := m_X6_move) (pc := 28) (ix := 92) (ci := 6) (M' := m_X6_emptyLoop) (As := [.ref rx1, .int (iI i3)]) (rest := [.int (iI i2)]) dX6_move_28 ok_X6_emptyLoop im_X6_emptyLoop se_X6_emptyLoop ml6_92 np_X6_emptyLoop rfl rfl h_a rfl (Nat.le_of_ble_eq_true rfl) (Nat.le_of_ble_eq_true rfl) rfl (k_X6_emptyLoop (d) (T := T) (σ := σ) (a := a) (p1 := rx1) (p2 := i3) h_a h_rx1 t_rx1 (by omega) hw (by omega)) (fun r9 T11 σ10 gt12 hp => ?_)
        obtain ⟨v14, rfl, rfl, w15, F16, f13⟩ := hp
        clear gt12
        show Tn _ _ 31 T σ10 [(0, .ref a), (1, .ref rx1), (2, .int (iI i2)), (3, .int (iI i3))] [.int (iI v14), .int (iI i2)] _
        refine tn_iadd dX6_move_31 ?_
        refine tn_any (fun z17 g18 => ?_)
        have g18r : -2147483648 ≤ z17 ∧ z17 ≤ 2147483647 := g18
        refine tn_istore_n (L' := [(2, .int (iI z17)), (0, .ref a), (1, .ref rx1), (3, .int (iI i3))]) dX6_move_32 rfl (by decide) rfl ?_
        refine tn_iinc (q0 := 3) (L' := [(3, .int (iI (i3 + (-1)))), (2, .int (iI z17)), (0, .ref a), (1, .ref rx1)]) dX6_move_33 rfl (by decide) rfl ?_
        refine tn_goto (tgt := 9) dX6_move_36 (by decide) ?_
        exact tn_sub [2, 3, 1, 0] rfl (ih _ (by omega) (z17) (i3 + (-1)) σ10 w15 ((FrC.rfl.trans (FrC.sub hF (by decide))).trans (FrC.sub F16 (by decide))) (by omega) (by omega) rfl)
theorem dX6_move_39 : decode cX6_move 39 = .ok (.iload_n 2, 1) := by decide +kernel
theorem dX6_move_40 : decode cX6_move 40 = .ok (.ireturn, 1) := by decide +kernel
set_option maxRecDepth 20000 in
theorem k_X6_move (d : Nat) {T : CT} {σ : MS} {a : Nat} {p1 : Nat} (ha : OB T a 6) (h_p1 : OB T p1 1) (t_p1 : (T p1).1 = 50) (hw : WT T σ) : Tn (d + 7) m_X6_move 0 T σ [(0, .ref a), (1, .ref p1)] [] (fun ro T2 σ2 => ∃ v : Int, ro = some (.int (iI v)) ∧ T = T2 ∧ WT T2 σ2 ∧ FrC T [] σ σ2 ∧ (-2147483648 ≤ v ∧ v ≤ 2147483647)) := by
  refine tn_iconst dX6_move_0 ?_
  refine tn_istore_n (L' := [(2, .int (iI 0)), (0, .ref a), (1, .ref p1)]) dX6_move_1 rfl (by decide) rfl ?_
  refine tn_aload_n dX6_move_2 rfl 2 rfl ?_
  refine tn_getI (ci := 1) (i := 1) (n := 6) (t := σ.2.1 6 p1) dX6_move_3 rfl lay_1 (by decide) fl6_22 h_p1 rfl rfl (rfl) ?_
  have g1 : ((0 : Int) ≤ σ.2.1 6 p1 ∧ σ.2.1 6 p1 ≤ 5000) ∧ ((T p1).1 = 50 → σ.2.1 6 p1 ≤ 200) := wf_6 hw h_p1
  have g1x := g1.2
  replace g1 := g1.1
  have g1x := g1x t_p1
  refine tn_iconst dX6_move_6 ?_
  refine tn_isub dX6_move_7 ?_
  refine tn_istore_n (L' := [(3, .int (iI ((σ.2.1 6 p1) - 1))), (2, .int (iI 0)), (0, .ref a), (1, .ref p1)]) dX6_move_8 rfl (by decide) rfl ?_
  refine tn_sub [2, 3, 1, 0] rfl (l_X6_move_9 (d) (T := T) (σ0 := σ) (a := a) (rx1 := p1) ha h_p1 t_p1 hw (fun i22 i33 σ4 w7 F8 r9 r10 => ?_) _ (0) ((σ.2.1 6 p1) - 1) σ hw FrC.rfl (by omega) (by omega) rfl)
  show Tn _ _ 39 T σ4 [(0, .ref a), (1, .ref p1), (2, .int (iI i22)), (3, .int (iI i33))] [] _
  refine tn_iload_n dX6_move_39 rfl 2 rfl ?_
  exact tn_iret rfl dX6_move_40 ⟨_, rfl, rfl, w7, (FrC.rfl.trans (FrC.sub F8 (by decide))), by omega⟩
