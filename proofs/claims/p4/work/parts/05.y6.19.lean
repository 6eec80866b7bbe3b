theorem cd_X1_acts : Cond.code yX1_acts cX1_acts 3 (some .int) ∈ pWW := pw4 (List.mem_of_getElem? (i := 66) rfl) rfl
abbrev m_X1_acts : MT := (yX1_acts, cX1_acts, 3, (some .int))
theorem ok_X1_acts : pOk m_X1_acts := ⟨⟨cd_X1_acts, ini_1⟩, by decide +kernel, ⟨by decide +kernel, by decide +kernel⟩, Nat.le_of_ble_eq_true rfl⟩
theorem np_X1_acts : (parseMethodDescriptor yX1_acts.desc).map (fun d => d.parameters.length) = some 0 := by decide +kernel
theorem im_X1_acts : Cond.instanceMethod yX1_acts ∈ pWW := pw4 (List.mem_of_getElem? (i := 64) rfl) rfl
theorem se_X1_acts : Cond.selects RX1 yX1_acts yX1_acts ∈ pWW := pw4 (List.mem_of_getElem? (i := 65) rfl) rfl
theorem nl1_107 : (RX1, 107, yX11_isAct, "LineKeeper") ∈ nst_M := List.mem_of_getElem? (i := 13) rfl
theorem dX1_acts_0 : decode cX1_acts 0 = .ok (.iconst 0, 1) := by decide +kernel
theorem dX1_acts_1 : decode cX1_acts 1 = .ok (.istore_n 1, 1) := by decide +kernel
theorem dX1_acts_2 : decode cX1_acts 2 = .ok (.iconst 0, 1) := by decide +kernel
theorem dX1_acts_3 : decode cX1_acts 3 = .ok (.istore_n 2, 1) := by decide +kernel
theorem dX1_acts_4 : decode cX1_acts 4 = .ok (.iload_n 2, 1) := by decide +kernel
theorem dX1_acts_5 : decode cX1_acts 5 = .ok (.aload_n 0, 1) := by decide +kernel
theorem dX1_acts_6 : decode cX1_acts 6 = .ok (.getfield 33, 3) := by decide +kernel
theorem dX1_acts_9 : decode cX1_acts 9 = .ok (.if_icmp .ge 24, 3) := by decide +kernel
theorem dX1_acts_12 : decode cX1_acts 12 = .ok (.aload_n 0, 1) := by decide +kernel
theorem dX1_acts_13 : decode cX1_acts 13 = .ok (.iload_n 2, 1) := by decide +kernel
theorem dX1_acts_14 : decode cX1_acts 14 = .ok (.iconst 0, 1) := by decide +kernel
theorem dX1_acts_15 : decode cX1_acts 15 = .ok (.invokevirtual 86, 3) := by decide +kernel
theorem dX1_acts_18 : decode cX1_acts 18 = .ok (.invokestatic 107, 3) := by decide +kernel
theorem dX1_acts_21 : decode cX1_acts 21 = .ok (.ifCond .eq 6, 3) := by decide +kernel
theorem dX1_acts_27 : decode cX1_acts 27 = .ok (.iinc 2 1, 3) := by decide +kernel
theorem dX1_acts_30 : decode cX1_acts 30 = .ok (.goto (-26), 3) := by decide +kernel
theorem dX1_acts_24 : decode cX1_acts 24 = .ok (.iinc 1 1, 3) := by decide +kernel
set_option maxRecDepth 20000 in
theorem l_X1_acts_4 (d : Nat) {T : CT} {σ : MS} {a : Nat} {post : Option Value → CT → MS → Prop} (h_a : OB T a 1) (hw : WT T σ) (hx_33 : ∀ (i1 : Int) (i2 : Int) , (-2147483648 ≤ i1 ∧ i1 ≤ 2147483647) → (0 ≤ i2 ∧ i2 ≤ 2147483647) → Tn (d + 2) m_X1_acts 33 T σ [(0, .ref a), (1, .int (iI i1)), (2, .int (iI i2))] [] post) : ∀ (n : Nat) (i1 : Int) (i2 : Int) , (-2147483648 ≤ i1 ∧ i1 ≤ 2147483647) → (0 ≤ i2 ∧ i2 ≤ 2147483647) → (2147483700 - i2).toNat = n → Tn (d + 2) m_X1_acts 4 T σ [(0, .ref a), (1, .int (iI i1)), (2, .int (iI i2))] [] post := by
  intro n
  induction n using Nat.strongRecOn with
  | _ n ih =>
    intro i1 i2 r_i1 r_i2 hm
    refine tn_iload_n dX1_acts_4 rfl 2 rfl ?_
    refine tn_aload_n dX1_acts_5 rfl 0 rfl ?_
    refine tn_getI (ci := 1) (i := 1) (n := 6) (t := σ.2.1 6 a) dX1_acts_6 rfl lay_1 (by decide) fl1_33 h_a rfl rfl (rfl) ?_
    have g1 : ((0 : Int) ≤ σ.2.1 6 a ∧ σ.2.1 6 a ≤ 5000) ∧ ((T a).1 = 50 → σ.2.1 6 a ≤ 200) := wf_6 hw h_a
    have g1x := g1.2
    replace g1 := g1.1
    clear g1x
    refine tn_icmp_ge (tgt := 33) dX1_acts_9 (by decide) ⟨by omega, by omega⟩ ⟨by omega, by omega⟩ (fun h2 => ?_) (fun h2 => ?_)
    · exact tn_sub [0, 1, 2] rfl (hx_33 (i1) (i2) (by omega) (by omega))
    · refine tn_aload_n dX1_acts_12 rfl 0 rfl ?_
      refine tn_iload_n dX1_acts_13 rfl 2 rfl ?_
      refine tn_iconst dX1_acts_14 ?_
      refine tn_callV (M := m_X1_acts) (pc := 15) (ix := 86) (ci := 1) (M' := m_X1_get) (As := [.int (iI i2), .int (iI 0)]) (rest := []) dX1_acts_15 ok_X1_get im_X1_get se_X1_get ml1_86 np_X1_get rfl rfl h_a rfl (Nat.le_of_ble_eq_true rfl) (Nat.le_of_ble_eq_true rfl) rfl (k_X1_get (d) (T := T) (σ := σ) (a := a) (k := i2) (c := 0) h_a (by omega) (by decide) hw (by omega)) (fun r3 T5 σ4 gt6 hp => ?_)
      obtain ⟨v8, rfl, rfl, rfl, f7⟩ := hp
      clear gt6
      show Tn _ _ 18 T σ [(0, .ref a), (1, .int (iI i1)), (2, .int (iI i2))] [.int (iI v8)] _
      refine tn_callSN (M := m_X1_acts) (pc := 18) (ix := 107) (M' := m_X11_isAct) (As := [.int (iI v8)]) (rest := []) dX1_acts_18 ok_X11_isAct stt_X11_isAct nl1_107 np_X11_isAct rfl (Nat.le_of_ble_eq_true rfl) (Nat.le_of_ble_eq_true rfl) rfl (k_X11_isAct (d) (T := T) (σ := σ) (k := v8) (by omega) hw ) (fun r9 T11 σ10 gt12 hp => ?_)
      obtain ⟨v14, rfl, rfl, rfl, f13⟩ := hp
      clear gt12
      show Tn _ _ 21 T σ [(0, .ref a), (1, .int (iI i1)), (2, .int (iI i2))] [.int (iI v14)] _
      refine tn_if_eq (tgt := 27) dX1_acts_21 (by decide) ⟨by omega, by omega⟩ (fun h15 => ?_) (fun h15 => ?_)
      · refine tn_iinc (q0 := 2) (L' := [(2, .int (iI (i2 + 1))), (0, .ref a), (1, .int (iI i1))]) dX1_acts_27 rfl (by decide) rfl ?_
        refine tn_goto (tgt := 4) dX1_acts_30 (by decide) ?_
        exact tn_sub [1, 2, 0] rfl (ih _ (by omega) (i1) (i2 + 1) (by omega) (by omega) rfl)
      · refine tn_iinc (q0 := 1) (L' := [(1, .int (iI (i1 + 1))), (0, .ref a), (2, .int (iI i2))]) dX1_acts_24 rfl (by decide) rfl ?_
        obtain ⟨z16, g17, g17e⟩ := wr_ex (i1 + 1)
        rw [g17e]
        have g17r : -2147483648 ≤ z16 ∧ z16 ≤ 2147483647 := g17
        refine tn_iinc (q0 := 2) (L' := [(2, .int (iI (i2 + 1))), (1, .int (iI z16)), (0, .ref a)]) dX1_acts_27 rfl (by decide) rfl ?_
        refine tn_goto (tgt := 4) dX1_acts_30 (by decide) ?_
        exact tn_sub [2, 1, 0] rfl (ih _ (by omega) (z16) (i2 + 1) (by omega) (by omega) rfl)
theorem dX1_acts_33 : decode cX1_acts 33 = .ok (.iload_n 1, 1) := by decide +kernel
theorem dX1_acts_34 : decode cX1_acts 34 = .ok (.ireturn, 1) := by decide +kernel
set_option maxRecDepth 20000 in
theorem k_X1_acts (d : Nat) {T : CT} {σ : MS} {a : Nat} (ha : OB T a 1) (hw : WT T σ) : Tn (d + 2) m_X1_acts 0 T σ [(0, .ref a)] [] (fun ro T2 σ2 => ∃ v : Int, ro = some (.int (iI v)) ∧ T = T2 ∧ σ = σ2 ∧ (-2147483648 ≤ v ∧ v ≤ 2147483647)) := by
  refine tn_iconst dX1_acts_0 ?_
  refine tn_istore_n (L' := [(1, .int (iI 0)), (0, .ref a)]) dX1_acts_1 rfl (by decide) rfl ?_
  refine tn_iconst dX1_acts_2 ?_
  refine tn_istore_n (L' := [(2, .int (iI 0)), (1, .int (iI 0)), (0, .ref a)]) dX1_acts_3 rfl (by decide) rfl ?_
  refine tn_sub [2, 1, 0] rfl (l_X1_acts_4 (d) (T := T) (σ := σ) (a := a) ha hw (fun i11 i22 r8 r9 => ?_) _ (0) (0) (by omega) (by omega) rfl)
  show Tn _ _ 33 T σ [(0, .ref a), (1, .int (iI i11)), (2, .int (iI i22))] [] _
  refine tn_iload_n dX1_acts_33 rfl 1 rfl ?_
  exact tn_iret rfl dX1_acts_34 ⟨_, rfl, rfl, rfl, by omega⟩
