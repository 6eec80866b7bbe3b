theorem cd_X0_plainLine : Cond.code yX0_plainLine cX0_plainLine 2 (some .boolean) ∈ pWW := pw6 (List.mem_of_getElem? (i := 209) rfl) rfl
abbrev m_X0_plainLine : MT := (yX0_plainLine, cX0_plainLine, 2, (some .boolean))
theorem ok_X0_plainLine : pOk m_X0_plainLine := ⟨⟨cd_X0_plainLine, ini_0⟩, by decide +kernel, ⟨by decide +kernel, by decide +kernel⟩, Nat.le_of_ble_eq_true rfl⟩
theorem np_X0_plainLine : (parseMethodDescriptor yX0_plainLine.desc).map (fun d => d.parameters.length) = some 0 := by decide +kernel
theorem im_X0_plainLine : Cond.instanceMethod yX0_plainLine ∈ pWW := pw6 (List.mem_of_getElem? (i := 208) rfl) rfl
theorem se_X0_plainLine : Cond.selects RX0 yX0_plainLine yX0_plainLine ∈ pWW := pws (List.mem_map.mpr ⟨_, lw_pin 96 rfl, rfl⟩) rfl
theorem cst0_53 : Cond.constant RX0 53 (1000000) ∈ pWW := pw6 (List.mem_of_getElem? (i := 210) rfl) rfl
theorem fl0_33 : Cond.fieldLink RX0 33 (TX7 1).1 (TX7 1).2.1 (TX7 1).2.2.1 ∈ pWW := pw2 (List.mem_of_getElem? (i := 135) rfl) rfl
theorem ml0_36 : Cond.methodLink RX0 36 yX7_step ∈ pWW := pw6 (List.mem_of_getElem? (i := 205) rfl) rfl
theorem dX0_plainLine_0 : decode cX0_plainLine 0 = .ok (.iconst 0, 1) := by decide +kernel
theorem dX0_plainLine_1 : decode cX0_plainLine 1 = .ok (.istore_n 1, 1) := by decide +kernel
theorem dX0_plainLine_2 : decode cX0_plainLine 2 = .ok (.iload_n 1, 1) := by decide +kernel
theorem dX0_plainLine_3 : decode cX0_plainLine 3 = .ok (.ldc 53, 2) := by decide +kernel
theorem dX0_plainLine_5 : decode cX0_plainLine 5 = .ok (.if_icmp .ge 32, 3) := by decide +kernel
theorem dX0_plainLine_8 : decode cX0_plainLine 8 = .ok (.aload_n 0, 1) := by decide +kernel
theorem dX0_plainLine_9 : decode cX0_plainLine 9 = .ok (.getfield 20, 3) := by decide +kernel
theorem dX0_plainLine_12 : decode cX0_plainLine 12 = .ok (.getfield 33, 3) := by decide +kernel
theorem dX0_plainLine_15 : decode cX0_plainLine 15 = .ok (.iconst 1, 1) := by decide +kernel
theorem dX0_plainLine_16 : decode cX0_plainLine 16 = .ok (.if_icmp .ne 21, 3) := by decide +kernel
theorem dX0_plainLine_19 : decode cX0_plainLine 19 = .ok (.aload_n 0, 1) := by decide +kernel
theorem dX0_plainLine_20 : decode cX0_plainLine 20 = .ok (.getfield 20, 3) := by decide +kernel
theorem dX0_plainLine_23 : decode cX0_plainLine 23 = .ok (.invokevirtual 36, 3) := by decide +kernel
theorem dX0_plainLine_26 : decode cX0_plainLine 26 = .ok (.ifCond .eq 5, 3) := by decide +kernel
theorem dX0_plainLine_31 : decode cX0_plainLine 31 = .ok (.iinc 1 1, 3) := by decide +kernel
theorem dX0_plainLine_34 : decode cX0_plainLine 34 = .ok (.goto (-32), 3) := by decide +kernel
set_option maxRecDepth 20000 in
theorem l_X0_plainLine_2 (d : Nat) {T : CT} {σ0 : MS} {a : Nat} {post : Option Value → CT → MS → Prop} (h_a : OB T a 0) (hw0 : WT T σ0) (hx_29 : ∀ (i1 : Int) (σ : MS) , (WT T σ) → (FrC T [56, 57, 58, 65, 66, 67, 68, 69, 515] σ0 σ) → (0 ≤ i1 ∧ i1 ≤ 2147483647) → (PB σ a) → (FA (σ0.2.1 1 a).toNat σ0 σ) → Tn (d + 6) m_X0_plainLine 29 T σ [(0, .ref a), (1, .int (iI i1))] [] post) (hx_37 : ∀ (i1 : Int) (σ : MS) , (WT T σ) → (FrC T [56, 57, 58, 65, 66, 67, 68, 69, 515] σ0 σ) → (0 ≤ i1 ∧ i1 ≤ 2147483647) → (PB σ a) → (FA (σ0.2.1 1 a).toNat σ0 σ) → Tn (d + 6) m_X0_plainLine 37 T σ [(0, .ref a), (1, .int (iI i1))] [] post) : ∀ (n : Nat) (i1 : Int) (σ : MS) , (WT T σ) → (FrC T [56, 57, 58, 65, 66, 67, 68, 69, 515] σ0 σ) → (0 ≤ i1 ∧ i1 ≤ 2147483647) → (PB σ a) → (FA (σ0.2.1 1 a).toNat σ0 σ) → (2147483700 - i1).toNat = n → Tn (d + 6) m_X0_plainLine 2 T σ [(0, .ref a), (1, .int (iI i1))] [] post := by
  intro n
  induction n using Nat.strongRecOn with
  | _ n ih =>
    intro i1 σ hw hF r_i1 hb hfa hm
    refine tn_iload_n dX0_plainLine_2 rfl 1 rfl ?_
    refine tn_ldc (n := 1000000) dX0_plainLine_3 cst0_53 rfl ?_
    refine tn_icmp_ge (tgt := 37) dX0_plainLine_5 (by decide) ⟨by omega, by omega⟩ ⟨by decide, by decide⟩ (fun h1 => ?_) (fun h1 => ?_)
    · exact tn_sub [0, 1] rfl (hx_37 (i1) σ hw (FrC.rfl.trans (FrC.sub hF (by decide))) (by omega) hb hfa)
    · refine tn_aload_n dX0_plainLine_8 rfl 0 rfl ?_
      obtain ⟨x2, hx3, hk4⟩ : ∃ x : Nat, σ0.2.1 1 a = (x : Int) ∧ (T x).1 = 57 := wf_1 hw0 h_a
      have hk4o : OB T x2 7 := ⟨by omega, by rw [hk4]; rfl, by omega⟩
      refine tn_getR (ci := 0) (i := 1) (n := 1) (x := x2) dX0_plainLine_9 rfl lay_0 (by decide) fl0_20 h_a rfl rfl (rc_F hF (Or.inl (by decide)) (by decide) (hx3)) ?_
      refine tn_getI (ci := 7) (i := 1) (n := 56) (t := σ.2.1 56 x2) dX0_plainLine_12 rfl lay_7 (by decide) fl0_33 hk4o rfl rfl (rfl) ?_
      have g6 : ((-2147483648 : Int) ≤ σ.2.1 56 x2 ∧ σ.2.1 56 x2 ≤ 2147483647) := wf_56 hw hk4o
      refine tn_iconst dX0_plainLine_15 ?_
      refine tn_icmp_ne (tgt := 37) dX0_plainLine_16 (by decide) ⟨by omega, by omega⟩ ⟨by decide, by decide⟩ (fun h7 => ?_) (fun h7 => ?_)
      · exact tn_sub [0, 1] rfl (hx_37 (i1) σ hw (FrC.rfl.trans (FrC.sub hF (by decide))) (by omega) hb hfa)
      · refine tn_aload_n dX0_plainLine_19 rfl 0 rfl ?_
        refine tn_getR (ci := 0) (i := 1) (n := 1) (x := x2) dX0_plainLine_20 rfl lay_0 (by decide) fl0_20 h_a rfl rfl (rc_F hF (Or.inl (by decide)) (by decide) (hx3)) ?_
        refine tn_callV (M := m_X0_plainLine) (pc := 23) (ix := 36) (ci := 7) (M' := m_X7_step) (As := []) (rest := []) dX0_plainLine_23 ok_X7_step im_X7_step se_X7_step ml0_36 np_X7_step rfl rfl hk4o rfl (Nat.le_of_ble_eq_true rfl) (Nat.le_of_ble_eq_true rfl) rfl (k_X7_step_57 (d) (T := T) (σ := σ) (a := x2) hk4o hk4 hw (by have q9 := hb x2 (rc_F hF (Or.inl (by decide)) (by decide) (hx3)); unfold PIv at q9; omega)) (fun r8 T10 σ9 gt11 hp => ?_)
        obtain ⟨v15, rfl, rfl, w16, F17, f12, f13, f14⟩ := hp
        clear gt11
        show Tn _ _ 26 T σ9 [(0, .ref a), (1, .int (iI i1))] [.int (iI v15)] _
        refine tn_if_eq (tgt := 31) dX0_plainLine_26 (by decide) ⟨by omega, by omega⟩ (fun h18 => ?_) (fun h18 => ?_)
        · refine tn_iinc (q0 := 1) (L' := [(1, .int (iI (i1 + 1))), (0, .ref a)]) dX0_plainLine_31 rfl (by decide) rfl ?_
          refine tn_goto (tgt := 2) dX0_plainLine_34 (by decide) ?_
          exact tn_sub [1, 0] rfl (ih _ (by omega) (i1 + 1) σ9 w16 ((FrC.rfl.trans (FrC.sub hF (by decide))).trans (FrC.sub F17 (by decide))) (by omega) (PB.of (rc_F F17 (Or.inl (by decide)) (by decide) (rc_F hF (Or.inl (by decide)) (by decide) (hx3))) f13) (hfa.trans (FA.at hx3 f14)) rfl)
        · exact tn_sub [0, 1] rfl (hx_29 (i1) σ9 w16 ((FrC.rfl.trans (FrC.sub hF (by decide))).trans (FrC.sub F17 (by decide))) (by omega) (PB.of (rc_F F17 (Or.inl (by decide)) (by decide) (rc_F hF (Or.inl (by decide)) (by decide) (hx3))) f13) (hfa.trans (FA.at hx3 f14)))
theorem dX0_plainLine_29 : decode cX0_plainLine 29 = .ok (.iconst 1, 1) := by decide +kernel
theorem dX0_plainLine_30 : decode cX0_plainLine 30 = .ok (.ireturn, 1) := by decide +kernel
theorem dX0_plainLine_37 : decode cX0_plainLine 37 = .ok (.iconst 0, 1) := by decide +kernel
theorem dX0_plainLine_38 : decode cX0_plainLine 38 = .ok (.ireturn, 1) := by decide +kernel
set_option maxRecDepth 20000 in
theorem k_X0_plainLine (d : Nat) {T : CT} {σ : MS} {a : Nat} (ha : OB T a 0) (hw : WT T σ) (hb : PB σ a) : Tn (d + 6) m_X0_plainLine 0 T σ [(0, .ref a)] [] (fun ro T2 σ2 => ∃ v : Int, ro = some (.int (iI v)) ∧ T = T2 ∧ WT T2 σ2 ∧ FrC T [56, 57, 58, 65, 66, 67, 68, 69, 515] σ σ2 ∧ (v = 0 ∨ v = 1) ∧ (PB σ2 a) ∧ (FA (σ.2.1 1 a).toNat σ σ2)) := by
  refine tn_iconst dX0_plainLine_0 ?_
  refine tn_istore_n (L' := [(1, .int (iI 0)), (0, .ref a)]) dX0_plainLine_1 rfl (by decide) rfl ?_
  refine tn_sub [1, 0] rfl (l_X0_plainLine_2 (d) (T := T) (σ0 := σ) (a := a) ha hw (fun i11 σ2 w5 F6 r7 f8 f9 => ?_) (fun i110 σ11 w14 F15 r16 f17 f18 => ?_) _ (0) σ hw FrC.rfl (by omega) hb FA.rfl rfl)
  · show Tn _ _ 29 T σ2 [(0, .ref a), (1, .int (iI i11))] [] _
    refine tn_iconst dX0_plainLine_29 ?_
    exact tn_zret (v := 1) rfl (by decide) dX0_plainLine_30 ⟨_, rfl, rfl, w5, (FrC.rfl.trans (FrC.sub F6 (by decide))), by omega, f8, f9⟩
  · show Tn _ _ 37 T σ11 [(0, .ref a), (1, .int (iI i110))] [] _
    refine tn_iconst dX0_plainLine_37 ?_
    exact tn_zret (v := 0) rfl (by decide) dX0_plainLine_38 ⟨_, rfl, rfl, w14, (FrC.rfl.trans (FrC.sub F15 (by decide))), by omega, f17, f18⟩
