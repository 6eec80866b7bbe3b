theorem cd_X7_advance : Cond.code yX7_advance cX7_advance 6 (some .int) ∈ pWW := pw6 (List.mem_of_getElem? (i := 55) rfl) rfl
abbrev m_X7_advance : MT := (yX7_advance, cX7_advance, 6, (some .int))
theorem ok_X7_advance : pOk m_X7_advance := ⟨⟨cd_X7_advance, ini_7⟩, by decide +kernel, ⟨by decide +kernel, by decide +kernel⟩, Nat.le_of_ble_eq_true rfl⟩
theorem np_X7_advance : (parseMethodDescriptor yX7_advance.desc).map (fun d => d.parameters.length) = some 2 := by decide +kernel
theorem im_X7_advance : Cond.instanceMethod yX7_advance ∈ pWW := pw6 (List.mem_of_getElem? (i := 53) rfl) rfl
theorem se_X7_advance : Cond.selects RX7 yX7_advance yX7_advance ∈ pWW := pw6 (List.mem_of_getElem? (i := 54) rfl) rfl
theorem ml7_95 : Cond.methodLink RX7 95 yX7_step ∈ pWW := pw6 (List.mem_of_getElem? (i := 56) rfl) rfl
theorem ml7_99 : Cond.methodLink RX7 99 yX7_stops ∈ pWW := pw6 (List.mem_of_getElem? (i := 93) rfl) rfl
theorem dX7_advance_0 : decode cX7_advance 0 = .ok (.aload_n 0, 1) := by decide +kernel
theorem dX7_advance_1 : decode cX7_advance 1 = .ok (.getfield 38, 3) := by decide +kernel
theorem dX7_advance_4 : decode cX7_advance 4 = .ok (.istore_n 3, 1) := by decide +kernel
theorem dX7_advance_5 : decode cX7_advance 5 = .ok (.iconst 0, 1) := by decide +kernel
theorem dX7_advance_6 : decode cX7_advance 6 = .ok (.istore 4, 2) := by decide +kernel
theorem dX7_advance_8 : decode cX7_advance 8 = .ok (.iload 4, 2) := by decide +kernel
theorem dX7_advance_10 : decode cX7_advance 10 = .ok (.iload_n 2, 1) := by decide +kernel
theorem dX7_advance_11 : decode cX7_advance 11 = .ok (.if_icmp .ge 47, 3) := by decide +kernel
theorem dX7_advance_14 : decode cX7_advance 14 = .ok (.aload_n 0, 1) := by decide +kernel
theorem dX7_advance_15 : decode cX7_advance 15 = .ok (.getfield 34, 3) := by decide +kernel
theorem dX7_advance_18 : decode cX7_advance 18 = .ok (.iconst 1, 1) := by decide +kernel
theorem dX7_advance_19 : decode cX7_advance 19 = .ok (.if_icmp .ne 39, 3) := by decide +kernel
theorem dX7_advance_22 : decode cX7_advance 22 = .ok (.aload_n 0, 1) := by decide +kernel
theorem dX7_advance_23 : decode cX7_advance 23 = .ok (.invokevirtual 95, 3) := by decide +kernel
theorem dX7_advance_26 : decode cX7_advance 26 = .ok (.istore 5, 2) := by decide +kernel
theorem dX7_advance_28 : decode cX7_advance 28 = .ok (.aload_n 0, 1) := by decide +kernel
theorem dX7_advance_29 : decode cX7_advance 29 = .ok (.getfield 34, 3) := by decide +kernel
theorem dX7_advance_32 : decode cX7_advance 32 = .ok (.iconst 1, 1) := by decide +kernel
theorem dX7_advance_33 : decode cX7_advance 33 = .ok (.if_icmp .ne 19, 3) := by decide +kernel
theorem dX7_advance_52 : decode cX7_advance 52 = .ok (.iinc 4 1, 3) := by decide +kernel
theorem dX7_advance_55 : decode cX7_advance 55 = .ok (.goto (-47), 3) := by decide +kernel
theorem dX7_advance_36 : decode cX7_advance 36 = .ok (.iload 5, 2) := by decide +kernel
theorem dX7_advance_38 : decode cX7_advance 38 = .ok (.ifCond .eq 14, 3) := by decide +kernel
theorem dX7_advance_41 : decode cX7_advance 41 = .ok (.aload_n 0, 1) := by decide +kernel
theorem dX7_advance_42 : decode cX7_advance 42 = .ok (.iload_n 1, 1) := by decide +kernel
theorem dX7_advance_43 : decode cX7_advance 43 = .ok (.iload_n 3, 1) := by decide +kernel
theorem dX7_advance_44 : decode cX7_advance 44 = .ok (.invokevirtual 99, 3) := by decide +kernel
theorem dX7_advance_47 : decode cX7_advance 47 = .ok (.ifCond .eq 5, 3) := by decide +kernel
set_option maxRecDepth 20000 in
theorem l_X7_advance_8 (d : Nat) {T : CT} {σ0 : MS} {a : Nat} {c1 : Int} {c2 : Int} {c3 : Int} {tg : Int} {post : Option Value → CT → MS → Prop} (h_a : OB T a 7) (t_a : (T a).1 = 37) (r_c1 : -2147483648 ≤ c1 ∧ c1 ≤ 2147483647) (r_c2 : -2147483648 ≤ c2 ∧ c2 ≤ 20000) (r_c3 : -2147483648 ≤ c3 ∧ c3 ≤ 2147483647) (hw0 : WT T σ0) (hx_50 : ∀ (i4 : Int) (σ : MS) , (WT T σ) → (FrC T [56, 57, 58, 65, 66, 67, 68, 69, 515] σ0 σ) → (0 ≤ i4 ∧ i4 ≤ 20000) → (σ.2.1 57 a ≤ tg + i4 + 1 ∧ tg ≤ 11164000) → Tn (d + 6) m_X7_advance 50 T σ [(0, .ref a), (1, .int (iI c1)), (2, .int (iI c2)), (3, .int (iI c3)), (4, .int (iI i4))] [] post) (hx_58 : ∀ (i4 : Int) (σ : MS) , (WT T σ) → (FrC T [56, 57, 58, 65, 66, 67, 68, 69, 515] σ0 σ) → (0 ≤ i4 ∧ i4 ≤ 20000) → (σ.2.1 57 a ≤ tg + i4 + 1 ∧ tg ≤ 11164000) → Tn (d + 6) m_X7_advance 58 T σ [(0, .ref a), (1, .int (iI c1)), (2, .int (iI c2)), (3, .int (iI c3)), (4, .int (iI i4))] [] post) : ∀ (n : Nat) (i4 : Int) (σ : MS) , (WT T σ) → (FrC T [56, 57, 58, 65, 66, 67, 68, 69, 515] σ0 σ) → (0 ≤ i4 ∧ i4 ≤ 20000) → (σ.2.1 57 a ≤ tg + i4 ∧ tg ≤ 11164000) → (2147483700 - i4).toNat = n → Tn (d + 6) m_X7_advance 8 T σ [(0, .ref a), (1, .int (iI c1)), (2, .int (iI c2)), (3, .int (iI c3)), (4, .int (iI i4))] [] post := by
  intro n
  induction n using Nat.strongRecOn with
  | _ n ih =>
    intro i4 σ hw hF r_i4 h0 hm
    refine tn_iload dX7_advance_8 4 rfl ?_
    refine tn_iload_n dX7_advance_10 rfl 2 rfl ?_
    refine tn_icmp_ge (tgt := 58) dX7_advance_11 (by decide) ⟨by omega, by omega⟩ ⟨by omega, by omega⟩ (fun h1 => ?_) (fun h1 => ?_)
    · exact tn_sub [0, 1, 2, 3, 4] rfl (hx_58 (i4) σ hw (FrC.rfl.trans (FrC.sub hF (by decide))) (by omega) (by omega))
    · refine tn_aload_n dX7_advance_14 rfl 0 rfl ?_
      refine tn_getI (ci := 7) (i := 1) (n := 56) (t := σ.2.1 56 a) dX7_advance_15 rfl lay_7 (by decide) fl7_34 h_a rfl rfl (rfl) ?_
      have g2 : ((-2147483648 : Int) ≤ σ.2.1 56 a ∧ σ.2.1 56 a ≤ 2147483647) := wf_56 hw h_a
      refine tn_iconst dX7_advance_18 ?_
      refine tn_icmp_ne (tgt := 58) dX7_advance_19 (by decide) ⟨by omega, by omega⟩ ⟨by decide, by decide⟩ (fun h3 => ?_) (fun h3 => ?_)
      · exact tn_sub [0, 1, 2, 3, 4] rfl (hx_58 (i4) σ hw (FrC.rfl.trans (FrC.sub hF (by decide))) (by omega) (by omega))
      · refine tn_aload_n dX7_advance_22 rfl 0 rfl ?_
        refine tn_callV (M := m_X7_advance) (pc := 23) (ix := 95) (ci := 7) (M' := m_X7_step) (As := []) (rest := []) dX7_advance_23 ok_X7_step im_X7_step se_X7_step ml7_95 np_X7_step rfl rfl h_a rfl (Nat.le_of_ble_eq_true rfl) (Nat.le_of_ble_eq_true rfl) rfl (k_X7_step (d) (T := T) (σ := σ) (a := a) h_a t_a hw (by rw [show σ.2.1 57 a = σ.2.1 57 a from rfl]; omega)) (fun r4 T6 σ5 gt7 hp => ?_)
        obtain ⟨v11, rfl, rfl, w12, F13, f8, f9, f10⟩ := hp
        clear gt7
        show Tn _ _ 26 T σ5 [(0, .ref a), (1, .int (iI c1)), (2, .int (iI c2)), (3, .int (iI c3)), (4, .int (iI i4))] [.int (iI v11)] _
        refine tn_istore (L' := [(5, .int (iI v11)), (0, .ref a), (1, .int (iI c1)), (2, .int (iI c2)), (3, .int (iI c3)), (4, .int (iI i4))]) dX7_advance_26 (by decide) rfl ?_
        refine tn_aload_n dX7_advance_28 rfl 1 rfl ?_
        refine tn_getI (ci := 7) (i := 1) (n := 56) (t := σ5.2.1 56 a) dX7_advance_29 rfl lay_7 (by decide) fl7_34 h_a rfl rfl (rfl) ?_
        have g14 : ((-2147483648 : Int) ≤ σ5.2.1 56 a ∧ σ5.2.1 56 a ≤ 2147483647) := wf_56 w12 h_a
        refine tn_iconst dX7_advance_32 ?_
        refine tn_icmp_ne (tgt := 52) dX7_advance_33 (by decide) ⟨by omega, by omega⟩ ⟨by decide, by decide⟩ (fun h15 => ?_) (fun h15 => ?_)
        · refine tn_iinc (q0 := 5) (L' := [(4, .int (iI (i4 + 1))), (5, .int (iI v11)), (0, .ref a), (1, .int (iI c1)), (2, .int (iI c2)), (3, .int (iI c3))]) dX7_advance_52 rfl (by decide) rfl ?_
          refine tn_goto (tgt := 8) dX7_advance_55 (by decide) ?_
          exact tn_sub [2, 3, 4, 5, 0] rfl (ih _ (by omega) (i4 + 1) σ5 w12 ((FrC.rfl.trans (FrC.sub hF (by decide))).trans (FrC.sub F13 (by decide))) (by omega) (by omega) rfl)
        · refine tn_iload dX7_advance_36 0 rfl ?_
          refine tn_if_eq (tgt := 52) dX7_advance_38 (by decide) ⟨by omega, by omega⟩ (fun h16 => ?_) (fun h16 => ?_)
          · refine tn_iinc (q0 := 5) (L' := [(4, .int (iI (i4 + 1))), (5, .int (iI v11)), (0, .ref a), (1, .int (iI c1)), (2, .int (iI c2)), (3, .int (iI c3))]) dX7_advance_52 rfl (by decide) rfl ?_
            refine tn_goto (tgt := 8) dX7_advance_55 (by decide) ?_
            exact tn_sub [2, 3, 4, 5, 0] rfl (ih _ (by omega) (i4 + 1) σ5 w12 ((FrC.rfl.trans (FrC.sub hF (by decide))).trans (FrC.sub F13 (by decide))) (by omega) (by omega) rfl)
          · refine tn_aload_n dX7_advance_41 rfl 1 rfl ?_
            refine tn_iload_n dX7_advance_42 rfl 2 rfl ?_
            refine tn_iload_n dX7_advance_43 rfl 4 rfl ?_
            refine tn_callV (M := m_X7_advance) (pc := 44) (ix := 99) (ci := 7) (M' := m_X7_stops) (As := [.int (iI c1), .int (iI c3)]) (rest := []) dX7_advance_44 ok_X7_stops im_X7_stops se_X7_stops ml7_99 np_X7_stops rfl rfl h_a rfl (Nat.le_of_ble_eq_true rfl) (Nat.le_of_ble_eq_true rfl) rfl (k_X7_stops (d + 4) (T := T) (σ := σ5) (a := a) (p1 := c1) (p2 := c3) h_a (by omega) (by omega) w12 ) (fun r17 T19 σ18 gt20 hp => ?_)
            obtain ⟨v22, rfl, rfl, rfl, f21⟩ := hp
            clear gt20
            show Tn _ _ 47 T σ5 [(5, .int (iI v11)), (0, .ref a), (1, .int (iI c1)), (2, .int (iI c2)), (3, .int (iI c3)), (4, .int (iI i4))] [.int (iI v22)] _
            refine tn_if_eq (tgt := 52) dX7_advance_47 (by decide) ⟨by omega, by omega⟩ (fun h23 => ?_) (fun h23 => ?_)
            · refine tn_iinc (q0 := 5) (L' := [(4, .int (iI (i4 + 1))), (5, .int (iI v11)), (0, .ref a), (1, .int (iI c1)), (2, .int (iI c2)), (3, .int (iI c3))]) dX7_advance_52 rfl (by decide) rfl ?_
              refine tn_goto (tgt := 8) dX7_advance_55 (by decide) ?_
              exact tn_sub [2, 3, 4, 5, 0] rfl (ih _ (by omega) (i4 + 1) σ5 w12 ((FrC.rfl.trans (FrC.sub hF (by decide))).trans (FrC.sub F13 (by decide))) (by omega) (by omega) rfl)
            · exact tn_sub [1, 2, 3, 4, 5] rfl (hx_50 (i4) σ5 w12 ((FrC.rfl.trans (FrC.sub hF (by decide))).trans (FrC.sub F13 (by decide))) (by omega) (by omega))
theorem dX7_advance_50 : decode cX7_advance 50 = .ok (.iconst 1, 1) := by decide +kernel
theorem dX7_advance_51 : decode cX7_advance 51 = .ok (.ireturn, 1) := by decide +kernel
theorem dX7_advance_58 : decode cX7_advance 58 = .ok (.aload_n 0, 1) := by decide +kernel
theorem dX7_advance_59 : decode cX7_advance 59 = .ok (.getfield 34, 3) := by decide +kernel
theorem dX7_advance_62 : decode cX7_advance 62 = .ok (.iconst 1, 1) := by decide +kernel
theorem dX7_advance_63 : decode cX7_advance 63 = .ok (.if_icmp .ne 5, 3) := by decide +kernel
theorem dX7_advance_68 : decode cX7_advance 68 = .ok (.aload_n 0, 1) := by decide +kernel
theorem dX7_advance_69 : decode cX7_advance 69 = .ok (.getfield 34, 3) := by decide +kernel
theorem dX7_advance_72 : decode cX7_advance 72 = .ok (.iconst 2, 1) := by decide +kernel
theorem dX7_advance_73 : decode cX7_advance 73 = .ok (.if_icmp .ne 7, 3) := by decide +kernel
theorem dX7_advance_80 : decode cX7_advance 80 = .ok (.iconst 3, 1) := by decide +kernel
theorem dX7_advance_81 : decode cX7_advance 81 = .ok (.ireturn, 1) := by decide +kernel
theorem dX7_advance_76 : decode cX7_advance 76 = .ok (.iconst 0, 1) := by decide +kernel
theorem dX7_advance_77 : decode cX7_advance 77 = .ok (.goto 4, 3) := by decide +kernel
theorem dX7_advance_66 : decode cX7_advance 66 = .ok (.iconst 2, 1) := by decide +kernel
theorem dX7_advance_67 : decode cX7_advance 67 = .ok (.ireturn, 1) := by decide +kernel
set_option maxRecDepth 20000 in
theorem k_X7_advance (d : Nat) {T : CT} {σ : MS} {a : Nat} {w : Int} {n : Int} (ha : OB T a 7) (hta : (T a).1 = 37) (h_w : -2147483648 ≤ w ∧ w ≤ 2147483647) (h_n : -2147483648 ≤ n ∧ n ≤ 2147483647) (hw : WT T σ) (hn2 : n ≤ 20000) (h8 : σ.2.1 57 a ≤ 11164000) : Tn (d + 6) m_X7_advance 0 T σ [(0, .ref a), (1, .int (iI w)), (2, .int (iI n))] [] (fun ro T2 σ2 => ∃ v : Int, ro = some (.int (iI v)) ∧ T = T2 ∧ WT T2 σ2 ∧ FrC T [56, 57, 58, 65, 66, 67, 68, 69, 515] σ σ2 ∧ (-2147483648 ≤ v ∧ v ≤ 2147483647) ∧ (σ2.2.1 57 a ≤ σ.2.1 57 a + 20001)) := by
  refine tn_aload_n dX7_advance_0 rfl 0 rfl ?_
  refine tn_getI (ci := 7) (i := 3) (n := 58) (t := σ.2.1 58 a) dX7_advance_1 rfl lay_7 (by decide) fl7_38 ha rfl rfl (rfl) ?_
  have g1 : ((-2147483648 : Int) ≤ σ.2.1 58 a ∧ σ.2.1 58 a ≤ 2147483647) := wf_58 hw ha
  refine tn_istore_n (L' := [(3, .int (iI (σ.2.1 58 a))), (0, .ref a), (1, .int (iI w)), (2, .int (iI n))]) dX7_advance_4 rfl (by decide) rfl ?_
  refine tn_iconst dX7_advance_5 ?_
  refine tn_istore (L' := [(4, .int (iI 0)), (3, .int (iI (σ.2.1 58 a))), (0, .ref a), (1, .int (iI w)), (2, .int (iI n))]) dX7_advance_6 (by decide) rfl ?_
  refine tn_sub [2, 3, 4, 1, 0] rfl (l_X7_advance_8 (d) (T := T) (σ0 := σ) (a := a) (c1 := w) (c2 := n) (c3 := σ.2.1 58 a) (tg := σ.2.1 57 a) ha hta (by omega) (by omega) (by omega) hw (fun i42 σ3 w6 F7 r8 f9 => ?_) (fun i410 σ11 w14 F15 r16 f17 => ?_) _ (0) σ hw FrC.rfl (by omega) (by omega) rfl)
  · show Tn _ _ 50 T σ3 [(0, .ref a), (1, .int (iI w)), (2, .int (iI n)), (3, .int (iI (σ.2.1 58 a))), (4, .int (iI i42))] [] _
    refine tn_iconst dX7_advance_50 ?_
    have q18 : σ3.2.1 57 a = σ3.2.1 57 a := rfl
    exact tn_iret rfl dX7_advance_51 ⟨_, rfl, rfl, w6, (FrC.rfl.trans (FrC.sub F7 (by decide))), by omega, by omega⟩
  · show Tn _ _ 58 T σ11 [(0, .ref a), (1, .int (iI w)), (2, .int (iI n)), (3, .int (iI (σ.2.1 58 a))), (4, .int (iI i410))] [] _
    refine tn_aload_n dX7_advance_58 rfl 0 rfl ?_
    refine tn_getI (ci := 7) (i := 1) (n := 56) (t := σ11.2.1 56 a) dX7_advance_59 rfl lay_7 (by decide) fl7_34 ha rfl rfl (rfl) ?_
    have g19 : ((-2147483648 : Int) ≤ σ11.2.1 56 a ∧ σ11.2.1 56 a ≤ 2147483647) := wf_56 w14 ha
    refine tn_iconst dX7_advance_62 ?_
    refine tn_icmp_ne (tgt := 68) dX7_advance_63 (by decide) ⟨by omega, by omega⟩ ⟨by decide, by decide⟩ (fun h20 => ?_) (fun h20 => ?_)
    · refine tn_aload_n dX7_advance_68 rfl 0 rfl ?_
      refine tn_getI (ci := 7) (i := 1) (n := 56) (t := σ11.2.1 56 a) dX7_advance_69 rfl lay_7 (by decide) fl7_34 ha rfl rfl (rfl) ?_
      refine tn_iconst dX7_advance_72 ?_
      refine tn_icmp_ne (tgt := 80) dX7_advance_73 (by decide) ⟨by omega, by omega⟩ ⟨by decide, by decide⟩ (fun h21 => ?_) (fun h21 => ?_)
      · refine tn_iconst dX7_advance_80 ?_
        have q22 : σ11.2.1 57 a = σ11.2.1 57 a := rfl
        exact tn_iret rfl dX7_advance_81 ⟨_, rfl, rfl, w14, (FrC.rfl.trans (FrC.sub F15 (by decide))), by omega, by omega⟩
      · refine tn_iconst dX7_advance_76 ?_
        refine tn_goto (tgt := 81) dX7_advance_77 (by decide) ?_
        have q23 : σ11.2.1 57 a = σ11.2.1 57 a := rfl
        exact tn_iret rfl dX7_advance_81 ⟨_, rfl, rfl, w14, (FrC.rfl.trans (FrC.sub F15 (by decide))), by omega, by omega⟩
    · refine tn_iconst dX7_advance_66 ?_
      have q24 : σ11.2.1 57 a = σ11.2.1 57 a := rfl
      exact tn_iret rfl dX7_advance_67 ⟨_, rfl, rfl, w14, (FrC.rfl.trans (FrC.sub F15 (by decide))), by omega, by omega⟩
