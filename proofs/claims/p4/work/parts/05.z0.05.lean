theorem cd_X0_together : Cond.code yX0_together cX0_together 5 (some .int) ∈ pWW := pw6 (List.mem_of_getElem? (i := 204) rfl) rfl
abbrev m_X0_together : MT := (yX0_together, cX0_together, 5, (some .int))
theorem ok_X0_together : pOk m_X0_together := ⟨⟨cd_X0_together, ini_0⟩, by decide +kernel, ⟨by decide +kernel, by decide +kernel⟩, Nat.le_of_ble_eq_true rfl⟩
theorem np_X0_together : (parseMethodDescriptor yX0_together.desc).map (fun d => d.parameters.length) = some 2 := by decide +kernel
theorem im_X0_together : Cond.instanceMethod yX0_together ∈ pWW := pw6 (List.mem_of_getElem? (i := 202) rfl) rfl
theorem se_X0_together : Cond.selects RX0 yX0_together yX0_together ∈ pWW := pw6 (List.mem_of_getElem? (i := 203) rfl) rfl
theorem fl0_30 : Cond.fieldLink RX0 30 (TX0 4).1 (TX0 4).2.1 (TX0 4).2.2.1 ∈ pWW := pw6 (List.mem_of_getElem? (i := 188) rfl) rfl
theorem ml0_40 : Cond.methodLink RX0 40 yX0_plainLine ∈ pWW := pw6 (List.mem_of_getElem? (i := 206) rfl) rfl
theorem ml0_43 : Cond.methodLink RX0 43 yX0_samePrints ∈ pWW := pw6 (List.mem_of_getElem? (i := 211) rfl) rfl
theorem ml0_46 : Cond.methodLink RX0 46 yX0_sameStack ∈ pWW := pw6 (List.mem_of_getElem? (i := 215) rfl) rfl
theorem dX0_together_0 : decode cX0_together 0 = .ok (.iconst 0, 1) := by decide +kernel
theorem dX0_together_1 : decode cX0_together 1 = .ok (.istore_n 3, 1) := by decide +kernel
theorem dX0_together_2 : decode cX0_together 2 = .ok (.aload_n 0, 1) := by decide +kernel
theorem dX0_together_3 : decode cX0_together 3 = .ok (.iconst 0, 1) := by decide +kernel
theorem dX0_together_4 : decode cX0_together 4 = .ok (.putfield 23, 3) := by decide +kernel
theorem dX0_together_7 : decode cX0_together 7 = .ok (.aload_n 0, 1) := by decide +kernel
theorem dX0_together_8 : decode cX0_together 8 = .ok (.iconst 0, 1) := by decide +kernel
theorem dX0_together_9 : decode cX0_together 9 = .ok (.putfield 27, 3) := by decide +kernel
theorem dX0_together_12 : decode cX0_together 12 = .ok (.aload_n 0, 1) := by decide +kernel
theorem dX0_together_13 : decode cX0_together 13 = .ok (.iconst 0, 1) := by decide +kernel
theorem dX0_together_14 : decode cX0_together 14 = .ok (.putfield 30, 3) := by decide +kernel
theorem dX0_together_17 : decode cX0_together 17 = .ok (.iconst 0, 1) := by decide +kernel
theorem dX0_together_18 : decode cX0_together 18 = .ok (.istore 4, 2) := by decide +kernel
theorem dX0_together_20 : decode cX0_together 20 = .ok (.iload 4, 2) := by decide +kernel
theorem dX0_together_22 : decode cX0_together 22 = .ok (.iload_n 2, 1) := by decide +kernel
theorem dX0_together_23 : decode cX0_together 23 = .ok (.if_icmp .ge 60, 3) := by decide +kernel
theorem dX0_together_26 : decode cX0_together 26 = .ok (.aload_n 0, 1) := by decide +kernel
theorem dX0_together_27 : decode cX0_together 27 = .ok (.getfield 14, 3) := by decide +kernel
theorem dX0_together_30 : decode cX0_together 30 = .ok (.getfield 33, 3) := by decide +kernel
theorem dX0_together_33 : decode cX0_together 33 = .ok (.iconst 1, 1) := by decide +kernel
theorem dX0_together_34 : decode cX0_together 34 = .ok (.if_icmp .ne 49, 3) := by decide +kernel
theorem dX0_together_37 : decode cX0_together 37 = .ok (.aload_n 0, 1) := by decide +kernel
theorem dX0_together_38 : decode cX0_together 38 = .ok (.getfield 14, 3) := by decide +kernel
theorem dX0_together_41 : decode cX0_together 41 = .ok (.invokevirtual 36, 3) := by decide +kernel
theorem dX0_together_44 : decode cX0_together 44 = .ok (.ifCond .eq 33, 3) := by decide +kernel
theorem dX0_together_77 : decode cX0_together 77 = .ok (.iinc 4 1, 3) := by decide +kernel
theorem dX0_together_80 : decode cX0_together 80 = .ok (.goto (-60), 3) := by decide +kernel
theorem dX0_together_47 : decode cX0_together 47 = .ok (.aload_n 0, 1) := by decide +kernel
theorem dX0_together_48 : decode cX0_together 48 = .ok (.invokevirtual 40, 3) := by decide +kernel
theorem dX0_together_51 : decode cX0_together 51 = .ok (.ifCond .eq 18, 3) := by decide +kernel
theorem dX0_together_54 : decode cX0_together 54 = .ok (.aload_n 0, 1) := by decide +kernel
theorem dX0_together_55 : decode cX0_together 55 = .ok (.invokevirtual 43, 3) := by decide +kernel
theorem dX0_together_58 : decode cX0_together 58 = .ok (.ifCond .eq 11, 3) := by decide +kernel
theorem dX0_together_61 : decode cX0_together 61 = .ok (.aload_n 0, 1) := by decide +kernel
theorem dX0_together_62 : decode cX0_together 62 = .ok (.aload_n 1, 1) := by decide +kernel
theorem dX0_together_63 : decode cX0_together 63 = .ok (.invokevirtual 46, 3) := by decide +kernel
theorem dX0_together_66 : decode cX0_together 66 = .ok (.ifCond .ne 8, 3) := by decide +kernel
theorem dX0_together_74 : decode cX0_together 74 = .ok (.iinc 3 1, 3) := by decide +kernel
set_option maxRecDepth 20000 in
theorem l_X0_together_20 (d : Nat) {T : CT} {σ0 : MS} {a : Nat} {rx1 : Nat} {c2 : Int} {post : Option Value → CT → MS → Prop} (h_a : OB T a 0) (h_rx1 : OB T rx1 10) (r_c2 : -2147483648 ≤ c2 ∧ c2 ≤ 20000) (hw0 : WT T σ0) (hx_69 : ∀ (i3 : Int) (i4 : Int) (σ : MS) , (WT T σ) → (FrC T [2, 3, 56, 57, 58, 65, 66, 67, 68, 69, 70, 71, 515] σ0 σ) → (-2147483648 ≤ i3 ∧ i3 ≤ 2147483647) → (0 ≤ i4 ∧ i4 ≤ 20000) → (TB σ a (i4 + 1)) → (PB σ a) → Tn (d + 7) m_X0_together 69 T σ [(0, .ref a), (1, .ref rx1), (2, .int (iI c2)), (3, .int (iI i3)), (4, .int (iI i4))] [] post) (hx_83 : ∀ (i3 : Int) (i4 : Int) (σ : MS) , (WT T σ) → (FrC T [2, 3, 56, 57, 58, 65, 66, 67, 68, 69, 70, 71, 515] σ0 σ) → (-2147483648 ≤ i3 ∧ i3 ≤ 2147483647) → (0 ≤ i4 ∧ i4 ≤ 20000) → (TB σ a (i4 + 1)) → (PB σ a) → Tn (d + 7) m_X0_together 83 T σ [(0, .ref a), (1, .ref rx1), (2, .int (iI c2)), (3, .int (iI i3)), (4, .int (iI i4))] [] post) : ∀ (n : Nat) (i3 : Int) (i4 : Int) (σ : MS) , (WT T σ) → (FrC T [2, 3, 56, 57, 58, 65, 66, 67, 68, 69, 70, 71, 515] σ0 σ) → (-2147483648 ≤ i3 ∧ i3 ≤ 2147483647) → (0 ≤ i4 ∧ i4 ≤ 20000) → (TB σ a i4) → (PB σ a) → (2147483700 - i4).toNat = n → Tn (d + 7) m_X0_together 20 T σ [(0, .ref a), (1, .ref rx1), (2, .int (iI c2)), (3, .int (iI i3)), (4, .int (iI i4))] [] post := by
  intro n
  induction n using Nat.strongRecOn with
  | _ n ih =>
    intro i3 i4 σ hw hF r_i3 r_i4 ht hb hm
    refine tn_iload dX0_together_20 4 rfl ?_
    refine tn_iload_n dX0_together_22 rfl 2 rfl ?_
    refine tn_icmp_ge (tgt := 83) dX0_together_23 (by decide) ⟨by omega, by omega⟩ ⟨by omega, by omega⟩ (fun h1 => ?_) (fun h1 => ?_)
    · exact tn_sub [0, 1, 2, 3, 4] rfl (hx_83 (i3) (i4) σ hw (FrC.rfl.trans (FrC.sub hF (by decide))) (by omega) (by omega) (ht.up (by omega)) hb)
    · refine tn_aload_n dX0_together_26 rfl 0 rfl ?_
      obtain ⟨x2, hx3, hk4⟩ : ∃ x : Nat, σ0.2.1 0 a = (x : Int) ∧ (T x).1 = 37 := wf_0 hw0 h_a
      have hk4o : OB T x2 7 := ⟨by omega, by rw [hk4]; rfl, by omega⟩
      refine tn_getR (ci := 0) (i := 0) (n := 0) (x := x2) dX0_together_27 rfl lay_0 (by decide) fl0_14 h_a rfl rfl (rc_F hF (Or.inl (by decide)) (by decide) (hx3)) ?_
      refine tn_getI (ci := 7) (i := 1) (n := 56) (t := σ.2.1 56 x2) dX0_together_30 rfl lay_7 (by decide) fl0_33 hk4o rfl rfl (rfl) ?_
      have g6 : ((-2147483648 : Int) ≤ σ.2.1 56 x2 ∧ σ.2.1 56 x2 ≤ 2147483647) := wf_56 hw hk4o
      refine tn_iconst dX0_together_33 ?_
      refine tn_icmp_ne (tgt := 83) dX0_together_34 (by decide) ⟨by omega, by omega⟩ ⟨by decide, by decide⟩ (fun h7 => ?_) (fun h7 => ?_)
      · exact tn_sub [0, 1, 2, 3, 4] rfl (hx_83 (i3) (i4) σ hw (FrC.rfl.trans (FrC.sub hF (by decide))) (by omega) (by omega) (ht.up (by omega)) hb)
      · refine tn_aload_n dX0_together_37 rfl 0 rfl ?_
        refine tn_getR (ci := 0) (i := 0) (n := 0) (x := x2) dX0_together_38 rfl lay_0 (by decide) fl0_14 h_a rfl rfl (rc_F hF (Or.inl (by decide)) (by decide) (hx3)) ?_
        refine tn_callV (M := m_X0_together) (pc := 41) (ix := 36) (ci := 7) (M' := m_X7_step) (As := []) (rest := []) dX0_together_41 ok_X7_step im_X7_step se_X7_step ml0_36 np_X7_step rfl rfl hk4o rfl (Nat.le_of_ble_eq_true rfl) (Nat.le_of_ble_eq_true rfl) rfl (k_X7_step (d + 1) (T := T) (σ := σ) (a := x2) hk4o hk4 hw (by have q9 := ht x2 (rc_F hF (Or.inl (by decide)) (by decide) (hx3)); omega)) (fun r8 T10 σ9 gt11 hp => ?_)
        obtain ⟨v15, rfl, rfl, w16, F17, f12, f13, f14⟩ := hp
        clear gt11
        obtain ⟨x18, hx19, hk20⟩ : ∃ x : Nat, σ0.2.1 1 a = (x : Int) ∧ (T x).1 = 57 := wf_1 hw0 h_a
        have hk20o : OB T x18 7 := ⟨by omega, by rw [hk20]; rfl, by omega⟩
        have ne22 : x2 ≠ x18 := fun e => by rw [e] at hk4; omega
        have hb23 : PB σ9 a := PB.torn hb (rc_F hF (Or.inl (by decide)) (by decide) (hx19)) ne22 f14 F17 (by decide)
        have ht24 : TB σ9 a (i4 + 1) := TB.of (rc_F F17 (Or.inl (by decide)) (by decide) (rc_F hF (Or.inl (by decide)) (by decide) (hx3))) (by have q9 := ht x2 (rc_F hF (Or.inl (by decide)) (by decide) (hx3)); omega)
        show Tn _ _ 44 T σ9 [(0, .ref a), (1, .ref rx1), (2, .int (iI c2)), (3, .int (iI i3)), (4, .int (iI i4))] [.int (iI v15)] _
        refine tn_if_eq (tgt := 77) dX0_together_44 (by decide) ⟨by omega, by omega⟩ (fun h25 => ?_) (fun h25 => ?_)
        · refine tn_iinc (q0 := 4) (L' := [(4, .int (iI (i4 + 1))), (0, .ref a), (1, .ref rx1), (2, .int (iI c2)), (3, .int (iI i3))]) dX0_together_77 rfl (by decide) rfl ?_
          refine tn_goto (tgt := 20) dX0_together_80 (by decide) ?_
          exact tn_sub [1, 2, 3, 4, 0] rfl (ih _ (by omega) (i3) (i4 + 1) σ9 w16 ((FrC.rfl.trans (FrC.sub hF (by decide))).trans (FrC.sub F17 (by decide))) (by omega) (by omega) ht24 hb23 rfl)
        · refine tn_aload_n dX0_together_47 rfl 0 rfl ?_
          refine tn_callV (M := m_X0_together) (pc := 48) (ix := 40) (ci := 0) (M' := m_X0_plainLine) (As := []) (rest := []) dX0_together_48 ok_X0_plainLine im_X0_plainLine se_X0_plainLine ml0_40 np_X0_plainLine rfl rfl h_a rfl (Nat.le_of_ble_eq_true rfl) (Nat.le_of_ble_eq_true rfl) rfl (k_X0_plainLine (d) (T := T) (σ := σ9) (a := a) h_a w16 hb23) (fun r26 T28 σ27 gt29 hp => ?_)
          obtain ⟨v33, rfl, rfl, w34, F35, f30, f31, f32⟩ := hp
          clear gt29
          have ht36 : TB σ27 a (i4 + 1) := TB.plain ht24 (rc_F F17 (Or.inl (by decide)) (by decide) (rc_F hF (Or.inl (by decide)) (by decide) (hx3))) (rc_F F17 (Or.inl (by decide)) (by decide) (rc_F hF (Or.inl (by decide)) (by decide) (hx19))) ne22 f32 F35 (by decide)
          show Tn _ _ 51 T σ27 [(0, .ref a), (1, .ref rx1), (2, .int (iI c2)), (3, .int (iI i3)), (4, .int (iI i4))] [.int (iI v33)] _
          refine tn_if_eq (tgt := 69) dX0_together_51 (by decide) ⟨by omega, by omega⟩ (fun h37 => ?_) (fun h37 => ?_)
          · exact tn_sub [0, 1, 2, 3, 4] rfl (hx_69 (i3) (i4) σ27 w34 (((FrC.rfl.trans (FrC.sub hF (by decide))).trans (FrC.sub F17 (by decide))).trans (FrC.sub F35 (by decide))) (by omega) (by omega) ht36 f31)
          · refine tn_aload_n dX0_together_54 rfl 0 rfl ?_
            refine tn_callV (M := m_X0_together) (pc := 55) (ix := 43) (ci := 0) (M' := m_X0_samePrints) (As := []) (rest := []) dX0_together_55 ok_X0_samePrints im_X0_samePrints se_X0_samePrints ml0_43 np_X0_samePrints rfl rfl h_a rfl (Nat.le_of_ble_eq_true rfl) (Nat.le_of_ble_eq_true rfl) rfl (k_X0_samePrints (d + 5) (T := T) (σ := σ27) (a := a) h_a w34 ) (fun r38 T40 σ39 gt41 hp => ?_)
            obtain ⟨v43, rfl, rfl, rfl, f42⟩ := hp
            clear gt41
            show Tn _ _ 58 T σ27 [(0, .ref a), (1, .ref rx1), (2, .int (iI c2)), (3, .int (iI i3)), (4, .int (iI i4))] [.int (iI v43)] _
            refine tn_if_eq (tgt := 69) dX0_together_58 (by decide) ⟨by omega, by omega⟩ (fun h44 => ?_) (fun h44 => ?_)
            · exact tn_sub [0, 1, 2, 3, 4] rfl (hx_69 (i3) (i4) σ27 w34 (((FrC.rfl.trans (FrC.sub hF (by decide))).trans (FrC.sub F17 (by decide))).trans (FrC.sub F35 (by decide))) (by omega) (by omega) ht36 f31)
            · refine tn_aload_n dX0_together_61 rfl 0 rfl ?_
              refine tn_aload_n dX0_together_62 rfl 1 rfl ?_
              refine tn_callV (M := m_X0_together) (pc := 63) (ix := 46) (ci := 0) (M' := m_X0_sameStack) (As := [.ref rx1]) (rest := []) dX0_together_63 ok_X0_sameStack im_X0_sameStack se_X0_sameStack ml0_46 np_X0_sameStack rfl rfl h_a rfl (Nat.le_of_ble_eq_true rfl) (Nat.le_of_ble_eq_true rfl) rfl (k_X0_sameStack (d) (T := T) (σ := σ27) (a := a) (p1 := rx1) h_a h_rx1 w34 ) (fun r45 T47 σ46 gt48 hp => ?_)
              obtain ⟨v50, rfl, rfl, w51, F52, f49⟩ := hp
              clear gt48
              have hb53 : PB σ46 a := PB.frc f31 F52 (by decide) (by decide) (by decide) (by decide)
              have ht54 : TB σ46 a (i4 + 1) := TB.frc ht36 F52 (by decide) (by decide)
              show Tn _ _ 66 T σ46 [(0, .ref a), (1, .ref rx1), (2, .int (iI c2)), (3, .int (iI i3)), (4, .int (iI i4))] [.int (iI v50)] _
              refine tn_if_ne (tgt := 74) dX0_together_66 (by decide) ⟨by omega, by omega⟩ (fun h55 => ?_) (fun h55 => ?_)
              · refine tn_iinc (q0 := 3) (L' := [(3, .int (iI (i3 + 1))), (0, .ref a), (1, .ref rx1), (2, .int (iI c2)), (4, .int (iI i4))]) dX0_together_74 rfl (by decide) rfl ?_
                obtain ⟨z56, g57, g57e⟩ := wr_ex (i3 + 1)
                rw [g57e]
                have g57r : -2147483648 ≤ z56 ∧ z56 ≤ 2147483647 := g57
                refine tn_iinc (q0 := 4) (L' := [(4, .int (iI (i4 + 1))), (3, .int (iI z56)), (0, .ref a), (1, .ref rx1), (2, .int (iI c2))]) dX0_together_77 rfl (by decide) rfl ?_
                refine tn_goto (tgt := 20) dX0_together_80 (by decide) ?_
                exact tn_sub [2, 3, 4, 1, 0] rfl (ih _ (by omega) (z56) (i4 + 1) σ46 w51 ((((FrC.rfl.trans (FrC.sub hF (by decide))).trans (FrC.sub F17 (by decide))).trans (FrC.sub F35 (by decide))).trans (FrC.sub F52 (by decide))) (by omega) (by omega) ht54 hb53 rfl)
              · exact tn_sub [0, 1, 2, 3, 4] rfl (hx_69 (i3) (i4) σ46 w51 ((((FrC.rfl.trans (FrC.sub hF (by decide))).trans (FrC.sub F17 (by decide))).trans (FrC.sub F35 (by decide))).trans (FrC.sub F52 (by decide))) (by omega) (by omega) ht54 hb53)
theorem fl0_50 : Cond.fieldLink RX0 50 (TX7 13).1 (TX7 13).2.1 (TX7 13).2.2.1 ∈ pWW := pw2 (List.mem_of_getElem? (i := 155) rfl) rfl
theorem dX0_together_69 : decode cX0_together 69 = .ok (.bipush (-2), 2) := by decide +kernel
theorem dX0_together_71 : decode cX0_together 71 = .ok (.iload_n 3, 1) := by decide +kernel
theorem dX0_together_72 : decode cX0_together 72 = .ok (.isub, 1) := by decide +kernel
theorem dX0_together_73 : decode cX0_together 73 = .ok (.ireturn, 1) := by decide +kernel
theorem dX0_together_83 : decode cX0_together 83 = .ok (.aload_n 0, 1) := by decide +kernel
theorem dX0_together_84 : decode cX0_together 84 = .ok (.getfield 14, 3) := by decide +kernel
theorem dX0_together_87 : decode cX0_together 87 = .ok (.getfield 33, 3) := by decide +kernel
theorem dX0_together_90 : decode cX0_together 90 = .ok (.iconst 1, 1) := by decide +kernel
theorem dX0_together_91 : decode cX0_together 91 = .ok (.if_icmp .ne 5, 3) := by decide +kernel
theorem dX0_together_96 : decode cX0_together 96 = .ok (.aload_n 0, 1) := by decide +kernel
theorem dX0_together_97 : decode cX0_together 97 = .ok (.invokevirtual 40, 3) := by decide +kernel
theorem dX0_together_100 : decode cX0_together 100 = .ok (.ifCond .ne 44, 3) := by decide +kernel
theorem dX0_together_144 : decode cX0_together 144 = .ok (.bipush (-2), 2) := by decide +kernel
theorem dX0_together_146 : decode cX0_together 146 = .ok (.iload_n 3, 1) := by decide +kernel
theorem dX0_together_147 : decode cX0_together 147 = .ok (.isub, 1) := by decide +kernel
theorem dX0_together_148 : decode cX0_together 148 = .ok (.ireturn, 1) := by decide +kernel
theorem dX0_together_103 : decode cX0_together 103 = .ok (.aload_n 0, 1) := by decide +kernel
theorem dX0_together_104 : decode cX0_together 104 = .ok (.getfield 20, 3) := by decide +kernel
theorem dX0_together_107 : decode cX0_together 107 = .ok (.getfield 33, 3) := by decide +kernel
theorem dX0_together_110 : decode cX0_together 110 = .ok (.aload_n 0, 1) := by decide +kernel
theorem dX0_together_111 : decode cX0_together 111 = .ok (.getfield 14, 3) := by decide +kernel
theorem dX0_together_114 : decode cX0_together 114 = .ok (.getfield 33, 3) := by decide +kernel
theorem dX0_together_117 : decode cX0_together 117 = .ok (.if_icmp .ne 27, 3) := by decide +kernel
theorem dX0_together_120 : decode cX0_together 120 = .ok (.aload_n 0, 1) := by decide +kernel
theorem dX0_together_121 : decode cX0_together 121 = .ok (.invokevirtual 43, 3) := by decide +kernel
theorem dX0_together_124 : decode cX0_together 124 = .ok (.ifCond .eq 20, 3) := by decide +kernel
theorem dX0_together_127 : decode cX0_together 127 = .ok (.aload_n 0, 1) := by decide +kernel
theorem dX0_together_128 : decode cX0_together 128 = .ok (.getfield 20, 3) := by decide +kernel
theorem dX0_together_131 : decode cX0_together 131 = .ok (.getfield 50, 3) := by decide +kernel
theorem dX0_together_134 : decode cX0_together 134 = .ok (.aload_n 0, 1) := by decide +kernel
theorem dX0_together_135 : decode cX0_together 135 = .ok (.getfield 14, 3) := by decide +kernel
theorem dX0_together_138 : decode cX0_together 138 = .ok (.getfield 50, 3) := by decide +kernel
theorem dX0_together_141 : decode cX0_together 141 = .ok (.if_icmp .eq 8, 3) := by decide +kernel
theorem dX0_together_149 : decode cX0_together 149 = .ok (.aload_n 0, 1) := by decide +kernel
theorem dX0_together_150 : decode cX0_together 150 = .ok (.aload_n 0, 1) := by decide +kernel
theorem dX0_together_151 : decode cX0_together 151 = .ok (.getfield 14, 3) := by decide +kernel
theorem dX0_together_154 : decode cX0_together 154 = .ok (.getfield 33, 3) := by decide +kernel
theorem dX0_together_157 : decode cX0_together 157 = .ok (.iconst 2, 1) := by decide +kernel
theorem dX0_together_158 : decode cX0_together 158 = .ok (.if_icmp .ne 7, 3) := by decide +kernel
theorem dX0_together_165 : decode cX0_together 165 = .ok (.iconst 2, 1) := by decide +kernel
theorem dX0_together_166 : decode cX0_together 166 = .ok (.putfield 30, 3) := by decide +kernel
theorem dX0_together_169 : decode cX0_together 169 = .ok (.iload_n 3, 1) := by decide +kernel
theorem dX0_together_170 : decode cX0_together 170 = .ok (.ireturn, 1) := by decide +kernel
theorem dX0_together_161 : decode cX0_together 161 = .ok (.iconst 1, 1) := by decide +kernel
theorem dX0_together_162 : decode cX0_together 162 = .ok (.goto 4, 3) := by decide +kernel
theorem dX0_together_94 : decode cX0_together 94 = .ok (.iload_n 3, 1) := by decide +kernel
theorem dX0_together_95 : decode cX0_together 95 = .ok (.ireturn, 1) := by decide +kernel
set_option maxRecDepth 20000 in
theorem k_X0_together (d : Nat) {T : CT} {σ : MS} {a : Nat} {t : Nat} {n : Int} (ha : OB T a 0) (h_t : OB T t 10) (h_n : -2147483648 ≤ n ∧ n ≤ 2147483647) (hw : WT T σ) (hn : n ≤ 20000) (ht : TB σ a 0) (hb : PB σ a) : Tn (d + 7) m_X0_together 0 T σ [(0, .ref a), (1, .ref t), (2, .int (iI n))] [] (fun ro T2 σ2 => ∃ v : Int, ro = some (.int (iI v)) ∧ T = T2 ∧ WT T2 σ2 ∧ FrC T [2, 3, 4, 56, 57, 58, 65, 66, 67, 68, 69, 70, 71, 515] σ σ2 ∧ (-2147483648 ≤ v ∧ v ≤ 2147483647)) := by
  refine tn_iconst dX0_together_0 ?_
  refine tn_istore_n (L' := [(3, .int (iI 0)), (0, .ref a), (1, .ref t), (2, .int (iI n))]) dX0_together_1 rfl (by decide) rfl ?_
  refine tn_aload_n dX0_together_2 rfl 1 rfl ?_
  refine tn_iconst dX0_together_3 ?_
  refine tn_putV (ci := 0) (i := 2) (n := 2) (r := false) (v := 0) tyX0 tyX0_ok nmX0 dX0_together_4 rfl lay_0 (by decide) fl0_23 rfl (tyX0_ok 2 (by decide)) rfl rfl rfl ha rfl rfl ?_
  refine tn_aload_n dX0_together_7 rfl 1 rfl ?_
  refine tn_iconst dX0_together_8 ?_
  refine tn_putV (ci := 0) (i := 3) (n := 3) (r := false) (v := 0) tyX0 tyX0_ok nmX0 dX0_together_9 rfl lay_0 (by decide) fl0_27 rfl (tyX0_ok 3 (by decide)) rfl rfl rfl ha rfl rfl ?_
  refine tn_aload_n dX0_together_12 rfl 1 rfl ?_
  refine tn_iconst dX0_together_13 ?_
  refine tn_putV (ci := 0) (i := 4) (n := 4) (r := false) (v := 0) tyX0 tyX0_ok nmX0 dX0_together_14 rfl lay_0 (by decide) fl0_30 rfl (tyX0_ok 4 (by decide)) rfl rfl rfl ha rfl rfl ?_
  refine tn_iconst dX0_together_17 ?_
  refine tn_istore (L' := [(4, .int (iI 0)), (3, .int (iI 0)), (0, .ref a), (1, .ref t), (2, .int (iI n))]) dX0_together_18 (by decide) rfl ?_
  refine tn_sub [2, 3, 4, 1, 0] rfl (l_X0_together_20 (d) (T := T) (σ0 := (sA 4 a (0) (sA 3 a (0) (sA 2 a (0) σ)))) (a := a) (rx1 := t) (c2 := n) ha h_t (by omega) (((hw.put (by decide) (by decide) (fo_2 (by omega))).put (by decide) (by decide) (fo_3 (by omega))).put (by decide) (by decide) (fo_4 (by omega))) (fun i31 i42 σ3 w6 F7 r8 r9 f10 f11 => ?_) (fun i312 i413 σ14 w17 F18 r19 r20 f21 f22 => ?_) _ (0) (0) (sA 4 a (0) (sA 3 a (0) (sA 2 a (0) σ))) (((hw.put (by decide) (by decide) (fo_2 (by omega))).put (by decide) (by decide) (fo_3 (by omega))).put (by decide) (by decide) (fo_4 (by omega))) FrC.rfl (by omega) (by omega) (TB.frc ht (show FrC T [2, 3, 4] σ (sA 4 a (0) (sA 3 a (0) (sA 2 a (0) σ))) from (((FrC.rfl.put (by decide) (by decide)).put (by decide) (by decide)).put (by decide) (by decide))) (by decide) (by decide) ) (PB.frc hb (show FrC T [2, 3, 4] σ (sA 4 a (0) (sA 3 a (0) (sA 2 a (0) σ))) from (((FrC.rfl.put (by decide) (by decide)).put (by decide) (by decide)).put (by decide) (by decide))) (by decide) (by decide) (by decide) (by decide) ) rfl)
  · show Tn _ _ 69 T σ3 [(0, .ref a), (1, .ref t), (2, .int (iI n)), (3, .int (iI i31)), (4, .int (iI i42))] [] _
    refine tn_bipush dX0_together_69 (by decide) ?_
    refine tn_iload_n dX0_together_71 rfl 3 rfl ?_
    refine tn_isub dX0_together_72 ?_
    refine tn_any (fun z23 g24 => ?_)
    have g24r : -2147483648 ≤ z23 ∧ z23 ≤ 2147483647 := g24
    exact tn_iret rfl dX0_together_73 ⟨_, rfl, rfl, w6, ((((FrC.rfl.put (by decide) (by decide)).put (by decide) (by decide)).put (by decide) (by decide)).trans (FrC.sub F7 (by decide))), by omega⟩
  · show Tn _ _ 83 T σ14 [(0, .ref a), (1, .ref t), (2, .int (iI n)), (3, .int (iI i312)), (4, .int (iI i413))] [] _
    refine tn_aload_n dX0_together_83 rfl 0 rfl ?_
    obtain ⟨x25, hx26, hk27⟩ : ∃ x : Nat, σ.2.1 0 a = (x : Int) ∧ (T x).1 = 37 := wf_0 hw ha
    have hk27o : OB T x25 7 := ⟨by omega, by rw [hk27]; rfl, by omega⟩
    refine tn_getR (ci := 0) (i := 0) (n := 0) (x := x25) dX0_together_84 rfl lay_0 (by decide) fl0_14 ha rfl rfl (rc_F F18 (Or.inl (by decide)) (by decide) (rc_o (by decide) (rc_o (by decide) (rc_o (by decide) (hx26))))) ?_
    refine tn_getI (ci := 7) (i := 1) (n := 56) (t := σ14.2.1 56 x25) dX0_together_87 rfl lay_7 (by decide) fl0_33 hk27o rfl rfl (rfl) ?_
    have g29 : ((-2147483648 : Int) ≤ σ14.2.1 56 x25 ∧ σ14.2.1 56 x25 ≤ 2147483647) := wf_56 w17 hk27o
    refine tn_iconst dX0_together_90 ?_
    refine tn_icmp_ne (tgt := 96) dX0_together_91 (by decide) ⟨by omega, by omega⟩ ⟨by decide, by decide⟩ (fun h30 => ?_) (fun h30 => ?_)
    · refine tn_aload_n dX0_together_96 rfl 0 rfl ?_
      refine tn_callV (M := m_X0_together) (pc := 97) (ix := 40) (ci := 0) (M' := m_X0_plainLine) (As := []) (rest := []) dX0_together_97 ok_X0_plainLine im_X0_plainLine se_X0_plainLine ml0_40 np_X0_plainLine rfl rfl ha rfl (Nat.le_of_ble_eq_true rfl) (Nat.le_of_ble_eq_true rfl) rfl (k_X0_plainLine (d) (T := T) (σ := σ14) (a := a) ha w17 f22) (fun r31 T33 σ32 gt34 hp => ?_)
      obtain ⟨v38, rfl, rfl, w39, F40, f35, f36, f37⟩ := hp
      clear gt34
      show Tn _ _ 100 T σ32 [(0, .ref a), (1, .ref t), (2, .int (iI n)), (3, .int (iI i312)), (4, .int (iI i413))] [.int (iI v38)] _
      refine tn_if_ne (tgt := 144) dX0_together_100 (by decide) ⟨by omega, by omega⟩ (fun h41 => ?_) (fun h41 => ?_)
      · refine tn_bipush dX0_together_144 (by decide) ?_
        refine tn_iload_n dX0_together_146 rfl 3 rfl ?_
        refine tn_isub dX0_together_147 ?_
        refine tn_any (fun z42 g43 => ?_)
        have g43r : -2147483648 ≤ z42 ∧ z42 ≤ 2147483647 := g43
        exact tn_iret rfl dX0_together_148 ⟨_, rfl, rfl, w39, (((((FrC.rfl.put (by decide) (by decide)).put (by decide) (by decide)).put (by decide) (by decide)).trans (FrC.sub F18 (by decide))).trans (FrC.sub F40 (by decide))), by omega⟩
      · refine tn_aload_n dX0_together_103 rfl 0 rfl ?_
        obtain ⟨x44, hx45, hk46⟩ : ∃ x : Nat, σ.2.1 1 a = (x : Int) ∧ (T x).1 = 57 := wf_1 hw ha
        have hk46o : OB T x44 7 := ⟨by omega, by rw [hk46]; rfl, by omega⟩
        refine tn_getR (ci := 0) (i := 1) (n := 1) (x := x44) dX0_together_104 rfl lay_0 (by decide) fl0_20 ha rfl rfl (rc_F F40 (Or.inl (by decide)) (by decide) (rc_F F18 (Or.inl (by decide)) (by decide) (rc_o (by decide) (rc_o (by decide) (rc_o (by decide) (hx45)))))) ?_
        refine tn_getI (ci := 7) (i := 1) (n := 56) (t := σ32.2.1 56 x44) dX0_together_107 rfl lay_7 (by decide) fl0_33 hk46o rfl rfl (rfl) ?_
        have g48 : ((-2147483648 : Int) ≤ σ32.2.1 56 x44 ∧ σ32.2.1 56 x44 ≤ 2147483647) := wf_56 w39 hk46o
        refine tn_aload_n dX0_together_110 rfl 0 rfl ?_
        refine tn_getR (ci := 0) (i := 0) (n := 0) (x := x25) dX0_together_111 rfl lay_0 (by decide) fl0_14 ha rfl rfl (rc_F F40 (Or.inl (by decide)) (by decide) (rc_F F18 (Or.inl (by decide)) (by decide) (rc_o (by decide) (rc_o (by decide) (rc_o (by decide) (hx26)))))) ?_
        refine tn_getI (ci := 7) (i := 1) (n := 56) (t := σ32.2.1 56 x25) dX0_together_114 rfl lay_7 (by decide) fl0_33 hk27o rfl rfl (rfl) ?_
        have g49 : ((-2147483648 : Int) ≤ σ32.2.1 56 x25 ∧ σ32.2.1 56 x25 ≤ 2147483647) := wf_56 w39 hk27o
        refine tn_icmp_ne (tgt := 144) dX0_together_117 (by decide) ⟨by omega, by omega⟩ ⟨by omega, by omega⟩ (fun h50 => ?_) (fun h50 => ?_)
        · refine tn_bipush dX0_together_144 (by decide) ?_
          refine tn_iload_n dX0_together_146 rfl 3 rfl ?_
          refine tn_isub dX0_together_147 ?_
          refine tn_any (fun z51 g52 => ?_)
          have g52r : -2147483648 ≤ z51 ∧ z51 ≤ 2147483647 := g52
          exact tn_iret rfl dX0_together_148 ⟨_, rfl, rfl, w39, (((((FrC.rfl.put (by decide) (by decide)).put (by decide) (by decide)).put (by decide) (by decide)).trans (FrC.sub F18 (by decide))).trans (FrC.sub F40 (by decide))), by omega⟩
        · refine tn_aload_n dX0_together_120 rfl 0 rfl ?_
          refine tn_callV (M := m_X0_together) (pc := 121) (ix := 43) (ci := 0) (M' := m_X0_samePrints) (As := []) (rest := []) dX0_together_121 ok_X0_samePrints im_X0_samePrints se_X0_samePrints ml0_43 np_X0_samePrints rfl rfl ha rfl (Nat.le_of_ble_eq_true rfl) (Nat.le_of_ble_eq_true rfl) rfl (k_X0_samePrints (d + 5) (T := T) (σ := σ32) (a := a) ha w39 ) (fun r53 T55 σ54 gt56 hp => ?_)
          obtain ⟨v58, rfl, rfl, rfl, f57⟩ := hp
          clear gt56
          show Tn _ _ 124 T σ32 [(0, .ref a), (1, .ref t), (2, .int (iI n)), (3, .int (iI i312)), (4, .int (iI i413))] [.int (iI v58)] _
          refine tn_if_eq (tgt := 144) dX0_together_124 (by decide) ⟨by omega, by omega⟩ (fun h59 => ?_) (fun h59 => ?_)
          · refine tn_bipush dX0_together_144 (by decide) ?_
            refine tn_iload_n dX0_together_146 rfl 3 rfl ?_
            refine tn_isub dX0_together_147 ?_
            refine tn_any (fun z60 g61 => ?_)
            have g61r : -2147483648 ≤ z60 ∧ z60 ≤ 2147483647 := g61
            exact tn_iret rfl dX0_together_148 ⟨_, rfl, rfl, w39, (((((FrC.rfl.put (by decide) (by decide)).put (by decide) (by decide)).put (by decide) (by decide)).trans (FrC.sub F18 (by decide))).trans (FrC.sub F40 (by decide))), by omega⟩
          · refine tn_aload_n dX0_together_127 rfl 0 rfl ?_
            refine tn_getR (ci := 0) (i := 1) (n := 1) (x := x44) dX0_together_128 rfl lay_0 (by decide) fl0_20 ha rfl rfl (rc_F F40 (Or.inl (by decide)) (by decide) (rc_F F18 (Or.inl (by decide)) (by decide) (rc_o (by decide) (rc_o (by decide) (rc_o (by decide) (hx45)))))) ?_
            refine tn_getI (ci := 7) (i := 13) (n := 68) (t := σ32.2.1 68 x44) dX0_together_131 rfl lay_7 (by decide) fl0_50 hk46o rfl rfl (rfl) ?_
            have g62 : ((-2147483648 : Int) ≤ σ32.2.1 68 x44 ∧ σ32.2.1 68 x44 ≤ 2147483647) := wf_68 w39 hk46o
            refine tn_aload_n dX0_together_134 rfl 0 rfl ?_
            refine tn_getR (ci := 0) (i := 0) (n := 0) (x := x25) dX0_together_135 rfl lay_0 (by decide) fl0_14 ha rfl rfl (rc_F F40 (Or.inl (by decide)) (by decide) (rc_F F18 (Or.inl (by decide)) (by decide) (rc_o (by decide) (rc_o (by decide) (rc_o (by decide) (hx26)))))) ?_
            refine tn_getI (ci := 7) (i := 13) (n := 68) (t := σ32.2.1 68 x25) dX0_together_138 rfl lay_7 (by decide) fl0_50 hk27o rfl rfl (rfl) ?_
            have g63 : ((-2147483648 : Int) ≤ σ32.2.1 68 x25 ∧ σ32.2.1 68 x25 ≤ 2147483647) := wf_68 w39 hk27o
            refine tn_icmp_eq (tgt := 149) dX0_together_141 (by decide) ⟨by omega, by omega⟩ ⟨by omega, by omega⟩ (fun h64 => ?_) (fun h64 => ?_)
            · refine tn_aload_n dX0_together_149 rfl 0 rfl ?_
              refine tn_aload_n dX0_together_150 rfl 0 rfl ?_
              refine tn_getR (ci := 0) (i := 0) (n := 0) (x := x25) dX0_together_151 rfl lay_0 (by decide) fl0_14 ha rfl rfl (rc_F F40 (Or.inl (by decide)) (by decide) (rc_F F18 (Or.inl (by decide)) (by decide) (rc_o (by decide) (rc_o (by decide) (rc_o (by decide) (hx26)))))) ?_
              refine tn_getI (ci := 7) (i := 1) (n := 56) (t := σ32.2.1 56 x25) dX0_together_154 rfl lay_7 (by decide) fl0_33 hk27o rfl rfl (rfl) ?_
              refine tn_iconst dX0_together_157 ?_
              refine tn_icmp_ne (tgt := 165) dX0_together_158 (by decide) ⟨by omega, by omega⟩ ⟨by decide, by decide⟩ (fun h65 => ?_) (fun h65 => ?_)
              · refine tn_iconst dX0_together_165 ?_
                refine tn_putV (ci := 0) (i := 4) (n := 4) (r := false) (v := 2) tyX0 tyX0_ok nmX0 dX0_together_166 rfl lay_0 (by decide) fl0_30 rfl (tyX0_ok 4 (by decide)) rfl rfl rfl ha rfl rfl ?_
                refine tn_iload_n dX0_together_169 rfl 3 rfl ?_
                exact tn_iret rfl dX0_together_170 ⟨_, rfl, rfl, (w39.put (by decide) (by decide) (fo_4 (by omega))), ((((((FrC.rfl.put (by decide) (by decide)).put (by decide) (by decide)).put (by decide) (by decide)).trans (FrC.sub F18 (by decide))).trans (FrC.sub F40 (by decide))).put (by decide) (by decide)), by omega⟩
              · refine tn_iconst dX0_together_161 ?_
                refine tn_goto (tgt := 166) dX0_together_162 (by decide) ?_
                refine tn_putV (ci := 0) (i := 4) (n := 4) (r := false) (v := 1) tyX0 tyX0_ok nmX0 dX0_together_166 rfl lay_0 (by decide) fl0_30 rfl (tyX0_ok 4 (by decide)) rfl rfl rfl ha rfl rfl ?_
                refine tn_iload_n dX0_together_169 rfl 3 rfl ?_
                exact tn_iret rfl dX0_together_170 ⟨_, rfl, rfl, (w39.put (by decide) (by decide) (fo_4 (by omega))), ((((((FrC.rfl.put (by decide) (by decide)).put (by decide) (by decide)).put (by decide) (by decide)).trans (FrC.sub F18 (by decide))).trans (FrC.sub F40 (by decide))).put (by decide) (by decide)), by omega⟩
            · refine tn_bipush dX0_together_144 (by decide) ?_
              refine tn_iload_n dX0_together_146 rfl 3 rfl ?_
              refine tn_isub dX0_together_147 ?_
              refine tn_any (fun z66 g67 => ?_)
              have g67r : -2147483648 ≤ z66 ∧ z66 ≤ 2147483647 := g67
              exact tn_iret rfl dX0_together_148 ⟨_, rfl, rfl, w39, (((((FrC.rfl.put (by decide) (by decide)).put (by decide) (by decide)).put (by decide) (by decide)).trans (FrC.sub F18 (by decide))).trans (FrC.sub F40 (by decide))), by omega⟩
    · refine tn_iload_n dX0_together_94 rfl 3 rfl ?_
      exact tn_iret rfl dX0_together_95 ⟨_, rfl, rfl, w17, ((((FrC.rfl.put (by decide) (by decide)).put (by decide) (by decide)).put (by decide) (by decide)).trans (FrC.sub F18 (by decide))), by omega⟩
