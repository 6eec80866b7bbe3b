theorem cd_X2_loosenBinds : Cond.code yX2_loosenBinds cX2_loosenBinds 6 none ∈ pWW := pw5 (List.mem_of_getElem? (i := 74) rfl) rfl
abbrev m_X2_loosenBinds : MT := (yX2_loosenBinds, cX2_loosenBinds, 6, none)
theorem ok_X2_loosenBinds : pOk m_X2_loosenBinds := ⟨⟨cd_X2_loosenBinds, ini_2⟩, by decide +kernel, ⟨by decide +kernel, by decide +kernel⟩, Nat.le_of_ble_eq_true rfl⟩
theorem np_X2_loosenBinds : (parseMethodDescriptor yX2_loosenBinds.desc).map (fun d => d.parameters.length) = some 2 := by decide +kernel
theorem im_X2_loosenBinds : Cond.instanceMethod yX2_loosenBinds ∈ pWW := pw5 (List.mem_of_getElem? (i := 73) rfl) rfl
theorem se_X2_loosenBinds : Cond.selects RX2 yX2_loosenBinds yX2_loosenBinds ∈ pWW := pws (List.mem_map.mpr ⟨_, lw_pin 55 rfl, rfl⟩) rfl
theorem fl2_45 : Cond.fieldLink RX2 45 (TX1 1).1 (TX1 1).2.1 (TX1 1).2.2.1 ∈ pWW := pw1 (List.mem_of_getElem? (i := 83) rfl) rfl
theorem dX2_loosenBinds_0 : decode cX2_loosenBinds 0 = .ok (.aload_n 1, 1) := by decide +kernel
theorem dX2_loosenBinds_1 : decode cX2_loosenBinds 1 = .ok (.iload_n 2, 1) := by decide +kernel
theorem dX2_loosenBinds_2 : decode cX2_loosenBinds 2 = .ok (.iconst 1, 1) := by decide +kernel
theorem dX2_loosenBinds_3 : decode cX2_loosenBinds 3 = .ok (.invokevirtual 53, 3) := by decide +kernel
theorem dX2_loosenBinds_6 : decode cX2_loosenBinds 6 = .ok (.istore_n 3, 1) := by decide +kernel
theorem dX2_loosenBinds_7 : decode cX2_loosenBinds 7 = .ok (.iload_n 2, 1) := by decide +kernel
theorem dX2_loosenBinds_8 : decode cX2_loosenBinds 8 = .ok (.iconst 1, 1) := by decide +kernel
theorem dX2_loosenBinds_9 : decode cX2_loosenBinds 9 = .ok (.iadd, 1) := by decide +kernel
theorem dX2_loosenBinds_10 : decode cX2_loosenBinds 10 = .ok (.istore 4, 2) := by decide +kernel
theorem dX2_loosenBinds_12 : decode cX2_loosenBinds 12 = .ok (.iload 4, 2) := by decide +kernel
theorem dX2_loosenBinds_14 : decode cX2_loosenBinds 14 = .ok (.aload_n 1, 1) := by decide +kernel
theorem dX2_loosenBinds_15 : decode cX2_loosenBinds 15 = .ok (.getfield 45, 3) := by decide +kernel
theorem dX2_loosenBinds_18 : decode cX2_loosenBinds 18 = .ok (.if_icmp .ge 33, 3) := by decide +kernel
theorem dX2_loosenBinds_21 : decode cX2_loosenBinds 21 = .ok (.aload_n 1, 1) := by decide +kernel
theorem dX2_loosenBinds_22 : decode cX2_loosenBinds 22 = .ok (.iload 4, 2) := by decide +kernel
theorem dX2_loosenBinds_24 : decode cX2_loosenBinds 24 = .ok (.iconst 0, 1) := by decide +kernel
theorem dX2_loosenBinds_25 : decode cX2_loosenBinds 25 = .ok (.invokevirtual 53, 3) := by decide +kernel
theorem dX2_loosenBinds_28 : decode cX2_loosenBinds 28 = .ok (.bipush 11, 2) := by decide +kernel
theorem dX2_loosenBinds_30 : decode cX2_loosenBinds 30 = .ok (.if_icmp .eq 15, 3) := by decide +kernel
theorem dX2_loosenBinds_45 : decode cX2_loosenBinds 45 = .ok (.iinc 4 1, 3) := by decide +kernel
theorem dX2_loosenBinds_48 : decode cX2_loosenBinds 48 = .ok (.goto (-36), 3) := by decide +kernel
theorem dX2_loosenBinds_33 : decode cX2_loosenBinds 33 = .ok (.aload_n 1, 1) := by decide +kernel
theorem dX2_loosenBinds_34 : decode cX2_loosenBinds 34 = .ok (.iload 4, 2) := by decide +kernel
theorem dX2_loosenBinds_36 : decode cX2_loosenBinds 36 = .ok (.iconst 0, 1) := by decide +kernel
theorem dX2_loosenBinds_37 : decode cX2_loosenBinds 37 = .ok (.invokevirtual 53, 3) := by decide +kernel
theorem dX2_loosenBinds_40 : decode cX2_loosenBinds 40 = .ok (.bipush 12, 2) := by decide +kernel
theorem dX2_loosenBinds_42 : decode cX2_loosenBinds 42 = .ok (.if_icmp .ne 9, 3) := by decide +kernel
set_option maxRecDepth 20000 in
theorem l_X2_loosenBinds_12 (d : Nat) {T : CT} {σ : MS} {a : Nat} {rx1 : Nat} {c2 : Int} {c3 : Int} {post : Option Value → CT → MS → Prop} (h_a : OB T a 2) (h_rx1 : OB T rx1 1) (t_rx1 : (T rx1).1 = 50) (r_c2 : -2147483648 ≤ c2 ∧ c2 ≤ 2147483647) (r_c3 : -2147483648 ≤ c3 ∧ c3 ≤ 2147483647) (hw : WT T σ) (hx_51 : ∀ (i4 : Int) , (-2147483648 ≤ i4 ∧ i4 ≤ 2147483647) → Tn (d + 5) m_X2_loosenBinds 51 T σ [(0, .ref a), (1, .ref rx1), (2, .int (iI c2)), (3, .int (iI c3)), (4, .int (iI i4))] [] post) : ∀ (n : Nat) (i4 : Int) , (-2147483648 ≤ i4 ∧ i4 ≤ 2147483647) → (2147483700 - i4).toNat = n → Tn (d + 5) m_X2_loosenBinds 12 T σ [(0, .ref a), (1, .ref rx1), (2, .int (iI c2)), (3, .int (iI c3)), (4, .int (iI i4))] [] post := by
  intro n
  induction n using Nat.strongRecOn with
  | _ n ih =>
    intro i4 r_i4 hm
    refine tn_iload dX2_loosenBinds_12 4 rfl ?_
    refine tn_aload_n dX2_loosenBinds_14 rfl 1 rfl ?_
    refine tn_getI (ci := 1) (i := 1) (n := 6) (t := σ.2.1 6 rx1) dX2_loosenBinds_15 rfl lay_1 (by decide) fl2_45 h_rx1 rfl rfl (rfl) ?_
    have g1 : ((0 : Int) ≤ σ.2.1 6 rx1 ∧ σ.2.1 6 rx1 ≤ 5000) ∧ ((T rx1).1 = 50 → σ.2.1 6 rx1 ≤ 200) := wf_6 hw h_rx1
    have g1x := g1.2
    replace g1 := g1.1
    have g1x := g1x t_rx1
    refine tn_icmp_ge (tgt := 51) dX2_loosenBinds_18 (by decide) ⟨by omega, by omega⟩ ⟨by omega, by omega⟩ (fun h2 => ?_) (fun h2 => ?_)
    · exact tn_sub [0, 1, 2, 3, 4] rfl (hx_51 (i4) (by omega))
    · refine tn_aload_n dX2_loosenBinds_21 rfl 1 rfl ?_
      refine tn_iload dX2_loosenBinds_22 4 rfl ?_
      refine tn_iconst dX2_loosenBinds_24 ?_
      refine tn_callV (M := m_X2_loosenBinds) (pc := 25) (ix := 53) (ci := 1) (M' := m_X1_get) (As := [.int (iI i4), .int (iI 0)]) (rest := []) dX2_loosenBinds_25 ok_X1_get im_X1_get se_X1_get ml2_53 np_X1_get rfl rfl h_rx1 rfl (Nat.le_of_ble_eq_true rfl) (Nat.le_of_ble_eq_true rfl) rfl (k_X1_get (d + 3) (T := T) (σ := σ) (a := rx1) (k := i4) (c := 0) h_rx1 (by omega) (by decide) hw (by omega)) (fun r3 T5 σ4 gt6 hp => ?_)
      obtain ⟨v8, rfl, rfl, rfl, f7⟩ := hp
      clear gt6
      show Tn _ _ 28 T σ [(0, .ref a), (1, .ref rx1), (2, .int (iI c2)), (3, .int (iI c3)), (4, .int (iI i4))] [.int (iI v8)] _
      refine tn_bipush dX2_loosenBinds_28 (by decide) ?_
      refine tn_icmp_eq (tgt := 45) dX2_loosenBinds_30 (by decide) ⟨by omega, by omega⟩ ⟨by decide, by decide⟩ (fun h9 => ?_) (fun h9 => ?_)
      · refine tn_iinc (q0 := 4) (L' := [(4, .int (iI (i4 + 1))), (0, .ref a), (1, .ref rx1), (2, .int (iI c2)), (3, .int (iI c3))]) dX2_loosenBinds_45 rfl (by decide) rfl ?_
        refine tn_goto (tgt := 12) dX2_loosenBinds_48 (by decide) ?_
        exact tn_sub [1, 2, 3, 4, 0] rfl (ih _ (by omega) (i4 + 1) (by omega) rfl)
      · refine tn_aload_n dX2_loosenBinds_33 rfl 1 rfl ?_
        refine tn_iload dX2_loosenBinds_34 4 rfl ?_
        refine tn_iconst dX2_loosenBinds_36 ?_
        refine tn_callV (M := m_X2_loosenBinds) (pc := 37) (ix := 53) (ci := 1) (M' := m_X1_get) (As := [.int (iI i4), .int (iI 0)]) (rest := []) dX2_loosenBinds_37 ok_X1_get im_X1_get se_X1_get ml2_53 np_X1_get rfl rfl h_rx1 rfl (Nat.le_of_ble_eq_true rfl) (Nat.le_of_ble_eq_true rfl) rfl (k_X1_get (d + 3) (T := T) (σ := σ) (a := rx1) (k := i4) (c := 0) h_rx1 (by omega) (by decide) hw (by omega)) (fun r10 T12 σ11 gt13 hp => ?_)
        obtain ⟨v15, rfl, rfl, rfl, f14⟩ := hp
        clear gt13
        show Tn _ _ 40 T σ [(0, .ref a), (1, .ref rx1), (2, .int (iI c2)), (3, .int (iI c3)), (4, .int (iI i4))] [.int (iI v15)] _
        refine tn_bipush dX2_loosenBinds_40 (by decide) ?_
        refine tn_icmp_ne (tgt := 51) dX2_loosenBinds_42 (by decide) ⟨by omega, by omega⟩ ⟨by decide, by decide⟩ (fun h16 => ?_) (fun h16 => ?_)
        · exact tn_sub [0, 1, 2, 3, 4] rfl (hx_51 (i4) (by omega))
        · refine tn_iinc (q0 := 4) (L' := [(4, .int (iI (i4 + 1))), (0, .ref a), (1, .ref rx1), (2, .int (iI c2)), (3, .int (iI c3))]) dX2_loosenBinds_45 rfl (by decide) rfl ?_
          refine tn_goto (tgt := 12) dX2_loosenBinds_48 (by decide) ?_
          exact tn_sub [1, 2, 3, 4, 0] rfl (ih _ (by omega) (i4 + 1) (by omega) rfl)
theorem fl2_9 : Cond.fieldLink RX2 9 (TX2 0).1 (TX2 0).2.1 (TX2 0).2.2.1 ∈ pWW := pw2 (List.mem_of_getElem? (i := 51) rfl) rfl
theorem ml2_41 : Cond.methodLink RX2 41 yX3_seeFrom ∈ pWW := pw4 (List.mem_of_getElem? (i := 238) rfl) rfl
theorem ml2_49 : Cond.methodLink RX2 49 yX3_isSeen ∈ pWW := pw5 (List.mem_of_getElem? (i := 17) rfl) rfl
theorem ml2_67 : Cond.methodLink RX2 67 yX1_leansOn ∈ pWW := pw5 (List.mem_of_getElem? (i := 75) rfl) rfl
theorem ml2_70 : Cond.methodLink RX2 70 yX2_takeOver ∈ pWW := pw5 (List.mem_of_getElem? (i := 76) rfl) rfl
theorem dX2_loosenBinds_51 : decode cX2_loosenBinds 51 = .ok (.aload_n 0, 1) := by decide +kernel
theorem dX2_loosenBinds_52 : decode cX2_loosenBinds 52 = .ok (.getfield 9, 3) := by decide +kernel
theorem dX2_loosenBinds_55 : decode cX2_loosenBinds 55 = .ok (.aload_n 1, 1) := by decide +kernel
theorem dX2_loosenBinds_56 : decode cX2_loosenBinds 56 = .ok (.iload_n 2, 1) := by decide +kernel
theorem dX2_loosenBinds_57 : decode cX2_loosenBinds 57 = .ok (.iconst 1, 1) := by decide +kernel
theorem dX2_loosenBinds_58 : decode cX2_loosenBinds 58 = .ok (.iadd, 1) := by decide +kernel
theorem dX2_loosenBinds_59 : decode cX2_loosenBinds 59 = .ok (.iload_n 3, 1) := by decide +kernel
theorem dX2_loosenBinds_60 : decode cX2_loosenBinds 60 = .ok (.invokevirtual 41, 3) := by decide +kernel
theorem dX2_loosenBinds_63 : decode cX2_loosenBinds 63 = .ok (.iconst 0, 1) := by decide +kernel
theorem dX2_loosenBinds_64 : decode cX2_loosenBinds 64 = .ok (.istore 5, 2) := by decide +kernel
theorem dX2_loosenBinds_66 : decode cX2_loosenBinds 66 = .ok (.iload 5, 2) := by decide +kernel
theorem dX2_loosenBinds_68 : decode cX2_loosenBinds 68 = .ok (.aload_n 1, 1) := by decide +kernel
theorem dX2_loosenBinds_69 : decode cX2_loosenBinds 69 = .ok (.getfield 45, 3) := by decide +kernel
theorem dX2_loosenBinds_72 : decode cX2_loosenBinds 72 = .ok (.if_icmp .ge 76, 3) := by decide +kernel
theorem dX2_loosenBinds_75 : decode cX2_loosenBinds 75 = .ok (.aload_n 0, 1) := by decide +kernel
theorem dX2_loosenBinds_76 : decode cX2_loosenBinds 76 = .ok (.getfield 9, 3) := by decide +kernel
theorem dX2_loosenBinds_79 : decode cX2_loosenBinds 79 = .ok (.iload 5, 2) := by decide +kernel
theorem dX2_loosenBinds_81 : decode cX2_loosenBinds 81 = .ok (.invokevirtual 49, 3) := by decide +kernel
theorem dX2_loosenBinds_84 : decode cX2_loosenBinds 84 = .ok (.ifCond .eq 58, 3) := by decide +kernel
theorem dX2_loosenBinds_142 : decode cX2_loosenBinds 142 = .ok (.iinc 5 1, 3) := by decide +kernel
theorem dX2_loosenBinds_145 : decode cX2_loosenBinds 145 = .ok (.goto (-79), 3) := by decide +kernel
theorem dX2_loosenBinds_87 : decode cX2_loosenBinds 87 = .ok (.aload_n 1, 1) := by decide +kernel
theorem dX2_loosenBinds_88 : decode cX2_loosenBinds 88 = .ok (.iload 5, 2) := by decide +kernel
theorem dX2_loosenBinds_90 : decode cX2_loosenBinds 90 = .ok (.iload_n 3, 1) := by decide +kernel
theorem dX2_loosenBinds_91 : decode cX2_loosenBinds 91 = .ok (.invokevirtual 67, 3) := by decide +kernel
theorem dX2_loosenBinds_94 : decode cX2_loosenBinds 94 = .ok (.ifCond .eq 48, 3) := by decide +kernel
theorem dX2_loosenBinds_97 : decode cX2_loosenBinds 97 = .ok (.iload 5, 2) := by decide +kernel
theorem dX2_loosenBinds_99 : decode cX2_loosenBinds 99 = .ok (.iload_n 2, 1) := by decide +kernel
theorem dX2_loosenBinds_100 : decode cX2_loosenBinds 100 = .ok (.if_icmp .le 33, 3) := by decide +kernel
theorem dX2_loosenBinds_133 : decode cX2_loosenBinds 133 = .ok (.aload_n 1, 1) := by decide +kernel
theorem dX2_loosenBinds_134 : decode cX2_loosenBinds 134 = .ok (.iload 5, 2) := by decide +kernel
theorem dX2_loosenBinds_136 : decode cX2_loosenBinds 136 = .ok (.bipush 12, 2) := by decide +kernel
theorem dX2_loosenBinds_138 : decode cX2_loosenBinds 138 = .ok (.iconst 0, 1) := by decide +kernel
theorem dX2_loosenBinds_139 : decode cX2_loosenBinds 139 = .ok (.invokevirtual 73, 3) := by decide +kernel
theorem dX2_loosenBinds_103 : decode cX2_loosenBinds 103 = .ok (.iload 5, 2) := by decide +kernel
theorem dX2_loosenBinds_105 : decode cX2_loosenBinds 105 = .ok (.iload 4, 2) := by decide +kernel
theorem dX2_loosenBinds_107 : decode cX2_loosenBinds 107 = .ok (.if_icmp .ge 26, 3) := by decide +kernel
theorem dX2_loosenBinds_110 : decode cX2_loosenBinds 110 = .ok (.aload_n 1, 1) := by decide +kernel
theorem dX2_loosenBinds_111 : decode cX2_loosenBinds 111 = .ok (.iload 5, 2) := by decide +kernel
theorem dX2_loosenBinds_113 : decode cX2_loosenBinds 113 = .ok (.bipush 11, 2) := by decide +kernel
theorem dX2_loosenBinds_115 : decode cX2_loosenBinds 115 = .ok (.invokevirtual 53, 3) := by decide +kernel
theorem dX2_loosenBinds_118 : decode cX2_loosenBinds 118 = .ok (.iconst 2, 1) := by decide +kernel
theorem dX2_loosenBinds_119 : decode cX2_loosenBinds 119 = .ok (.if_icmp .ne 14, 3) := by decide +kernel
theorem dX2_loosenBinds_122 : decode cX2_loosenBinds 122 = .ok (.aload_n 0, 1) := by decide +kernel
theorem dX2_loosenBinds_123 : decode cX2_loosenBinds 123 = .ok (.aload_n 1, 1) := by decide +kernel
theorem dX2_loosenBinds_124 : decode cX2_loosenBinds 124 = .ok (.iload_n 2, 1) := by decide +kernel
theorem dX2_loosenBinds_125 : decode cX2_loosenBinds 125 = .ok (.iload 5, 2) := by decide +kernel
theorem dX2_loosenBinds_127 : decode cX2_loosenBinds 127 = .ok (.invokevirtual 70, 3) := by decide +kernel
theorem dX2_loosenBinds_130 : decode cX2_loosenBinds 130 = .ok (.goto 12, 3) := by decide +kernel
set_option maxRecDepth 20000 in
theorem l_X2_loosenBinds_66 (d : Nat) {T : CT} {σ0 : MS} {a : Nat} {rx1 : Nat} {c2 : Int} {c3 : Int} {c4 : Int} {post : Option Value → CT → MS → Prop} (h_a : OB T a 2) (h_rx1 : OB T rx1 1) (t_rx1 : (T rx1).1 = 50) (r_c2 : -2147483648 ≤ c2 ∧ c2 ≤ 2147483647) (r_c3 : -2147483648 ≤ c3 ∧ c3 ≤ 2147483647) (r_c4 : -2147483648 ≤ c4 ∧ c4 ≤ 2147483647) (hw0 : WT T σ0) (hx_148 : ∀ (i5 : Int) (σ : MS) , (WT T σ) → (FrC T [] σ0 σ) → (0 ≤ i5 ∧ i5 ≤ 2147483647) → Tn (d + 5) m_X2_loosenBinds 148 T σ [(0, .ref a), (1, .ref rx1), (2, .int (iI c2)), (3, .int (iI c3)), (4, .int (iI c4)), (5, .int (iI i5))] [] post) : ∀ (n : Nat) (i5 : Int) (σ : MS) , (WT T σ) → (FrC T [] σ0 σ) → (0 ≤ i5 ∧ i5 ≤ 2147483647) → (2147483700 - i5).toNat = n → Tn (d + 5) m_X2_loosenBinds 66 T σ [(0, .ref a), (1, .ref rx1), (2, .int (iI c2)), (3, .int (iI c3)), (4, .int (iI c4)), (5, .int (iI i5))] [] post := by
  intro n
  induction n using Nat.strongRecOn with
  | _ n ih =>
    intro i5 σ hw hF r_i5 hm
    refine tn_iload dX2_loosenBinds_66 5 rfl ?_
    refine tn_aload_n dX2_loosenBinds_68 rfl 1 rfl ?_
    refine tn_getI (ci := 1) (i := 1) (n := 6) (t := σ0.2.1 6 rx1) dX2_loosenBinds_69 rfl lay_1 (by decide) fl2_45 h_rx1 rfl rfl (rc_F hF (Or.inl (by decide)) (by decide) (rfl)) ?_
    have g1 : ((0 : Int) ≤ σ0.2.1 6 rx1 ∧ σ0.2.1 6 rx1 ≤ 5000) ∧ ((T rx1).1 = 50 → σ0.2.1 6 rx1 ≤ 200) := wf_6 hw0 h_rx1
    have g1x := g1.2
    replace g1 := g1.1
    have g1x := g1x t_rx1
    refine tn_icmp_ge (tgt := 148) dX2_loosenBinds_72 (by decide) ⟨by omega, by omega⟩ ⟨by omega, by omega⟩ (fun h2 => ?_) (fun h2 => ?_)
    · exact tn_sub [0, 1, 2, 3, 4, 5] rfl (hx_148 (i5) σ hw (FrC.rfl.trans (FrC.sub hF (by decide))) (by omega))
    · refine tn_aload_n dX2_loosenBinds_75 rfl 0 rfl ?_
      obtain ⟨x3, hx4, hk5⟩ : ∃ x : Nat, σ0.2.1 17 a = (x : Int) ∧ (T x).1 = 33 := wf_17 hw0 h_a
      have hk5o : OB T x3 3 := ⟨by omega, by rw [hk5]; rfl, by omega⟩
      refine tn_getR (ci := 2) (i := 0) (n := 17) (x := x3) dX2_loosenBinds_76 rfl lay_2 (by decide) fl2_9 h_a rfl rfl (rc_F hF (Or.inl (by decide)) (by decide) (hx4)) ?_
      refine tn_iload dX2_loosenBinds_79 5 rfl ?_
      refine tn_callV (M := m_X2_loosenBinds) (pc := 81) (ix := 49) (ci := 3) (M' := m_X3_isSeen) (As := [.int (iI i5)]) (rest := []) dX2_loosenBinds_81 ok_X3_isSeen im_X3_isSeen se_X3_isSeen ml2_49 np_X3_isSeen rfl rfl hk5o rfl (Nat.le_of_ble_eq_true rfl) (Nat.le_of_ble_eq_true rfl) rfl (k_X3_isSeen (d + 2) (T := T) (σ := σ) (a := x3) (p1 := i5) hk5o (by omega) hw ) (fun r7 T9 σ8 gt10 hp => ?_)
      obtain ⟨v12, rfl, rfl, rfl, f11⟩ := hp
      clear gt10
      show Tn _ _ 84 T σ [(0, .ref a), (1, .ref rx1), (2, .int (iI c2)), (3, .int (iI c3)), (4, .int (iI c4)), (5, .int (iI i5))] [.int (iI v12)] _
      refine tn_if_eq (tgt := 142) dX2_loosenBinds_84 (by decide) ⟨by omega, by omega⟩ (fun h13 => ?_) (fun h13 => ?_)
      · refine tn_iinc (q0 := 5) (L' := [(5, .int (iI (i5 + 1))), (0, .ref a), (1, .ref rx1), (2, .int (iI c2)), (3, .int (iI c3)), (4, .int (iI c4))]) dX2_loosenBinds_142 rfl (by decide) rfl ?_
        refine tn_goto (tgt := 66) dX2_loosenBinds_145 (by decide) ?_
        exact tn_sub [1, 2, 3, 4, 5, 0] rfl (ih _ (by omega) (i5 + 1) σ hw (FrC.rfl.trans (FrC.sub hF (by decide))) (by omega) rfl)
      · refine tn_aload_n dX2_loosenBinds_87 rfl 1 rfl ?_
        refine tn_iload dX2_loosenBinds_88 5 rfl ?_
        refine tn_iload_n dX2_loosenBinds_90 rfl 3 rfl ?_
        refine tn_callV (M := m_X2_loosenBinds) (pc := 91) (ix := 67) (ci := 1) (M' := m_X1_leansOn) (As := [.int (iI i5), .int (iI c3)]) (rest := []) dX2_loosenBinds_91 ok_X1_leansOn im_X1_leansOn se_X1_leansOn ml2_67 np_X1_leansOn rfl rfl h_rx1 rfl (Nat.le_of_ble_eq_true rfl) (Nat.le_of_ble_eq_true rfl) rfl (k_X1_leansOn (d + 2) (T := T) (σ := σ) (a := rx1) (k := i5) (r := c3) h_rx1 (by omega) (by omega) hw ) (fun r14 T16 σ15 gt17 hp => ?_)
        obtain ⟨v19, rfl, rfl, rfl, f18⟩ := hp
        clear gt17
        show Tn _ _ 94 T σ [(0, .ref a), (1, .ref rx1), (2, .int (iI c2)), (3, .int (iI c3)), (4, .int (iI c4)), (5, .int (iI i5))] [.int (iI v19)] _
        refine tn_if_eq (tgt := 142) dX2_loosenBinds_94 (by decide) ⟨by omega, by omega⟩ (fun h20 => ?_) (fun h20 => ?_)
        · refine tn_iinc (q0 := 5) (L' := [(5, .int (iI (i5 + 1))), (0, .ref a), (1, .ref rx1), (2, .int (iI c2)), (3, .int (iI c3)), (4, .int (iI c4))]) dX2_loosenBinds_142 rfl (by decide) rfl ?_
          refine tn_goto (tgt := 66) dX2_loosenBinds_145 (by decide) ?_
          exact tn_sub [1, 2, 3, 4, 5, 0] rfl (ih _ (by omega) (i5 + 1) σ hw (FrC.rfl.trans (FrC.sub hF (by decide))) (by omega) rfl)
        · refine tn_iload dX2_loosenBinds_97 5 rfl ?_
          refine tn_iload_n dX2_loosenBinds_99 rfl 2 rfl ?_
          refine tn_icmp_le (tgt := 133) dX2_loosenBinds_100 (by decide) ⟨by omega, by omega⟩ ⟨by omega, by omega⟩ (fun h21 => ?_) (fun h21 => ?_)
          · refine tn_aload_n dX2_loosenBinds_133 rfl 1 rfl ?_
            refine tn_iload dX2_loosenBinds_134 5 rfl ?_
            refine tn_bipush dX2_loosenBinds_136 (by decide) ?_
            refine tn_iconst dX2_loosenBinds_138 ?_
            refine tn_callV (M := m_X2_loosenBinds) (pc := 139) (ix := 73) (ci := 1) (M' := m_X1_setWhere) (As := [.int (iI i5), .int (iI 12), .int (iI 0)]) (rest := []) dX2_loosenBinds_139 ok_X1_setWhere im_X1_setWhere se_X1_setWhere ml2_73 np_X1_setWhere rfl rfl h_rx1 rfl (Nat.le_of_ble_eq_true rfl) (Nat.le_of_ble_eq_true rfl) rfl (k_X1_setWhere (d + 2) (T := T) (σ := σ) (a := rx1) (k := i5) (y := 12) (z := 0) h_rx1 (by omega) (by decide) (by decide) hw ) (fun r22 T24 σ23 gt25 hp => ?_)
            obtain ⟨rfl, rfl, w27, F28⟩ := hp
            clear gt25
            show Tn _ _ 142 T σ23 [(0, .ref a), (1, .ref rx1), (2, .int (iI c2)), (3, .int (iI c3)), (4, .int (iI c4)), (5, .int (iI i5))] [] _
            refine tn_iinc (q0 := 5) (L' := [(5, .int (iI (i5 + 1))), (0, .ref a), (1, .ref rx1), (2, .int (iI c2)), (3, .int (iI c3)), (4, .int (iI c4))]) dX2_loosenBinds_142 rfl (by decide) rfl ?_
            refine tn_goto (tgt := 66) dX2_loosenBinds_145 (by decide) ?_
            exact tn_sub [1, 2, 3, 4, 5, 0] rfl (ih _ (by omega) (i5 + 1) σ23 w27 ((FrC.rfl.trans (FrC.sub hF (by decide))).trans (FrC.sub F28 (by decide))) (by omega) rfl)
          · refine tn_iload dX2_loosenBinds_103 5 rfl ?_
            refine tn_iload dX2_loosenBinds_105 4 rfl ?_
            refine tn_icmp_ge (tgt := 133) dX2_loosenBinds_107 (by decide) ⟨by omega, by omega⟩ ⟨by omega, by omega⟩ (fun h29 => ?_) (fun h29 => ?_)
            · refine tn_aload_n dX2_loosenBinds_133 rfl 1 rfl ?_
              refine tn_iload dX2_loosenBinds_134 5 rfl ?_
              refine tn_bipush dX2_loosenBinds_136 (by decide) ?_
              refine tn_iconst dX2_loosenBinds_138 ?_
              refine tn_callV (M := m_X2_loosenBinds) (pc := 139) (ix := 73) (ci := 1) (M' := m_X1_setWhere) (As := [.int (iI i5), .int (iI 12), .int (iI 0)]) (rest := []) dX2_loosenBinds_139 ok_X1_setWhere im_X1_setWhere se_X1_setWhere ml2_73 np_X1_setWhere rfl rfl h_rx1 rfl (Nat.le_of_ble_eq_true rfl) (Nat.le_of_ble_eq_true rfl) rfl (k_X1_setWhere (d + 2) (T := T) (σ := σ) (a := rx1) (k := i5) (y := 12) (z := 0) h_rx1 (by omega) (by decide) (by decide) hw ) (fun r30 T32 σ31 gt33 hp => ?_)
              obtain ⟨rfl, rfl, w35, F36⟩ := hp
              clear gt33
              show Tn _ _ 142 T σ31 [(0, .ref a), (1, .ref rx1), (2, .int (iI c2)), (3, .int (iI c3)), (4, .int (iI c4)), (5, .int (iI i5))] [] _
              refine tn_iinc (q0 := 5) (L' := [(5, .int (iI (i5 + 1))), (0, .ref a), (1, .ref rx1), (2, .int (iI c2)), (3, .int (iI c3)), (4, .int (iI c4))]) dX2_loosenBinds_142 rfl (by decide) rfl ?_
              refine tn_goto (tgt := 66) dX2_loosenBinds_145 (by decide) ?_
              exact tn_sub [1, 2, 3, 4, 5, 0] rfl (ih _ (by omega) (i5 + 1) σ31 w35 ((FrC.rfl.trans (FrC.sub hF (by decide))).trans (FrC.sub F36 (by decide))) (by omega) rfl)
            · refine tn_aload_n dX2_loosenBinds_110 rfl 1 rfl ?_
              refine tn_iload dX2_loosenBinds_111 5 rfl ?_
              refine tn_bipush dX2_loosenBinds_113 (by decide) ?_
              refine tn_callV (M := m_X2_loosenBinds) (pc := 115) (ix := 53) (ci := 1) (M' := m_X1_get) (As := [.int (iI i5), .int (iI 11)]) (rest := []) dX2_loosenBinds_115 ok_X1_get im_X1_get se_X1_get ml2_53 np_X1_get rfl rfl h_rx1 rfl (Nat.le_of_ble_eq_true rfl) (Nat.le_of_ble_eq_true rfl) rfl (k_X1_get (d + 3) (T := T) (σ := σ) (a := rx1) (k := i5) (c := 11) h_rx1 (by omega) (by decide) hw (by omega)) (fun r37 T39 σ38 gt40 hp => ?_)
              obtain ⟨v42, rfl, rfl, rfl, f41⟩ := hp
              clear gt40
              show Tn _ _ 118 T σ [(0, .ref a), (1, .ref rx1), (2, .int (iI c2)), (3, .int (iI c3)), (4, .int (iI c4)), (5, .int (iI i5))] [.int (iI v42)] _
              refine tn_iconst dX2_loosenBinds_118 ?_
              refine tn_icmp_ne (tgt := 133) dX2_loosenBinds_119 (by decide) ⟨by omega, by omega⟩ ⟨by decide, by decide⟩ (fun h43 => ?_) (fun h43 => ?_)
              · refine tn_aload_n dX2_loosenBinds_133 rfl 1 rfl ?_
                refine tn_iload dX2_loosenBinds_134 5 rfl ?_
                refine tn_bipush dX2_loosenBinds_136 (by decide) ?_
                refine tn_iconst dX2_loosenBinds_138 ?_
                refine tn_callV (M := m_X2_loosenBinds) (pc := 139) (ix := 73) (ci := 1) (M' := m_X1_setWhere) (As := [.int (iI i5), .int (iI 12), .int (iI 0)]) (rest := []) dX2_loosenBinds_139 ok_X1_setWhere im_X1_setWhere se_X1_setWhere ml2_73 np_X1_setWhere rfl rfl h_rx1 rfl (Nat.le_of_ble_eq_true rfl) (Nat.le_of_ble_eq_true rfl) rfl (k_X1_setWhere (d + 2) (T := T) (σ := σ) (a := rx1) (k := i5) (y := 12) (z := 0) h_rx1 (by omega) (by decide) (by decide) hw ) (fun r44 T46 σ45 gt47 hp => ?_)
                obtain ⟨rfl, rfl, w49, F50⟩ := hp
                clear gt47
                show Tn _ _ 142 T σ45 [(0, .ref a), (1, .ref rx1), (2, .int (iI c2)), (3, .int (iI c3)), (4, .int (iI c4)), (5, .int (iI i5))] [] _
                refine tn_iinc (q0 := 5) (L' := [(5, .int (iI (i5 + 1))), (0, .ref a), (1, .ref rx1), (2, .int (iI c2)), (3, .int (iI c3)), (4, .int (iI c4))]) dX2_loosenBinds_142 rfl (by decide) rfl ?_
                refine tn_goto (tgt := 66) dX2_loosenBinds_145 (by decide) ?_
                exact tn_sub [1, 2, 3, 4, 5, 0] rfl (ih _ (by omega) (i5 + 1) σ45 w49 ((FrC.rfl.trans (FrC.sub hF (by decide))).trans (FrC.sub F50 (by decide))) (by omega) rfl)
              · refine tn_aload_n dX2_loosenBinds_122 rfl 0 rfl ?_
                refine tn_aload_n dX2_loosenBinds_123 rfl 1 rfl ?_
                refine tn_iload_n dX2_loosenBinds_124 rfl 2 rfl ?_
                refine tn_iload dX2_loosenBinds_125 5 rfl ?_
                refine tn_callV (M := m_X2_loosenBinds) (pc := 127) (ix := 70) (ci := 2) (M' := m_X2_takeOver) (As := [.ref rx1, .int (iI c2), .int (iI i5)]) (rest := []) dX2_loosenBinds_127 ok_X2_takeOver im_X2_takeOver se_X2_takeOver ml2_70 np_X2_takeOver rfl rfl h_a rfl (Nat.le_of_ble_eq_true rfl) (Nat.le_of_ble_eq_true rfl) rfl (k_X2_takeOver (d + 1) (T := T) (σ := σ) (a := a) (p1 := rx1) (p2 := c2) (p3 := i5) h_a h_rx1 t_rx1 (by omega) (by omega) hw ) (fun r51 T53 σ52 gt54 hp => ?_)
                obtain ⟨rfl, rfl, w56, F57⟩ := hp
                clear gt54
                show Tn _ _ 130 T σ52 [(0, .ref a), (1, .ref rx1), (2, .int (iI c2)), (3, .int (iI c3)), (4, .int (iI c4)), (5, .int (iI i5))] [] _
                refine tn_goto (tgt := 142) dX2_loosenBinds_130 (by decide) ?_
                refine tn_iinc (q0 := 5) (L' := [(5, .int (iI (i5 + 1))), (0, .ref a), (1, .ref rx1), (2, .int (iI c2)), (3, .int (iI c3)), (4, .int (iI c4))]) dX2_loosenBinds_142 rfl (by decide) rfl ?_
                refine tn_goto (tgt := 66) dX2_loosenBinds_145 (by decide) ?_
                exact tn_sub [1, 2, 3, 4, 5, 0] rfl (ih _ (by omega) (i5 + 1) σ52 w56 ((FrC.rfl.trans (FrC.sub hF (by decide))).trans (FrC.sub F57 (by decide))) (by omega) rfl)
theorem dX2_loosenBinds_148 : decode cX2_loosenBinds 148 = .ok (.return_, 1) := by decide +kernel
set_option maxRecDepth 20000 in
theorem k_X2_loosenBinds (d : Nat) {T : CT} {σ : MS} {a : Nat} {p1 : Nat} {p2 : Int} (ha : OB T a 2) (h_p1 : OB T p1 1) (t_p1 : (T p1).1 = 50) (h_p2 : -2147483648 ≤ p2 ∧ p2 ≤ 2147483647) (hw : WT T σ) : Tn (d + 5) m_X2_loosenBinds 0 T σ [(0, .ref a), (1, .ref p1), (2, .int (iI p2))] [] (fun ro T2 σ2 => ro = none ∧ T = T2 ∧ WT T2 σ2 ∧ FrC T [22] σ σ2) := by
  refine tn_aload_n dX2_loosenBinds_0 rfl 1 rfl ?_
  refine tn_iload_n dX2_loosenBinds_1 rfl 2 rfl ?_
  refine tn_iconst dX2_loosenBinds_2 ?_
  refine tn_callV (M := m_X2_loosenBinds) (pc := 3) (ix := 53) (ci := 1) (M' := m_X1_get) (As := [.int (iI p2), .int (iI 1)]) (rest := []) dX2_loosenBinds_3 ok_X1_get im_X1_get se_X1_get ml2_53 np_X1_get rfl rfl h_p1 rfl (Nat.le_of_ble_eq_true rfl) (Nat.le_of_ble_eq_true rfl) rfl (k_X1_get (d + 3) (T := T) (σ := σ) (a := p1) (k := p2) (c := 1) h_p1 (by omega) (by decide) hw (by omega)) (fun r1 T3 σ2 gt4 hp => ?_)
  obtain ⟨v6, rfl, rfl, rfl, f5⟩ := hp
  clear gt4
  show Tn _ _ 6 T σ [(0, .ref a), (1, .ref p1), (2, .int (iI p2))] [.int (iI v6)] _
  refine tn_istore_n (L' := [(3, .int (iI v6)), (0, .ref a), (1, .ref p1), (2, .int (iI p2))]) dX2_loosenBinds_6 rfl (by decide) rfl ?_
  refine tn_iload_n dX2_loosenBinds_7 rfl 3 rfl ?_
  refine tn_iconst dX2_loosenBinds_8 ?_
  refine tn_iadd dX2_loosenBinds_9 ?_
  refine tn_any (fun z7 g8 => ?_)
  have g8r : -2147483648 ≤ z7 ∧ z7 ≤ 2147483647 := g8
  refine tn_istore (L' := [(4, .int (iI z7)), (3, .int (iI v6)), (0, .ref a), (1, .ref p1), (2, .int (iI p2))]) dX2_loosenBinds_10 (by decide) rfl ?_
  refine tn_sub [2, 3, 4, 1, 0] rfl (l_X2_loosenBinds_12 (d) (T := T) (σ := σ) (a := a) (rx1 := p1) (c2 := p2) (c3 := v6) ha h_p1 t_p1 (by omega) (by omega) hw (fun i49 r15 => ?_) _ (z7) (by omega) rfl)
  show Tn _ _ 51 T σ [(0, .ref a), (1, .ref p1), (2, .int (iI p2)), (3, .int (iI v6)), (4, .int (iI i49))] [] _
  refine tn_aload_n dX2_loosenBinds_51 rfl 0 rfl ?_
  obtain ⟨x16, hx17, hk18⟩ : ∃ x : Nat, σ.2.1 17 a = (x : Int) ∧ (T x).1 = 33 := wf_17 hw ha
  have hk18o : OB T x16 3 := ⟨by omega, by rw [hk18]; rfl, by omega⟩
  refine tn_getR (ci := 2) (i := 0) (n := 17) (x := x16) dX2_loosenBinds_52 rfl lay_2 (by decide) fl2_9 ha rfl rfl (hx17) ?_
  refine tn_aload_n dX2_loosenBinds_55 rfl 1 rfl ?_
  refine tn_iload_n dX2_loosenBinds_56 rfl 2 rfl ?_
  refine tn_iconst dX2_loosenBinds_57 ?_
  refine tn_iadd dX2_loosenBinds_58 ?_
  refine tn_any (fun z20 g21 => ?_)
  have g21r : -2147483648 ≤ z20 ∧ z20 ≤ 2147483647 := g21
  refine tn_iload_n dX2_loosenBinds_59 rfl 3 rfl ?_
  refine tn_callV (M := m_X2_loosenBinds) (pc := 60) (ix := 41) (ci := 3) (M' := m_X3_seeFrom) (As := [.ref p1, .int (iI z20), .int (iI v6)]) (rest := []) dX2_loosenBinds_60 ok_X3_seeFrom im_X3_seeFrom se_X3_seeFrom ml2_41 np_X3_seeFrom rfl rfl hk18o rfl (Nat.le_of_ble_eq_true rfl) (Nat.le_of_ble_eq_true rfl) rfl (k_X3_seeFrom (d) (T := T) (σ := σ) (a := x16) (p1 := p1) (p2 := z20) (p3 := v6) hk18o h_p1 (by omega) (by omega) hw ) (fun r22 T24 σ23 gt25 hp => ?_)
  obtain ⟨rfl, rfl, w27, F28⟩ := hp
  clear gt25
  show Tn _ _ 63 T σ23 [(0, .ref a), (1, .ref p1), (2, .int (iI p2)), (3, .int (iI v6)), (4, .int (iI i49))] [] _
  refine tn_iconst dX2_loosenBinds_63 ?_
  refine tn_istore (L' := [(5, .int (iI 0)), (0, .ref a), (1, .ref p1), (2, .int (iI p2)), (3, .int (iI v6)), (4, .int (iI i49))]) dX2_loosenBinds_64 (by decide) rfl ?_
  refine tn_sub [1, 2, 3, 4, 5, 0] rfl (l_X2_loosenBinds_66 (d) (T := T) (σ0 := σ23) (a := a) (rx1 := p1) (c2 := p2) (c3 := v6) (c4 := i49) ha h_p1 t_p1 (by omega) (by omega) (by omega) w27 (fun i529 σ30 w33 F34 r35 => ?_) _ (0) σ23 w27 FrC.rfl (by omega) rfl)
  show Tn _ _ 148 T σ30 [(0, .ref a), (1, .ref p1), (2, .int (iI p2)), (3, .int (iI v6)), (4, .int (iI i49)), (5, .int (iI i529))] [] _
  exact tn_vret rfl dX2_loosenBinds_148 ⟨rfl, rfl, w33, ((FrC.rfl.trans (FrC.sub F28 (by decide))).trans (FrC.sub F34 (by decide)))⟩
