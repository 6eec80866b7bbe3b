theorem cd_X0_sameStack : Cond.code yX0_sameStack cX0_sameStack 4 (some .boolean) ∈ pWW := pw6 (List.mem_of_getElem? (i := 218) rfl) rfl
abbrev m_X0_sameStack : MT := (yX0_sameStack, cX0_sameStack, 4, (some .boolean))
theorem ok_X0_sameStack : pOk m_X0_sameStack := ⟨⟨cd_X0_sameStack, ini_0⟩, by decide +kernel, ⟨by decide +kernel, by decide +kernel⟩, Nat.le_of_ble_eq_true rfl⟩
theorem np_X0_sameStack : (parseMethodDescriptor yX0_sameStack.desc).map (fun d => d.parameters.length) = some 1 := by decide +kernel
theorem im_X0_sameStack : Cond.instanceMethod yX0_sameStack ∈ pWW := pw6 (List.mem_of_getElem? (i := 217) rfl) rfl
theorem se_X0_sameStack : Cond.selects RX0 yX0_sameStack yX0_sameStack ∈ pWW := pws (List.mem_map.mpr ⟨_, lw_pin 98 rfl, rfl⟩) rfl
theorem fl0_60 : Cond.fieldLink RX0 60 (TX7 3).1 (TX7 3).2.1 (TX7 3).2.2.1 ∈ pWW := pw2 (List.mem_of_getElem? (i := 139) rfl) rfl
theorem ml0_63 : Cond.methodLink RX0 63 yX7_find ∈ pWW := pw6 (List.mem_of_getElem? (i := 219) rfl) rfl
theorem ml0_74 : Cond.methodLink RX0 74 yX0_sameNames ∈ pWW := pw6 (List.mem_of_getElem? (i := 222) rfl) rfl
theorem ml0_67 : Cond.methodLink RX0 67 yX7_foundRoutine ∈ pWW := pw6 (List.mem_of_getElem? (i := 220) rfl) rfl
theorem ml0_71 : Cond.methodLink RX0 71 yX7_foundLine ∈ pWW := pw6 (List.mem_of_getElem? (i := 221) rfl) rfl
theorem dX0_sameStack_0 : decode cX0_sameStack 0 = .ok (.aload_n 0, 1) := by decide +kernel
theorem dX0_sameStack_1 : decode cX0_sameStack 1 = .ok (.getfield 14, 3) := by decide +kernel
theorem dX0_sameStack_4 : decode cX0_sameStack 4 = .ok (.getfield 60, 3) := by decide +kernel
theorem dX0_sameStack_7 : decode cX0_sameStack 7 = .ok (.aload_n 0, 1) := by decide +kernel
theorem dX0_sameStack_8 : decode cX0_sameStack 8 = .ok (.getfield 20, 3) := by decide +kernel
theorem dX0_sameStack_11 : decode cX0_sameStack 11 = .ok (.getfield 60, 3) := by decide +kernel
theorem dX0_sameStack_14 : decode cX0_sameStack 14 = .ok (.if_icmp .ne 7, 3) := by decide +kernel
theorem dX0_sameStack_21 : decode cX0_sameStack 21 = .ok (.iconst 0, 1) := by decide +kernel
theorem dX0_sameStack_22 : decode cX0_sameStack 22 = .ok (.istore_n 2, 1) := by decide +kernel
theorem dX0_sameStack_23 : decode cX0_sameStack 23 = .ok (.iconst 0, 1) := by decide +kernel
theorem dX0_sameStack_24 : decode cX0_sameStack 24 = .ok (.istore_n 3, 1) := by decide +kernel
theorem dX0_sameStack_25 : decode cX0_sameStack 25 = .ok (.iload_n 3, 1) := by decide +kernel
theorem dX0_sameStack_26 : decode cX0_sameStack 26 = .ok (.aload_n 0, 1) := by decide +kernel
theorem dX0_sameStack_27 : decode cX0_sameStack 27 = .ok (.getfield 14, 3) := by decide +kernel
theorem dX0_sameStack_30 : decode cX0_sameStack 30 = .ok (.getfield 60, 3) := by decide +kernel
theorem dX0_sameStack_33 : decode cX0_sameStack 33 = .ok (.if_icmp .ge 81, 3) := by decide +kernel
theorem dX0_sameStack_36 : decode cX0_sameStack 36 = .ok (.iload_n 2, 1) := by decide +kernel
theorem dX0_sameStack_37 : decode cX0_sameStack 37 = .ok (.aload_n 0, 1) := by decide +kernel
theorem dX0_sameStack_38 : decode cX0_sameStack 38 = .ok (.getfield 14, 3) := by decide +kernel
theorem dX0_sameStack_41 : decode cX0_sameStack 41 = .ok (.iload_n 3, 1) := by decide +kernel
theorem dX0_sameStack_42 : decode cX0_sameStack 42 = .ok (.invokevirtual 63, 3) := by decide +kernel
theorem dX0_sameStack_45 : decode cX0_sameStack 45 = .ok (.ifCond .eq 52, 3) := by decide +kernel
theorem dX0_sameStack_97 : decode cX0_sameStack 97 = .ok (.iconst 0, 1) := by decide +kernel
theorem dX0_sameStack_98 : decode cX0_sameStack 98 = .ok (.iand, 1) := by decide +kernel
theorem dX0_sameStack_99 : decode cX0_sameStack 99 = .ok (.istore_n 2, 1) := by decide +kernel
theorem dX0_sameStack_100 : decode cX0_sameStack 100 = .ok (.iload_n 2, 1) := by decide +kernel
theorem dX0_sameStack_101 : decode cX0_sameStack 101 = .ok (.aload_n 0, 1) := by decide +kernel
theorem dX0_sameStack_102 : decode cX0_sameStack 102 = .ok (.aload_n 1, 1) := by decide +kernel
theorem dX0_sameStack_103 : decode cX0_sameStack 103 = .ok (.invokevirtual 74, 3) := by decide +kernel
theorem dX0_sameStack_106 : decode cX0_sameStack 106 = .ok (.iand, 1) := by decide +kernel
theorem dX0_sameStack_107 : decode cX0_sameStack 107 = .ok (.istore_n 2, 1) := by decide +kernel
theorem dX0_sameStack_108 : decode cX0_sameStack 108 = .ok (.iinc 3 1, 3) := by decide +kernel
theorem dX0_sameStack_111 : decode cX0_sameStack 111 = .ok (.goto (-86), 3) := by decide +kernel
theorem dX0_sameStack_48 : decode cX0_sameStack 48 = .ok (.aload_n 0, 1) := by decide +kernel
theorem dX0_sameStack_49 : decode cX0_sameStack 49 = .ok (.getfield 20, 3) := by decide +kernel
theorem dX0_sameStack_52 : decode cX0_sameStack 52 = .ok (.iload_n 3, 1) := by decide +kernel
theorem dX0_sameStack_53 : decode cX0_sameStack 53 = .ok (.invokevirtual 63, 3) := by decide +kernel
theorem dX0_sameStack_56 : decode cX0_sameStack 56 = .ok (.ifCond .eq 41, 3) := by decide +kernel
theorem dX0_sameStack_59 : decode cX0_sameStack 59 = .ok (.aload_n 0, 1) := by decide +kernel
theorem dX0_sameStack_60 : decode cX0_sameStack 60 = .ok (.getfield 14, 3) := by decide +kernel
theorem dX0_sameStack_63 : decode cX0_sameStack 63 = .ok (.invokevirtual 67, 3) := by decide +kernel
theorem dX0_sameStack_66 : decode cX0_sameStack 66 = .ok (.aload_n 0, 1) := by decide +kernel
theorem dX0_sameStack_67 : decode cX0_sameStack 67 = .ok (.getfield 20, 3) := by decide +kernel
theorem dX0_sameStack_70 : decode cX0_sameStack 70 = .ok (.invokevirtual 67, 3) := by decide +kernel
theorem dX0_sameStack_73 : decode cX0_sameStack 73 = .ok (.if_icmp .ne 24, 3) := by decide +kernel
theorem dX0_sameStack_76 : decode cX0_sameStack 76 = .ok (.aload_n 0, 1) := by decide +kernel
theorem dX0_sameStack_77 : decode cX0_sameStack 77 = .ok (.getfield 14, 3) := by decide +kernel
theorem dX0_sameStack_80 : decode cX0_sameStack 80 = .ok (.invokevirtual 71, 3) := by decide +kernel
theorem dX0_sameStack_83 : decode cX0_sameStack 83 = .ok (.aload_n 0, 1) := by decide +kernel
theorem dX0_sameStack_84 : decode cX0_sameStack 84 = .ok (.getfield 20, 3) := by decide +kernel
theorem dX0_sameStack_87 : decode cX0_sameStack 87 = .ok (.invokevirtual 71, 3) := by decide +kernel
theorem dX0_sameStack_90 : decode cX0_sameStack 90 = .ok (.if_icmp .ne 7, 3) := by decide +kernel
theorem dX0_sameStack_93 : decode cX0_sameStack 93 = .ok (.iconst 1, 1) := by decide +kernel
theorem dX0_sameStack_94 : decode cX0_sameStack 94 = .ok (.goto 4, 3) := by decide +kernel
set_option maxRecDepth 20000 in
theorem l_X0_sameStack_25 (d : Nat) {T : CT} {σ0 : MS} {a : Nat} {rx1 : Nat} {post : Option Value → CT → MS → Prop} (h_a : OB T a 0) (h_rx1 : OB T rx1 10) (hw0 : WT T σ0) (hx_114 : ∀ (i2 : Int) (i3 : Int) (σ : MS) , (WT T σ) → (FrC T [2, 3, 70, 71] σ0 σ) → (0 ≤ i2 ∧ i2 ≤ 1) → (0 ≤ i3 ∧ i3 ≤ 2147483647) → Tn (d + 6) m_X0_sameStack 114 T σ [(0, .ref a), (1, .ref rx1), (2, .int (iI i2)), (3, .int (iI i3))] [] post) : ∀ (n : Nat) (i2 : Int) (i3 : Int) (σ : MS) , (WT T σ) → (FrC T [2, 3, 70, 71] σ0 σ) → (0 ≤ i2 ∧ i2 ≤ 1) → (0 ≤ i3 ∧ i3 ≤ 2147483647) → (2147483700 - i3).toNat = n → Tn (d + 6) m_X0_sameStack 25 T σ [(0, .ref a), (1, .ref rx1), (2, .int (iI i2)), (3, .int (iI i3))] [] post := by
  intro n
  induction n using Nat.strongRecOn with
  | _ n ih =>
    intro i2 i3 σ hw hF r_i2 r_i3 hm
    refine tn_iload_n dX0_sameStack_25 rfl 3 rfl ?_
    refine tn_aload_n dX0_sameStack_26 rfl 0 rfl ?_
    obtain ⟨x1, hx2, hk3⟩ : ∃ x : Nat, σ0.2.1 0 a = (x : Int) ∧ (T x).1 = 37 := wf_0 hw0 h_a
    have hk3o : OB T x1 7 := ⟨by omega, by rw [hk3]; rfl, by omega⟩
    refine tn_getR (ci := 0) (i := 0) (n := 0) (x := x1) dX0_sameStack_27 rfl lay_0 (by decide) fl0_14 h_a rfl rfl (rc_F hF (Or.inl (by decide)) (by decide) (hx2)) ?_
    refine tn_getI (ci := 7) (i := 3) (n := 58) (t := σ0.2.1 58 x1) dX0_sameStack_30 rfl lay_7 (by decide) fl0_60 hk3o rfl rfl (rc_F hF (Or.inl (by decide)) (by decide) (rfl)) ?_
    have g5 : ((-2147483648 : Int) ≤ σ0.2.1 58 x1 ∧ σ0.2.1 58 x1 ≤ 2147483647) := wf_58 hw0 hk3o
    refine tn_icmp_ge (tgt := 114) dX0_sameStack_33 (by decide) ⟨by omega, by omega⟩ ⟨by omega, by omega⟩ (fun h6 => ?_) (fun h6 => ?_)
    · exact tn_sub [0, 1, 2, 3] rfl (hx_114 (i2) (i3) σ hw (FrC.rfl.trans (FrC.sub hF (by decide))) (by omega) (by omega))
    · refine tn_iload_n dX0_sameStack_36 rfl 2 rfl ?_
      refine tn_aload_n dX0_sameStack_37 rfl 0 rfl ?_
      refine tn_getR (ci := 0) (i := 0) (n := 0) (x := x1) dX0_sameStack_38 rfl lay_0 (by decide) fl0_14 h_a rfl rfl (rc_F hF (Or.inl (by decide)) (by decide) (hx2)) ?_
      refine tn_iload_n dX0_sameStack_41 rfl 3 rfl ?_
      refine tn_callV (M := m_X0_sameStack) (pc := 42) (ix := 63) (ci := 7) (M' := m_X7_find) (As := [.int (iI i3)]) (rest := [.int (iI i2)]) dX0_sameStack_42 ok_X7_find im_X7_find se_X7_find ml0_63 np_X7_find rfl rfl hk3o rfl (Nat.le_of_ble_eq_true rfl) (Nat.le_of_ble_eq_true rfl) rfl (k_X7_find (d + 1) (T := T) (σ := σ) (a := x1) (k := i3) hk3o (by omega) hw ) (fun r7 T9 σ8 gt10 hp => ?_)
      obtain ⟨v13, rfl, rfl, w14, F15, f11, f12⟩ := hp
      clear gt10
      clear f12
      show Tn _ _ 45 T σ8 [(0, .ref a), (1, .ref rx1), (2, .int (iI i2)), (3, .int (iI i3))] [.int (iI v13), .int (iI i2)] _
      refine tn_if_eq (tgt := 97) dX0_sameStack_45 (by decide) ⟨by omega, by omega⟩ (fun h16 => ?_) (fun h16 => ?_)
      · refine tn_iconst dX0_sameStack_97 ?_
        refine tn_iand dX0_sameStack_98 ?_
        refine tn_band (x := i2) (y := 0) (by omega) (by omega) (fun z19 g20 => ?_)
        refine tn_istore_n (L' := [(2, .int (iI z19)), (0, .ref a), (1, .ref rx1), (3, .int (iI i3))]) dX0_sameStack_99 rfl (by decide) rfl ?_
        refine tn_iload_n dX0_sameStack_100 rfl 0 rfl ?_
        refine tn_aload_n dX0_sameStack_101 rfl 1 rfl ?_
        refine tn_aload_n dX0_sameStack_102 rfl 2 rfl ?_
        refine tn_callV (M := m_X0_sameStack) (pc := 103) (ix := 74) (ci := 0) (M' := m_X0_sameNames) (As := [.ref rx1]) (rest := [.int (iI z19)]) dX0_sameStack_103 ok_X0_sameNames im_X0_sameNames se_X0_sameNames ml0_74 np_X0_sameNames rfl rfl h_a rfl (Nat.le_of_ble_eq_true rfl) (Nat.le_of_ble_eq_true rfl) rfl (k_X0_sameNames (d) (T := T) (σ := σ8) (a := a) (p1 := rx1) h_a h_rx1 w14 ) (fun r21 T23 σ22 gt24 hp => ?_)
        obtain ⟨v26, rfl, rfl, w27, F28, f25⟩ := hp
        clear gt24
        show Tn _ _ 106 T σ22 [(2, .int (iI z19)), (0, .ref a), (1, .ref rx1), (3, .int (iI i3))] [.int (iI v26), .int (iI z19)] _
        refine tn_iand dX0_sameStack_106 ?_
        refine tn_band (x := z19) (y := v26) (by omega) (by omega) (fun z31 g32 => ?_)
        refine tn_istore_n (L' := [(2, .int (iI z31)), (0, .ref a), (1, .ref rx1), (3, .int (iI i3))]) dX0_sameStack_107 rfl (by decide) rfl ?_
        refine tn_iinc (q0 := 3) (L' := [(3, .int (iI (i3 + 1))), (2, .int (iI z31)), (0, .ref a), (1, .ref rx1)]) dX0_sameStack_108 rfl (by decide) rfl ?_
        refine tn_goto (tgt := 25) dX0_sameStack_111 (by decide) ?_
        exact tn_sub [2, 3, 1, 0] rfl (ih _ (by omega) (z31) (i3 + 1) σ22 w27 (((FrC.rfl.trans (FrC.sub hF (by decide))).trans (FrC.sub F15 (by decide))).trans (FrC.sub F28 (by decide))) (by omega) (by omega) rfl)
      · refine tn_aload_n dX0_sameStack_48 rfl 0 rfl ?_
        obtain ⟨x33, hx34, hk35⟩ : ∃ x : Nat, σ0.2.1 1 a = (x : Int) ∧ (T x).1 = 57 := wf_1 hw0 h_a
        have hk35o : OB T x33 7 := ⟨by omega, by rw [hk35]; rfl, by omega⟩
        refine tn_getR (ci := 0) (i := 1) (n := 1) (x := x33) dX0_sameStack_49 rfl lay_0 (by decide) fl0_20 h_a rfl rfl (rc_F F15 (Or.inl (by decide)) (by decide) (rc_F hF (Or.inl (by decide)) (by decide) (hx34))) ?_
        refine tn_iload_n dX0_sameStack_52 rfl 3 rfl ?_
        refine tn_callV (M := m_X0_sameStack) (pc := 53) (ix := 63) (ci := 7) (M' := m_X7_find) (As := [.int (iI i3)]) (rest := [.int (iI i2)]) dX0_sameStack_53 ok_X7_find im_X7_find se_X7_find ml0_63 np_X7_find rfl rfl hk35o rfl (Nat.le_of_ble_eq_true rfl) (Nat.le_of_ble_eq_true rfl) rfl (k_X7_find (d + 1) (T := T) (σ := σ8) (a := x33) (k := i3) hk35o (by omega) w14 ) (fun r37 T39 σ38 gt40 hp => ?_)
        obtain ⟨v43, rfl, rfl, w44, F45, f41, f42⟩ := hp
        clear gt40
        clear f42
        show Tn _ _ 56 T σ38 [(0, .ref a), (1, .ref rx1), (2, .int (iI i2)), (3, .int (iI i3))] [.int (iI v43), .int (iI i2)] _
        refine tn_if_eq (tgt := 97) dX0_sameStack_56 (by decide) ⟨by omega, by omega⟩ (fun h46 => ?_) (fun h46 => ?_)
        · refine tn_iconst dX0_sameStack_97 ?_
          refine tn_iand dX0_sameStack_98 ?_
          refine tn_band (x := i2) (y := 0) (by omega) (by omega) (fun z49 g50 => ?_)
          refine tn_istore_n (L' := [(2, .int (iI z49)), (0, .ref a), (1, .ref rx1), (3, .int (iI i3))]) dX0_sameStack_99 rfl (by decide) rfl ?_
          refine tn_iload_n dX0_sameStack_100 rfl 0 rfl ?_
          refine tn_aload_n dX0_sameStack_101 rfl 1 rfl ?_
          refine tn_aload_n dX0_sameStack_102 rfl 2 rfl ?_
          refine tn_callV (M := m_X0_sameStack) (pc := 103) (ix := 74) (ci := 0) (M' := m_X0_sameNames) (As := [.ref rx1]) (rest := [.int (iI z49)]) dX0_sameStack_103 ok_X0_sameNames im_X0_sameNames se_X0_sameNames ml0_74 np_X0_sameNames rfl rfl h_a rfl (Nat.le_of_ble_eq_true rfl) (Nat.le_of_ble_eq_true rfl) rfl (k_X0_sameNames (d) (T := T) (σ := σ38) (a := a) (p1 := rx1) h_a h_rx1 w44 ) (fun r51 T53 σ52 gt54 hp => ?_)
          obtain ⟨v56, rfl, rfl, w57, F58, f55⟩ := hp
          clear gt54
          show Tn _ _ 106 T σ52 [(2, .int (iI z49)), (0, .ref a), (1, .ref rx1), (3, .int (iI i3))] [.int (iI v56), .int (iI z49)] _
          refine tn_iand dX0_sameStack_106 ?_
          refine tn_band (x := z49) (y := v56) (by omega) (by omega) (fun z61 g62 => ?_)
          refine tn_istore_n (L' := [(2, .int (iI z61)), (0, .ref a), (1, .ref rx1), (3, .int (iI i3))]) dX0_sameStack_107 rfl (by decide) rfl ?_
          refine tn_iinc (q0 := 3) (L' := [(3, .int (iI (i3 + 1))), (2, .int (iI z61)), (0, .ref a), (1, .ref rx1)]) dX0_sameStack_108 rfl (by decide) rfl ?_
          refine tn_goto (tgt := 25) dX0_sameStack_111 (by decide) ?_
          exact tn_sub [2, 3, 1, 0] rfl (ih _ (by omega) (z61) (i3 + 1) σ52 w57 ((((FrC.rfl.trans (FrC.sub hF (by decide))).trans (FrC.sub F15 (by decide))).trans (FrC.sub F45 (by decide))).trans (FrC.sub F58 (by decide))) (by omega) (by omega) rfl)
        · refine tn_aload_n dX0_sameStack_59 rfl 0 rfl ?_
          refine tn_getR (ci := 0) (i := 0) (n := 0) (x := x1) dX0_sameStack_60 rfl lay_0 (by decide) fl0_14 h_a rfl rfl (rc_F F45 (Or.inl (by decide)) (by decide) (rc_F F15 (Or.inl (by decide)) (by decide) (rc_F hF (Or.inl (by decide)) (by decide) (hx2)))) ?_
          refine tn_callV (M := m_X0_sameStack) (pc := 63) (ix := 67) (ci := 7) (M' := m_X7_foundRoutine) (As := []) (rest := [.int (iI i2)]) dX0_sameStack_63 ok_X7_foundRoutine im_X7_foundRoutine se_X7_foundRoutine ml0_67 np_X7_foundRoutine rfl rfl hk3o rfl (Nat.le_of_ble_eq_true rfl) (Nat.le_of_ble_eq_true rfl) rfl (k_X7_foundRoutine (d + 2) (T := T) (σ := σ38) (a := x1) hk3o w44 ) (fun r63 T65 σ64 gt66 hp => ?_)
          obtain ⟨v68, rfl, rfl, rfl, f67⟩ := hp
          clear gt66
          show Tn _ _ 66 T σ38 [(0, .ref a), (1, .ref rx1), (2, .int (iI i2)), (3, .int (iI i3))] [.int (iI v68), .int (iI i2)] _
          refine tn_aload_n dX0_sameStack_66 rfl 0 rfl ?_
          refine tn_getR (ci := 0) (i := 1) (n := 1) (x := x33) dX0_sameStack_67 rfl lay_0 (by decide) fl0_20 h_a rfl rfl (rc_F F45 (Or.inl (by decide)) (by decide) (rc_F F15 (Or.inl (by decide)) (by decide) (rc_F hF (Or.inl (by decide)) (by decide) (hx34)))) ?_
          refine tn_callV (M := m_X0_sameStack) (pc := 70) (ix := 67) (ci := 7) (M' := m_X7_foundRoutine) (As := []) (rest := [.int (iI v68), .int (iI i2)]) dX0_sameStack_70 ok_X7_foundRoutine im_X7_foundRoutine se_X7_foundRoutine ml0_67 np_X7_foundRoutine rfl rfl hk35o rfl (Nat.le_of_ble_eq_true rfl) (Nat.le_of_ble_eq_true rfl) rfl (k_X7_foundRoutine (d + 2) (T := T) (σ := σ38) (a := x33) hk35o w44 ) (fun r69 T71 σ70 gt72 hp => ?_)
          obtain ⟨v74, rfl, rfl, rfl, f73⟩ := hp
          clear gt72
          show Tn _ _ 73 T σ38 [(0, .ref a), (1, .ref rx1), (2, .int (iI i2)), (3, .int (iI i3))] [.int (iI v74), .int (iI v68), .int (iI i2)] _
          refine tn_icmp_ne (tgt := 97) dX0_sameStack_73 (by decide) ⟨by omega, by omega⟩ ⟨by omega, by omega⟩ (fun h75 => ?_) (fun h75 => ?_)
          · refine tn_iconst dX0_sameStack_97 ?_
            refine tn_iand dX0_sameStack_98 ?_
            refine tn_band (x := i2) (y := 0) (by omega) (by omega) (fun z78 g79 => ?_)
            refine tn_istore_n (L' := [(2, .int (iI z78)), (0, .ref a), (1, .ref rx1), (3, .int (iI i3))]) dX0_sameStack_99 rfl (by decide) rfl ?_
            refine tn_iload_n dX0_sameStack_100 rfl 0 rfl ?_
            refine tn_aload_n dX0_sameStack_101 rfl 1 rfl ?_
            refine tn_aload_n dX0_sameStack_102 rfl 2 rfl ?_
            refine tn_callV (M := m_X0_sameStack) (pc := 103) (ix := 74) (ci := 0) (M' := m_X0_sameNames) (As := [.ref rx1]) (rest := [.int (iI z78)]) dX0_sameStack_103 ok_X0_sameNames im_X0_sameNames se_X0_sameNames ml0_74 np_X0_sameNames rfl rfl h_a rfl (Nat.le_of_ble_eq_true rfl) (Nat.le_of_ble_eq_true rfl) rfl (k_X0_sameNames (d) (T := T) (σ := σ38) (a := a) (p1 := rx1) h_a h_rx1 w44 ) (fun r80 T82 σ81 gt83 hp => ?_)
            obtain ⟨v85, rfl, rfl, w86, F87, f84⟩ := hp
            clear gt83
            show Tn _ _ 106 T σ81 [(2, .int (iI z78)), (0, .ref a), (1, .ref rx1), (3, .int (iI i3))] [.int (iI v85), .int (iI z78)] _
            refine tn_iand dX0_sameStack_106 ?_
            refine tn_band (x := z78) (y := v85) (by omega) (by omega) (fun z90 g91 => ?_)
            refine tn_istore_n (L' := [(2, .int (iI z90)), (0, .ref a), (1, .ref rx1), (3, .int (iI i3))]) dX0_sameStack_107 rfl (by decide) rfl ?_
            refine tn_iinc (q0 := 3) (L' := [(3, .int (iI (i3 + 1))), (2, .int (iI z90)), (0, .ref a), (1, .ref rx1)]) dX0_sameStack_108 rfl (by decide) rfl ?_
            refine tn_goto (tgt := 25) dX0_sameStack_111 (by decide) ?_
            exact tn_sub [2, 3, 1, 0] rfl (ih _ (by omega) (z90) (i3 + 1) σ81 w86 ((((FrC.rfl.trans (FrC.sub hF (by decide))).trans (FrC.sub F15 (by decide))).trans (FrC.sub F45 (by decide))).trans (FrC.sub F87 (by decide))) (by omega) (by omega) rfl)
          · refine tn_aload_n dX0_sameStack_76 rfl 0 rfl ?_
            refine tn_getR (ci := 0) (i := 0) (n := 0) (x := x1) dX0_sameStack_77 rfl lay_0 (by decide) fl0_14 h_a rfl rfl (rc_F F45 (Or.inl (by decide)) (by decide) (rc_F F15 (Or.inl (by decide)) (by decide) (rc_F hF (Or.inl (by decide)) (by decide) (hx2)))) ?_
            refine tn_callV (M := m_X0_sameStack) (pc := 80) (ix := 71) (ci := 7) (M' := m_X7_foundLine) (As := []) (rest := [.int (iI i2)]) dX0_sameStack_80 ok_X7_foundLine im_X7_foundLine se_X7_foundLine ml0_71 np_X7_foundLine rfl rfl hk3o rfl (Nat.le_of_ble_eq_true rfl) (Nat.le_of_ble_eq_true rfl) rfl (k_X7_foundLine (d + 3) (T := T) (σ := σ38) (a := x1) hk3o w44 ) (fun r92 T94 σ93 gt95 hp => ?_)
            obtain ⟨v97, rfl, rfl, rfl, f96⟩ := hp
            clear gt95
            show Tn _ _ 83 T σ38 [(0, .ref a), (1, .ref rx1), (2, .int (iI i2)), (3, .int (iI i3))] [.int (iI v97), .int (iI i2)] _
            refine tn_aload_n dX0_sameStack_83 rfl 0 rfl ?_
            refine tn_getR (ci := 0) (i := 1) (n := 1) (x := x33) dX0_sameStack_84 rfl lay_0 (by decide) fl0_20 h_a rfl rfl (rc_F F45 (Or.inl (by decide)) (by decide) (rc_F F15 (Or.inl (by decide)) (by decide) (rc_F hF (Or.inl (by decide)) (by decide) (hx34)))) ?_
            refine tn_callV (M := m_X0_sameStack) (pc := 87) (ix := 71) (ci := 7) (M' := m_X7_foundLine) (As := []) (rest := [.int (iI v97), .int (iI i2)]) dX0_sameStack_87 ok_X7_foundLine im_X7_foundLine se_X7_foundLine ml0_71 np_X7_foundLine rfl rfl hk35o rfl (Nat.le_of_ble_eq_true rfl) (Nat.le_of_ble_eq_true rfl) rfl (k_X7_foundLine (d + 3) (T := T) (σ := σ38) (a := x33) hk35o w44 ) (fun r98 T100 σ99 gt101 hp => ?_)
            obtain ⟨v103, rfl, rfl, rfl, f102⟩ := hp
            clear gt101
            show Tn _ _ 90 T σ38 [(0, .ref a), (1, .ref rx1), (2, .int (iI i2)), (3, .int (iI i3))] [.int (iI v103), .int (iI v97), .int (iI i2)] _
            refine tn_icmp_ne (tgt := 97) dX0_sameStack_90 (by decide) ⟨by omega, by omega⟩ ⟨by omega, by omega⟩ (fun h104 => ?_) (fun h104 => ?_)
            · refine tn_iconst dX0_sameStack_97 ?_
              refine tn_iand dX0_sameStack_98 ?_
              refine tn_band (x := i2) (y := 0) (by omega) (by omega) (fun z107 g108 => ?_)
              refine tn_istore_n (L' := [(2, .int (iI z107)), (0, .ref a), (1, .ref rx1), (3, .int (iI i3))]) dX0_sameStack_99 rfl (by decide) rfl ?_
              refine tn_iload_n dX0_sameStack_100 rfl 0 rfl ?_
              refine tn_aload_n dX0_sameStack_101 rfl 1 rfl ?_
              refine tn_aload_n dX0_sameStack_102 rfl 2 rfl ?_
              refine tn_callV (M := m_X0_sameStack) (pc := 103) (ix := 74) (ci := 0) (M' := m_X0_sameNames) (As := [.ref rx1]) (rest := [.int (iI z107)]) dX0_sameStack_103 ok_X0_sameNames im_X0_sameNames se_X0_sameNames ml0_74 np_X0_sameNames rfl rfl h_a rfl (Nat.le_of_ble_eq_true rfl) (Nat.le_of_ble_eq_true rfl) rfl (k_X0_sameNames (d) (T := T) (σ := σ38) (a := a) (p1 := rx1) h_a h_rx1 w44 ) (fun r109 T111 σ110 gt112 hp => ?_)
              obtain ⟨v114, rfl, rfl, w115, F116, f113⟩ := hp
              clear gt112
              show Tn _ _ 106 T σ110 [(2, .int (iI z107)), (0, .ref a), (1, .ref rx1), (3, .int (iI i3))] [.int (iI v114), .int (iI z107)] _
              refine tn_iand dX0_sameStack_106 ?_
              refine tn_band (x := z107) (y := v114) (by omega) (by omega) (fun z119 g120 => ?_)
              refine tn_istore_n (L' := [(2, .int (iI z119)), (0, .ref a), (1, .ref rx1), (3, .int (iI i3))]) dX0_sameStack_107 rfl (by decide) rfl ?_
              refine tn_iinc (q0 := 3) (L' := [(3, .int (iI (i3 + 1))), (2, .int (iI z119)), (0, .ref a), (1, .ref rx1)]) dX0_sameStack_108 rfl (by decide) rfl ?_
              refine tn_goto (tgt := 25) dX0_sameStack_111 (by decide) ?_
              exact tn_sub [2, 3, 1, 0] rfl (ih _ (by omega) (z119) (i3 + 1) σ110 w115 ((((FrC.rfl.trans (FrC.sub hF (by decide))).trans (FrC.sub F15 (by decide))).trans (FrC.sub F45 (by decide))).trans (FrC.sub F116 (by decide))) (by omega) (by omega) rfl)
            · refine tn_iconst dX0_sameStack_93 ?_
              refine tn_goto (tgt := 98) dX0_sameStack_94 (by decide) ?_
              refine tn_iand dX0_sameStack_98 ?_
              refine tn_band (x := i2) (y := 1) (by omega) (by omega) (fun z123 g124 => ?_)
              refine tn_istore_n (L' := [(2, .int (iI z123)), (0, .ref a), (1, .ref rx1), (3, .int (iI i3))]) dX0_sameStack_99 rfl (by decide) rfl ?_
              refine tn_iload_n dX0_sameStack_100 rfl 0 rfl ?_
              refine tn_aload_n dX0_sameStack_101 rfl 1 rfl ?_
              refine tn_aload_n dX0_sameStack_102 rfl 2 rfl ?_
              refine tn_callV (M := m_X0_sameStack) (pc := 103) (ix := 74) (ci := 0) (M' := m_X0_sameNames) (As := [.ref rx1]) (rest := [.int (iI z123)]) dX0_sameStack_103 ok_X0_sameNames im_X0_sameNames se_X0_sameNames ml0_74 np_X0_sameNames rfl rfl h_a rfl (Nat.le_of_ble_eq_true rfl) (Nat.le_of_ble_eq_true rfl) rfl (k_X0_sameNames (d) (T := T) (σ := σ38) (a := a) (p1 := rx1) h_a h_rx1 w44 ) (fun r125 T127 σ126 gt128 hp => ?_)
              obtain ⟨v130, rfl, rfl, w131, F132, f129⟩ := hp
              clear gt128
              show Tn _ _ 106 T σ126 [(2, .int (iI z123)), (0, .ref a), (1, .ref rx1), (3, .int (iI i3))] [.int (iI v130), .int (iI z123)] _
              refine tn_iand dX0_sameStack_106 ?_
              refine tn_band (x := z123) (y := v130) (by omega) (by omega) (fun z135 g136 => ?_)
              refine tn_istore_n (L' := [(2, .int (iI z135)), (0, .ref a), (1, .ref rx1), (3, .int (iI i3))]) dX0_sameStack_107 rfl (by decide) rfl ?_
              refine tn_iinc (q0 := 3) (L' := [(3, .int (iI (i3 + 1))), (2, .int (iI z135)), (0, .ref a), (1, .ref rx1)]) dX0_sameStack_108 rfl (by decide) rfl ?_
              refine tn_goto (tgt := 25) dX0_sameStack_111 (by decide) ?_
              exact tn_sub [2, 3, 1, 0] rfl (ih _ (by omega) (z135) (i3 + 1) σ126 w131 ((((FrC.rfl.trans (FrC.sub hF (by decide))).trans (FrC.sub F15 (by decide))).trans (FrC.sub F45 (by decide))).trans (FrC.sub F132 (by decide))) (by omega) (by omega) rfl)
theorem dX0_sameStack_114 : decode cX0_sameStack 114 = .ok (.iload_n 2, 1) := by decide +kernel
theorem dX0_sameStack_115 : decode cX0_sameStack 115 = .ok (.ireturn, 1) := by decide +kernel
theorem dX0_sameStack_17 : decode cX0_sameStack 17 = .ok (.iconst 1, 1) := by decide +kernel
theorem dX0_sameStack_18 : decode cX0_sameStack 18 = .ok (.goto 4, 3) := by decide +kernel
set_option maxRecDepth 20000 in
theorem k_X0_sameStack (d : Nat) {T : CT} {σ : MS} {a : Nat} {p1 : Nat} (ha : OB T a 0) (h_p1 : OB T p1 10) (hw : WT T σ) : Tn (d + 6) m_X0_sameStack 0 T σ [(0, .ref a), (1, .ref p1)] [] (fun ro T2 σ2 => ∃ v : Int, ro = some (.int (iI v)) ∧ T = T2 ∧ WT T2 σ2 ∧ FrC T [2, 3, 70, 71] σ σ2 ∧ (v = 0 ∨ v = 1)) := by
  refine tn_aload_n dX0_sameStack_0 rfl 0 rfl ?_
  obtain ⟨x1, hx2, hk3⟩ : ∃ x : Nat, σ.2.1 0 a = (x : Int) ∧ (T x).1 = 37 := wf_0 hw ha
  have hk3o : OB T x1 7 := ⟨by omega, by rw [hk3]; rfl, by omega⟩
  refine tn_getR (ci := 0) (i := 0) (n := 0) (x := x1) dX0_sameStack_1 rfl lay_0 (by decide) fl0_14 ha rfl rfl (hx2) ?_
  refine tn_getI (ci := 7) (i := 3) (n := 58) (t := σ.2.1 58 x1) dX0_sameStack_4 rfl lay_7 (by decide) fl0_60 hk3o rfl rfl (rfl) ?_
  have g5 : ((-2147483648 : Int) ≤ σ.2.1 58 x1 ∧ σ.2.1 58 x1 ≤ 2147483647) := wf_58 hw hk3o
  refine tn_aload_n dX0_sameStack_7 rfl 0 rfl ?_
  obtain ⟨x6, hx7, hk8⟩ : ∃ x : Nat, σ.2.1 1 a = (x : Int) ∧ (T x).1 = 57 := wf_1 hw ha
  have hk8o : OB T x6 7 := ⟨by omega, by rw [hk8]; rfl, by omega⟩
  refine tn_getR (ci := 0) (i := 1) (n := 1) (x := x6) dX0_sameStack_8 rfl lay_0 (by decide) fl0_20 ha rfl rfl (hx7) ?_
  refine tn_getI (ci := 7) (i := 3) (n := 58) (t := σ.2.1 58 x6) dX0_sameStack_11 rfl lay_7 (by decide) fl0_60 hk8o rfl rfl (rfl) ?_
  have g10 : ((-2147483648 : Int) ≤ σ.2.1 58 x6 ∧ σ.2.1 58 x6 ≤ 2147483647) := wf_58 hw hk8o
  refine tn_icmp_ne (tgt := 21) dX0_sameStack_14 (by decide) ⟨by omega, by omega⟩ ⟨by omega, by omega⟩ (fun h11 => ?_) (fun h11 => ?_)
  · refine tn_iconst dX0_sameStack_21 ?_
    refine tn_istore_n (L' := [(2, .int (iI 0)), (0, .ref a), (1, .ref p1)]) dX0_sameStack_22 rfl (by decide) rfl ?_
    refine tn_iconst dX0_sameStack_23 ?_
    refine tn_istore_n (L' := [(3, .int (iI 0)), (2, .int (iI 0)), (0, .ref a), (1, .ref p1)]) dX0_sameStack_24 rfl (by decide) rfl ?_
    refine tn_sub [2, 3, 1, 0] rfl (l_X0_sameStack_25 (d) (T := T) (σ0 := σ) (a := a) (rx1 := p1) ha h_p1 hw (fun i212 i313 σ14 w17 F18 r19 r20 => ?_) _ (0) (0) σ hw FrC.rfl (by omega) (by omega) rfl)
    show Tn _ _ 114 T σ14 [(0, .ref a), (1, .ref p1), (2, .int (iI i212)), (3, .int (iI i313))] [] _
    refine tn_iload_n dX0_sameStack_114 rfl 2 rfl ?_
    exact tn_zret (v := i212) rfl (by omega) dX0_sameStack_115 ⟨_, rfl, rfl, w17, (FrC.rfl.trans (FrC.sub F18 (by decide))), by omega⟩
  · refine tn_iconst dX0_sameStack_17 ?_
    refine tn_goto (tgt := 22) dX0_sameStack_18 (by decide) ?_
    refine tn_istore_n (L' := [(2, .int (iI 1)), (0, .ref a), (1, .ref p1)]) dX0_sameStack_22 rfl (by decide) rfl ?_
    refine tn_iconst dX0_sameStack_23 ?_
    refine tn_istore_n (L' := [(3, .int (iI 0)), (2, .int (iI 1)), (0, .ref a), (1, .ref p1)]) dX0_sameStack_24 rfl (by decide) rfl ?_
    refine tn_sub [2, 3, 1, 0] rfl (l_X0_sameStack_25 (d) (T := T) (σ0 := σ) (a := a) (rx1 := p1) ha h_p1 hw (fun i221 i322 σ23 w26 F27 r28 r29 => ?_) _ (1) (0) σ hw FrC.rfl (by omega) (by omega) rfl)
    show Tn _ _ 114 T σ23 [(0, .ref a), (1, .ref p1), (2, .int (iI i221)), (3, .int (iI i322))] [] _
    refine tn_iload_n dX0_sameStack_114 rfl 2 rfl ?_
    exact tn_zret (v := i221) rfl (by omega) dX0_sameStack_115 ⟨_, rfl, rfl, w26, (FrC.rfl.trans (FrC.sub F27 (by decide))), by omega⟩
