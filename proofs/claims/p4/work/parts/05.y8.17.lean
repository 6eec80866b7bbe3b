theorem cd_X10_begin : Cond.code yX10_begin cX10_begin 3 none ∈ pWW := pw4 (List.mem_of_getElem? (i := 132) rfl) rfl
abbrev m_X10_begin : MT := (yX10_begin, cX10_begin, 3, none)
theorem ok_X10_begin : pOk m_X10_begin := ⟨⟨cd_X10_begin, ini_10⟩, by decide +kernel, ⟨by decide +kernel, by decide +kernel⟩, Nat.le_of_ble_eq_true rfl⟩
theorem np_X10_begin : (parseMethodDescriptor yX10_begin.desc).map (fun d => d.parameters.length) = some 1 := by decide +kernel
theorem im_X10_begin : Cond.instanceMethod yX10_begin ∈ pWW := pw4 (List.mem_of_getElem? (i := 131) rfl) rfl
theorem se_X10_begin : Cond.selects RX10 yX10_begin yX10_begin ∈ pWW := pws (List.mem_map.mpr ⟨_, lw_pin 40 rfl, rfl⟩) rfl
theorem fl10_50 : Cond.fieldLink RX10 50 (TX10 5).1 (TX10 5).2.1 (TX10 5).2.2.1 ∈ pWW := pw2 (List.mem_of_getElem? (i := 12) rfl) rfl
theorem fl10_61 : Cond.fieldLink RX10 61 (TX10 4).1 (TX10 4).2.1 (TX10 4).2.2.1 ∈ pWW := pw2 (List.mem_of_getElem? (i := 11) rfl) rfl
theorem dX10_begin_0 : decode cX10_begin 0 = .ok (.iconst 0, 1) := by decide +kernel
theorem dX10_begin_1 : decode cX10_begin 1 = .ok (.istore_n 2, 1) := by decide +kernel
theorem dX10_begin_2 : decode cX10_begin 2 = .ok (.iload_n 2, 1) := by decide +kernel
theorem dX10_begin_3 : decode cX10_begin 3 = .ok (.aload_n 0, 1) := by decide +kernel
theorem dX10_begin_4 : decode cX10_begin 4 = .ok (.getfield 50, 3) := by decide +kernel
theorem dX10_begin_7 : decode cX10_begin 7 = .ok (.if_icmp .ge 18, 3) := by decide +kernel
theorem dX10_begin_10 : decode cX10_begin 10 = .ok (.aload_n 0, 1) := by decide +kernel
theorem dX10_begin_11 : decode cX10_begin 11 = .ok (.getfield 61, 3) := by decide +kernel
theorem dX10_begin_14 : decode cX10_begin 14 = .ok (.iload_n 2, 1) := by decide +kernel
theorem dX10_begin_15 : decode cX10_begin 15 = .ok (.iconst 1, 1) := by decide +kernel
theorem dX10_begin_16 : decode cX10_begin 16 = .ok (.invokestatic 26, 3) := by decide +kernel
theorem dX10_begin_19 : decode cX10_begin 19 = .ok (.iinc 2 1, 3) := by decide +kernel
theorem dX10_begin_22 : decode cX10_begin 22 = .ok (.goto (-20), 3) := by decide +kernel
set_option maxRecDepth 20000 in
theorem l_X10_begin_2 (d : Nat) {T : CT} {σ0 : MS} {a : Nat} {rx1 : Nat} {post : Option Value → CT → MS → Prop} (h_a : OB T a 10) (h_rx1 : OB T rx1 1) (t_rx1 : (T rx1).1 = 50) (hw0 : WT T σ0) (hx_25 : ∀ (i2 : Int) (σ : MS) , (WT T σ) → (FrC T [] σ0 σ) → (0 ≤ i2 ∧ i2 ≤ 2147483647) → Tn (d + 2) m_X10_begin 25 T σ [(0, .ref a), (1, .ref rx1), (2, .int (iI i2))] [] post) : ∀ (n : Nat) (i2 : Int) (σ : MS) , (WT T σ) → (FrC T [] σ0 σ) → (0 ≤ i2 ∧ i2 ≤ 2147483647) → (2147483700 - i2).toNat = n → Tn (d + 2) m_X10_begin 2 T σ [(0, .ref a), (1, .ref rx1), (2, .int (iI i2))] [] post := by
  intro n
  induction n using Nat.strongRecOn with
  | _ n ih =>
    intro i2 σ hw hF r_i2 hm
    refine tn_iload_n dX10_begin_2 rfl 2 rfl ?_
    refine tn_aload_n dX10_begin_3 rfl 0 rfl ?_
    refine tn_getI (ci := 10) (i := 5) (n := 93) (t := σ0.2.1 93 a) dX10_begin_4 rfl lay_10 (by decide) fl10_50 h_a rfl rfl (rc_F hF (Or.inl (by decide)) (by decide) (rfl)) ?_
    have g1 : ((0 : Int) ≤ σ0.2.1 93 a ∧ σ0.2.1 93 a ≤ 145) := wf_93 hw0 h_a
    refine tn_icmp_ge (tgt := 25) dX10_begin_7 (by decide) ⟨by omega, by omega⟩ ⟨by omega, by omega⟩ (fun h2 => ?_) (fun h2 => ?_)
    · exact tn_sub [0, 1, 2] rfl (hx_25 (i2) σ hw (FrC.rfl.trans (FrC.sub hF (by decide))) (by omega))
    · refine tn_aload_n dX10_begin_10 rfl 0 rfl ?_
      rcases wf_92 hw0 h_a with hx3 | ⟨x4, hx3, hk5, hl6⟩
      · refine tn_getN (ci := 10) (i := 4) (n := 92) dX10_begin_11 rfl lay_10 (by decide) fl10_61 h_a rfl rfl (Int.lt_of_le_of_lt (Int.le_of_eq (rc_F hF (Or.inl (by decide)) (by decide) (Eq.refl _))) hx3) ?_
        refine tn_iload_n dX10_begin_14 rfl 2 rfl ?_
        refine tn_iconst dX10_begin_15 ?_
        refine tn_callSN (M := m_X10_begin) (pc := 16) (ix := 26) (M' := m_X11_put) (As := [.null, .int (iI i2), .int (iI 1)]) (rest := []) dX10_begin_16 ok_X11_put stt_X11_put nl10_26 np_X11_put rfl (Nat.le_of_ble_eq_true rfl) (Nat.le_of_ble_eq_true rfl) rfl (k_X11_put_0 (d) (T := T) (σ := σ) (i := i2) (y := 1) (by omega) (by decide) hw ) (fun r7 T9 σ8 gt10 hp => ?_)
        obtain ⟨rfl, rfl, w12, F13⟩ := hp
        clear gt10
        show Tn _ _ 19 T σ8 [(0, .ref a), (1, .ref rx1), (2, .int (iI i2))] [] _
        refine tn_iinc (q0 := 2) (L' := [(2, .int (iI (i2 + 1))), (0, .ref a), (1, .ref rx1)]) dX10_begin_19 rfl (by decide) rfl ?_
        refine tn_goto (tgt := 2) dX10_begin_22 (by decide) ?_
        exact tn_sub [1, 2, 0] rfl (ih _ (by omega) (i2 + 1) σ8 w12 ((FrC.rfl.trans (FrC.sub hF (by decide))).trans (FrC.sub F13 (by decide))) (by omega) rfl)
      · have hk5i : IA T x4 := by unfold IA; omega
        refine tn_getR (ci := 10) (i := 4) (n := 92) (x := x4) dX10_begin_11 rfl lay_10 (by decide) fl10_61 h_a rfl rfl (rc_F hF (Or.inl (by decide)) (by decide) (hx3)) ?_
        refine tn_iload_n dX10_begin_14 rfl 2 rfl ?_
        refine tn_iconst dX10_begin_15 ?_
        refine tn_callSN (M := m_X10_begin) (pc := 16) (ix := 26) (M' := m_X11_put) (As := [.ref x4, .int (iI i2), .int (iI 1)]) (rest := []) dX10_begin_16 ok_X11_put stt_X11_put nl10_26 np_X11_put rfl (Nat.le_of_ble_eq_true rfl) (Nat.le_of_ble_eq_true rfl) rfl (k_X11_put (d) (T := T) (σ := σ) (x := x4) (i := i2) (y := 1) hk5i (by omega) (by omega) (by decide) hw (nh_k hk5 (by unfold HT; omega)) (vok_1 (by have q9 := hk5; omega) (by omega))) (fun r14 T16 σ15 gt17 hp => ?_)
        obtain ⟨rfl, rfl, w19, F20⟩ := hp
        clear gt17
        show Tn _ _ 19 T σ15 [(0, .ref a), (1, .ref rx1), (2, .int (iI i2))] [] _
        refine tn_iinc (q0 := 2) (L' := [(2, .int (iI (i2 + 1))), (0, .ref a), (1, .ref rx1)]) dX10_begin_19 rfl (by decide) rfl ?_
        refine tn_goto (tgt := 2) dX10_begin_22 (by decide) ?_
        exact tn_sub [1, 2, 0] rfl (ih _ (by omega) (i2 + 1) σ15 w19 ((FrC.rfl.trans (FrC.sub hF (by decide))).trans (FrC.sub F20 (by decide))) (by omega) rfl)
theorem fl10_93 : Cond.fieldLink RX10 93 (TX1 2).1 (TX1 2).2.1 (TX1 2).2.2.1 ∈ pWW := pw1 (List.mem_of_getElem? (i := 90) rfl) rfl
theorem dX10_begin_25 : decode cX10_begin 25 = .ok (.iconst 0, 1) := by decide +kernel
theorem dX10_begin_26 : decode cX10_begin 26 = .ok (.istore_n 2, 1) := by decide +kernel
theorem dX10_begin_27 : decode cX10_begin 27 = .ok (.iload_n 2, 1) := by decide +kernel
theorem dX10_begin_28 : decode cX10_begin 28 = .ok (.aload_n 1, 1) := by decide +kernel
theorem dX10_begin_29 : decode cX10_begin 29 = .ok (.getfield 93, 3) := by decide +kernel
theorem dX10_begin_32 : decode cX10_begin 32 = .ok (.if_icmp .ge 38, 3) := by decide +kernel
theorem dX10_begin_35 : decode cX10_begin 35 = .ok (.aload_n 0, 1) := by decide +kernel
theorem dX10_begin_36 : decode cX10_begin 36 = .ok (.getfield 61, 3) := by decide +kernel
theorem dX10_begin_39 : decode cX10_begin 39 = .ok (.aload_n 1, 1) := by decide +kernel
theorem dX10_begin_40 : decode cX10_begin 40 = .ok (.iconst 0, 1) := by decide +kernel
theorem dX10_begin_41 : decode cX10_begin 41 = .ok (.iload_n 2, 1) := by decide +kernel
theorem dX10_begin_42 : decode cX10_begin 42 = .ok (.invokevirtual 36, 3) := by decide +kernel
theorem dX10_begin_45 : decode cX10_begin 45 = .ok (.iload_n 2, 1) := by decide +kernel
theorem dX10_begin_46 : decode cX10_begin 46 = .ok (.aload_n 1, 1) := by decide +kernel
theorem dX10_begin_47 : decode cX10_begin 47 = .ok (.getfield 86, 3) := by decide +kernel
theorem dX10_begin_50 : decode cX10_begin 50 = .ok (.if_icmp .ge 10, 3) := by decide +kernel
theorem dX10_begin_60 : decode cX10_begin 60 = .ok (.iconst 5, 1) := by decide +kernel
theorem dX10_begin_61 : decode cX10_begin 61 = .ok (.invokestatic 26, 3) := by decide +kernel
theorem dX10_begin_64 : decode cX10_begin 64 = .ok (.iinc 2 1, 3) := by decide +kernel
theorem dX10_begin_67 : decode cX10_begin 67 = .ok (.goto (-40), 3) := by decide +kernel
theorem dX10_begin_53 : decode cX10_begin 53 = .ok (.bipush 6, 2) := by decide +kernel
theorem dX10_begin_55 : decode cX10_begin 55 = .ok (.iload_n 2, 1) := by decide +kernel
theorem dX10_begin_56 : decode cX10_begin 56 = .ok (.iadd, 1) := by decide +kernel
theorem dX10_begin_57 : decode cX10_begin 57 = .ok (.goto 4, 3) := by decide +kernel
set_option maxRecDepth 20000 in
theorem l_X10_begin_27 (d : Nat) {T : CT} {σ0 : MS} {a : Nat} {rx1 : Nat} {post : Option Value → CT → MS → Prop} (h_a : OB T a 10) (h_rx1 : OB T rx1 1) (t_rx1 : (T rx1).1 = 50) (hw0 : WT T σ0) (hx_70 : ∀ (i2 : Int) (σ : MS) , (WT T σ) → (FrC T [] σ0 σ) → (0 ≤ i2 ∧ i2 ≤ 2147483647) → Tn (d + 2) m_X10_begin 70 T σ [(0, .ref a), (1, .ref rx1), (2, .int (iI i2))] [] post) : ∀ (n : Nat) (i2 : Int) (σ : MS) , (WT T σ) → (FrC T [] σ0 σ) → (0 ≤ i2 ∧ i2 ≤ 2147483647) → (2147483700 - i2).toNat = n → Tn (d + 2) m_X10_begin 27 T σ [(0, .ref a), (1, .ref rx1), (2, .int (iI i2))] [] post := by
  intro n
  induction n using Nat.strongRecOn with
  | _ n ih =>
    intro i2 σ hw hF r_i2 hm
    refine tn_iload_n dX10_begin_27 rfl 2 rfl ?_
    refine tn_aload_n dX10_begin_28 rfl 1 rfl ?_
    refine tn_getI (ci := 1) (i := 2) (n := 7) (t := σ0.2.1 7 rx1) dX10_begin_29 rfl lay_1 (by decide) fl10_93 h_rx1 rfl rfl (rc_F hF (Or.inl (by decide)) (by decide) (rfl)) ?_
    have g1 : ((0 : Int) ≤ σ0.2.1 7 rx1 ∧ σ0.2.1 7 rx1 ≤ 12) := wf_7 hw0 h_rx1
    refine tn_icmp_ge (tgt := 70) dX10_begin_32 (by decide) ⟨by omega, by omega⟩ ⟨by omega, by omega⟩ (fun h2 => ?_) (fun h2 => ?_)
    · exact tn_sub [0, 1, 2] rfl (hx_70 (i2) σ hw (FrC.rfl.trans (FrC.sub hF (by decide))) (by omega))
    · refine tn_aload_n dX10_begin_35 rfl 0 rfl ?_
      rcases wf_92 hw0 h_a with hx3 | ⟨x4, hx3, hk5, hl6⟩
      · refine tn_getN (ci := 10) (i := 4) (n := 92) dX10_begin_36 rfl lay_10 (by decide) fl10_61 h_a rfl rfl (Int.lt_of_le_of_lt (Int.le_of_eq (rc_F hF (Or.inl (by decide)) (by decide) (Eq.refl _))) hx3) ?_
        refine tn_aload_n dX10_begin_39 rfl 1 rfl ?_
        refine tn_iconst dX10_begin_40 ?_
        refine tn_iload_n dX10_begin_41 rfl 2 rfl ?_
        refine tn_callV (M := m_X10_begin) (pc := 42) (ix := 36) (ci := 1) (M' := m_X1_slotOf) (As := [.int (iI 0), .int (iI i2)]) (rest := [.null]) dX10_begin_42 ok_X1_slotOf im_X1_slotOf se_X1_slotOf ml10_36 np_X1_slotOf rfl rfl h_rx1 rfl (Nat.le_of_ble_eq_true rfl) (Nat.le_of_ble_eq_true rfl) rfl (k_X1_slotOf (d) (T := T) (σ := σ) (a := rx1) (f := 0) (m := i2) h_rx1 (by decide) (by omega) hw (by omega)) (fun r7 T9 σ8 gt10 hp => ?_)
        obtain ⟨v13, rfl, rfl, rfl, f11, f12⟩ := hp
        clear gt10
        show Tn _ _ 45 T σ [(0, .ref a), (1, .ref rx1), (2, .int (iI i2))] [.int (iI v13), .null] _
        refine tn_iload_n dX10_begin_45 rfl 2 rfl ?_
        refine tn_aload_n dX10_begin_46 rfl 1 rfl ?_
        refine tn_getI (ci := 1) (i := 3) (n := 8) (t := σ0.2.1 8 rx1) dX10_begin_47 rfl lay_1 (by decide) fl10_86 h_rx1 rfl rfl (rc_F hF (Or.inl (by decide)) (by decide) (rfl)) ?_
        have g14 : ((0 : Int) ≤ σ0.2.1 8 rx1 ∧ σ0.2.1 8 rx1 ≤ 4) := wf_8 hw0 h_rx1
        refine tn_icmp_ge (tgt := 60) dX10_begin_50 (by decide) ⟨by omega, by omega⟩ ⟨by omega, by omega⟩ (fun h15 => ?_) (fun h15 => ?_)
        · refine tn_iconst dX10_begin_60 ?_
          refine tn_callSN (M := m_X10_begin) (pc := 61) (ix := 26) (M' := m_X11_put) (As := [.null, .int (iI v13), .int (iI 5)]) (rest := []) dX10_begin_61 ok_X11_put stt_X11_put nl10_26 np_X11_put rfl (Nat.le_of_ble_eq_true rfl) (Nat.le_of_ble_eq_true rfl) rfl (k_X11_put_0 (d) (T := T) (σ := σ) (i := v13) (y := 5) (by omega) (by decide) hw ) (fun r16 T18 σ17 gt19 hp => ?_)
          obtain ⟨rfl, rfl, w21, F22⟩ := hp
          clear gt19
          show Tn _ _ 64 T σ17 [(0, .ref a), (1, .ref rx1), (2, .int (iI i2))] [] _
          refine tn_iinc (q0 := 2) (L' := [(2, .int (iI (i2 + 1))), (0, .ref a), (1, .ref rx1)]) dX10_begin_64 rfl (by decide) rfl ?_
          refine tn_goto (tgt := 27) dX10_begin_67 (by decide) ?_
          exact tn_sub [1, 2, 0] rfl (ih _ (by omega) (i2 + 1) σ17 w21 ((FrC.rfl.trans (FrC.sub hF (by decide))).trans (FrC.sub F22 (by decide))) (by omega) rfl)
        · refine tn_bipush dX10_begin_53 (by decide) ?_
          refine tn_iload_n dX10_begin_55 rfl 2 rfl ?_
          refine tn_iadd dX10_begin_56 ?_
          refine tn_goto (tgt := 61) dX10_begin_57 (by decide) ?_
          refine tn_callSN (M := m_X10_begin) (pc := 61) (ix := 26) (M' := m_X11_put) (As := [.null, .int (iI v13), .int (iI (6 + i2))]) (rest := []) dX10_begin_61 ok_X11_put stt_X11_put nl10_26 np_X11_put rfl (Nat.le_of_ble_eq_true rfl) (Nat.le_of_ble_eq_true rfl) rfl (k_X11_put_0 (d) (T := T) (σ := σ) (i := v13) (y := 6 + i2) (by omega) (by omega) hw ) (fun r23 T25 σ24 gt26 hp => ?_)
          obtain ⟨rfl, rfl, w28, F29⟩ := hp
          clear gt26
          show Tn _ _ 64 T σ24 [(0, .ref a), (1, .ref rx1), (2, .int (iI i2))] [] _
          refine tn_iinc (q0 := 2) (L' := [(2, .int (iI (i2 + 1))), (0, .ref a), (1, .ref rx1)]) dX10_begin_64 rfl (by decide) rfl ?_
          refine tn_goto (tgt := 27) dX10_begin_67 (by decide) ?_
          exact tn_sub [1, 2, 0] rfl (ih _ (by omega) (i2 + 1) σ24 w28 ((FrC.rfl.trans (FrC.sub hF (by decide))).trans (FrC.sub F29 (by decide))) (by omega) rfl)
      · have hk5i : IA T x4 := by unfold IA; omega
        refine tn_getR (ci := 10) (i := 4) (n := 92) (x := x4) dX10_begin_36 rfl lay_10 (by decide) fl10_61 h_a rfl rfl (rc_F hF (Or.inl (by decide)) (by decide) (hx3)) ?_
        refine tn_aload_n dX10_begin_39 rfl 1 rfl ?_
        refine tn_iconst dX10_begin_40 ?_
        refine tn_iload_n dX10_begin_41 rfl 2 rfl ?_
        refine tn_callV (M := m_X10_begin) (pc := 42) (ix := 36) (ci := 1) (M' := m_X1_slotOf) (As := [.int (iI 0), .int (iI i2)]) (rest := [.ref x4]) dX10_begin_42 ok_X1_slotOf im_X1_slotOf se_X1_slotOf ml10_36 np_X1_slotOf rfl rfl h_rx1 rfl (Nat.le_of_ble_eq_true rfl) (Nat.le_of_ble_eq_true rfl) rfl (k_X1_slotOf (d) (T := T) (σ := σ) (a := rx1) (f := 0) (m := i2) h_rx1 (by decide) (by omega) hw (by omega)) (fun r30 T32 σ31 gt33 hp => ?_)
        obtain ⟨v36, rfl, rfl, rfl, f34, f35⟩ := hp
        clear gt33
        show Tn _ _ 45 T σ [(0, .ref a), (1, .ref rx1), (2, .int (iI i2))] [.int (iI v36), .ref x4] _
        refine tn_iload_n dX10_begin_45 rfl 2 rfl ?_
        refine tn_aload_n dX10_begin_46 rfl 1 rfl ?_
        refine tn_getI (ci := 1) (i := 3) (n := 8) (t := σ0.2.1 8 rx1) dX10_begin_47 rfl lay_1 (by decide) fl10_86 h_rx1 rfl rfl (rc_F hF (Or.inl (by decide)) (by decide) (rfl)) ?_
        have g37 : ((0 : Int) ≤ σ0.2.1 8 rx1 ∧ σ0.2.1 8 rx1 ≤ 4) := wf_8 hw0 h_rx1
        refine tn_icmp_ge (tgt := 60) dX10_begin_50 (by decide) ⟨by omega, by omega⟩ ⟨by omega, by omega⟩ (fun h38 => ?_) (fun h38 => ?_)
        · refine tn_iconst dX10_begin_60 ?_
          refine tn_callSN (M := m_X10_begin) (pc := 61) (ix := 26) (M' := m_X11_put) (As := [.ref x4, .int (iI v36), .int (iI 5)]) (rest := []) dX10_begin_61 ok_X11_put stt_X11_put nl10_26 np_X11_put rfl (Nat.le_of_ble_eq_true rfl) (Nat.le_of_ble_eq_true rfl) rfl (k_X11_put (d) (T := T) (σ := σ) (x := x4) (i := v36) (y := 5) hk5i (by omega) (by omega) (by decide) hw (nh_k hk5 (by unfold HT; omega)) (vok_1 (by have q9 := hk5; omega) (by omega))) (fun r39 T41 σ40 gt42 hp => ?_)
          obtain ⟨rfl, rfl, w44, F45⟩ := hp
          clear gt42
          show Tn _ _ 64 T σ40 [(0, .ref a), (1, .ref rx1), (2, .int (iI i2))] [] _
          refine tn_iinc (q0 := 2) (L' := [(2, .int (iI (i2 + 1))), (0, .ref a), (1, .ref rx1)]) dX10_begin_64 rfl (by decide) rfl ?_
          refine tn_goto (tgt := 27) dX10_begin_67 (by decide) ?_
          exact tn_sub [1, 2, 0] rfl (ih _ (by omega) (i2 + 1) σ40 w44 ((FrC.rfl.trans (FrC.sub hF (by decide))).trans (FrC.sub F45 (by decide))) (by omega) rfl)
        · refine tn_bipush dX10_begin_53 (by decide) ?_
          refine tn_iload_n dX10_begin_55 rfl 2 rfl ?_
          refine tn_iadd dX10_begin_56 ?_
          refine tn_goto (tgt := 61) dX10_begin_57 (by decide) ?_
          refine tn_callSN (M := m_X10_begin) (pc := 61) (ix := 26) (M' := m_X11_put) (As := [.ref x4, .int (iI v36), .int (iI (6 + i2))]) (rest := []) dX10_begin_61 ok_X11_put stt_X11_put nl10_26 np_X11_put rfl (Nat.le_of_ble_eq_true rfl) (Nat.le_of_ble_eq_true rfl) rfl (k_X11_put (d) (T := T) (σ := σ) (x := x4) (i := v36) (y := 6 + i2) hk5i (by omega) (by omega) (by omega) hw (nh_k hk5 (by unfold HT; omega)) (vok_1 (by have q9 := hk5; omega) (by omega))) (fun r46 T48 σ47 gt49 hp => ?_)
          obtain ⟨rfl, rfl, w51, F52⟩ := hp
          clear gt49
          show Tn _ _ 64 T σ47 [(0, .ref a), (1, .ref rx1), (2, .int (iI i2))] [] _
          refine tn_iinc (q0 := 2) (L' := [(2, .int (iI (i2 + 1))), (0, .ref a), (1, .ref rx1)]) dX10_begin_64 rfl (by decide) rfl ?_
          refine tn_goto (tgt := 27) dX10_begin_67 (by decide) ?_
          exact tn_sub [1, 2, 0] rfl (ih _ (by omega) (i2 + 1) σ47 w51 ((FrC.rfl.trans (FrC.sub hF (by decide))).trans (FrC.sub F52 (by decide))) (by omega) rfl)
theorem dX10_begin_70 : decode cX10_begin 70 = .ok (.return_, 1) := by decide +kernel
set_option maxRecDepth 20000 in
theorem k_X10_begin (d : Nat) {T : CT} {σ : MS} {a : Nat} {p1 : Nat} (ha : OB T a 10) (h_p1 : OB T p1 1) (t_p1 : (T p1).1 = 50) (hw : WT T σ) : Tn (d + 2) m_X10_begin 0 T σ [(0, .ref a), (1, .ref p1)] [] (fun ro T2 σ2 => ro = none ∧ T = T2 ∧ WT T2 σ2 ∧ FrC T [] σ σ2) := by
  refine tn_iconst dX10_begin_0 ?_
  refine tn_istore_n (L' := [(2, .int (iI 0)), (0, .ref a), (1, .ref p1)]) dX10_begin_1 rfl (by decide) rfl ?_
  refine tn_sub [1, 2, 0] rfl (l_X10_begin_2 (d) (T := T) (σ0 := σ) (a := a) (rx1 := p1) ha h_p1 t_p1 hw (fun i21 σ2 w5 F6 r7 => ?_) _ (0) σ hw FrC.rfl (by omega) rfl)
  show Tn _ _ 25 T σ2 [(0, .ref a), (1, .ref p1), (2, .int (iI i21))] [] _
  refine tn_iconst dX10_begin_25 ?_
  refine tn_istore_n (L' := [(2, .int (iI 0)), (0, .ref a), (1, .ref p1)]) dX10_begin_26 rfl (by decide) rfl ?_
  refine tn_sub [1, 2, 0] rfl (l_X10_begin_27 (d) (T := T) (σ0 := σ2) (a := a) (rx1 := p1) ha h_p1 t_p1 w5 (fun i28 σ9 w12 F13 r14 => ?_) _ (0) σ2 w5 FrC.rfl (by omega) rfl)
  show Tn _ _ 70 T σ9 [(0, .ref a), (1, .ref p1), (2, .int (iI i28))] [] _
  exact tn_vret rfl dX10_begin_70 ⟨rfl, rfl, w12, ((FrC.rfl.trans (FrC.sub F6 (by decide))).trans (FrC.sub F13 (by decide)))⟩
