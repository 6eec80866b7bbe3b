theorem cd_X6_alike : Cond.code yX6_alike cX6_alike 5 (some .int) ∈ pWW := pw5 (List.mem_of_getElem? (i := 125) rfl) rfl
abbrev m_X6_alike : MT := (yX6_alike, cX6_alike, 5, (some .int))
theorem ok_X6_alike : pOk m_X6_alike := ⟨⟨cd_X6_alike, ini_6⟩, by decide +kernel, ⟨by decide +kernel, by decide +kernel⟩, Nat.le_of_ble_eq_true rfl⟩
theorem np_X6_alike : (parseMethodDescriptor yX6_alike.desc).map (fun d => d.parameters.length) = some 1 := by decide +kernel
theorem im_X6_alike : Cond.instanceMethod yX6_alike ∈ pWW := pw5 (List.mem_of_getElem? (i := 123) rfl) rfl
theorem se_X6_alike : Cond.selects RX6 yX6_alike yX6_alike ∈ pWW := pw5 (List.mem_of_getElem? (i := 124) rfl) rfl
theorem ml6_135 : Cond.methodLink RX6 135 yX6_latestTwin ∈ pWW := pw5 (List.mem_of_getElem? (i := 126) rfl) rfl
theorem dX6_alike_0 : decode cX6_alike 0 = .ok (.iconst 0, 1) := by decide +kernel
theorem dX6_alike_1 : decode cX6_alike 1 = .ok (.istore_n 2, 1) := by decide +kernel
theorem dX6_alike_2 : decode cX6_alike 2 = .ok (.iconst 0, 1) := by decide +kernel
theorem dX6_alike_3 : decode cX6_alike 3 = .ok (.istore_n 3, 1) := by decide +kernel
theorem dX6_alike_4 : decode cX6_alike 4 = .ok (.iload_n 3, 1) := by decide +kernel
theorem dX6_alike_5 : decode cX6_alike 5 = .ok (.aload_n 1, 1) := by decide +kernel
theorem dX6_alike_6 : decode cX6_alike 6 = .ok (.getfield 22, 3) := by decide +kernel
theorem dX6_alike_9 : decode cX6_alike 9 = .ok (.if_icmp .ge 55, 3) := by decide +kernel
theorem dX6_alike_12 : decode cX6_alike 12 = .ok (.aload_n 1, 1) := by decide +kernel
theorem dX6_alike_13 : decode cX6_alike 13 = .ok (.iload_n 3, 1) := by decide +kernel
theorem dX6_alike_14 : decode cX6_alike 14 = .ok (.iconst 0, 1) := by decide +kernel
theorem dX6_alike_15 : decode cX6_alike 15 = .ok (.invokevirtual 34, 3) := by decide +kernel
theorem dX6_alike_18 : decode cX6_alike 18 = .ok (.invokestatic 74, 3) := by decide +kernel
theorem dX6_alike_21 : decode cX6_alike 21 = .ok (.ifCond .eq 12, 3) := by decide +kernel
theorem dX6_alike_33 : decode cX6_alike 33 = .ok (.iconst (-1), 1) := by decide +kernel
theorem dX6_alike_34 : decode cX6_alike 34 = .ok (.istore 4, 2) := by decide +kernel
theorem dX6_alike_36 : decode cX6_alike 36 = .ok (.iload 4, 2) := by decide +kernel
theorem dX6_alike_38 : decode cX6_alike 38 = .ok (.iconst (-1), 1) := by decide +kernel
theorem dX6_alike_39 : decode cX6_alike 39 = .ok (.if_icmp .eq 19, 3) := by decide +kernel
theorem dX6_alike_58 : decode cX6_alike 58 = .ok (.iinc 3 1, 3) := by decide +kernel
theorem dX6_alike_61 : decode cX6_alike 61 = .ok (.goto (-57), 3) := by decide +kernel
theorem dX6_alike_24 : decode cX6_alike 24 = .ok (.aload_n 0, 1) := by decide +kernel
theorem dX6_alike_25 : decode cX6_alike 25 = .ok (.aload_n 1, 1) := by decide +kernel
theorem dX6_alike_26 : decode cX6_alike 26 = .ok (.iload_n 3, 1) := by decide +kernel
theorem dX6_alike_27 : decode cX6_alike 27 = .ok (.invokevirtual 135, 3) := by decide +kernel
theorem dX6_alike_30 : decode cX6_alike 30 = .ok (.goto 4, 3) := by decide +kernel
theorem dX6_alike_42 : decode cX6_alike 42 = .ok (.aload_n 1, 1) := by decide +kernel
theorem dX6_alike_43 : decode cX6_alike 43 = .ok (.iload_n 3, 1) := by decide +kernel
theorem dX6_alike_44 : decode cX6_alike 44 = .ok (.iconst 2, 1) := by decide +kernel
theorem dX6_alike_45 : decode cX6_alike 45 = .ok (.aload_n 1, 1) := by decide +kernel
theorem dX6_alike_46 : decode cX6_alike 46 = .ok (.iload 4, 2) := by decide +kernel
theorem dX6_alike_48 : decode cX6_alike 48 = .ok (.iconst 1, 1) := by decide +kernel
theorem dX6_alike_49 : decode cX6_alike 49 = .ok (.invokevirtual 34, 3) := by decide +kernel
theorem dX6_alike_52 : decode cX6_alike 52 = .ok (.invokevirtual 81, 3) := by decide +kernel
theorem dX6_alike_55 : decode cX6_alike 55 = .ok (.iinc 2 1, 3) := by decide +kernel
set_option maxRecDepth 20000 in
theorem l_X6_alike_4 (d : Nat) {T : CT} {σ0 : MS} {a : Nat} {rx1 : Nat} {post : Option Value → CT → MS → Prop} (h_a : OB T a 6) (h_rx1 : OB T rx1 1) (t_rx1 : (T rx1).1 = 50) (hw0 : WT T σ0) (hx_64 : ∀ (i2 : Int) (i3 : Int) (σ : MS) , (WT T σ) → (FrC T [] σ0 σ) → (-2147483648 ≤ i2 ∧ i2 ≤ 2147483647) → (0 ≤ i3 ∧ i3 ≤ 2147483647) → Tn (d + 5) m_X6_alike 64 T σ [(0, .ref a), (1, .ref rx1), (2, .int (iI i2)), (3, .int (iI i3))] [] post) : ∀ (n : Nat) (i2 : Int) (i3 : Int) (σ : MS) , (WT T σ) → (FrC T [] σ0 σ) → (-2147483648 ≤ i2 ∧ i2 ≤ 2147483647) → (0 ≤ i3 ∧ i3 ≤ 2147483647) → (2147483700 - i3).toNat = n → Tn (d + 5) m_X6_alike 4 T σ [(0, .ref a), (1, .ref rx1), (2, .int (iI i2)), (3, .int (iI i3))] [] post := by
  intro n
  induction n using Nat.strongRecOn with
  | _ n ih =>
    intro i2 i3 σ hw hF r_i2 r_i3 hm
    refine tn_iload_n dX6_alike_4 rfl 3 rfl ?_
    refine tn_aload_n dX6_alike_5 rfl 1 rfl ?_
    refine tn_getI (ci := 1) (i := 1) (n := 6) (t := σ0.2.1 6 rx1) dX6_alike_6 rfl lay_1 (by decide) fl6_22 h_rx1 rfl rfl (rc_F hF (Or.inl (by decide)) (by decide) (rfl)) ?_
    have g1 : ((0 : Int) ≤ σ0.2.1 6 rx1 ∧ σ0.2.1 6 rx1 ≤ 5000) ∧ ((T rx1).1 = 50 → σ0.2.1 6 rx1 ≤ 200) := wf_6 hw0 h_rx1
    have g1x := g1.2
    replace g1 := g1.1
    have g1x := g1x t_rx1
    refine tn_icmp_ge (tgt := 64) dX6_alike_9 (by decide) ⟨by omega, by omega⟩ ⟨by omega, by omega⟩ (fun h2 => ?_) (fun h2 => ?_)
    · exact tn_sub [0, 1, 2, 3] rfl (hx_64 (i2) (i3) σ hw (FrC.rfl.trans (FrC.sub hF (by decide))) (by omega) (by omega))
    · refine tn_aload_n dX6_alike_12 rfl 1 rfl ?_
      refine tn_iload_n dX6_alike_13 rfl 3 rfl ?_
      refine tn_iconst dX6_alike_14 ?_
      refine tn_callV (M := m_X6_alike) (pc := 15) (ix := 34) (ci := 1) (M' := m_X1_get) (As := [.int (iI i3), .int (iI 0)]) (rest := []) dX6_alike_15 ok_X1_get im_X1_get se_X1_get ml6_34 np_X1_get rfl rfl h_rx1 rfl (Nat.le_of_ble_eq_true rfl) (Nat.le_of_ble_eq_true rfl) rfl (k_X1_get (d + 3) (T := T) (σ := σ) (a := rx1) (k := i3) (c := 0) h_rx1 (by omega) (by decide) hw (by omega)) (fun r3 T5 σ4 gt6 hp => ?_)
      obtain ⟨v8, rfl, rfl, rfl, f7⟩ := hp
      clear gt6
      show Tn _ _ 18 T σ [(0, .ref a), (1, .ref rx1), (2, .int (iI i2)), (3, .int (iI i3))] [.int (iI v8)] _
      refine tn_callSN (M := m_X6_alike) (pc := 18) (ix := 74) (M' := m_X11_isFive) (As := [.int (iI v8)]) (rest := []) dX6_alike_18 ok_X11_isFive stt_X11_isFive nl6_74 np_X11_isFive rfl (Nat.le_of_ble_eq_true rfl) (Nat.le_of_ble_eq_true rfl) rfl (k_X11_isFive (d + 3) (T := T) (σ := σ) (k := v8) (by omega) hw ) (fun r9 T11 σ10 gt12 hp => ?_)
      obtain ⟨v14, rfl, rfl, rfl, f13⟩ := hp
      clear gt12
      show Tn _ _ 21 T σ [(0, .ref a), (1, .ref rx1), (2, .int (iI i2)), (3, .int (iI i3))] [.int (iI v14)] _
      refine tn_if_eq (tgt := 33) dX6_alike_21 (by decide) ⟨by omega, by omega⟩ (fun h15 => ?_) (fun h15 => ?_)
      · refine tn_iconst dX6_alike_33 ?_
        refine tn_istore (L' := [(4, .int (iI (-1))), (0, .ref a), (1, .ref rx1), (2, .int (iI i2)), (3, .int (iI i3))]) dX6_alike_34 (by decide) rfl ?_
        refine tn_iload dX6_alike_36 0 rfl ?_
        refine tn_iconst dX6_alike_38 ?_
        refine tn_icmp_eq (tgt := 58) dX6_alike_39 (by decide) ⟨by decide, by decide⟩ ⟨by decide, by decide⟩ (fun _ => ?_) (fun h => absurd h (by decide))
        refine tn_iinc (q0 := 4) (L' := [(3, .int (iI (i3 + 1))), (4, .int (iI (-1))), (0, .ref a), (1, .ref rx1), (2, .int (iI i2))]) dX6_alike_58 rfl (by decide) rfl ?_
        refine tn_goto (tgt := 4) dX6_alike_61 (by decide) ?_
        exact tn_sub [2, 3, 4, 0] rfl (ih _ (by omega) (i2) (i3 + 1) σ hw (FrC.rfl.trans (FrC.sub hF (by decide))) (by omega) (by omega) rfl)
      · refine tn_aload_n dX6_alike_24 rfl 0 rfl ?_
        refine tn_aload_n dX6_alike_25 rfl 1 rfl ?_
        refine tn_iload_n dX6_alike_26 rfl 3 rfl ?_
        refine tn_callV (M := m_X6_alike) (pc := 27) (ix := 135) (ci := 6) (M' := m_X6_latestTwin) (As := [.ref rx1, .int (iI i3)]) (rest := []) dX6_alike_27 ok_X6_latestTwin im_X6_latestTwin se_X6_latestTwin ml6_135 np_X6_latestTwin rfl rfl h_a rfl (Nat.le_of_ble_eq_true rfl) (Nat.le_of_ble_eq_true rfl) rfl (k_X6_latestTwin (d) (T := T) (σ := σ) (a := a) (p1 := rx1) (p2 := i3) h_a h_rx1 t_rx1 (by omega) hw ) (fun r17 T19 σ18 gt20 hp => ?_)
        obtain ⟨v22, rfl, rfl, w23, F24, f21⟩ := hp
        clear gt20
        show Tn _ _ 30 T σ18 [(0, .ref a), (1, .ref rx1), (2, .int (iI i2)), (3, .int (iI i3))] [.int (iI v22)] _
        refine tn_goto (tgt := 34) dX6_alike_30 (by decide) ?_
        refine tn_istore (L' := [(4, .int (iI v22)), (0, .ref a), (1, .ref rx1), (2, .int (iI i2)), (3, .int (iI i3))]) dX6_alike_34 (by decide) rfl ?_
        refine tn_iload dX6_alike_36 0 rfl ?_
        refine tn_iconst dX6_alike_38 ?_
        refine tn_icmp_eq (tgt := 58) dX6_alike_39 (by decide) ⟨by omega, by omega⟩ ⟨by decide, by decide⟩ (fun h25 => ?_) (fun h25 => ?_)
        · refine tn_iinc (q0 := 4) (L' := [(3, .int (iI (i3 + 1))), (4, .int (iI v22)), (0, .ref a), (1, .ref rx1), (2, .int (iI i2))]) dX6_alike_58 rfl (by decide) rfl ?_
          refine tn_goto (tgt := 4) dX6_alike_61 (by decide) ?_
          exact tn_sub [2, 3, 4, 0] rfl (ih _ (by omega) (i2) (i3 + 1) σ18 w23 ((FrC.rfl.trans (FrC.sub hF (by decide))).trans (FrC.sub F24 (by decide))) (by omega) (by omega) rfl)
        · refine tn_aload_n dX6_alike_42 rfl 2 rfl ?_
          refine tn_iload_n dX6_alike_43 rfl 4 rfl ?_
          refine tn_iconst dX6_alike_44 ?_
          refine tn_aload_n dX6_alike_45 rfl 2 rfl ?_
          refine tn_iload dX6_alike_46 0 rfl ?_
          refine tn_iconst dX6_alike_48 ?_
          refine tn_callV (M := m_X6_alike) (pc := 49) (ix := 34) (ci := 1) (M' := m_X1_get) (As := [.int (iI v22), .int (iI 1)]) (rest := [.int (iI 2), .int (iI i3), .ref rx1]) dX6_alike_49 ok_X1_get im_X1_get se_X1_get ml6_34 np_X1_get rfl rfl h_rx1 rfl (Nat.le_of_ble_eq_true rfl) (Nat.le_of_ble_eq_true rfl) rfl (k_X1_get (d + 3) (T := T) (σ := σ18) (a := rx1) (k := v22) (c := 1) h_rx1 (by omega) (by decide) w23 (by omega)) (fun r26 T28 σ27 gt29 hp => ?_)
          obtain ⟨v31, rfl, rfl, rfl, f30⟩ := hp
          clear gt29
          show Tn _ _ 52 T σ18 [(4, .int (iI v22)), (0, .ref a), (1, .ref rx1), (2, .int (iI i2)), (3, .int (iI i3))] [.int (iI v31), .int (iI 2), .int (iI i3), .ref rx1] _
          refine tn_callV (M := m_X6_alike) (pc := 52) (ix := 81) (ci := 1) (M' := m_X1_becomeCopy) (As := [.int (iI i3), .int (iI 2), .int (iI v31)]) (rest := []) dX6_alike_52 ok_X1_becomeCopy im_X1_becomeCopy se_X1_becomeCopy ml6_81 np_X1_becomeCopy rfl rfl h_rx1 rfl (Nat.le_of_ble_eq_true rfl) (Nat.le_of_ble_eq_true rfl) rfl (k_X1_becomeCopy (d + 2) (T := T) (σ := σ18) (a := rx1) (k := i3) (y := 2) (z := v31) h_rx1 t_rx1 (by omega) (by decide) (by omega) w23 ) (fun r32 T34 σ33 gt35 hp => ?_)
          obtain ⟨rfl, rfl, w37, F38⟩ := hp
          clear gt35
          show Tn _ _ 55 T σ33 [(4, .int (iI v22)), (0, .ref a), (1, .ref rx1), (2, .int (iI i2)), (3, .int (iI i3))] [] _
          refine tn_iinc (q0 := 3) (L' := [(2, .int (iI (i2 + 1))), (4, .int (iI v22)), (0, .ref a), (1, .ref rx1), (3, .int (iI i3))]) dX6_alike_55 rfl (by decide) rfl ?_
          obtain ⟨z39, g40, g40e⟩ := wr_ex (i2 + 1)
          rw [g40e]
          have g40r : -2147483648 ≤ z39 ∧ z39 ≤ 2147483647 := g40
          refine tn_iinc (q0 := 4) (L' := [(3, .int (iI (i3 + 1))), (2, .int (iI z39)), (4, .int (iI v22)), (0, .ref a), (1, .ref rx1)]) dX6_alike_58 rfl (by decide) rfl ?_
          refine tn_goto (tgt := 4) dX6_alike_61 (by decide) ?_
          exact tn_sub [3, 4, 1, 0] rfl (ih _ (by omega) (z39) (i3 + 1) σ33 w37 (((FrC.rfl.trans (FrC.sub hF (by decide))).trans (FrC.sub F24 (by decide))).trans (FrC.sub F38 (by decide))) (by omega) (by omega) rfl)
theorem dX6_alike_64 : decode cX6_alike 64 = .ok (.iload_n 2, 1) := by decide +kernel
theorem dX6_alike_65 : decode cX6_alike 65 = .ok (.ireturn, 1) := by decide +kernel
set_option maxRecDepth 20000 in
theorem k_X6_alike (d : Nat) {T : CT} {σ : MS} {a : Nat} {p1 : Nat} (ha : OB T a 6) (h_p1 : OB T p1 1) (t_p1 : (T p1).1 = 50) (hw : WT T σ) : Tn (d + 5) m_X6_alike 0 T σ [(0, .ref a), (1, .ref p1)] [] (fun ro T2 σ2 => ∃ v : Int, ro = some (.int (iI v)) ∧ T = T2 ∧ WT T2 σ2 ∧ FrC T [] σ σ2 ∧ (-2147483648 ≤ v ∧ v ≤ 2147483647)) := by
  refine tn_iconst dX6_alike_0 ?_
  refine tn_istore_n (L' := [(2, .int (iI 0)), (0, .ref a), (1, .ref p1)]) dX6_alike_1 rfl (by decide) rfl ?_
  refine tn_iconst dX6_alike_2 ?_
  refine tn_istore_n (L' := [(3, .int (iI 0)), (2, .int (iI 0)), (0, .ref a), (1, .ref p1)]) dX6_alike_3 rfl (by decide) rfl ?_
  refine tn_sub [2, 3, 1, 0] rfl (l_X6_alike_4 (d) (T := T) (σ0 := σ) (a := a) (rx1 := p1) ha h_p1 t_p1 hw (fun i21 i32 σ3 w6 F7 r8 r9 => ?_) _ (0) (0) σ hw FrC.rfl (by omega) (by omega) rfl)
  show Tn _ _ 64 T σ3 [(0, .ref a), (1, .ref p1), (2, .int (iI i21)), (3, .int (iI i32))] [] _
  refine tn_iload_n dX6_alike_64 rfl 2 rfl ?_
  exact tn_iret rfl dX6_alike_65 ⟨_, rfl, rfl, w6, (FrC.rfl.trans (FrC.sub F7 (by decide))), by omega⟩
