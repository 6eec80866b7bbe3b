section
theorem cd_X6_alike : Cond.code yX6_alike cX6_alike 5 (some .int) ∈ pWW := pw5 (List.mem_of_getElem? (i := 125) rfl) rfl
abbrev m_X6_alike : MT := (yX6_alike, cX6_alike, 5, (some .int))
theorem ok_X6_alike : pOk m_X6_alike := ⟨⟨cd_X6_alike, ini_6⟩, by decide +kernel, ⟨by decide +kernel, by decide +kernel⟩, Nat.le_of_ble_eq_true rfl⟩
theorem np_X6_alike : (parseMethodDescriptor yX6_alike.desc).map (fun d => d.parameters.length) = some 1 := by decide +kernel
theorem im_X6_alike : Cond.instanceMethod yX6_alike ∈ pWW := pw5 (List.mem_of_getElem? (i := 123) rfl) rfl
theorem se_X6_alike : Cond.selects RX6 yX6_alike yX6_alike ∈ pWW := pw5 (List.mem_of_getElem? (i := 124) rfl) rfl
theorem ml6_135 : Cond.methodLink RX6 135 yX6_latestTwin ∈ pWW := pw5 (List.mem_of_getElem? (i := 126) rfl) rfl
theorem dX6_alike_0 : decode cX6_alike 0 = .ok (.iconst 0, 1) := by decide +kernel
theorem dX6_alike_1 : decode cX6_alike 1 = .ok (.istore_n 2, 1) := by decide +kernel
theorem dX6_alike_2 : decode cX6_alike 2 = .ok (.iconst 0, 1) := by decide +kernel
theorem dX6_alike_3 : decode cX6_alike 3 = .ok (.istore_n 3, 1) := by decide +kernel
theorem dX6_alike_4 : decode cX6_alike 4 = .ok (.iload_n 3, 1) := by decide +kernel
theorem dX6_alike_5 : decode cX6_alike 5 = .ok (.aload_n 1, 1) := by decide +kernel
theorem dX6_alike_6 : decode cX6_alike 6 = .ok (.getfield 22, 3) := by decide +kernel
theorem dX6_alike_9 : decode cX6_alike 9 = .ok (.if_icmp .ge 55, 3) := by decide +kernel
theorem dX6_alike_12 : decode cX6_alike 12 = .ok (.aload_n 1, 1) := by decide +kernel
theorem dX6_alike_13 : decode cX6_alike 13 = .ok (.iload_n 3, 1) := by decide +kernel
theorem dX6_alike_14 : decode cX6_alike 14 = .ok (.iconst 0, 1) := by decide +kernel
theorem dX6_alike_15 : decode cX6_alike 15 = .ok (.invokevirtual 34, 3) := by decide +kernel
theorem dX6_alike_18 : decode cX6_alike 18 = .ok (.invokestatic 74, 3) := by decide +kernel
theorem dX6_alike_21 : decode cX6_alike 21 = .ok (.ifCond .eq 12, 3) := by decide +kernel
theorem dX6_alike_33 : decode cX6_alike 33 = .ok (.iconst (-1), 1) := by decide +kernel
theorem dX6_alike_34 : decode cX6_alike 34 = .ok (.istore 4, 2) := by decide +kernel
theorem dX6_alike_36 : decode cX6_alike 36 = .ok (.iload 4, 2) := by decide +kernel
theorem dX6_alike_38 : decode cX6_alike 38 = .ok (.iconst (-1), 1) := by decide +kernel
theorem dX6_alike_39 : decode cX6_alike 39 = .ok (.if_icmp .eq 19, 3) := by decide +kernel
theorem dX6_alike_58 : decode cX6_alike 58 = .ok (.iinc 3 1, 3) := by decide +kernel
theorem dX6_alike_61 : decode cX6_alike 61 = .ok (.goto (-57), 3) := by decide +kernel
theorem dX6_alike_24 : decode cX6_alike 24 = .ok (.aload_n 0, 1) := by decide +kernel
theorem dX6_alike_25 : decode cX6_alike 25 = .ok (.aload_n 1, 1) := by decide +kernel
theorem dX6_alike_26 : decode cX6_alike 26 = .ok (.iload_n 3, 1) := by decide +kernel
theorem dX6_alike_27 : decode cX6_alike 27 = .ok (.invokevirtual 135, 3) := by decide +kernel
theorem dX6_alike_30 : decode cX6_alike 30 = .ok (.goto 4, 3) := by decide +kernel
theorem dX6_alike_42 : decode cX6_alike 42 = .ok (.aload_n 1, 1) := by decide +kernel
theorem dX6_alike_43 : decode cX6_alike 43 = .ok (.iload_n 3, 1) := by decide +kernel
theorem dX6_alike_44 : decode cX6_alike 44 = .ok (.iconst 2, 1) := by decide +kernel
theorem dX6_alike_45 : decode cX6_alike 45 = .ok (.aload_n 1, 1) := by decide +kernel
theorem dX6_alike_46 : decode cX6_alike 46 = .ok (.iload 4, 2) := by decide +kernel
theorem dX6_alike_48 : decode cX6_alike 48 = .ok (.iconst 1, 1) := by decide +kernel
theorem dX6_alike_49 : decode cX6_alike 49 = .ok (.invokevirtual 34, 3) := by decide +kernel
theorem dX6_alike_52 : decode cX6_alike 52 = .ok (.invokevirtual 81, 3) := by decide +kernel
theorem dX6_alike_55 : decode cX6_alike 55 = .ok (.iinc 2 1, 3) := by decide +kernel
set_option maxRecDepth 20000 in
theorem l_X6_alike_4 (d : Nat) {T : CT} {σ0 : MS} {a : Nat} {rx1 : Nat} {post : Option Value → CT → MS → Prop} (h_a : OB T a 6) (h_rx1 : OB T rx1 1) (t_rx1 : (T rx1).1 = 50) (hw0 : WT T σ0) (hx_64 : ∀ (i2 : Int) (i3 : Int) (σ : MS) , (WT T σ) → (FrC T [] σ0 σ) → (-2147483648 ≤ i2 ∧ i2 ≤ 2147483647) → (0 ≤ i3 ∧ i3 ≤ 2147483647) → Tn (d + 5) m_X6_alike 64 T σ [(0, .ref a), (1, .ref rx1), (2, .int (iI i2)), (3, .int (iI i3))] [] post) : ∀ (n : Nat) (i2 : Int) (i3 : Int) (σ : MS) , (WT T σ) → (FrC T [] σ0 σ) → (-2147483648 ≤ i2 ∧ i2 ≤ 2147483647) → (0 ≤ i3 ∧ i3 ≤ 2147483647) → (2147483700 - i3).toNat = n → Tn (d + 5) m_X6_alike 4 T σ [(0, .ref a), (1, .ref rx1), (2, .int (iI i2)), (3, .int (iI i3))] [] post := by
  intro n
  induction n using Nat.strongRecOn with
  | _ n ih =>
    intro i2 i3 σ hw hF r_i2 r_i3 hm
    refine tn_iload_n dX6_alike_4 rfl 3 rfl ?_
    refine tn_aload_n dX6_alike_5 rfl 1 rfl ?_
    refine tn_getI (ci := 1) (i := 1) (n := 6) (t := σ0.2.1 6 rx1) dX6_alike_6 rfl lay_1 (by decide) fl6_22 h_rx1 rfl rfl (rc_F hF (Or.inl (by decide)) (by decide) (rfl)) ?_
    have g1 : ((0 : Int) ≤ σ0.2.1 6 rx1 ∧ σ0.2.1 6 rx1 ≤ 5000) ∧ ((T rx1).1 = 50 → σ0.2.1 6 rx1 ≤ 200) := wf_6 hw0 h_rx1
    have g1x := g1.2
    replace g1 := g1.1
    have g1x := g1x t_rx1
    refine tn_icmp_ge (tgt := 64) dX6_alike_9 (by decide) ⟨by omega, by omega⟩ ⟨by omega, by omega⟩ (fun h2 => ?_) (fun h2 => ?_)
    · exact tn_sub [0, 1, 2, 3] rfl (hx_64 (i2) (i3) σ hw (FrC.rfl.trans (FrC.sub hF (by decide))) (by omega) (by omega))
    · refine tn_aload_n dX6_alike_12 rfl 1 rfl ?_
      refine tn_iload_n dX6_alike_13 rfl 3 rfl ?_
      refine tn_iconst dX6_alike_14 ?_
      refine tn_callV (M := m_X6_alike) (pc := 15) (ix := 34) (ci := 1) (M' := m_X1_get) (As := [.int (iI i3), .int (iI 0)]) (rest := []) dX6_alike_15 ok_X1_get im_X1_get se_X1_get ml6_34 np_X1_get rfl rfl h_rx1 rfl (Nat.le_of_ble_eq_true rfl) (Nat.le_of_ble_eq_true rfl) rfl (k_X1_get (d + 3) (T := T) (σ := σ) (a := rx1) (k := i3) (c := 0) h_rx1 (by omega) (by decide) hw (by omega)) (fun r3 T5 σ4 gt6 hp => ?_)
      obtain ⟨v8, rfl, rfl, rfl, f7⟩ := hp
      clear gt6
      show Tn _ _ 18 T σ [(0, .ref a), (1, .ref rx1), (2, .int (iI i2)), (3, .int (iI i3))] [.int (iI v8)] _
      refine tn_callSN (M := m_X6_alike) (pc := 18) (ix := 74) (M' := m_X11_isFive) (As := [.int (iI v8)]) (rest := []) dX6_alike_18 ok_X11_isFive stt_X11_isFive nl6_74 np_X11_isFive rfl (Nat.le_of_ble_eq_true rfl) (Nat.le_of_ble_eq_true rfl) rfl (k_X11_isFive (d + 3) (T := T) (σ := σ) (k := v8) (by omega) hw ) (fun r9 T11 σ10 gt12 hp => ?_)
      obtain ⟨v14, rfl, rfl, rfl, f13⟩ := hp
      clear gt12
      show Tn _ _ 21 T σ [(0, .ref a), (1, .ref rx1), (2, .int (iI i2)), (3, .int (iI i3))] [.int (iI v14)] _
      refine tn_if_eq (tgt := 33) dX6_alike_21 (by decide) ⟨by omega, by omega⟩ (fun h15 => ?_) (fun h15 => ?_)
      · refine tn_iconst dX6_alike_33 ?_
        refine tn_istore (L' := [(4, .int (iI (-1))), (0, .ref a), (1, .ref rx1), (2, .int (iI i2)), (3, .int (iI i3))]) dX6_alike_34 (by decide) rfl ?_
        refine tn_iload dX6_alike_36 0 rfl ?_
        refine tn_iconst dX6_alike_38 ?_
        refine tn_icmp_eq (tgt := 58) dX6_alike_39 (by decide) ⟨by decide, by decide⟩ ⟨by decide, by decide⟩ (fun _ => ?_) (fun h => absurd h (by decide))
        refine tn_iinc (q0 := 4) (L' := [(3, .int (iI (i3 + 1))), (4, .int (iI (-1))), (0, .ref a), (1, .ref rx1), (2, .int (iI i2))]) dX6_alike_58 rfl (by decide) rfl ?_
        refine tn_goto (tgt := 4) dX6_alike_61 (by decide) ?_
        exact tn_sub [2, 3, 4, 0] rfl (ih _ (by omega) (i2) (i3 + 1) σ hw (FrC.rfl.trans (FrC.sub hF (by decide))) (by omega) (by omega) rfl)
      · refine tn_aload_n dX6_alike_24 rfl 0 rfl ?_
        refine tn_aload_n dX6_alike_25 rfl 1 rfl ?_
        refine tn_iload_n dX6_alike_26 rfl 3 rfl ?_
        refine tn_callV (M := m_X6_alike) (pc := 27) (ix := 135) (ci := 6) (M' := m_X6_latestTwin) (As := [.ref rx1, .int (iI i3)]) (rest := []) dX6_alike_27 ok_X6_latestTwin im_X6_latestTwin se_X6_latestTwin ml6_135 np_X6_latestTwin rfl rfl h_a rfl (Nat.le_of_ble_eq_true rfl) (Nat.le_of_ble_eq_true rfl) rfl (k_X6_latestTwin (d) (T := T) (σ := σ) (a := a) (p1 := rx1) (p2 := i3) h_a h_rx1 t_rx1 (by omega) hw ) (fun r17 T19 σ18 gt20 hp => ?_)
        obtain ⟨v22, rfl, rfl, w23, F24, f21⟩ := hp
        clear gt20
        show Tn _ _ 30 T σ18 [(0, .ref a), (1, .ref rx1), (2, .int (iI i2)), (3, .int (iI i3))] [.int (iI v22)] _
        refine tn_goto (tgt := 34) dX6_alike_30 (by decide) ?_
        refine tn_istore (L' := [(4, .int (iI v22)), (0, .ref a), (1, .ref rx1), (2, .int (iI i2)), (3, .int (iI i3))]) dX6_alike_34 (by decide) rfl ?_
        refine tn_iload dX6_alike_36 0 rfl ?_
        refine tn_iconst dX6_alike_38 ?_
        refine tn_icmp_eq (tgt := 58) dX6_alike_39 (by decide) ⟨by omega, by omega⟩ ⟨by decide, by decide⟩ (fun h25 => ?_) (fun h25 => ?_)
        · refine tn_iinc (q0 := 4) (L' := [(3, .int (iI (i3 + 1))), (4, .int (iI v22)), (0, .ref a), (1, .ref rx1), (2, .int (iI i2))]) dX6_alike_58 rfl (by decide) rfl ?_
          refine tn_goto (tgt := 4) dX6_alike_61 (by decide) ?_
          exact tn_sub [2, 3, 4, 0] rfl (ih _ (by omega) (i2) (i3 + 1) σ18 w23 ((FrC.rfl.trans (FrC.sub hF (by decide))).trans (FrC.sub F24 (by decide))) (by omega) (by omega) rfl)
        · refine tn_aload_n dX6_alike_42 rfl 2 rfl ?_
          refine tn_iload_n dX6_alike_43 rfl 4 rfl ?_
          refine tn_iconst dX6_alike_44 ?_
          refine tn_aload_n dX6_alike_45 rfl 2 rfl ?_
          refine tn_iload dX6_alike_46 0 rfl ?_
          refine tn_iconst dX6_alike_48 ?_
          refine tn_callV (M := m_X6_alike) (pc := 49) (ix := 34) (ci := 1) (M' := m_X1_get) (As := [.int (iI v22), .int (iI 1)]) (rest := [.int (iI 2), .int (iI i3), .ref rx1]) dX6_alike_49 ok_X1_get im_X1_get se_X1_get ml6_34 np_X1_get rfl rfl h_rx1 rfl (Nat.le_of_ble_eq_true rfl) (Nat.le_of_ble_eq_true rfl) rfl (k_X1_get (d + 3) (T := T) (σ := σ18) (a := rx1) (k := v22) (c := 1) h_rx1 (by omega) (by decide) w23 (by omega)) (fun r26 T28 σ27 gt29 hp => ?_)
          obtain ⟨v31, rfl, rfl, rfl, f30⟩ := hp
          clear gt29
          show Tn _ _ 52 T σ18 [(4, .int (iI v22)), (0, .ref a), (1, .ref rx1), (2, .int (iI i2)), (3, .int (iI i3))] [.int (iI v31), .int (iI 2), .int (iI i3), .ref rx1] _
          refine tn_callV (M := m_X6_alike) (pc := 52) (ix := 81) (ci := 1) (M' := m_X1_becomeCopy) (As := [.int (iI i3), .int (iI 2), .int (iI v31)]) (rest := []) dX6_alike_52 ok_X1_becomeCopy im_X1_becomeCopy se_X1_becomeCopy ml6_81 np_X1_becomeCopy rfl rfl h_rx1 rfl (Nat.le_of_ble_eq_true rfl) (Nat.le_of_ble_eq_true rfl) rfl (k_X1_becomeCopy (d + 2) (T := T) (σ := σ18) (a := rx1) (k := i3) (y := 2) (z := v31) h_rx1 t_rx1 (by omega) (by decide) (by omega) w23 ) (fun r32 T34 σ33 gt35 hp => ?_)
          obtain ⟨rfl, rfl, w37, F38⟩ := hp
          clear gt35
          show Tn _ _ 55 T σ33 [(4, .int (iI v22)), (0, .ref a), (1, .ref rx1), (2, .int (iI i2)), (3, .int (iI i3))] [] _
          refine tn_iinc (q0 := 3) (L' := [(2, .int (iI (i2 + 1))), (4, .int (iI v22)), (0, .ref a), (1, .ref rx1), (3, .int (iI i3))]) dX6_alike_55 rfl (by decide) rfl ?_
          obtain ⟨z39, g40, g40e⟩ := wr_ex (i2 + 1)
          rw [g40e]
          have g40r : -2147483648 ≤ z39 ∧ z39 ≤ 2147483647 := g40
          refine tn_iinc (q0 := 4) (L' := [(3, .int (iI (i3 + 1))), (2, .int (iI z39)), (4, .int (iI v22)), (0, .ref a), (1, .ref rx1)]) dX6_alike_58 rfl (by decide) rfl ?_
          refine tn_goto (tgt := 4) dX6_alike_61 (by decide) ?_
          exact tn_sub [3, 4, 1, 0] rfl (ih _ (by omega) (z39) (i3 + 1) σ33 w37 (((FrC.rfl.trans (FrC.sub hF (by decide))).trans (FrC.sub F24 (by decide))).trans (FrC.sub F38 (by decide))) (by omega) (by omega) rfl)
theorem dX6_alike_64 : decode cX6_alike 64 = .ok (.iload_n 2, 1) := by decide +kernel
theorem dX6_alike_65 : decode cX6_alike 65 = .ok (.ireturn, 1) := by decide +kernel
set_option maxRecDepth 20000 in
theorem k_X6_alike (d : Nat) {T : CT} {σ : MS} {a : Nat} {p1 : Nat} (ha : OB T a 6) (h_p1 : OB T p1 1) (t_p1 : (T p1).1 = 50) (hw : WT T σ) : Tn (d + 5) m_X6_alike 0 T σ [(0, .ref a), (1, .ref p1)] [] (fun ro T2 σ2 => ∃ v : Int, ro = some (.int (iI v)) ∧ T = T2 ∧ WT T2 σ2 ∧ FrC T [] σ σ2 ∧ (-2147483648 ≤ v ∧ v ≤ 2147483647)) := by
  refine tn_iconst dX6_alike_0 ?_
  refine tn_istore_n (L' := [(2, .int (iI 0)), (0, .ref a), (1, .ref p1)]) dX6_alike_1 rfl (by decide) rfl ?_
  refine tn_iconst dX6_alike_2 ?_
  refine tn_istore_n (L' := [(3, .int (iI 0)), (2, .int (iI 0)), (0, .ref a), (1, .ref p1)]) dX6_alike_3 rfl (by decide) rfl ?_
  refine tn_sub [2, 3, 1, 0] rfl (l_X6_alike_4 (d) (T := T) (σ0 := σ) (a := a) (rx1 := p1) ha h_p1 t_p1 hw (fun i21 i32 σ3 w6 F7 r8 r9 => ?_) _ (0) (0) σ hw FrC.rfl (by omega) (by omega) rfl)
  show Tn _ _ 64 T σ3 [(0, .ref a), (1, .ref p1), (2, .int (iI i21)), (3, .int (iI i32))] [] _
  refine tn_iload_n dX6_alike_64 rfl 2 rfl ?_
  exact tn_iret rfl dX6_alike_65 ⟨_, rfl, rfl, w6, (FrC.rfl.trans (FrC.sub F7 (by decide))), by omega⟩
end
section
theorem cd_X8_findFirst : Cond.code yX8_findFirst cX8_findFirst 3 none ∈ pWW := pw5 (List.mem_of_getElem? (i := 209) rfl) rfl
theorem ini_8 : Cond.initialized RX8 ∈ pWW := pw1 (List.mem_of_getElem? (i := 10) rfl) rfl
abbrev m_X8_findFirst : MT := (yX8_findFirst, cX8_findFirst, 3, none)
theorem ok_X8_findFirst : pOk m_X8_findFirst := ⟨⟨cd_X8_findFirst, ini_8⟩, by decide +kernel, ⟨by decide +kernel, by decide +kernel⟩, Nat.le_of_ble_eq_true rfl⟩
theorem np_X8_findFirst : (parseMethodDescriptor yX8_findFirst.desc).map (fun d => d.parameters.length) = some 1 := by decide +kernel
theorem im_X8_findFirst : Cond.instanceMethod yX8_findFirst ∈ pWW := pw5 (List.mem_of_getElem? (i := 208) rfl) rfl
theorem se_X8_findFirst : Cond.selects RX8 yX8_findFirst yX8_findFirst ∈ pWW := pws (List.mem_map.mpr ⟨_, lw_pin 75 rfl, rfl⟩) rfl
theorem fl8_34 : Cond.fieldLink RX8 34 (TX8 0).1 (TX8 0).2.1 (TX8 0).2.2.1 ∈ pWW := pw2 (List.mem_of_getElem? (i := 98) rfl) rfl
theorem fl8_89 : Cond.fieldLink RX8 89 (TX3 0).1 (TX3 0).2.1 (TX3 0).2.2.1 ∈ pWW := pw1 (List.mem_of_getElem? (i := 221) rfl) rfl
theorem fl8_15 : Cond.fieldLink RX8 15 (TX8 2).1 (TX8 2).2.1 (TX8 2).2.2.1 ∈ pWW := pw2 (List.mem_of_getElem? (i := 100) rfl) rfl
theorem mla8_92 : Cond.methodLink RX8 92 arraycopyName ∈ pWW := pw5 (List.mem_of_getElem? (i := 210) rfl) rfl
theorem fl8_98 : Cond.fieldLink RX8 98 (TX1 3).1 (TX1 3).2.1 (TX1 3).2.2.1 ∈ pWW := pw1 (List.mem_of_getElem? (i := 93) rfl) rfl
theorem ml8_101 : Cond.methodLink RX8 101 yX1_homeOf ∈ pWW := pw5 (List.mem_of_getElem? (i := 211) rfl) rfl
theorem nl8_104 : (RX8, 104, yX11_include, "LineKeeper") ∈ nst_M := List.mem_of_getElem? (i := 40) rfl
theorem dX8_findFirst_0 : decode cX8_findFirst 0 = .ok (.aload_n 0, 1) := by decide +kernel
theorem dX8_findFirst_1 : decode cX8_findFirst 1 = .ok (.getfield 34, 3) := by decide +kernel
theorem dX8_findFirst_4 : decode cX8_findFirst 4 = .ok (.getfield 89, 3) := by decide +kernel
theorem dX8_findFirst_7 : decode cX8_findFirst 7 = .ok (.iconst 0, 1) := by decide +kernel
theorem dX8_findFirst_8 : decode cX8_findFirst 8 = .ok (.aload_n 0, 1) := by decide +kernel
theorem dX8_findFirst_9 : decode cX8_findFirst 9 = .ok (.getfield 15, 3) := by decide +kernel
theorem dX8_findFirst_12 : decode cX8_findFirst 12 = .ok (.iconst 0, 1) := by decide +kernel
theorem dX8_findFirst_13 : decode cX8_findFirst 13 = .ok (.iconst 3, 1) := by decide +kernel
theorem dX8_findFirst_14 : decode cX8_findFirst 14 = .ok (.invokestatic 92, 3) := by decide +kernel
theorem dX8_findFirst_17 : decode cX8_findFirst 17 = .ok (.iconst 0, 1) := by decide +kernel
theorem dX8_findFirst_18 : decode cX8_findFirst 18 = .ok (.istore_n 2, 1) := by decide +kernel
theorem dX8_findFirst_19 : decode cX8_findFirst 19 = .ok (.iload_n 2, 1) := by decide +kernel
theorem dX8_findFirst_20 : decode cX8_findFirst 20 = .ok (.aload_n 1, 1) := by decide +kernel
theorem dX8_findFirst_21 : decode cX8_findFirst 21 = .ok (.getfield 98, 3) := by decide +kernel
theorem dX8_findFirst_24 : decode cX8_findFirst 24 = .ok (.if_icmp .ge 23, 3) := by decide +kernel
theorem dX8_findFirst_27 : decode cX8_findFirst 27 = .ok (.aload_n 0, 1) := by decide +kernel
theorem dX8_findFirst_28 : decode cX8_findFirst 28 = .ok (.getfield 15, 3) := by decide +kernel
theorem dX8_findFirst_31 : decode cX8_findFirst 31 = .ok (.iconst 0, 1) := by decide +kernel
theorem dX8_findFirst_32 : decode cX8_findFirst 32 = .ok (.aload_n 1, 1) := by decide +kernel
theorem dX8_findFirst_33 : decode cX8_findFirst 33 = .ok (.iconst 0, 1) := by decide +kernel
theorem dX8_findFirst_34 : decode cX8_findFirst 34 = .ok (.iload_n 2, 1) := by decide +kernel
theorem dX8_findFirst_35 : decode cX8_findFirst 35 = .ok (.invokevirtual 101, 3) := by decide +kernel
theorem dX8_findFirst_38 : decode cX8_findFirst 38 = .ok (.invokestatic 104, 3) := by decide +kernel
theorem dX8_findFirst_41 : decode cX8_findFirst 41 = .ok (.iinc 2 1, 3) := by decide +kernel
theorem dX8_findFirst_44 : decode cX8_findFirst 44 = .ok (.goto (-25), 3) := by decide +kernel
set_option maxRecDepth 20000 in
theorem l_X8_findFirst_19 (d : Nat) {T : CT} {σ0 : MS} {a : Nat} {rx1 : Nat} {post : Option Value → CT → MS → Prop} (h_a : OB T a 8) (h_rx1 : OB T rx1 1) (t_rx1 : (T rx1).1 = 50) (hw0 : WT T σ0) (hx_47 : ∀ (i2 : Int) (σ : MS) , (WT T σ) → (FrC T [] σ0 σ) → (0 ≤ i2 ∧ i2 ≤ 2147483647) → Tn (d + 3) m_X8_findFirst 47 T σ [(0, .ref a), (1, .ref rx1), (2, .int (iI i2))] [] post) : ∀ (n : Nat) (i2 : Int) (σ : MS) , (WT T σ) → (FrC T [] σ0 σ) → (0 ≤ i2 ∧ i2 ≤ 2147483647) → (2147483700 - i2).toNat = n → Tn (d + 3) m_X8_findFirst 19 T σ [(0, .ref a), (1, .ref rx1), (2, .int (iI i2))] [] post := by
  intro n
  induction n using Nat.strongRecOn with
  | _ n ih =>
    intro i2 σ hw hF r_i2 hm
    refine tn_iload_n dX8_findFirst_19 rfl 2 rfl ?_
    refine tn_aload_n dX8_findFirst_20 rfl 1 rfl ?_
    refine tn_getI (ci := 1) (i := 3) (n := 8) (t := σ0.2.1 8 rx1) dX8_findFirst_21 rfl lay_1 (by decide) fl8_98 h_rx1 rfl rfl (rc_F hF (Or.inl (by decide)) (by decide) (rfl)) ?_
    have g1 : ((0 : Int) ≤ σ0.2.1 8 rx1 ∧ σ0.2.1 8 rx1 ≤ 4) := wf_8 hw0 h_rx1
    refine tn_icmp_ge (tgt := 47) dX8_findFirst_24 (by decide) ⟨by omega, by omega⟩ ⟨by omega, by omega⟩ (fun h2 => ?_) (fun h2 => ?_)
    · exact tn_sub [0, 1, 2] rfl (hx_47 (i2) σ hw (FrC.rfl.trans (FrC.sub hF (by decide))) (by omega))
    · refine tn_aload_n dX8_findFirst_27 rfl 0 rfl ?_
      obtain ⟨x3, hx4, hk5, hl6⟩ : ∃ x : Nat, σ0.2.1 74 a = (x : Int) ∧ AR T x 3 3 3 := wf_74 hw0 h_a
      refine tn_getR (ci := 8) (i := 2) (n := 74) (x := x3) dX8_findFirst_28 rfl lay_8 (by decide) fl8_15 h_a rfl rfl (rc_F hF (Or.inl (by decide)) (by decide) (hx4)) ?_
      refine tn_iconst dX8_findFirst_31 ?_
      refine tn_aload_n dX8_findFirst_32 rfl 1 rfl ?_
      refine tn_iconst dX8_findFirst_33 ?_
      refine tn_iload_n dX8_findFirst_34 rfl 2 rfl ?_
      refine tn_callV (M := m_X8_findFirst) (pc := 35) (ix := 101) (ci := 1) (M' := m_X1_homeOf) (As := [.int (iI 0), .int (iI i2)]) (rest := [.int (iI 0), .ref x3]) dX8_findFirst_35 ok_X1_homeOf im_X1_homeOf se_X1_homeOf ml8_101 np_X1_homeOf rfl rfl h_rx1 rfl (Nat.le_of_ble_eq_true rfl) (Nat.le_of_ble_eq_true rfl) rfl (k_X1_homeOf (d) (T := T) (σ := σ) (a := rx1) (f := 0) (m := i2) h_rx1 (by decide) (by omega) hw ) (fun r7 T9 σ8 gt10 hp => ?_)
      obtain ⟨v12, rfl, rfl, rfl, f11⟩ := hp
      clear gt10
      show Tn _ _ 38 T σ [(0, .ref a), (1, .ref rx1), (2, .int (iI i2))] [.int (iI v12), .int (iI 0), .ref x3] _
      refine tn_callSN (M := m_X8_findFirst) (pc := 38) (ix := 104) (M' := m_X11_include) (As := [.ref x3, .int (iI 0), .int (iI v12)]) (rest := []) dX8_findFirst_38 ok_X11_include stt_X11_include nl8_104 np_X11_include rfl (Nat.le_of_ble_eq_true rfl) (Nat.le_of_ble_eq_true rfl) rfl (k_X11_include (d) (T := T) (σ := σ) (x := x3) (k := 0) (r := v12) hk5 (by omega) (by decide) (by omega) hw ) (fun r13 T15 σ14 gt16 hp => ?_)
      obtain ⟨rfl, rfl, w18, F19⟩ := hp
      clear gt16
      show Tn _ _ 41 T σ14 [(0, .ref a), (1, .ref rx1), (2, .int (iI i2))] [] _
      refine tn_iinc (q0 := 2) (L' := [(2, .int (iI (i2 + 1))), (0, .ref a), (1, .ref rx1)]) dX8_findFirst_41 rfl (by decide) rfl ?_
      refine tn_goto (tgt := 19) dX8_findFirst_44 (by decide) ?_
      exact tn_sub [1, 2, 0] rfl (ih _ (by omega) (i2 + 1) σ14 w18 ((FrC.rfl.trans (FrC.sub hF (by decide))).trans (FrC.sub F19 (by decide))) (by omega) rfl)
theorem dX8_findFirst_47 : decode cX8_findFirst 47 = .ok (.return_, 1) := by decide +kernel
set_option maxRecDepth 20000 in
theorem k_X8_findFirst (d : Nat) {T : CT} {σ : MS} {a : Nat} {p1 : Nat} (ha : OB T a 8) (h_p1 : OB T p1 1) (t_p1 : (T p1).1 = 50) (hw : WT T σ) : Tn (d + 3) m_X8_findFirst 0 T σ [(0, .ref a), (1, .ref p1)] [] (fun ro T2 σ2 => ro = none ∧ T = T2 ∧ WT T2 σ2 ∧ FrC T [] σ σ2) := by
  refine tn_aload_n dX8_findFirst_0 rfl 0 rfl ?_
  obtain ⟨x1, hx2, hk3⟩ : ∃ x : Nat, σ.2.1 72 a = (x : Int) ∧ (T x).1 = 33 := wf_72 hw ha
  have hk3o : OB T x1 3 := ⟨by omega, by rw [hk3]; rfl, by omega⟩
  refine tn_getR (ci := 8) (i := 0) (n := 72) (x := x1) dX8_findFirst_1 rfl lay_8 (by decide) fl8_34 ha rfl rfl (hx2) ?_
  obtain ⟨x5, hx6, hk7, hl8⟩ : ∃ x : Nat, σ.2.1 18 x1 = (x : Int) ∧ AR T x 3 603 603 := wf_18 hw hk3o
  refine tn_getR (ci := 3) (i := 0) (n := 18) (x := x5) dX8_findFirst_4 rfl lay_3 (by decide) fl8_89 hk3o rfl rfl (hx6) ?_
  refine tn_iconst dX8_findFirst_7 ?_
  refine tn_aload_n dX8_findFirst_8 rfl 0 rfl ?_
  obtain ⟨x9, hx10, hk11, hl12⟩ : ∃ x : Nat, σ.2.1 74 a = (x : Int) ∧ AR T x 3 3 3 := wf_74 hw ha
  refine tn_getR (ci := 8) (i := 2) (n := 74) (x := x9) dX8_findFirst_9 rfl lay_8 (by decide) fl8_15 ha rfl rfl (hx10) ?_
  refine tn_iconst dX8_findFirst_12 ?_
  refine tn_iconst dX8_findFirst_13 ?_
  refine tn_acopyL (a := x5) (b := x9) (sp := 0) (dp := 0) (n := 3) dX8_findFirst_14 mla8_92 acNat acSt acIni hk7 hk11 ⟨by omega, by omega⟩ (by omega) (by omega) (by omega) (by omega) (by omega) (by omega) (Nat.le_of_ble_eq_true rfl) (fun fl13 => ?_)
  skip
  refine tn_iconst dX8_findFirst_17 ?_
  refine tn_istore_n (L' := [(2, .int (iI 0)), (0, .ref a), (1, .ref p1)]) dX8_findFirst_18 rfl (by decide) rfl ?_
  refine tn_sub [1, 2, 0] rfl (l_X8_findFirst_19 (d) (T := T) (σ0 := (rowL x9 fl13 σ)) (a := a) (rx1 := p1) ha h_p1 t_p1 (hw.rowL) (fun i214 σ15 w18 F19 r20 => ?_) _ (0) (rowL x9 fl13 σ) (hw.rowL) FrC.rfl (by omega) rfl)
  show Tn _ _ 47 T σ15 [(0, .ref a), (1, .ref p1), (2, .int (iI i214))] [] _
  exact tn_vret rfl dX8_findFirst_47 ⟨rfl, rfl, w18, ((FrC.rfl.rowL).trans (FrC.sub F19 (by decide)))⟩
end
section
theorem cd_X8_addOdds : Cond.code yX8_addOdds cX8_addOdds 6 none ∈ pWW := pw5 (List.mem_of_getElem? (i := 222) rfl) rfl
abbrev m_X8_addOdds : MT := (yX8_addOdds, cX8_addOdds, 6, none)
theorem ok_X8_addOdds : pOk m_X8_addOdds := ⟨⟨cd_X8_addOdds, ini_8⟩, by decide +kernel, ⟨by decide +kernel, by decide +kernel⟩, Nat.le_of_ble_eq_true rfl⟩
theorem np_X8_addOdds : (parseMethodDescriptor yX8_addOdds.desc).map (fun d => d.parameters.length) = some 4 := by decide +kernel
theorem im_X8_addOdds : Cond.instanceMethod yX8_addOdds ∈ pWW := pw5 (List.mem_of_getElem? (i := 221) rfl) rfl
theorem se_X8_addOdds : Cond.selects RX8 yX8_addOdds yX8_addOdds ∈ pWW := pws (List.mem_map.mpr ⟨_, lw_pin 77 rfl, rfl⟩) rfl
theorem nl8_112 : (RX8, 112, yX11_has, "LineKeeper") ∈ nst_M := List.mem_of_getElem? (i := 42) rfl
theorem fl8_9 : Cond.fieldLink RX8 9 (TX8 1).1 (TX8 1).2.1 (TX8 1).2.2.1 ∈ pWW := pw2 (List.mem_of_getElem? (i := 99) rfl) rfl
theorem dX8_addOdds_0 : decode cX8_addOdds 0 = .ok (.iconst 0, 1) := by decide +kernel
theorem dX8_addOdds_1 : decode cX8_addOdds 1 = .ok (.istore 5, 2) := by decide +kernel
theorem dX8_addOdds_3 : decode cX8_addOdds 3 = .ok (.iload 5, 2) := by decide +kernel
theorem dX8_addOdds_5 : decode cX8_addOdds 5 = .ok (.iload 4, 2) := by decide +kernel
theorem dX8_addOdds_7 : decode cX8_addOdds 7 = .ok (.if_icmp .ge 45, 3) := by decide +kernel
theorem dX8_addOdds_10 : decode cX8_addOdds 10 = .ok (.iload 5, 2) := by decide +kernel
theorem dX8_addOdds_12 : decode cX8_addOdds 12 = .ok (.iload_n 3, 1) := by decide +kernel
theorem dX8_addOdds_13 : decode cX8_addOdds 13 = .ok (.if_icmp .eq 33, 3) := by decide +kernel
theorem dX8_addOdds_46 : decode cX8_addOdds 46 = .ok (.iinc 5 1, 3) := by decide +kernel
theorem dX8_addOdds_49 : decode cX8_addOdds 49 = .ok (.goto (-46), 3) := by decide +kernel
theorem dX8_addOdds_16 : decode cX8_addOdds 16 = .ok (.aload_n 1, 1) := by decide +kernel
theorem dX8_addOdds_17 : decode cX8_addOdds 17 = .ok (.iload_n 2, 1) := by decide +kernel
theorem dX8_addOdds_18 : decode cX8_addOdds 18 = .ok (.iload 5, 2) := by decide +kernel
theorem dX8_addOdds_20 : decode cX8_addOdds 20 = .ok (.invokestatic 112, 3) := by decide +kernel
theorem dX8_addOdds_23 : decode cX8_addOdds 23 = .ok (.ifCond .eq 23, 3) := by decide +kernel
theorem dX8_addOdds_26 : decode cX8_addOdds 26 = .ok (.aload_n 0, 1) := by decide +kernel
theorem dX8_addOdds_27 : decode cX8_addOdds 27 = .ok (.getfield 9, 3) := by decide +kernel
theorem dX8_addOdds_30 : decode cX8_addOdds 30 = .ok (.iload_n 3, 1) := by decide +kernel
theorem dX8_addOdds_31 : decode cX8_addOdds 31 = .ok (.iload 5, 2) := by decide +kernel
theorem dX8_addOdds_33 : decode cX8_addOdds 33 = .ok (.invokestatic 104, 3) := by decide +kernel
theorem dX8_addOdds_36 : decode cX8_addOdds 36 = .ok (.aload_n 0, 1) := by decide +kernel
theorem dX8_addOdds_37 : decode cX8_addOdds 37 = .ok (.getfield 9, 3) := by decide +kernel
theorem dX8_addOdds_40 : decode cX8_addOdds 40 = .ok (.iload 5, 2) := by decide +kernel
theorem dX8_addOdds_42 : decode cX8_addOdds 42 = .ok (.iload_n 3, 1) := by decide +kernel
theorem dX8_addOdds_43 : decode cX8_addOdds 43 = .ok (.invokestatic 104, 3) := by decide +kernel
set_option maxRecDepth 20000 in
theorem l_X8_addOdds_3 (d : Nat) {T : CT} {σ0 : MS} {a : Nat} {rx1 : Nat} {c2 : Int} {c3 : Int} {c4 : Int} {post : Option Value → CT → MS → Prop} (h_a : OB T a 8) (h_rx1 : (T rx1).1 = 3) (l_rx1 : (T rx1).2 ≤ 1000000) (r_c2 : -2147483648 ≤ c2 ∧ c2 ≤ 2147483647) (r_c3 : -2147483648 ≤ c3 ∧ c3 ≤ 2147483647) (r_c4 : -2147483648 ≤ c4 ∧ c4 ≤ 2147483647) (hw0 : WT T σ0) (hx_52 : ∀ (i5 : Int) (σ : MS) , (WT T σ) → (FrC T [] σ0 σ) → (0 ≤ i5 ∧ i5 ≤ 2147483647) → Tn (d + 3) m_X8_addOdds 52 T σ [(0, .ref a), (1, .ref rx1), (2, .int (iI c2)), (3, .int (iI c3)), (4, .int (iI c4)), (5, .int (iI i5))] [] post) : ∀ (n : Nat) (i5 : Int) (σ : MS) , (WT T σ) → (FrC T [] σ0 σ) → (0 ≤ i5 ∧ i5 ≤ 2147483647) → (2147483700 - i5).toNat = n → Tn (d + 3) m_X8_addOdds 3 T σ [(0, .ref a), (1, .ref rx1), (2, .int (iI c2)), (3, .int (iI c3)), (4, .int (iI c4)), (5, .int (iI i5))] [] post := by
  intro n
  induction n using Nat.strongRecOn with
  | _ n ih =>
    intro i5 σ hw hF r_i5 hm
    refine tn_iload dX8_addOdds_3 5 rfl ?_
    refine tn_iload dX8_addOdds_5 4 rfl ?_
    refine tn_icmp_ge (tgt := 52) dX8_addOdds_7 (by decide) ⟨by omega, by omega⟩ ⟨by omega, by omega⟩ (fun h1 => ?_) (fun h1 => ?_)
    · exact tn_sub [0, 1, 2, 3, 4, 5] rfl (hx_52 (i5) σ hw (FrC.rfl.trans (FrC.sub hF (by decide))) (by omega))
    · refine tn_iload dX8_addOdds_10 5 rfl ?_
      refine tn_iload_n dX8_addOdds_12 rfl 3 rfl ?_
      refine tn_icmp_eq (tgt := 46) dX8_addOdds_13 (by decide) ⟨by omega, by omega⟩ ⟨by omega, by omega⟩ (fun h2 => ?_) (fun h2 => ?_)
      · refine tn_iinc (q0 := 5) (L' := [(5, .int (iI (i5 + 1))), (0, .ref a), (1, .ref rx1), (2, .int (iI c2)), (3, .int (iI c3)), (4, .int (iI c4))]) dX8_addOdds_46 rfl (by decide) rfl ?_
        refine tn_goto (tgt := 3) dX8_addOdds_49 (by decide) ?_
        exact tn_sub [1, 2, 3, 4, 5, 0] rfl (ih _ (by omega) (i5 + 1) σ hw (FrC.rfl.trans (FrC.sub hF (by decide))) (by omega) rfl)
      · refine tn_aload_n dX8_addOdds_16 rfl 1 rfl ?_
        refine tn_iload_n dX8_addOdds_17 rfl 2 rfl ?_
        refine tn_iload dX8_addOdds_18 5 rfl ?_
        refine tn_callSN (M := m_X8_addOdds) (pc := 20) (ix := 112) (M' := m_X11_has) (As := [.ref rx1, .int (iI c2), .int (iI i5)]) (rest := []) dX8_addOdds_20 ok_X11_has stt_X11_has nl8_112 np_X11_has rfl (Nat.le_of_ble_eq_true rfl) (Nat.le_of_ble_eq_true rfl) rfl (k_X11_has (d) (T := T) (σ := σ) (x := rx1) (k := c2) (r := i5) h_rx1 (by omega) (by omega) (by omega) hw ) (fun r3 T5 σ4 gt6 hp => ?_)
        obtain ⟨v8, rfl, rfl, rfl, f7⟩ := hp
        clear gt6
        show Tn _ _ 23 T σ [(0, .ref a), (1, .ref rx1), (2, .int (iI c2)), (3, .int (iI c3)), (4, .int (iI c4)), (5, .int (iI i5))] [.int (iI v8)] _
        refine tn_if_eq (tgt := 46) dX8_addOdds_23 (by decide) ⟨by omega, by omega⟩ (fun h9 => ?_) (fun h9 => ?_)
        · refine tn_iinc (q0 := 5) (L' := [(5, .int (iI (i5 + 1))), (0, .ref a), (1, .ref rx1), (2, .int (iI c2)), (3, .int (iI c3)), (4, .int (iI c4))]) dX8_addOdds_46 rfl (by decide) rfl ?_
          refine tn_goto (tgt := 3) dX8_addOdds_49 (by decide) ?_
          exact tn_sub [1, 2, 3, 4, 5, 0] rfl (ih _ (by omega) (i5 + 1) σ hw (FrC.rfl.trans (FrC.sub hF (by decide))) (by omega) rfl)
        · refine tn_aload_n dX8_addOdds_26 rfl 0 rfl ?_
          obtain ⟨x10, hx11, hk12, hl13⟩ : ∃ x : Nat, σ0.2.1 73 a = (x : Int) ∧ AR T x 3 576 576 := wf_73 hw0 h_a
          refine tn_getR (ci := 8) (i := 1) (n := 73) (x := x10) dX8_addOdds_27 rfl lay_8 (by decide) fl8_9 h_a rfl rfl (rc_F hF (Or.inl (by decide)) (by decide) (hx11)) ?_
          refine tn_iload_n dX8_addOdds_30 rfl 3 rfl ?_
          refine tn_iload dX8_addOdds_31 5 rfl ?_
          refine tn_callSN (M := m_X8_addOdds) (pc := 33) (ix := 104) (M' := m_X11_include) (As := [.ref x10, .int (iI c3), .int (iI i5)]) (rest := []) dX8_addOdds_33 ok_X11_include stt_X11_include nl8_104 np_X11_include rfl (Nat.le_of_ble_eq_true rfl) (Nat.le_of_ble_eq_true rfl) rfl (k_X11_include (d) (T := T) (σ := σ) (x := x10) (k := c3) (r := i5) hk12 (by omega) (by omega) (by omega) hw ) (fun r14 T16 σ15 gt17 hp => ?_)
          obtain ⟨rfl, rfl, w19, F20⟩ := hp
          clear gt17
          show Tn _ _ 36 T σ15 [(0, .ref a), (1, .ref rx1), (2, .int (iI c2)), (3, .int (iI c3)), (4, .int (iI c4)), (5, .int (iI i5))] [] _
          refine tn_aload_n dX8_addOdds_36 rfl 0 rfl ?_
          refine tn_getR (ci := 8) (i := 1) (n := 73) (x := x10) dX8_addOdds_37 rfl lay_8 (by decide) fl8_9 h_a rfl rfl (rc_F F20 (Or.inl (by decide)) (by decide) (rc_F hF (Or.inl (by decide)) (by decide) (hx11))) ?_
          refine tn_iload dX8_addOdds_40 5 rfl ?_
          refine tn_iload_n dX8_addOdds_42 rfl 3 rfl ?_
          refine tn_callSN (M := m_X8_addOdds) (pc := 43) (ix := 104) (M' := m_X11_include) (As := [.ref x10, .int (iI i5), .int (iI c3)]) (rest := []) dX8_addOdds_43 ok_X11_include stt_X11_include nl8_104 np_X11_include rfl (Nat.le_of_ble_eq_true rfl) (Nat.le_of_ble_eq_true rfl) rfl (k_X11_include (d) (T := T) (σ := σ15) (x := x10) (k := i5) (r := c3) hk12 (by omega) (by omega) (by omega) w19 ) (fun r21 T23 σ22 gt24 hp => ?_)
          obtain ⟨rfl, rfl, w26, F27⟩ := hp
          clear gt24
          show Tn _ _ 46 T σ22 [(0, .ref a), (1, .ref rx1), (2, .int (iI c2)), (3, .int (iI c3)), (4, .int (iI c4)), (5, .int (iI i5))] [] _
          refine tn_iinc (q0 := 5) (L' := [(5, .int (iI (i5 + 1))), (0, .ref a), (1, .ref rx1), (2, .int (iI c2)), (3, .int (iI c3)), (4, .int (iI c4))]) dX8_addOdds_46 rfl (by decide) rfl ?_
          refine tn_goto (tgt := 3) dX8_addOdds_49 (by decide) ?_
          exact tn_sub [1, 2, 3, 4, 5, 0] rfl (ih _ (by omega) (i5 + 1) σ22 w26 (((FrC.rfl.trans (FrC.sub hF (by decide))).trans (FrC.sub F20 (by decide))).trans (FrC.sub F27 (by decide))) (by omega) rfl)
theorem dX8_addOdds_52 : decode cX8_addOdds 52 = .ok (.return_, 1) := by decide +kernel
set_option maxRecDepth 20000 in
theorem k_X8_addOdds (d : Nat) {T : CT} {σ : MS} {a : Nat} {p1 : Nat} {p2 : Int} {p3 : Int} {p4 : Int} (ha : OB T a 8) (h_p1 : (T p1).1 = 3) (l_p1 : (T p1).2 ≤ 1000000) (h_p2 : -2147483648 ≤ p2 ∧ p2 ≤ 2147483647) (h_p3 : -2147483648 ≤ p3 ∧ p3 ≤ 2147483647) (h_p4 : -2147483648 ≤ p4 ∧ p4 ≤ 2147483647) (hw : WT T σ) : Tn (d + 3) m_X8_addOdds 0 T σ [(0, .ref a), (1, .ref p1), (2, .int (iI p2)), (3, .int (iI p3)), (4, .int (iI p4))] [] (fun ro T2 σ2 => ro = none ∧ T = T2 ∧ WT T2 σ2 ∧ FrC T [] σ σ2) := by
  refine tn_iconst dX8_addOdds_0 ?_
  refine tn_istore (L' := [(5, .int (iI 0)), (0, .ref a), (1, .ref p1), (2, .int (iI p2)), (3, .int (iI p3)), (4, .int (iI p4))]) dX8_addOdds_1 (by decide) rfl ?_
  refine tn_sub [1, 2, 3, 4, 5, 0] rfl (l_X8_addOdds_3 (d) (T := T) (σ0 := σ) (a := a) (rx1 := p1) (c2 := p2) (c3 := p3) (c4 := p4) ha h_p1 (by omega) (by omega) (by omega) (by omega) hw (fun i51 σ2 w5 F6 r7 => ?_) _ (0) σ hw FrC.rfl (by omega) rfl)
  show Tn _ _ 52 T σ2 [(0, .ref a), (1, .ref p1), (2, .int (iI p2)), (3, .int (iI p3)), (4, .int (iI p4)), (5, .int (iI i51))] [] _
  exact tn_vret rfl dX8_addOdds_52 ⟨rfl, rfl, w5, (FrC.rfl.trans (FrC.sub F6 (by decide)))⟩
end
section
theorem cd_X8_findOdds : Cond.code yX8_findOdds cX8_findOdds 5 none ∈ pWW := pw5 (List.mem_of_getElem? (i := 216) rfl) rfl
abbrev m_X8_findOdds : MT := (yX8_findOdds, cX8_findOdds, 5, none)
theorem ok_X8_findOdds : pOk m_X8_findOdds := ⟨⟨cd_X8_findOdds, ini_8⟩, by decide +kernel, ⟨by decide +kernel, by decide +kernel⟩, Nat.le_of_ble_eq_true rfl⟩
theorem np_X8_findOdds : (parseMethodDescriptor yX8_findOdds.desc).map (fun d => d.parameters.length) = some 2 := by decide +kernel
theorem im_X8_findOdds : Cond.instanceMethod yX8_findOdds ∈ pWW := pw5 (List.mem_of_getElem? (i := 215) rfl) rfl
theorem se_X8_findOdds : Cond.selects RX8 yX8_findOdds yX8_findOdds ∈ pWW := pws (List.mem_map.mpr ⟨_, lw_pin 76 rfl, rfl⟩) rfl
theorem nl8_108 : (RX8, 108, yX11_clear, "LineKeeper") ∈ nst_M := List.mem_of_getElem? (i := 41) rfl
theorem ml8_116 : Cond.methodLink RX8 116 yX8_addOdds ∈ pWW := pw5 (List.mem_of_getElem? (i := 219) rfl) rfl
theorem dX8_findOdds_0 : decode cX8_findOdds 0 = .ok (.aload_n 0, 1) := by decide +kernel
theorem dX8_findOdds_1 : decode cX8_findOdds 1 = .ok (.getfield 9, 3) := by decide +kernel
theorem dX8_findOdds_4 : decode cX8_findOdds 4 = .ok (.iload_n 2, 1) := by decide +kernel
theorem dX8_findOdds_5 : decode cX8_findOdds 5 = .ok (.iconst 3, 1) := by decide +kernel
theorem dX8_findOdds_6 : decode cX8_findOdds 6 = .ok (.imul, 1) := by decide +kernel
theorem dX8_findOdds_7 : decode cX8_findOdds 7 = .ok (.invokestatic 108, 3) := by decide +kernel
theorem dX8_findOdds_10 : decode cX8_findOdds 10 = .ok (.iconst 0, 1) := by decide +kernel
theorem dX8_findOdds_11 : decode cX8_findOdds 11 = .ok (.istore_n 3, 1) := by decide +kernel
theorem dX8_findOdds_12 : decode cX8_findOdds 12 = .ok (.iload_n 3, 1) := by decide +kernel
theorem dX8_findOdds_13 : decode cX8_findOdds 13 = .ok (.iload_n 2, 1) := by decide +kernel
theorem dX8_findOdds_14 : decode cX8_findOdds 14 = .ok (.if_icmp .ge 32, 3) := by decide +kernel
theorem dX8_findOdds_17 : decode cX8_findOdds 17 = .ok (.aload_n 0, 1) := by decide +kernel
theorem dX8_findOdds_18 : decode cX8_findOdds 18 = .ok (.getfield 15, 3) := by decide +kernel
theorem dX8_findOdds_21 : decode cX8_findOdds 21 = .ok (.iconst 0, 1) := by decide +kernel
theorem dX8_findOdds_22 : decode cX8_findOdds 22 = .ok (.iload_n 3, 1) := by decide +kernel
theorem dX8_findOdds_23 : decode cX8_findOdds 23 = .ok (.invokestatic 112, 3) := by decide +kernel
theorem dX8_findOdds_26 : decode cX8_findOdds 26 = .ok (.ifCond .eq 14, 3) := by decide +kernel
theorem dX8_findOdds_40 : decode cX8_findOdds 40 = .ok (.iinc 3 1, 3) := by decide +kernel
theorem dX8_findOdds_43 : decode cX8_findOdds 43 = .ok (.goto (-31), 3) := by decide +kernel
theorem dX8_findOdds_29 : decode cX8_findOdds 29 = .ok (.aload_n 0, 1) := by decide +kernel
theorem dX8_findOdds_30 : decode cX8_findOdds 30 = .ok (.aload_n 0, 1) := by decide +kernel
theorem dX8_findOdds_31 : decode cX8_findOdds 31 = .ok (.getfield 15, 3) := by decide +kernel
theorem dX8_findOdds_34 : decode cX8_findOdds 34 = .ok (.iconst 0, 1) := by decide +kernel
theorem dX8_findOdds_35 : decode cX8_findOdds 35 = .ok (.iload_n 3, 1) := by decide +kernel
theorem dX8_findOdds_36 : decode cX8_findOdds 36 = .ok (.iload_n 2, 1) := by decide +kernel
theorem dX8_findOdds_37 : decode cX8_findOdds 37 = .ok (.invokevirtual 116, 3) := by decide +kernel
set_option maxRecDepth 20000 in
theorem l_X8_findOdds_12 (d : Nat) {T : CT} {σ0 : MS} {a : Nat} {rx1 : Nat} {c2 : Int} {post : Option Value → CT → MS → Prop} (h_a : OB T a 8) (h_rx1 : OB T rx1 1) (t_rx1 : (T rx1).1 = 50) (r_c2 : -2147483648 ≤ c2 ∧ c2 ≤ 2147483647) (hw0 : WT T σ0) (hx_46 : ∀ (i3 : Int) (σ : MS) , (WT T σ) → (FrC T [] σ0 σ) → (0 ≤ i3 ∧ i3 ≤ 2147483647) → Tn (d + 4) m_X8_findOdds 46 T σ [(0, .ref a), (1, .ref rx1), (2, .int (iI c2)), (3, .int (iI i3))] [] post) : ∀ (n : Nat) (i3 : Int) (σ : MS) , (WT T σ) → (FrC T [] σ0 σ) → (0 ≤ i3 ∧ i3 ≤ 2147483647) → (2147483700 - i3).toNat = n → Tn (d + 4) m_X8_findOdds 12 T σ [(0, .ref a), (1, .ref rx1), (2, .int (iI c2)), (3, .int (iI i3))] [] post := by
  intro n
  induction n using Nat.strongRecOn with
  | _ n ih =>
    intro i3 σ hw hF r_i3 hm
    refine tn_iload_n dX8_findOdds_12 rfl 3 rfl ?_
    refine tn_iload_n dX8_findOdds_13 rfl 2 rfl ?_
    refine tn_icmp_ge (tgt := 46) dX8_findOdds_14 (by decide) ⟨by omega, by omega⟩ ⟨by omega, by omega⟩ (fun h1 => ?_) (fun h1 => ?_)
    · exact tn_sub [0, 1, 2, 3] rfl (hx_46 (i3) σ hw (FrC.rfl.trans (FrC.sub hF (by decide))) (by omega))
    · refine tn_aload_n dX8_findOdds_17 rfl 0 rfl ?_
      obtain ⟨x2, hx3, hk4, hl5⟩ : ∃ x : Nat, σ0.2.1 74 a = (x : Int) ∧ AR T x 3 3 3 := wf_74 hw0 h_a
      refine tn_getR (ci := 8) (i := 2) (n := 74) (x := x2) dX8_findOdds_18 rfl lay_8 (by decide) fl8_15 h_a rfl rfl (rc_F hF (Or.inl (by decide)) (by decide) (hx3)) ?_
      refine tn_iconst dX8_findOdds_21 ?_
      refine tn_iload_n dX8_findOdds_22 rfl 3 rfl ?_
      refine tn_callSN (M := m_X8_findOdds) (pc := 23) (ix := 112) (M' := m_X11_has) (As := [.ref x2, .int (iI 0), .int (iI i3)]) (rest := []) dX8_findOdds_23 ok_X11_has stt_X11_has nl8_112 np_X11_has rfl (Nat.le_of_ble_eq_true rfl) (Nat.le_of_ble_eq_true rfl) rfl (k_X11_has (d + 1) (T := T) (σ := σ) (x := x2) (k := 0) (r := i3) hk4 (by omega) (by decide) (by omega) hw ) (fun r6 T8 σ7 gt9 hp => ?_)
      obtain ⟨v11, rfl, rfl, rfl, f10⟩ := hp
      clear gt9
      show Tn _ _ 26 T σ [(0, .ref a), (1, .ref rx1), (2, .int (iI c2)), (3, .int (iI i3))] [.int (iI v11)] _
      refine tn_if_eq (tgt := 40) dX8_findOdds_26 (by decide) ⟨by omega, by omega⟩ (fun h12 => ?_) (fun h12 => ?_)
      · refine tn_iinc (q0 := 3) (L' := [(3, .int (iI (i3 + 1))), (0, .ref a), (1, .ref rx1), (2, .int (iI c2))]) dX8_findOdds_40 rfl (by decide) rfl ?_
        refine tn_goto (tgt := 12) dX8_findOdds_43 (by decide) ?_
        exact tn_sub [1, 2, 3, 0] rfl (ih _ (by omega) (i3 + 1) σ hw (FrC.rfl.trans (FrC.sub hF (by decide))) (by omega) rfl)
      · refine tn_aload_n dX8_findOdds_29 rfl 0 rfl ?_
        refine tn_aload_n dX8_findOdds_30 rfl 0 rfl ?_
        refine tn_getR (ci := 8) (i := 2) (n := 74) (x := x2) dX8_findOdds_31 rfl lay_8 (by decide) fl8_15 h_a rfl rfl (rc_F hF (Or.inl (by decide)) (by decide) (hx3)) ?_
        refine tn_iconst dX8_findOdds_34 ?_
        refine tn_iload_n dX8_findOdds_35 rfl 3 rfl ?_
        refine tn_iload_n dX8_findOdds_36 rfl 2 rfl ?_
        refine tn_callV (M := m_X8_findOdds) (pc := 37) (ix := 116) (ci := 8) (M' := m_X8_addOdds) (As := [.ref x2, .int (iI 0), .int (iI i3), .int (iI c2)]) (rest := []) dX8_findOdds_37 ok_X8_addOdds im_X8_addOdds se_X8_addOdds ml8_116 np_X8_addOdds rfl rfl h_a rfl (Nat.le_of_ble_eq_true rfl) (Nat.le_of_ble_eq_true rfl) rfl (k_X8_addOdds (d) (T := T) (σ := σ) (a := a) (p1 := x2) (p2 := 0) (p3 := i3) (p4 := c2) h_a hk4 (by omega) (by decide) (by omega) (by omega) hw ) (fun r13 T15 σ14 gt16 hp => ?_)
        obtain ⟨rfl, rfl, w18, F19⟩ := hp
        clear gt16
        show Tn _ _ 40 T σ14 [(0, .ref a), (1, .ref rx1), (2, .int (iI c2)), (3, .int (iI i3))] [] _
        refine tn_iinc (q0 := 3) (L' := [(3, .int (iI (i3 + 1))), (0, .ref a), (1, .ref rx1), (2, .int (iI c2))]) dX8_findOdds_40 rfl (by decide) rfl ?_
        refine tn_goto (tgt := 12) dX8_findOdds_43 (by decide) ?_
        exact tn_sub [1, 2, 3, 0] rfl (ih _ (by omega) (i3 + 1) σ14 w18 ((FrC.rfl.trans (FrC.sub hF (by decide))).trans (FrC.sub F19 (by decide))) (by omega) rfl)
theorem fl8_70 : Cond.fieldLink RX8 70 (TX1 1).1 (TX1 1).2.1 (TX1 1).2.2.1 ∈ pWW := pw1 (List.mem_of_getElem? (i := 81) rfl) rfl
theorem ml8_120 : Cond.methodLink RX8 120 yX1_writtenBy ∈ pWW := pw5 (List.mem_of_getElem? (i := 223) rfl) rfl
theorem dX8_findOdds_46 : decode cX8_findOdds 46 = .ok (.iconst 0, 1) := by decide +kernel
theorem dX8_findOdds_47 : decode cX8_findOdds 47 = .ok (.istore_n 3, 1) := by decide +kernel
theorem dX8_findOdds_48 : decode cX8_findOdds 48 = .ok (.iload_n 3, 1) := by decide +kernel
theorem dX8_findOdds_49 : decode cX8_findOdds 49 = .ok (.aload_n 1, 1) := by decide +kernel
theorem dX8_findOdds_50 : decode cX8_findOdds 50 = .ok (.getfield 70, 3) := by decide +kernel
theorem dX8_findOdds_53 : decode cX8_findOdds 53 = .ok (.if_icmp .ge 39, 3) := by decide +kernel
theorem dX8_findOdds_56 : decode cX8_findOdds 56 = .ok (.aload_n 1, 1) := by decide +kernel
theorem dX8_findOdds_57 : decode cX8_findOdds 57 = .ok (.iload_n 3, 1) := by decide +kernel
theorem dX8_findOdds_58 : decode cX8_findOdds 58 = .ok (.invokevirtual 120, 3) := by decide +kernel
theorem dX8_findOdds_61 : decode cX8_findOdds 61 = .ok (.istore 4, 2) := by decide +kernel
theorem dX8_findOdds_63 : decode cX8_findOdds 63 = .ok (.iload 4, 2) := by decide +kernel
theorem dX8_findOdds_65 : decode cX8_findOdds 65 = .ok (.iconst (-1), 1) := by decide +kernel
theorem dX8_findOdds_66 : decode cX8_findOdds 66 = .ok (.if_icmp .eq 20, 3) := by decide +kernel
theorem dX8_findOdds_86 : decode cX8_findOdds 86 = .ok (.iinc 3 1, 3) := by decide +kernel
theorem dX8_findOdds_89 : decode cX8_findOdds 89 = .ok (.goto (-41), 3) := by decide +kernel
theorem dX8_findOdds_69 : decode cX8_findOdds 69 = .ok (.aload_n 0, 1) := by decide +kernel
theorem dX8_findOdds_70 : decode cX8_findOdds 70 = .ok (.aload_n 0, 1) := by decide +kernel
theorem dX8_findOdds_71 : decode cX8_findOdds 71 = .ok (.getfield 34, 3) := by decide +kernel
theorem dX8_findOdds_74 : decode cX8_findOdds 74 = .ok (.getfield 89, 3) := by decide +kernel
theorem dX8_findOdds_77 : decode cX8_findOdds 77 = .ok (.iload_n 3, 1) := by decide +kernel
theorem dX8_findOdds_78 : decode cX8_findOdds 78 = .ok (.iconst 1, 1) := by decide +kernel
theorem dX8_findOdds_79 : decode cX8_findOdds 79 = .ok (.iadd, 1) := by decide +kernel
theorem dX8_findOdds_80 : decode cX8_findOdds 80 = .ok (.iload 4, 2) := by decide +kernel
theorem dX8_findOdds_82 : decode cX8_findOdds 82 = .ok (.iload_n 2, 1) := by decide +kernel
theorem dX8_findOdds_83 : decode cX8_findOdds 83 = .ok (.invokevirtual 116, 3) := by decide +kernel
set_option maxRecDepth 20000 in
theorem l_X8_findOdds_48 (d : Nat) {T : CT} {σ0 : MS} {a : Nat} {rx1 : Nat} {c2 : Int} {post : Option Value → CT → MS → Prop} (h_a : OB T a 8) (h_rx1 : OB T rx1 1) (t_rx1 : (T rx1).1 = 50) (r_c2 : -2147483648 ≤ c2 ∧ c2 ≤ 2147483647) (hw0 : WT T σ0) (hx_92 : ∀ (i3 : Int) (σ : MS) , (WT T σ) → (FrC T [] σ0 σ) → (0 ≤ i3 ∧ i3 ≤ 2147483647) → Tn (d + 4) m_X8_findOdds 92 T σ [(0, .ref a), (1, .ref rx1), (2, .int (iI c2)), (3, .int (iI i3))] [] post) : ∀ (n : Nat) (i3 : Int) (σ : MS) , (WT T σ) → (FrC T [] σ0 σ) → (0 ≤ i3 ∧ i3 ≤ 2147483647) → (2147483700 - i3).toNat = n → Tn (d + 4) m_X8_findOdds 48 T σ [(0, .ref a), (1, .ref rx1), (2, .int (iI c2)), (3, .int (iI i3))] [] post := by
  intro n
  induction n using Nat.strongRecOn with
  | _ n ih =>
    intro i3 σ hw hF r_i3 hm
    refine tn_iload_n dX8_findOdds_48 rfl 3 rfl ?_
    refine tn_aload_n dX8_findOdds_49 rfl 1 rfl ?_
    refine tn_getI (ci := 1) (i := 1) (n := 6) (t := σ0.2.1 6 rx1) dX8_findOdds_50 rfl lay_1 (by decide) fl8_70 h_rx1 rfl rfl (rc_F hF (Or.inl (by decide)) (by decide) (rfl)) ?_
    have g1 : ((0 : Int) ≤ σ0.2.1 6 rx1 ∧ σ0.2.1 6 rx1 ≤ 5000) ∧ ((T rx1).1 = 50 → σ0.2.1 6 rx1 ≤ 200) := wf_6 hw0 h_rx1
    have g1x := g1.2
    replace g1 := g1.1
    have g1x := g1x t_rx1
    refine tn_icmp_ge (tgt := 92) dX8_findOdds_53 (by decide) ⟨by omega, by omega⟩ ⟨by omega, by omega⟩ (fun h2 => ?_) (fun h2 => ?_)
    · exact tn_sub [0, 1, 2, 3] rfl (hx_92 (i3) σ hw (FrC.rfl.trans (FrC.sub hF (by decide))) (by omega))
    · refine tn_aload_n dX8_findOdds_56 rfl 1 rfl ?_
      refine tn_iload_n dX8_findOdds_57 rfl 3 rfl ?_
      refine tn_callV (M := m_X8_findOdds) (pc := 58) (ix := 120) (ci := 1) (M' := m_X1_writtenBy) (As := [.int (iI i3)]) (rest := []) dX8_findOdds_58 ok_X1_writtenBy im_X1_writtenBy se_X1_writtenBy ml8_120 np_X1_writtenBy rfl rfl h_rx1 rfl (Nat.le_of_ble_eq_true rfl) (Nat.le_of_ble_eq_true rfl) rfl (k_X1_writtenBy (d + 1) (T := T) (σ := σ) (a := rx1) (k := i3) h_rx1 (by omega) hw ) (fun r3 T5 σ4 gt6 hp => ?_)
      obtain ⟨v8, rfl, rfl, rfl, f7⟩ := hp
      clear gt6
      show Tn _ _ 61 T σ [(0, .ref a), (1, .ref rx1), (2, .int (iI c2)), (3, .int (iI i3))] [.int (iI v8)] _
      refine tn_istore (L' := [(4, .int (iI v8)), (0, .ref a), (1, .ref rx1), (2, .int (iI c2)), (3, .int (iI i3))]) dX8_findOdds_61 (by decide) rfl ?_
      refine tn_iload dX8_findOdds_63 0 rfl ?_
      refine tn_iconst dX8_findOdds_65 ?_
      refine tn_icmp_eq (tgt := 86) dX8_findOdds_66 (by decide) ⟨by omega, by omega⟩ ⟨by decide, by decide⟩ (fun h9 => ?_) (fun h9 => ?_)
      · refine tn_iinc (q0 := 4) (L' := [(3, .int (iI (i3 + 1))), (4, .int (iI v8)), (0, .ref a), (1, .ref rx1), (2, .int (iI c2))]) dX8_findOdds_86 rfl (by decide) rfl ?_
        refine tn_goto (tgt := 48) dX8_findOdds_89 (by decide) ?_
        exact tn_sub [2, 3, 4, 0] rfl (ih _ (by omega) (i3 + 1) σ hw (FrC.rfl.trans (FrC.sub hF (by decide))) (by omega) rfl)
      · refine tn_aload_n dX8_findOdds_69 rfl 1 rfl ?_
        refine tn_aload_n dX8_findOdds_70 rfl 1 rfl ?_
        obtain ⟨x10, hx11, hk12⟩ : ∃ x : Nat, σ0.2.1 72 a = (x : Int) ∧ (T x).1 = 33 := wf_72 hw0 h_a
        have hk12o : OB T x10 3 := ⟨by omega, by rw [hk12]; rfl, by omega⟩
        refine tn_getR (ci := 8) (i := 0) (n := 72) (x := x10) dX8_findOdds_71 rfl lay_8 (by decide) fl8_34 h_a rfl rfl (rc_F hF (Or.inl (by decide)) (by decide) (hx11)) ?_
        obtain ⟨x14, hx15, hk16, hl17⟩ : ∃ x : Nat, σ0.2.1 18 x10 = (x : Int) ∧ AR T x 3 603 603 := wf_18 hw0 hk12o
        refine tn_getR (ci := 3) (i := 0) (n := 18) (x := x14) dX8_findOdds_74 rfl lay_3 (by decide) fl8_89 hk12o rfl rfl (rc_F hF (Or.inl (by decide)) (by decide) (hx15)) ?_
        refine tn_iload_n dX8_findOdds_77 rfl 4 rfl ?_
        refine tn_iconst dX8_findOdds_78 ?_
        refine tn_iadd dX8_findOdds_79 ?_
        refine tn_iload dX8_findOdds_80 0 rfl ?_
        refine tn_iload_n dX8_findOdds_82 rfl 3 rfl ?_
        refine tn_callV (M := m_X8_findOdds) (pc := 83) (ix := 116) (ci := 8) (M' := m_X8_addOdds) (As := [.ref x14, .int (iI (i3 + 1)), .int (iI v8), .int (iI c2)]) (rest := []) dX8_findOdds_83 ok_X8_addOdds im_X8_addOdds se_X8_addOdds ml8_116 np_X8_addOdds rfl rfl h_a rfl (Nat.le_of_ble_eq_true rfl) (Nat.le_of_ble_eq_true rfl) rfl (k_X8_addOdds (d) (T := T) (σ := σ) (a := a) (p1 := x14) (p2 := i3 + 1) (p3 := v8) (p4 := c2) h_a hk16 (by omega) (by omega) (by omega) (by omega) hw ) (fun r18 T20 σ19 gt21 hp => ?_)
        obtain ⟨rfl, rfl, w23, F24⟩ := hp
        clear gt21
        show Tn _ _ 86 T σ19 [(4, .int (iI v8)), (0, .ref a), (1, .ref rx1), (2, .int (iI c2)), (3, .int (iI i3))] [] _
        refine tn_iinc (q0 := 4) (L' := [(3, .int (iI (i3 + 1))), (4, .int (iI v8)), (0, .ref a), (1, .ref rx1), (2, .int (iI c2))]) dX8_findOdds_86 rfl (by decide) rfl ?_
        refine tn_goto (tgt := 48) dX8_findOdds_89 (by decide) ?_
        exact tn_sub [2, 3, 4, 0] rfl (ih _ (by omega) (i3 + 1) σ19 w23 ((FrC.rfl.trans (FrC.sub hF (by decide))).trans (FrC.sub F24 (by decide))) (by omega) rfl)
theorem dX8_findOdds_92 : decode cX8_findOdds 92 = .ok (.return_, 1) := by decide +kernel
set_option maxRecDepth 20000 in
theorem k_X8_findOdds (d : Nat) {T : CT} {σ : MS} {a : Nat} {p1 : Nat} {p2 : Int} (ha : OB T a 8) (h_p1 : OB T p1 1) (t_p1 : (T p1).1 = 50) (h_p2 : -2147483648 ≤ p2 ∧ p2 ≤ 2147483647) (hw : WT T σ) : Tn (d + 4) m_X8_findOdds 0 T σ [(0, .ref a), (1, .ref p1), (2, .int (iI p2))] [] (fun ro T2 σ2 => ro = none ∧ T = T2 ∧ WT T2 σ2 ∧ FrC T [] σ σ2) := by
  refine tn_aload_n dX8_findOdds_0 rfl 0 rfl ?_
  obtain ⟨x1, hx2, hk3, hl4⟩ : ∃ x : Nat, σ.2.1 73 a = (x : Int) ∧ AR T x 3 576 576 := wf_73 hw ha
  refine tn_getR (ci := 8) (i := 1) (n := 73) (x := x1) dX8_findOdds_1 rfl lay_8 (by decide) fl8_9 ha rfl rfl (hx2) ?_
  refine tn_iload_n dX8_findOdds_4 rfl 2 rfl ?_
  refine tn_iconst dX8_findOdds_5 ?_
  refine tn_imul dX8_findOdds_6 ?_
  refine tn_any (fun z5 g6 => ?_)
  have g6r : -2147483648 ≤ z5 ∧ z5 ≤ 2147483647 := g6
  refine tn_callSN (M := m_X8_findOdds) (pc := 7) (ix := 108) (M' := m_X11_clear) (As := [.ref x1, .int (iI z5)]) (rest := []) dX8_findOdds_7 ok_X11_clear stt_X11_clear nl8_108 np_X11_clear rfl (Nat.le_of_ble_eq_true rfl) (Nat.le_of_ble_eq_true rfl) rfl (k_X11_clear (d) (T := T) (σ := σ) (x := x1) (n := z5) hk3 (by omega) (by omega) hw ) (fun r7 T9 σ8 gt10 hp => ?_)
  obtain ⟨rfl, rfl, w12, F13⟩ := hp
  clear gt10
  show Tn _ _ 10 T σ8 [(0, .ref a), (1, .ref p1), (2, .int (iI p2))] [] _
  refine tn_iconst dX8_findOdds_10 ?_
  refine tn_istore_n (L' := [(3, .int (iI 0)), (0, .ref a), (1, .ref p1), (2, .int (iI p2))]) dX8_findOdds_11 rfl (by decide) rfl ?_
  refine tn_sub [1, 2, 3, 0] rfl (l_X8_findOdds_12 (d) (T := T) (σ0 := σ8) (a := a) (rx1 := p1) (c2 := p2) ha h_p1 t_p1 (by omega) w12 (fun i314 σ15 w18 F19 r20 => ?_) _ (0) σ8 w12 FrC.rfl (by omega) rfl)
  show Tn _ _ 46 T σ15 [(0, .ref a), (1, .ref p1), (2, .int (iI p2)), (3, .int (iI i314))] [] _
  refine tn_iconst dX8_findOdds_46 ?_
  refine tn_istore_n (L' := [(3, .int (iI 0)), (0, .ref a), (1, .ref p1), (2, .int (iI p2))]) dX8_findOdds_47 rfl (by decide) rfl ?_
  refine tn_sub [1, 2, 3, 0] rfl (l_X8_findOdds_48 (d) (T := T) (σ0 := σ15) (a := a) (rx1 := p1) (c2 := p2) ha h_p1 t_p1 (by omega) w18 (fun i321 σ22 w25 F26 r27 => ?_) _ (0) σ15 w18 FrC.rfl (by omega) rfl)
  show Tn _ _ 92 T σ22 [(0, .ref a), (1, .ref p1), (2, .int (iI p2)), (3, .int (iI i321))] [] _
  exact tn_vret rfl dX8_findOdds_92 ⟨rfl, rfl, w25, (((FrC.rfl.trans (FrC.sub F13 (by decide))).trans (FrC.sub F19 (by decide))).trans (FrC.sub F26 (by decide)))⟩
end
section
theorem cd_X8_meets : Cond.code yX8_meets cX8_meets 4 (some .boolean) ∈ pWW := pw5 (List.mem_of_getElem? (i := 231) rfl) rfl
abbrev m_X8_meets : MT := (yX8_meets, cX8_meets, 4, (some .boolean))
theorem ok_X8_meets : pOk m_X8_meets := ⟨⟨cd_X8_meets, ini_8⟩, by decide +kernel, ⟨by decide +kernel, by decide +kernel⟩, Nat.le_of_ble_eq_true rfl⟩
theorem np_X8_meets : (parseMethodDescriptor yX8_meets.desc).map (fun d => d.parameters.length) = some 2 := by decide +kernel
theorem im_X8_meets : Cond.instanceMethod yX8_meets ∈ pWW := pw5 (List.mem_of_getElem? (i := 230) rfl) rfl
theorem se_X8_meets : Cond.selects RX8 yX8_meets yX8_meets ∈ pWW := pws (List.mem_map.mpr ⟨_, lw_pin 79 rfl, rfl⟩) rfl
theorem fl8_22 : Cond.fieldLink RX8 22 (TX8 4).1 (TX8 4).2.1 (TX8 4).2.2.1 ∈ pWW := pw2 (List.mem_of_getElem? (i := 102) rfl) rfl
theorem nl8_132 : (RX8, 132, yX11_bitsAt, "LineKeeper") ∈ nst_M := List.mem_of_getElem? (i := 43) rfl
theorem dX8_meets_0 : decode cX8_meets 0 = .ok (.iconst 0, 1) := by decide +kernel
theorem dX8_meets_1 : decode cX8_meets 1 = .ok (.istore_n 3, 1) := by decide +kernel
theorem dX8_meets_2 : decode cX8_meets 2 = .ok (.iload_n 3, 1) := by decide +kernel
theorem dX8_meets_3 : decode cX8_meets 3 = .ok (.iconst 3, 1) := by decide +kernel
theorem dX8_meets_4 : decode cX8_meets 4 = .ok (.if_icmp .ge 41, 3) := by decide +kernel
theorem dX8_meets_7 : decode cX8_meets 7 = .ok (.aload_n 0, 1) := by decide +kernel
theorem dX8_meets_8 : decode cX8_meets 8 = .ok (.getfield 22, 3) := by decide +kernel
theorem dX8_meets_11 : decode cX8_meets 11 = .ok (.iload_n 1, 1) := by decide +kernel
theorem dX8_meets_12 : decode cX8_meets 12 = .ok (.iconst 3, 1) := by decide +kernel
theorem dX8_meets_13 : decode cX8_meets 13 = .ok (.imul, 1) := by decide +kernel
theorem dX8_meets_14 : decode cX8_meets 14 = .ok (.iload_n 3, 1) := by decide +kernel
theorem dX8_meets_15 : decode cX8_meets 15 = .ok (.iadd, 1) := by decide +kernel
theorem dX8_meets_16 : decode cX8_meets 16 = .ok (.invokestatic 132, 3) := by decide +kernel
theorem dX8_meets_19 : decode cX8_meets 19 = .ok (.aload_n 0, 1) := by decide +kernel
theorem dX8_meets_20 : decode cX8_meets 20 = .ok (.getfield 9, 3) := by decide +kernel
theorem dX8_meets_23 : decode cX8_meets 23 = .ok (.iload_n 2, 1) := by decide +kernel
theorem dX8_meets_24 : decode cX8_meets 24 = .ok (.iconst 3, 1) := by decide +kernel
theorem dX8_meets_25 : decode cX8_meets 25 = .ok (.imul, 1) := by decide +kernel
theorem dX8_meets_26 : decode cX8_meets 26 = .ok (.iload_n 3, 1) := by decide +kernel
theorem dX8_meets_27 : decode cX8_meets 27 = .ok (.iadd, 1) := by decide +kernel
theorem dX8_meets_28 : decode cX8_meets 28 = .ok (.invokestatic 132, 3) := by decide +kernel
theorem dX8_meets_31 : decode cX8_meets 31 = .ok (.land, 1) := by decide +kernel
theorem dX8_meets_32 : decode cX8_meets 32 = .ok (.lconst 0, 1) := by decide +kernel
theorem dX8_meets_33 : decode cX8_meets 33 = .ok (.lcmp, 1) := by decide +kernel
theorem dX8_meets_34 : decode cX8_meets 34 = .ok (.ifCond .eq 5, 3) := by decide +kernel
theorem dX8_meets_39 : decode cX8_meets 39 = .ok (.iinc 3 1, 3) := by decide +kernel
theorem dX8_meets_42 : decode cX8_meets 42 = .ok (.goto (-40), 3) := by decide +kernel
set_option maxRecDepth 20000 in
theorem l_X8_meets_2 (d : Nat) {T : CT} {σ : MS} {a : Nat} {c1 : Int} {c2 : Int} {post : Option Value → CT → MS → Prop} (h_a : OB T a 8) (r_c1 : -2147483648 ≤ c1 ∧ c1 ≤ 2147483647) (r_c2 : -2147483648 ≤ c2 ∧ c2 ≤ 2147483647) (hw : WT T σ) (hx_37 : ∀ (i3 : Int) , (0 ≤ i3 ∧ i3 ≤ 2147483647) → Tn (d + 2) m_X8_meets 37 T σ [(0, .ref a), (1, .int (iI c1)), (2, .int (iI c2)), (3, .int (iI i3))] [] post) (hx_45 : ∀ (i3 : Int) , (0 ≤ i3 ∧ i3 ≤ 2147483647) → Tn (d + 2) m_X8_meets 45 T σ [(0, .ref a), (1, .int (iI c1)), (2, .int (iI c2)), (3, .int (iI i3))] [] post) : ∀ (n : Nat) (i3 : Int) , (0 ≤ i3 ∧ i3 ≤ 2147483647) → (2147483700 - i3).toNat = n → Tn (d + 2) m_X8_meets 2 T σ [(0, .ref a), (1, .int (iI c1)), (2, .int (iI c2)), (3, .int (iI i3))] [] post := by
  intro n
  induction n using Nat.strongRecOn with
  | _ n ih =>
    intro i3 r_i3 hm
    refine tn_iload_n dX8_meets_2 rfl 3 rfl ?_
    refine tn_iconst dX8_meets_3 ?_
    refine tn_icmp_ge (tgt := 45) dX8_meets_4 (by decide) ⟨by omega, by omega⟩ ⟨by decide, by decide⟩ (fun h1 => ?_) (fun h1 => ?_)
    · exact tn_sub [0, 1, 2, 3] rfl (hx_45 (i3) (by omega))
    · refine tn_aload_n dX8_meets_7 rfl 0 rfl ?_
      obtain ⟨x2, hx3, hk4, hl5⟩ : ∃ x : Nat, σ.2.1 76 a = (x : Int) ∧ AR T x 3 576 576 := wf_76 hw h_a
      refine tn_getR (ci := 8) (i := 4) (n := 76) (x := x2) dX8_meets_8 rfl lay_8 (by decide) fl8_22 h_a rfl rfl (hx3) ?_
      refine tn_iload_n dX8_meets_11 rfl 1 rfl ?_
      refine tn_iconst dX8_meets_12 ?_
      refine tn_imul dX8_meets_13 ?_
      refine tn_any (fun z6 g7 => ?_)
      have g7r : -2147483648 ≤ z6 ∧ z6 ≤ 2147483647 := g7
      refine tn_iload_n dX8_meets_14 rfl 3 rfl ?_
      refine tn_iadd dX8_meets_15 ?_
      refine tn_any (fun z8 g9 => ?_)
      have g9r : -2147483648 ≤ z8 ∧ z8 ≤ 2147483647 := g9
      refine tn_callSN (M := m_X8_meets) (pc := 16) (ix := 132) (M' := m_X11_bitsAt) (As := [.ref x2, .int (iI z8)]) (rest := []) dX8_meets_16 ok_X11_bitsAt stt_X11_bitsAt nl8_132 np_X11_bitsAt rfl (Nat.le_of_ble_eq_true rfl) (Nat.le_of_ble_eq_true rfl) rfl (k_X11_bitsAt (d) (T := T) (σ := σ) (x := x2) (i := z8) hk4 (by omega) (by omega) hw ) (fun r10 T12 σ11 gt13 hp => ?_)
      obtain ⟨v14, rfl, rfl, rfl⟩ := hp
      clear gt13
      show Tn _ _ 19 T σ [(0, .ref a), (1, .int (iI c1)), (2, .int (iI c2)), (3, .int (iI i3))] [.long (v14)] _
      refine tn_aload_n dX8_meets_19 rfl 0 rfl ?_
      obtain ⟨x15, hx16, hk17, hl18⟩ : ∃ x : Nat, σ.2.1 73 a = (x : Int) ∧ AR T x 3 576 576 := wf_73 hw h_a
      refine tn_getR (ci := 8) (i := 1) (n := 73) (x := x15) dX8_meets_20 rfl lay_8 (by decide) fl8_9 h_a rfl rfl (hx16) ?_
      refine tn_iload_n dX8_meets_23 rfl 2 rfl ?_
      refine tn_iconst dX8_meets_24 ?_
      refine tn_imul dX8_meets_25 ?_
      refine tn_any (fun z19 g20 => ?_)
      have g20r : -2147483648 ≤ z19 ∧ z19 ≤ 2147483647 := g20
      refine tn_iload_n dX8_meets_26 rfl 3 rfl ?_
      refine tn_iadd dX8_meets_27 ?_
      refine tn_any (fun z21 g22 => ?_)
      have g22r : -2147483648 ≤ z21 ∧ z21 ≤ 2147483647 := g22
      refine tn_callSN (M := m_X8_meets) (pc := 28) (ix := 132) (M' := m_X11_bitsAt) (As := [.ref x15, .int (iI z21)]) (rest := [.long (v14)]) dX8_meets_28 ok_X11_bitsAt stt_X11_bitsAt nl8_132 np_X11_bitsAt rfl (Nat.le_of_ble_eq_true rfl) (Nat.le_of_ble_eq_true rfl) rfl (k_X11_bitsAt (d) (T := T) (σ := σ) (x := x15) (i := z21) hk17 (by omega) (by omega) hw ) (fun r23 T25 σ24 gt26 hp => ?_)
      obtain ⟨v27, rfl, rfl, rfl⟩ := hp
      clear gt26
      show Tn _ _ 31 T σ [(0, .ref a), (1, .int (iI c1)), (2, .int (iI c2)), (3, .int (iI i3))] [.long (v27), .long (v14)] _
      refine tn_land dX8_meets_31 ?_
      refine tn_longX (fun w28 => ?_)
      refine tn_lconst (v := 0) dX8_meets_32 rfl ?_
      refine tn_lcmpX dX8_meets_33 ?_
      refine tn_anyI (fun z29 g30 => ?_)
      have g30r : -2147483648 ≤ z29 ∧ z29 ≤ 2147483647 := g30
      refine tn_if_eq (tgt := 39) dX8_meets_34 (by decide) ⟨by omega, by omega⟩ (fun h31 => ?_) (fun h31 => ?_)
      · refine tn_iinc (q0 := 3) (L' := [(3, .int (iI (i3 + 1))), (0, .ref a), (1, .int (iI c1)), (2, .int (iI c2))]) dX8_meets_39 rfl (by decide) rfl ?_
        refine tn_goto (tgt := 2) dX8_meets_42 (by decide) ?_
        exact tn_sub [1, 2, 3, 0] rfl (ih _ (by omega) (i3 + 1) (by omega) rfl)
      · exact tn_sub [0, 1, 2, 3] rfl (hx_37 (i3) (by omega))
theorem dX8_meets_37 : decode cX8_meets 37 = .ok (.iconst 1, 1) := by decide +kernel
theorem dX8_meets_38 : decode cX8_meets 38 = .ok (.ireturn, 1) := by decide +kernel
theorem dX8_meets_45 : decode cX8_meets 45 = .ok (.iconst 0, 1) := by decide +kernel
theorem dX8_meets_46 : decode cX8_meets 46 = .ok (.ireturn, 1) := by decide +kernel
set_option maxRecDepth 20000 in
theorem k_X8_meets (d : Nat) {T : CT} {σ : MS} {a : Nat} {p1 : Int} {p2 : Int} (ha : OB T a 8) (h_p1 : -2147483648 ≤ p1 ∧ p1 ≤ 2147483647) (h_p2 : -2147483648 ≤ p2 ∧ p2 ≤ 2147483647) (hw : WT T σ) : Tn (d + 2) m_X8_meets 0 T σ [(0, .ref a), (1, .int (iI p1)), (2, .int (iI p2))] [] (fun ro T2 σ2 => ∃ v : Int, ro = some (.int (iI v)) ∧ T = T2 ∧ σ = σ2 ∧ (v = 0 ∨ v = 1)) := by
  refine tn_iconst dX8_meets_0 ?_
  refine tn_istore_n (L' := [(3, .int (iI 0)), (0, .ref a), (1, .int (iI p1)), (2, .int (iI p2))]) dX8_meets_1 rfl (by decide) rfl ?_
  refine tn_sub [1, 2, 3, 0] rfl (l_X8_meets_2 (d) (T := T) (σ := σ) (a := a) (c1 := p1) (c2 := p2) ha (by omega) (by omega) hw (fun i31 r7 => ?_) (fun i38 r14 => ?_) _ (0) (by omega) rfl)
  · show Tn _ _ 37 T σ [(0, .ref a), (1, .int (iI p1)), (2, .int (iI p2)), (3, .int (iI i31))] [] _
    refine tn_iconst dX8_meets_37 ?_
    exact tn_zret (v := 1) rfl (by decide) dX8_meets_38 ⟨_, rfl, rfl, rfl, by omega⟩
  · show Tn _ _ 45 T σ [(0, .ref a), (1, .int (iI p1)), (2, .int (iI p2)), (3, .int (iI i38))] [] _
    refine tn_iconst dX8_meets_45 ?_
    exact tn_zret (v := 0) rfl (by decide) dX8_meets_46 ⟨_, rfl, rfl, rfl, by omega⟩
end
section
theorem cd_X8_numberAnew : Cond.code yX8_numberAnew cX8_numberAnew 4 none ∈ pWW := pw5 (List.mem_of_getElem? (i := 227) rfl) rfl
abbrev m_X8_numberAnew : MT := (yX8_numberAnew, cX8_numberAnew, 4, none)
theorem ok_X8_numberAnew : pOk m_X8_numberAnew := ⟨⟨cd_X8_numberAnew, ini_8⟩, by decide +kernel, ⟨by decide +kernel, by decide +kernel⟩, Nat.le_of_ble_eq_true rfl⟩
theorem np_X8_numberAnew : (parseMethodDescriptor yX8_numberAnew.desc).map (fun d => d.parameters.length) = some 1 := by decide +kernel
theorem im_X8_numberAnew : Cond.instanceMethod yX8_numberAnew ∈ pWW := pw5 (List.mem_of_getElem? (i := 226) rfl) rfl
theorem se_X8_numberAnew : Cond.selects RX8 yX8_numberAnew yX8_numberAnew ∈ pWW := pws (List.mem_map.mpr ⟨_, lw_pin 78 rfl, rfl⟩) rfl
theorem ml8_124 : Cond.methodLink RX8 124 yX8_meets ∈ pWW := pw5 (List.mem_of_getElem? (i := 228) rfl) rfl
theorem dX8_numberAnew_0 : decode cX8_numberAnew 0 = .ok (.aload_n 0, 1) := by decide +kernel
theorem dX8_numberAnew_1 : decode cX8_numberAnew 1 = .ok (.getfield 22, 3) := by decide +kernel
theorem dX8_numberAnew_4 : decode cX8_numberAnew 4 = .ok (.iload_n 1, 1) := by decide +kernel
theorem dX8_numberAnew_5 : decode cX8_numberAnew 5 = .ok (.iconst 3, 1) := by decide +kernel
theorem dX8_numberAnew_6 : decode cX8_numberAnew 6 = .ok (.imul, 1) := by decide +kernel
theorem dX8_numberAnew_7 : decode cX8_numberAnew 7 = .ok (.invokestatic 108, 3) := by decide +kernel
theorem dX8_numberAnew_10 : decode cX8_numberAnew 10 = .ok (.iconst 0, 1) := by decide +kernel
theorem dX8_numberAnew_11 : decode cX8_numberAnew 11 = .ok (.istore_n 2, 1) := by decide +kernel
theorem dX8_numberAnew_12 : decode cX8_numberAnew 12 = .ok (.iload_n 2, 1) := by decide +kernel
theorem dX8_numberAnew_13 : decode cX8_numberAnew 13 = .ok (.iload_n 1, 1) := by decide +kernel
theorem dX8_numberAnew_14 : decode cX8_numberAnew 14 = .ok (.if_icmp .ge 49, 3) := by decide +kernel
theorem dX8_numberAnew_17 : decode cX8_numberAnew 17 = .ok (.iconst 0, 1) := by decide +kernel
theorem dX8_numberAnew_18 : decode cX8_numberAnew 18 = .ok (.istore_n 3, 1) := by decide +kernel
theorem dX8_numberAnew_19 : decode cX8_numberAnew 19 = .ok (.iload_n 3, 1) := by decide +kernel
theorem dX8_numberAnew_20 : decode cX8_numberAnew 20 = .ok (.iload_n 2, 1) := by decide +kernel
theorem dX8_numberAnew_21 : decode cX8_numberAnew 21 = .ok (.if_icmp .ge 18, 3) := by decide +kernel
theorem dX8_numberAnew_24 : decode cX8_numberAnew 24 = .ok (.aload_n 0, 1) := by decide +kernel
theorem dX8_numberAnew_25 : decode cX8_numberAnew 25 = .ok (.iload_n 3, 1) := by decide +kernel
theorem dX8_numberAnew_26 : decode cX8_numberAnew 26 = .ok (.iload_n 2, 1) := by decide +kernel
theorem dX8_numberAnew_27 : decode cX8_numberAnew 27 = .ok (.invokevirtual 124, 3) := by decide +kernel
theorem dX8_numberAnew_30 : decode cX8_numberAnew 30 = .ok (.ifCond .eq 9, 3) := by decide +kernel
theorem dX8_numberAnew_33 : decode cX8_numberAnew 33 = .ok (.iinc 3 1, 3) := by decide +kernel
theorem dX8_numberAnew_36 : decode cX8_numberAnew 36 = .ok (.goto (-17), 3) := by decide +kernel
set_option maxRecDepth 20000 in
theorem l_X8_numberAnew_19 (d : Nat) {T : CT} {σ : MS} {a : Nat} {c1 : Int} {c2 : Int} {post : Option Value → CT → MS → Prop} (h_a : OB T a 8) (r_c1 : 1 ≤ c1 ∧ c1 ≤ 2147483647) (r_c2 : 0 ≤ c2 ∧ c2 ≤ 2147483646) (hw : WT T σ) (hx_39 : ∀ (i3 : Int) , (0 ≤ i3 ∧ i3 ≤ 2147483647) → Tn (d + 4) m_X8_numberAnew 39 T σ [(0, .ref a), (1, .int (iI c1)), (2, .int (iI c2)), (3, .int (iI i3))] [] post) : ∀ (n : Nat) (i3 : Int) , (0 ≤ i3 ∧ i3 ≤ 2147483647) → (2147483700 - i3).toNat = n → Tn (d + 4) m_X8_numberAnew 19 T σ [(0, .ref a), (1, .int (iI c1)), (2, .int (iI c2)), (3, .int (iI i3))] [] post := by
  intro n
  induction n using Nat.strongRecOn with
  | _ n ih =>
    intro i3 r_i3 hm
    refine tn_iload_n dX8_numberAnew_19 rfl 3 rfl ?_
    refine tn_iload_n dX8_numberAnew_20 rfl 2 rfl ?_
    refine tn_icmp_ge (tgt := 39) dX8_numberAnew_21 (by decide) ⟨by omega, by omega⟩ ⟨by omega, by omega⟩ (fun h1 => ?_) (fun h1 => ?_)
    · exact tn_sub [0, 1, 2, 3] rfl (hx_39 (i3) (by omega))
    · refine tn_aload_n dX8_numberAnew_24 rfl 0 rfl ?_
      refine tn_iload_n dX8_numberAnew_25 rfl 3 rfl ?_
      refine tn_iload_n dX8_numberAnew_26 rfl 2 rfl ?_
      refine tn_callV (M := m_X8_numberAnew) (pc := 27) (ix := 124) (ci := 8) (M' := m_X8_meets) (As := [.int (iI i3), .int (iI c2)]) (rest := []) dX8_numberAnew_27 ok_X8_meets im_X8_meets se_X8_meets ml8_124 np_X8_meets rfl rfl h_a rfl (Nat.le_of_ble_eq_true rfl) (Nat.le_of_ble_eq_true rfl) rfl (k_X8_meets (d + 1) (T := T) (σ := σ) (a := a) (p1 := i3) (p2 := c2) h_a (by omega) (by omega) hw ) (fun r2 T4 σ3 gt5 hp => ?_)
      obtain ⟨v7, rfl, rfl, rfl, f6⟩ := hp
      clear gt5
      show Tn _ _ 30 T σ [(0, .ref a), (1, .int (iI c1)), (2, .int (iI c2)), (3, .int (iI i3))] [.int (iI v7)] _
      refine tn_if_eq (tgt := 39) dX8_numberAnew_30 (by decide) ⟨by omega, by omega⟩ (fun h8 => ?_) (fun h8 => ?_)
      · exact tn_sub [0, 1, 2, 3] rfl (hx_39 (i3) (by omega))
      · refine tn_iinc (q0 := 3) (L' := [(3, .int (iI (i3 + 1))), (0, .ref a), (1, .int (iI c1)), (2, .int (iI c2))]) dX8_numberAnew_33 rfl (by decide) rfl ?_
        refine tn_goto (tgt := 19) dX8_numberAnew_36 (by decide) ?_
        exact tn_sub [1, 2, 3, 0] rfl (ih _ (by omega) (i3 + 1) (by omega) rfl)
theorem fl8_18 : Cond.fieldLink RX8 18 (TX8 3).1 (TX8 3).2.1 (TX8 3).2.2.1 ∈ pWW := pw2 (List.mem_of_getElem? (i := 101) rfl) rfl
theorem nl8_128 : (RX8, 128, yX11_put, "LineKeeper") ∈ nst_M := List.mem_of_getElem? (i := 44) rfl
theorem dX8_numberAnew_39 : decode cX8_numberAnew 39 = .ok (.aload_n 0, 1) := by decide +kernel
theorem dX8_numberAnew_40 : decode cX8_numberAnew 40 = .ok (.getfield 18, 3) := by decide +kernel
theorem dX8_numberAnew_43 : decode cX8_numberAnew 43 = .ok (.iload_n 2, 1) := by decide +kernel
theorem dX8_numberAnew_44 : decode cX8_numberAnew 44 = .ok (.iload_n 3, 1) := by decide +kernel
theorem dX8_numberAnew_45 : decode cX8_numberAnew 45 = .ok (.invokestatic 128, 3) := by decide +kernel
theorem dX8_numberAnew_48 : decode cX8_numberAnew 48 = .ok (.aload_n 0, 1) := by decide +kernel
theorem dX8_numberAnew_49 : decode cX8_numberAnew 49 = .ok (.getfield 22, 3) := by decide +kernel
theorem dX8_numberAnew_52 : decode cX8_numberAnew 52 = .ok (.iload_n 3, 1) := by decide +kernel
theorem dX8_numberAnew_53 : decode cX8_numberAnew 53 = .ok (.iload_n 2, 1) := by decide +kernel
theorem dX8_numberAnew_54 : decode cX8_numberAnew 54 = .ok (.invokestatic 104, 3) := by decide +kernel
theorem dX8_numberAnew_57 : decode cX8_numberAnew 57 = .ok (.iinc 2 1, 3) := by decide +kernel
theorem dX8_numberAnew_60 : decode cX8_numberAnew 60 = .ok (.goto (-48), 3) := by decide +kernel
set_option maxRecDepth 20000 in
theorem l_X8_numberAnew_12 (d : Nat) {T : CT} {σ0 : MS} {a : Nat} {c1 : Int} {post : Option Value → CT → MS → Prop} (h_a : OB T a 8) (r_c1 : -2147483648 ≤ c1 ∧ c1 ≤ 2147483647) (hw0 : WT T σ0) (hx_63 : ∀ (i2 : Int) (σ : MS) , (WT T σ) → (FrC T [] σ0 σ) → (0 ≤ i2 ∧ i2 ≤ 2147483647) → Tn (d + 4) m_X8_numberAnew 63 T σ [(0, .ref a), (1, .int (iI c1)), (2, .int (iI i2))] [] post) : ∀ (n : Nat) (i2 : Int) (σ : MS) , (WT T σ) → (FrC T [] σ0 σ) → (0 ≤ i2 ∧ i2 ≤ 2147483647) → (2147483700 - i2).toNat = n → Tn (d + 4) m_X8_numberAnew 12 T σ [(0, .ref a), (1, .int (iI c1)), (2, .int (iI i2))] [] post := by
  intro n
  induction n using Nat.strongRecOn with
  | _ n ih =>
    intro i2 σ hw hF r_i2 hm
    refine tn_iload_n dX8_numberAnew_12 rfl 2 rfl ?_
    refine tn_iload_n dX8_numberAnew_13 rfl 1 rfl ?_
    refine tn_icmp_ge (tgt := 63) dX8_numberAnew_14 (by decide) ⟨by omega, by omega⟩ ⟨by omega, by omega⟩ (fun h1 => ?_) (fun h1 => ?_)
    · exact tn_sub [0, 1, 2] rfl (hx_63 (i2) σ hw (FrC.rfl.trans (FrC.sub hF (by decide))) (by omega))
    · refine tn_iconst dX8_numberAnew_17 ?_
      refine tn_istore_n (L' := [(3, .int (iI 0)), (0, .ref a), (1, .int (iI c1)), (2, .int (iI i2))]) dX8_numberAnew_18 rfl (by decide) rfl ?_
      refine tn_sub [1, 2, 3, 0] rfl (l_X8_numberAnew_19 (d) (T := T) (σ := σ) (a := a) (c1 := c1) (c2 := i2) h_a (by omega) (by omega) hw (fun i32 r8 => ?_) _ (0) (by omega) rfl)
      show Tn _ _ 39 T σ [(0, .ref a), (1, .int (iI c1)), (2, .int (iI i2)), (3, .int (iI i32))] [] _
      refine tn_aload_n dX8_numberAnew_39 rfl 0 rfl ?_
      obtain ⟨x9, hx10, hk11, hl12⟩ : ∃ x : Nat, σ0.2.1 75 a = (x : Int) ∧ AR T x 1 192 192 := wf_75 hw0 h_a
      have hk11i : IA T x9 := by unfold IA; omega
      refine tn_getR (ci := 8) (i := 3) (n := 75) (x := x9) dX8_numberAnew_40 rfl lay_8 (by decide) fl8_18 h_a rfl rfl (rc_F hF (Or.inl (by decide)) (by decide) (hx10)) ?_
      refine tn_iload_n dX8_numberAnew_43 rfl 2 rfl ?_
      refine tn_iload_n dX8_numberAnew_44 rfl 3 rfl ?_
      refine tn_callSN (M := m_X8_numberAnew) (pc := 45) (ix := 128) (M' := m_X11_put) (As := [.ref x9, .int (iI i2), .int (iI i32)]) (rest := []) dX8_numberAnew_45 ok_X11_put stt_X11_put nl8_128 np_X11_put rfl (Nat.le_of_ble_eq_true rfl) (Nat.le_of_ble_eq_true rfl) rfl (k_X11_put (d + 2) (T := T) (σ := σ) (x := x9) (i := i2) (y := i32) hk11i (by omega) (by omega) (by omega) hw (nh_k hk11 (by unfold HT; omega)) (vok_1 (by have q9 := hk11; omega) (by omega))) (fun r13 T15 σ14 gt16 hp => ?_)
      obtain ⟨rfl, rfl, w18, F19⟩ := hp
      clear gt16
      show Tn _ _ 48 T σ14 [(0, .ref a), (1, .int (iI c1)), (2, .int (iI i2)), (3, .int (iI i32))] [] _
      refine tn_aload_n dX8_numberAnew_48 rfl 0 rfl ?_
      obtain ⟨x20, hx21, hk22, hl23⟩ : ∃ x : Nat, σ0.2.1 76 a = (x : Int) ∧ AR T x 3 576 576 := wf_76 hw0 h_a
      refine tn_getR (ci := 8) (i := 4) (n := 76) (x := x20) dX8_numberAnew_49 rfl lay_8 (by decide) fl8_22 h_a rfl rfl (rc_F F19 (Or.inl (by decide)) (by decide) (rc_F hF (Or.inl (by decide)) (by decide) (hx21))) ?_
      refine tn_iload_n dX8_numberAnew_52 rfl 3 rfl ?_
      refine tn_iload_n dX8_numberAnew_53 rfl 2 rfl ?_
      refine tn_callSN (M := m_X8_numberAnew) (pc := 54) (ix := 104) (M' := m_X11_include) (As := [.ref x20, .int (iI i32), .int (iI i2)]) (rest := []) dX8_numberAnew_54 ok_X11_include stt_X11_include nl8_104 np_X11_include rfl (Nat.le_of_ble_eq_true rfl) (Nat.le_of_ble_eq_true rfl) rfl (k_X11_include (d + 1) (T := T) (σ := σ14) (x := x20) (k := i32) (r := i2) hk22 (by omega) (by omega) (by omega) w18 ) (fun r24 T26 σ25 gt27 hp => ?_)
      obtain ⟨rfl, rfl, w29, F30⟩ := hp
      clear gt27
      show Tn _ _ 57 T σ25 [(0, .ref a), (1, .int (iI c1)), (2, .int (iI i2)), (3, .int (iI i32))] [] _
      refine tn_iinc (q0 := 2) (L' := [(2, .int (iI (i2 + 1))), (0, .ref a), (1, .int (iI c1)), (3, .int (iI i32))]) dX8_numberAnew_57 rfl (by decide) rfl ?_
      refine tn_goto (tgt := 12) dX8_numberAnew_60 (by decide) ?_
      exact tn_sub [1, 2, 0] rfl (ih _ (by omega) (i2 + 1) σ25 w29 (((FrC.rfl.trans (FrC.sub hF (by decide))).trans (FrC.sub F19 (by decide))).trans (FrC.sub F30 (by decide))) (by omega) rfl)
theorem dX8_numberAnew_63 : decode cX8_numberAnew 63 = .ok (.return_, 1) := by decide +kernel
set_option maxRecDepth 20000 in
theorem k_X8_numberAnew (d : Nat) {T : CT} {σ : MS} {a : Nat} {p1 : Int} (ha : OB T a 8) (h_p1 : -2147483648 ≤ p1 ∧ p1 ≤ 2147483647) (hw : WT T σ) : Tn (d + 4) m_X8_numberAnew 0 T σ [(0, .ref a), (1, .int (iI p1))] [] (fun ro T2 σ2 => ro = none ∧ T = T2 ∧ WT T2 σ2 ∧ FrC T [] σ σ2) := by
  refine tn_aload_n dX8_numberAnew_0 rfl 0 rfl ?_
  obtain ⟨x1, hx2, hk3, hl4⟩ : ∃ x : Nat, σ.2.1 76 a = (x : Int) ∧ AR T x 3 576 576 := wf_76 hw ha
  refine tn_getR (ci := 8) (i := 4) (n := 76) (x := x1) dX8_numberAnew_1 rfl lay_8 (by decide) fl8_22 ha rfl rfl (hx2) ?_
  refine tn_iload_n dX8_numberAnew_4 rfl 1 rfl ?_
  refine tn_iconst dX8_numberAnew_5 ?_
  refine tn_imul dX8_numberAnew_6 ?_
  refine tn_any (fun z5 g6 => ?_)
  have g6r : -2147483648 ≤ z5 ∧ z5 ≤ 2147483647 := g6
  refine tn_callSN (M := m_X8_numberAnew) (pc := 7) (ix := 108) (M' := m_X11_clear) (As := [.ref x1, .int (iI z5)]) (rest := []) dX8_numberAnew_7 ok_X11_clear stt_X11_clear nl8_108 np_X11_clear rfl (Nat.le_of_ble_eq_true rfl) (Nat.le_of_ble_eq_true rfl) rfl (k_X11_clear (d) (T := T) (σ := σ) (x := x1) (n := z5) hk3 (by omega) (by omega) hw ) (fun r7 T9 σ8 gt10 hp => ?_)
  obtain ⟨rfl, rfl, w12, F13⟩ := hp
  clear gt10
  show Tn _ _ 10 T σ8 [(0, .ref a), (1, .int (iI p1))] [] _
  refine tn_iconst dX8_numberAnew_10 ?_
  refine tn_istore_n (L' := [(2, .int (iI 0)), (0, .ref a), (1, .int (iI p1))]) dX8_numberAnew_11 rfl (by decide) rfl ?_
  refine tn_sub [1, 2, 0] rfl (l_X8_numberAnew_12 (d) (T := T) (σ0 := σ8) (a := a) (c1 := p1) ha (by omega) w12 (fun i214 σ15 w18 F19 r20 => ?_) _ (0) σ8 w12 FrC.rfl (by omega) rfl)
  show Tn _ _ 63 T σ15 [(0, .ref a), (1, .int (iI p1)), (2, .int (iI i214))] [] _
  exact tn_vret rfl dX8_numberAnew_63 ⟨rfl, rfl, w18, ((FrC.rfl.trans (FrC.sub F13 (by decide))).trans (FrC.sub F19 (by decide)))⟩
end
section
theorem cd_X8_comeTo : Cond.code yX8_comeTo cX8_comeTo 9 none ∈ pWW := pw6 (List.mem_of_getElem? (i := 11) rfl) rfl
abbrev m_X8_comeTo : MT := (yX8_comeTo, cX8_comeTo, 9, none)
theorem ok_X8_comeTo : pOk m_X8_comeTo := ⟨⟨cd_X8_comeTo, ini_8⟩, by decide +kernel, ⟨by decide +kernel, by decide +kernel⟩, Nat.le_of_ble_eq_true rfl⟩
theorem np_X8_comeTo : (parseMethodDescriptor yX8_comeTo.desc).map (fun d => d.parameters.length) = some 2 := by decide +kernel
theorem im_X8_comeTo : Cond.instanceMethod yX8_comeTo ∈ pWW := pw6 (List.mem_of_getElem? (i := 10) rfl) rfl
theorem se_X8_comeTo : Cond.selects RX8 yX8_comeTo yX8_comeTo ∈ pWW := pws (List.mem_map.mpr ⟨_, lw_pin 82 rfl, rfl⟩) rfl
theorem fl8_28 : Cond.fieldLink RX8 28 (TX8 6).1 (TX8 6).2.1 (TX8 6).2.2.1 ∈ pWW := pw2 (List.mem_of_getElem? (i := 104) rfl) rfl
theorem nl8_74 : (RX8, 74, yX11_at, "LineKeeper") ∈ nst_M := List.mem_of_getElem? (i := 45) rfl
theorem fl8_25 : Cond.fieldLink RX8 25 (TX8 5).1 (TX8 5).2.1 (TX8 5).2.2.1 ∈ pWW := pw2 (List.mem_of_getElem? (i := 103) rfl) rfl
theorem fl8_31 : Cond.fieldLink RX8 31 (TX8 7).1 (TX8 7).2.1 (TX8 7).2.2.1 ∈ pWW := pw2 (List.mem_of_getElem? (i := 105) rfl) rfl
theorem fl8_142 : Cond.fieldLink RX8 142 (TX8 8).1 (TX8 8).2.1 (TX8 8).2.2.1 ∈ pWW := pw2 (List.mem_of_getElem? (i := 106) rfl) rfl
theorem nl8_152 : (RX8, 152, yX11_putBits, "LineKeeper") ∈ nst_M := List.mem_of_getElem? (i := 46) rfl
theorem dX8_comeTo_0 : decode cX8_comeTo 0 = .ok (.iload_n 2, 1) := by decide +kernel
theorem dX8_comeTo_1 : decode cX8_comeTo 1 = .ok (.ifCond .lt 11, 3) := by decide +kernel
theorem dX8_comeTo_12 : decode cX8_comeTo 12 = .ok (.return_, 1) := by decide +kernel
theorem dX8_comeTo_4 : decode cX8_comeTo 4 = .ok (.iload_n 2, 1) := by decide +kernel
theorem dX8_comeTo_5 : decode cX8_comeTo 5 = .ok (.aload_n 1, 1) := by decide +kernel
theorem dX8_comeTo_6 : decode cX8_comeTo 6 = .ok (.getfield 70, 3) := by decide +kernel
theorem dX8_comeTo_9 : decode cX8_comeTo 9 = .ok (.if_icmp .le 4, 3) := by decide +kernel
theorem dX8_comeTo_13 : decode cX8_comeTo 13 = .ok (.aload_n 0, 1) := by decide +kernel
theorem dX8_comeTo_14 : decode cX8_comeTo 14 = .ok (.getfield 28, 3) := by decide +kernel
theorem dX8_comeTo_17 : decode cX8_comeTo 17 = .ok (.iload_n 2, 1) := by decide +kernel
theorem dX8_comeTo_18 : decode cX8_comeTo 18 = .ok (.invokestatic 74, 3) := by decide +kernel
theorem dX8_comeTo_21 : decode cX8_comeTo 21 = .ok (.ifCond .ne 7, 3) := by decide +kernel
theorem dX8_comeTo_28 : decode cX8_comeTo 28 = .ok (.iconst 0, 1) := by decide +kernel
theorem dX8_comeTo_29 : decode cX8_comeTo 29 = .ok (.istore_n 3, 1) := by decide +kernel
theorem dX8_comeTo_30 : decode cX8_comeTo 30 = .ok (.iconst 0, 1) := by decide +kernel
theorem dX8_comeTo_31 : decode cX8_comeTo 31 = .ok (.istore 4, 2) := by decide +kernel
theorem dX8_comeTo_33 : decode cX8_comeTo 33 = .ok (.iload 4, 2) := by decide +kernel
theorem dX8_comeTo_35 : decode cX8_comeTo 35 = .ok (.iconst 3, 1) := by decide +kernel
theorem dX8_comeTo_36 : decode cX8_comeTo 36 = .ok (.if_icmp .ge 95, 3) := by decide +kernel
theorem dX8_comeTo_39 : decode cX8_comeTo 39 = .ok (.aload_n 0, 1) := by decide +kernel
theorem dX8_comeTo_40 : decode cX8_comeTo 40 = .ok (.getfield 25, 3) := by decide +kernel
theorem dX8_comeTo_43 : decode cX8_comeTo 43 = .ok (.iload_n 2, 1) := by decide +kernel
theorem dX8_comeTo_44 : decode cX8_comeTo 44 = .ok (.iconst 3, 1) := by decide +kernel
theorem dX8_comeTo_45 : decode cX8_comeTo 45 = .ok (.imul, 1) := by decide +kernel
theorem dX8_comeTo_46 : decode cX8_comeTo 46 = .ok (.iload 4, 2) := by decide +kernel
theorem dX8_comeTo_48 : decode cX8_comeTo 48 = .ok (.iadd, 1) := by decide +kernel
theorem dX8_comeTo_49 : decode cX8_comeTo 49 = .ok (.invokestatic 132, 3) := by decide +kernel
theorem dX8_comeTo_52 : decode cX8_comeTo 52 = .ok (.lstore 5, 2) := by decide +kernel
theorem dX8_comeTo_54 : decode cX8_comeTo 54 = .ok (.iload_n 3, 1) := by decide +kernel
theorem dX8_comeTo_55 : decode cX8_comeTo 55 = .ok (.ifCond .eq 15, 3) := by decide +kernel
theorem dX8_comeTo_70 : decode cX8_comeTo 70 = .ok (.lload 5, 2) := by decide +kernel
theorem dX8_comeTo_72 : decode cX8_comeTo 72 = .ok (.aload_n 0, 1) := by decide +kernel
theorem dX8_comeTo_73 : decode cX8_comeTo 73 = .ok (.getfield 31, 3) := by decide +kernel
theorem dX8_comeTo_76 : decode cX8_comeTo 76 = .ok (.iload 4, 2) := by decide +kernel
theorem dX8_comeTo_78 : decode cX8_comeTo 78 = .ok (.invokestatic 132, 3) := by decide +kernel
theorem dX8_comeTo_81 : decode cX8_comeTo 81 = .ok (.land, 1) := by decide +kernel
theorem dX8_comeTo_82 : decode cX8_comeTo 82 = .ok (.lstore 7, 2) := by decide +kernel
theorem dX8_comeTo_84 : decode cX8_comeTo 84 = .ok (.aload_n 0, 1) := by decide +kernel
theorem dX8_comeTo_85 : decode cX8_comeTo 85 = .ok (.dup, 1) := by decide +kernel
theorem dX8_comeTo_86 : decode cX8_comeTo 86 = .ok (.getfield 142, 3) := by decide +kernel
theorem dX8_comeTo_89 : decode cX8_comeTo 89 = .ok (.iload_n 3, 1) := by decide +kernel
theorem dX8_comeTo_90 : decode cX8_comeTo 90 = .ok (.ifCond .ne 11, 3) := by decide +kernel
theorem dX8_comeTo_93 : decode cX8_comeTo 93 = .ok (.lload 7, 2) := by decide +kernel
theorem dX8_comeTo_95 : decode cX8_comeTo 95 = .ok (.lload 5, 2) := by decide +kernel
theorem dX8_comeTo_97 : decode cX8_comeTo 97 = .ok (.lcmp, 1) := by decide +kernel
theorem dX8_comeTo_98 : decode cX8_comeTo 98 = .ok (.ifCond .eq 7, 3) := by decide +kernel
theorem dX8_comeTo_105 : decode cX8_comeTo 105 = .ok (.iconst 0, 1) := by decide +kernel
theorem dX8_comeTo_106 : decode cX8_comeTo 106 = .ok (.ior, 1) := by decide +kernel
theorem dX8_comeTo_107 : decode cX8_comeTo 107 = .ok (.putfield 142, 3) := by decide +kernel
theorem dX8_comeTo_110 : decode cX8_comeTo 110 = .ok (.aload_n 0, 1) := by decide +kernel
theorem dX8_comeTo_111 : decode cX8_comeTo 111 = .ok (.getfield 25, 3) := by decide +kernel
theorem dX8_comeTo_114 : decode cX8_comeTo 114 = .ok (.iload_n 2, 1) := by decide +kernel
theorem dX8_comeTo_115 : decode cX8_comeTo 115 = .ok (.iconst 3, 1) := by decide +kernel
theorem dX8_comeTo_116 : decode cX8_comeTo 116 = .ok (.imul, 1) := by decide +kernel
theorem dX8_comeTo_117 : decode cX8_comeTo 117 = .ok (.iload 4, 2) := by decide +kernel
theorem dX8_comeTo_119 : decode cX8_comeTo 119 = .ok (.iadd, 1) := by decide +kernel
theorem dX8_comeTo_120 : decode cX8_comeTo 120 = .ok (.lload 7, 2) := by decide +kernel
theorem dX8_comeTo_122 : decode cX8_comeTo 122 = .ok (.invokestatic 152, 3) := by decide +kernel
theorem dX8_comeTo_125 : decode cX8_comeTo 125 = .ok (.iinc 4 1, 3) := by decide +kernel
theorem dX8_comeTo_128 : decode cX8_comeTo 128 = .ok (.goto (-95), 3) := by decide +kernel
theorem dX8_comeTo_101 : decode cX8_comeTo 101 = .ok (.iconst 1, 1) := by decide +kernel
theorem dX8_comeTo_102 : decode cX8_comeTo 102 = .ok (.goto 4, 3) := by decide +kernel
theorem dX8_comeTo_58 : decode cX8_comeTo 58 = .ok (.aload_n 0, 1) := by decide +kernel
theorem dX8_comeTo_59 : decode cX8_comeTo 59 = .ok (.getfield 31, 3) := by decide +kernel
theorem dX8_comeTo_62 : decode cX8_comeTo 62 = .ok (.iload 4, 2) := by decide +kernel
theorem dX8_comeTo_64 : decode cX8_comeTo 64 = .ok (.invokestatic 132, 3) := by decide +kernel
theorem dX8_comeTo_67 : decode cX8_comeTo 67 = .ok (.goto 15, 3) := by decide +kernel
set_option maxRecDepth 20000 in
theorem l_X8_comeTo_33 (d : Nat) {T : CT} {σ0 : MS} {a : Nat} {c2 : Int} {c3 : Int} {post : Option Value → CT → MS → Prop} (h_a : OB T a 8) (r_c2 : 0 ≤ c2 ∧ c2 ≤ 200) (r_c3 : 0 ≤ c3 ∧ c3 ≤ 1) (hw0 : WT T σ0) (hx_131 : ∀ (i4 : Int) (σ : MS) , (WT T σ) → (FrC T [80] σ0 σ) → (0 ≤ i4 ∧ i4 ≤ 2147483647) → Tn (d + 2) m_X8_comeTo 131 T σ [(0, .ref a), (2, .int (iI c2)), (3, .int (iI c3)), (4, .int (iI i4))] [] post) : ∀ (n : Nat) (i4 : Int) (σ : MS) , (WT T σ) → (FrC T [80] σ0 σ) → (0 ≤ i4 ∧ i4 ≤ 2147483647) → (2147483700 - i4).toNat = n → Tn (d + 2) m_X8_comeTo 33 T σ [(0, .ref a), (2, .int (iI c2)), (3, .int (iI c3)), (4, .int (iI i4))] [] post := by
  intro n
  induction n using Nat.strongRecOn with
  | _ n ih =>
    intro i4 σ hw hF r_i4 hm
    refine tn_iload dX8_comeTo_33 3 rfl ?_
    refine tn_iconst dX8_comeTo_35 ?_
    refine tn_icmp_ge (tgt := 131) dX8_comeTo_36 (by decide) ⟨by omega, by omega⟩ ⟨by decide, by decide⟩ (fun h1 => ?_) (fun h1 => ?_)
    · exact tn_sub [0, 1, 2, 3] rfl (hx_131 (i4) σ hw (FrC.rfl.trans (FrC.sub hF (by decide))) (by omega))
    · refine tn_aload_n dX8_comeTo_39 rfl 0 rfl ?_
      obtain ⟨x2, hx3, hk4, hl5⟩ : ∃ x : Nat, σ0.2.1 77 a = (x : Int) ∧ AR T x 3 603 603 := wf_77 hw0 h_a
      refine tn_getR (ci := 8) (i := 5) (n := 77) (x := x2) dX8_comeTo_40 rfl lay_8 (by decide) fl8_25 h_a rfl rfl (rc_F hF (Or.inl (by decide)) (by decide) (hx3)) ?_
      refine tn_iload_n dX8_comeTo_43 rfl 1 rfl ?_
      refine tn_iconst dX8_comeTo_44 ?_
      refine tn_imul dX8_comeTo_45 ?_
      refine tn_iload dX8_comeTo_46 3 rfl ?_
      refine tn_iadd dX8_comeTo_48 ?_
      refine tn_callSN (M := m_X8_comeTo) (pc := 49) (ix := 132) (M' := m_X11_bitsAt) (As := [.ref x2, .int (iI ((c2 * 3) + i4))]) (rest := []) dX8_comeTo_49 ok_X11_bitsAt stt_X11_bitsAt nl8_132 np_X11_bitsAt rfl (Nat.le_of_ble_eq_true rfl) (Nat.le_of_ble_eq_true rfl) rfl (k_X11_bitsAt (d) (T := T) (σ := σ) (x := x2) (i := (c2 * 3) + i4) hk4 (by omega) (by omega) hw ) (fun r6 T8 σ7 gt9 hp => ?_)
      obtain ⟨v10, rfl, rfl, rfl⟩ := hp
      clear gt9
      show Tn _ _ 52 T σ [(0, .ref a), (2, .int (iI c2)), (3, .int (iI c3)), (4, .int (iI i4))] [.long (v10)] _
      refine tn_lstore (L' := [(5, .long (v10)), (0, .ref a), (2, .int (iI c2)), (3, .int (iI c3)), (4, .int (iI i4))]) dX8_comeTo_52 (by decide) rfl ?_
      refine tn_iload_n dX8_comeTo_54 rfl 3 rfl ?_
      refine tn_if_eq (tgt := 70) dX8_comeTo_55 (by decide) ⟨by omega, by omega⟩ (fun h11 => ?_) (fun h11 => ?_)
      · refine tn_lload dX8_comeTo_70 0 rfl ?_
        refine tn_aload_n dX8_comeTo_72 rfl 1 rfl ?_
        obtain ⟨x12, hx13, hk14, hl15⟩ : ∃ x : Nat, σ0.2.1 79 a = (x : Int) ∧ AR T x 3 3 3 := wf_79 hw0 h_a
        refine tn_getR (ci := 8) (i := 7) (n := 79) (x := x12) dX8_comeTo_73 rfl lay_8 (by decide) fl8_31 h_a rfl rfl (rc_F hF (Or.inl (by decide)) (by decide) (hx13)) ?_
        refine tn_iload dX8_comeTo_76 4 rfl ?_
        refine tn_callSN (M := m_X8_comeTo) (pc := 78) (ix := 132) (M' := m_X11_bitsAt) (As := [.ref x12, .int (iI i4)]) (rest := [.long (v10)]) dX8_comeTo_78 ok_X11_bitsAt stt_X11_bitsAt nl8_132 np_X11_bitsAt rfl (Nat.le_of_ble_eq_true rfl) (Nat.le_of_ble_eq_true rfl) rfl (k_X11_bitsAt (d) (T := T) (σ := σ) (x := x12) (i := i4) hk14 (by omega) (by omega) hw ) (fun r16 T18 σ17 gt19 hp => ?_)
        obtain ⟨v20, rfl, rfl, rfl⟩ := hp
        clear gt19
        show Tn _ _ 81 T σ [(5, .long (v10)), (0, .ref a), (2, .int (iI c2)), (3, .int (iI c3)), (4, .int (iI i4))] [.long (v20), .long (v10)] _
        refine tn_land dX8_comeTo_81 ?_
        refine tn_longX (fun w21 => ?_)
        refine tn_lstore (L' := [(7, .long (w21)), (5, .long (v10)), (0, .ref a), (2, .int (iI c2)), (3, .int (iI c3)), (4, .int (iI i4))]) dX8_comeTo_82 (by decide) rfl ?_
        refine tn_aload_n dX8_comeTo_84 rfl 2 rfl ?_
        refine tn_dup dX8_comeTo_85 rfl ?_
        refine tn_getI (ci := 8) (i := 8) (n := 80) (t := σ.2.1 80 a) dX8_comeTo_86 rfl lay_8 (by decide) fl8_142 h_a rfl rfl (rfl) ?_
        have g22 : ((0 : Int) ≤ σ.2.1 80 a ∧ σ.2.1 80 a ≤ 1) := wf_80 hw h_a
        refine tn_iload_n dX8_comeTo_89 rfl 4 rfl ?_
        refine tn_if_ne (tgt := 101) dX8_comeTo_90 (by decide) ⟨by omega, by omega⟩ (fun h23 => absurd h23 (by omega)) (fun h23 => ?_)
        refine tn_lload dX8_comeTo_93 0 rfl ?_
        refine tn_lload dX8_comeTo_95 1 rfl ?_
        refine tn_lcmpX dX8_comeTo_97 ?_
        refine tn_anyI (fun z24 g25 => ?_)
        have g25r : -2147483648 ≤ z24 ∧ z24 ≤ 2147483647 := g25
        refine tn_if_eq (tgt := 105) dX8_comeTo_98 (by decide) ⟨by omega, by omega⟩ (fun h26 => ?_) (fun h26 => ?_)
        · refine tn_iconst dX8_comeTo_105 ?_
          refine tn_ior dX8_comeTo_106 ?_
          refine tn_bor (x := σ.2.1 80 a) (y := 0) (by omega) (by omega) (fun z29 g30 => ?_)
          refine tn_putV (ci := 8) (i := 8) (n := 80) (r := false) (v := z29) tyX8 tyX8_ok nmX8 dX8_comeTo_107 rfl lay_8 (by decide) fl8_142 rfl (tyX8_ok 8 (by decide)) rfl (nz_b (by omega)) (fz_b (by omega)) h_a rfl rfl ?_
          refine tn_aload_n dX8_comeTo_110 rfl 2 rfl ?_
          refine tn_getR (ci := 8) (i := 5) (n := 77) (x := x2) dX8_comeTo_111 rfl lay_8 (by decide) fl8_25 h_a rfl rfl (rc_o (by decide) (rc_F hF (Or.inl (by decide)) (by decide) (hx3))) ?_
          refine tn_iload_n dX8_comeTo_114 rfl 3 rfl ?_
          refine tn_iconst dX8_comeTo_115 ?_
          refine tn_imul dX8_comeTo_116 ?_
          refine tn_iload dX8_comeTo_117 5 rfl ?_
          refine tn_iadd dX8_comeTo_119 ?_
          refine tn_lload dX8_comeTo_120 0 rfl ?_
          refine tn_callSN (M := m_X8_comeTo) (pc := 122) (ix := 152) (M' := m_X11_putBits) (As := [.ref x2, .int (iI ((c2 * 3) + i4)), .long (w21)]) (rest := []) dX8_comeTo_122 ok_X11_putBits stt_X11_putBits nl8_152 np_X11_putBits rfl (Nat.le_of_ble_eq_true rfl) (Nat.le_of_ble_eq_true rfl) rfl (k_X11_putBits (d) (T := T) (σ := (sA 80 a (z29) σ)) (x := x2) (i := (c2 * 3) + i4) (w := w21) hk4 (by omega) (by omega) (hw.put (by decide) (by decide) (fo_80 (by omega))) ) (fun r31 T33 σ32 gt34 hp => ?_)
          obtain ⟨rfl, rfl, w36, F37⟩ := hp
          clear gt34
          show Tn _ _ 125 T σ32 [(7, .long (w21)), (5, .long (v10)), (0, .ref a), (2, .int (iI c2)), (3, .int (iI c3)), (4, .int (iI i4))] [] _
          refine tn_iinc (q0 := 5) (L' := [(4, .int (iI (i4 + 1))), (7, .long (w21)), (5, .long (v10)), (0, .ref a), (2, .int (iI c2)), (3, .int (iI c3))]) dX8_comeTo_125 rfl (by decide) rfl ?_
          refine tn_goto (tgt := 33) dX8_comeTo_128 (by decide) ?_
          exact tn_sub [3, 4, 5, 0] rfl (ih _ (by omega) (i4 + 1) σ32 w36 (((FrC.rfl.trans (FrC.sub hF (by decide))).put (by decide) (by decide)).trans (FrC.sub F37 (by decide))) (by omega) rfl)
        · refine tn_iconst dX8_comeTo_101 ?_
          refine tn_goto (tgt := 106) dX8_comeTo_102 (by decide) ?_
          refine tn_ior dX8_comeTo_106 ?_
          refine tn_bor (x := σ.2.1 80 a) (y := 1) (by omega) (by omega) (fun z40 g41 => ?_)
          refine tn_putV (ci := 8) (i := 8) (n := 80) (r := false) (v := z40) tyX8 tyX8_ok nmX8 dX8_comeTo_107 rfl lay_8 (by decide) fl8_142 rfl (tyX8_ok 8 (by decide)) rfl (nz_b (by omega)) (fz_b (by omega)) h_a rfl rfl ?_
          refine tn_aload_n dX8_comeTo_110 rfl 2 rfl ?_
          refine tn_getR (ci := 8) (i := 5) (n := 77) (x := x2) dX8_comeTo_111 rfl lay_8 (by decide) fl8_25 h_a rfl rfl (rc_o (by decide) (rc_F hF (Or.inl (by decide)) (by decide) (hx3))) ?_
          refine tn_iload_n dX8_comeTo_114 rfl 3 rfl ?_
          refine tn_iconst dX8_comeTo_115 ?_
          refine tn_imul dX8_comeTo_116 ?_
          refine tn_iload dX8_comeTo_117 5 rfl ?_
          refine tn_iadd dX8_comeTo_119 ?_
          refine tn_lload dX8_comeTo_120 0 rfl ?_
          refine tn_callSN (M := m_X8_comeTo) (pc := 122) (ix := 152) (M' := m_X11_putBits) (As := [.ref x2, .int (iI ((c2 * 3) + i4)), .long (w21)]) (rest := []) dX8_comeTo_122 ok_X11_putBits stt_X11_putBits nl8_152 np_X11_putBits rfl (Nat.le_of_ble_eq_true rfl) (Nat.le_of_ble_eq_true rfl) rfl (k_X11_putBits (d) (T := T) (σ := (sA 80 a (z40) σ)) (x := x2) (i := (c2 * 3) + i4) (w := w21) hk4 (by omega) (by omega) (hw.put (by decide) (by decide) (fo_80 (by omega))) ) (fun r42 T44 σ43 gt45 hp => ?_)
          obtain ⟨rfl, rfl, w47, F48⟩ := hp
          clear gt45
          show Tn _ _ 125 T σ43 [(7, .long (w21)), (5, .long (v10)), (0, .ref a), (2, .int (iI c2)), (3, .int (iI c3)), (4, .int (iI i4))] [] _
          refine tn_iinc (q0 := 5) (L' := [(4, .int (iI (i4 + 1))), (7, .long (w21)), (5, .long (v10)), (0, .ref a), (2, .int (iI c2)), (3, .int (iI c3))]) dX8_comeTo_125 rfl (by decide) rfl ?_
          refine tn_goto (tgt := 33) dX8_comeTo_128 (by decide) ?_
          exact tn_sub [3, 4, 5, 0] rfl (ih _ (by omega) (i4 + 1) σ43 w47 (((FrC.rfl.trans (FrC.sub hF (by decide))).put (by decide) (by decide)).trans (FrC.sub F48 (by decide))) (by omega) rfl)
      · refine tn_aload_n dX8_comeTo_58 rfl 1 rfl ?_
        obtain ⟨x49, hx50, hk51, hl52⟩ : ∃ x : Nat, σ0.2.1 79 a = (x : Int) ∧ AR T x 3 3 3 := wf_79 hw0 h_a
        refine tn_getR (ci := 8) (i := 7) (n := 79) (x := x49) dX8_comeTo_59 rfl lay_8 (by decide) fl8_31 h_a rfl rfl (rc_F hF (Or.inl (by decide)) (by decide) (hx50)) ?_
        refine tn_iload dX8_comeTo_62 4 rfl ?_
        refine tn_callSN (M := m_X8_comeTo) (pc := 64) (ix := 132) (M' := m_X11_bitsAt) (As := [.ref x49, .int (iI i4)]) (rest := []) dX8_comeTo_64 ok_X11_bitsAt stt_X11_bitsAt nl8_132 np_X11_bitsAt rfl (Nat.le_of_ble_eq_true rfl) (Nat.le_of_ble_eq_true rfl) rfl (k_X11_bitsAt (d) (T := T) (σ := σ) (x := x49) (i := i4) hk51 (by omega) (by omega) hw ) (fun r53 T55 σ54 gt56 hp => ?_)
        obtain ⟨v57, rfl, rfl, rfl⟩ := hp
        clear gt56
        show Tn _ _ 67 T σ [(5, .long (v10)), (0, .ref a), (2, .int (iI c2)), (3, .int (iI c3)), (4, .int (iI i4))] [.long (v57)] _
        refine tn_goto (tgt := 82) dX8_comeTo_67 (by decide) ?_
        refine tn_lstore (L' := [(7, .long (v57)), (5, .long (v10)), (0, .ref a), (2, .int (iI c2)), (3, .int (iI c3)), (4, .int (iI i4))]) dX8_comeTo_82 (by decide) rfl ?_
        refine tn_aload_n dX8_comeTo_84 rfl 2 rfl ?_
        refine tn_dup dX8_comeTo_85 rfl ?_
        refine tn_getI (ci := 8) (i := 8) (n := 80) (t := σ.2.1 80 a) dX8_comeTo_86 rfl lay_8 (by decide) fl8_142 h_a rfl rfl (rfl) ?_
        have g58 : ((0 : Int) ≤ σ.2.1 80 a ∧ σ.2.1 80 a ≤ 1) := wf_80 hw h_a
        refine tn_iload_n dX8_comeTo_89 rfl 4 rfl ?_
        refine tn_if_ne (tgt := 101) dX8_comeTo_90 (by decide) ⟨by omega, by omega⟩ (fun h59 => ?_) (fun h59 => absurd h59 (by omega))
        refine tn_iconst dX8_comeTo_101 ?_
        refine tn_goto (tgt := 106) dX8_comeTo_102 (by decide) ?_
        refine tn_ior dX8_comeTo_106 ?_
        refine tn_bor (x := σ.2.1 80 a) (y := 1) (by omega) (by omega) (fun z62 g63 => ?_)
        refine tn_putV (ci := 8) (i := 8) (n := 80) (r := false) (v := z62) tyX8 tyX8_ok nmX8 dX8_comeTo_107 rfl lay_8 (by decide) fl8_142 rfl (tyX8_ok 8 (by decide)) rfl (nz_b (by omega)) (fz_b (by omega)) h_a rfl rfl ?_
        refine tn_aload_n dX8_comeTo_110 rfl 2 rfl ?_
        refine tn_getR (ci := 8) (i := 5) (n := 77) (x := x2) dX8_comeTo_111 rfl lay_8 (by decide) fl8_25 h_a rfl rfl (rc_o (by decide) (rc_F hF (Or.inl (by decide)) (by decide) (hx3))) ?_
        refine tn_iload_n dX8_comeTo_114 rfl 3 rfl ?_
        refine tn_iconst dX8_comeTo_115 ?_
        refine tn_imul dX8_comeTo_116 ?_
        refine tn_iload dX8_comeTo_117 5 rfl ?_
        refine tn_iadd dX8_comeTo_119 ?_
        refine tn_lload dX8_comeTo_120 0 rfl ?_
        refine tn_callSN (M := m_X8_comeTo) (pc := 122) (ix := 152) (M' := m_X11_putBits) (As := [.ref x2, .int (iI ((c2 * 3) + i4)), .long (v57)]) (rest := []) dX8_comeTo_122 ok_X11_putBits stt_X11_putBits nl8_152 np_X11_putBits rfl (Nat.le_of_ble_eq_true rfl) (Nat.le_of_ble_eq_true rfl) rfl (k_X11_putBits (d) (T := T) (σ := (sA 80 a (z62) σ)) (x := x2) (i := (c2 * 3) + i4) (w := v57) hk4 (by omega) (by omega) (hw.put (by decide) (by decide) (fo_80 (by omega))) ) (fun r64 T66 σ65 gt67 hp => ?_)
        obtain ⟨rfl, rfl, w69, F70⟩ := hp
        clear gt67
        show Tn _ _ 125 T σ65 [(7, .long (v57)), (5, .long (v10)), (0, .ref a), (2, .int (iI c2)), (3, .int (iI c3)), (4, .int (iI i4))] [] _
        refine tn_iinc (q0 := 5) (L' := [(4, .int (iI (i4 + 1))), (7, .long (v57)), (5, .long (v10)), (0, .ref a), (2, .int (iI c2)), (3, .int (iI c3))]) dX8_comeTo_125 rfl (by decide) rfl ?_
        refine tn_goto (tgt := 33) dX8_comeTo_128 (by decide) ?_
        exact tn_sub [3, 4, 5, 0] rfl (ih _ (by omega) (i4 + 1) σ65 w69 (((FrC.rfl.trans (FrC.sub hF (by decide))).put (by decide) (by decide)).trans (FrC.sub F70 (by decide))) (by omega) rfl)
theorem dX8_comeTo_131 : decode cX8_comeTo 131 = .ok (.aload_n 0, 1) := by decide +kernel
theorem dX8_comeTo_132 : decode cX8_comeTo 132 = .ok (.getfield 28, 3) := by decide +kernel
theorem dX8_comeTo_135 : decode cX8_comeTo 135 = .ok (.iload_n 2, 1) := by decide +kernel
theorem dX8_comeTo_136 : decode cX8_comeTo 136 = .ok (.iconst 1, 1) := by decide +kernel
theorem dX8_comeTo_137 : decode cX8_comeTo 137 = .ok (.invokestatic 128, 3) := by decide +kernel
theorem dX8_comeTo_140 : decode cX8_comeTo 140 = .ok (.return_, 1) := by decide +kernel
theorem dX8_comeTo_24 : decode cX8_comeTo 24 = .ok (.iconst 1, 1) := by decide +kernel
theorem dX8_comeTo_25 : decode cX8_comeTo 25 = .ok (.goto 4, 3) := by decide +kernel
set_option maxRecDepth 20000 in
theorem k_X8_comeTo (d : Nat) {T : CT} {σ : MS} {a : Nat} {p1 : Nat} {p2 : Int} (ha : OB T a 8) (h_p1 : OB T p1 1) (t_p1 : (T p1).1 = 50) (h_p2 : -2147483648 ≤ p2 ∧ p2 ≤ 2147483647) (hw : WT T σ) : Tn (d + 2) m_X8_comeTo 0 T σ [(0, .ref a), (1, .ref p1), (2, .int (iI p2))] [] (fun ro T2 σ2 => ro = none ∧ T = T2 ∧ WT T2 σ2 ∧ FrC T [80] σ σ2) := by
  refine tn_iload_n dX8_comeTo_0 rfl 2 rfl ?_
  refine tn_if_lt (tgt := 12) dX8_comeTo_1 (by decide) ⟨by omega, by omega⟩ (fun h1 => ?_) (fun h1 => ?_)
  · exact tn_vret rfl dX8_comeTo_12 ⟨rfl, rfl, hw, FrC.rfl⟩
  · refine tn_iload_n dX8_comeTo_4 rfl 2 rfl ?_
    refine tn_aload_n dX8_comeTo_5 rfl 1 rfl ?_
    refine tn_getI (ci := 1) (i := 1) (n := 6) (t := σ.2.1 6 p1) dX8_comeTo_6 rfl lay_1 (by decide) fl8_70 h_p1 rfl rfl (rfl) ?_
    have g2 : ((0 : Int) ≤ σ.2.1 6 p1 ∧ σ.2.1 6 p1 ≤ 5000) ∧ ((T p1).1 = 50 → σ.2.1 6 p1 ≤ 200) := wf_6 hw h_p1
    have g2x := g2.2
    replace g2 := g2.1
    have g2x := g2x t_p1
    refine tn_icmp_le (tgt := 13) dX8_comeTo_9 (by decide) ⟨by omega, by omega⟩ ⟨by omega, by omega⟩ (fun h3 => ?_) (fun h3 => ?_)
    · refine tn_aload_n dX8_comeTo_13 rfl 0 rfl ?_
      obtain ⟨x4, hx5, hk6, hl7⟩ : ∃ x : Nat, σ.2.1 78 a = (x : Int) ∧ AR T x 1 201 201 := wf_78 hw ha
      have hk6i : IA T x4 := by unfold IA; omega
      refine tn_getR (ci := 8) (i := 6) (n := 78) (x := x4) dX8_comeTo_14 rfl lay_8 (by decide) fl8_28 ha rfl rfl (hx5) ?_
      refine tn_iload_n dX8_comeTo_17 rfl 2 rfl ?_
      refine tn_callSN (M := m_X8_comeTo) (pc := 18) (ix := 74) (M' := m_X11_at) (As := [.ref x4, .int (iI p2)]) (rest := []) dX8_comeTo_18 ok_X11_at stt_X11_at nl8_74 np_X11_at rfl (Nat.le_of_ble_eq_true rfl) (Nat.le_of_ble_eq_true rfl) rfl (k_X11_at (d) (T := T) (σ := σ) (x := x4) (i := p2) hk6i (by omega) (by omega) hw ) (fun r8 T10 σ9 gt11 hp => ?_)
      obtain ⟨v15, rfl, rfl, rfl, f12, f13, f14⟩ := hp
      clear gt11
      clear f13 f14
      show Tn _ _ 21 T σ [(0, .ref a), (1, .ref p1), (2, .int (iI p2))] [.int (iI v15)] _
      refine tn_if_ne (tgt := 28) dX8_comeTo_21 (by decide) ⟨by omega, by omega⟩ (fun h16 => ?_) (fun h16 => ?_)
      · refine tn_iconst dX8_comeTo_28 ?_
        refine tn_istore_n (L' := [(3, .int (iI 0)), (0, .ref a), (1, .ref p1), (2, .int (iI p2))]) dX8_comeTo_29 rfl (by decide) rfl ?_
        refine tn_iconst dX8_comeTo_30 ?_
        refine tn_istore (L' := [(4, .int (iI 0)), (3, .int (iI 0)), (0, .ref a), (1, .ref p1), (2, .int (iI p2))]) dX8_comeTo_31 (by decide) rfl ?_
        refine tn_sub [2, 4, 1, 0] rfl (l_X8_comeTo_33 (d) (T := T) (σ0 := σ) (a := a) (c2 := p2) (c3 := 0) ha (by omega) (by omega) hw (fun i417 σ18 w21 F22 r23 => ?_) _ (0) σ hw FrC.rfl (by omega) rfl)
        show Tn _ _ 131 T σ18 [(0, .ref a), (2, .int (iI p2)), (3, .int (iI 0)), (4, .int (iI i417))] [] _
        refine tn_aload_n dX8_comeTo_131 rfl 0 rfl ?_
        refine tn_getR (ci := 8) (i := 6) (n := 78) (x := x4) dX8_comeTo_132 rfl lay_8 (by decide) fl8_28 ha rfl rfl (rc_F F22 (Or.inl (by decide)) (by decide) (hx5)) ?_
        refine tn_iload_n dX8_comeTo_135 rfl 1 rfl ?_
        refine tn_iconst dX8_comeTo_136 ?_
        refine tn_callSN (M := m_X8_comeTo) (pc := 137) (ix := 128) (M' := m_X11_put) (As := [.ref x4, .int (iI p2), .int (iI 1)]) (rest := []) dX8_comeTo_137 ok_X11_put stt_X11_put nl8_128 np_X11_put rfl (Nat.le_of_ble_eq_true rfl) (Nat.le_of_ble_eq_true rfl) rfl (k_X11_put (d) (T := T) (σ := σ18) (x := x4) (i := p2) (y := 1) hk6i (by omega) (by omega) (by decide) w21 (nh_k hk6 (by unfold HT; omega)) (vok_1 (by have q9 := hk6; omega) (by omega))) (fun r24 T26 σ25 gt27 hp => ?_)
        obtain ⟨rfl, rfl, w29, F30⟩ := hp
        clear gt27
        show Tn _ _ 140 T σ25 [(0, .ref a), (2, .int (iI p2)), (3, .int (iI 0)), (4, .int (iI i417))] [] _
        exact tn_vret rfl dX8_comeTo_140 ⟨rfl, rfl, w29, ((FrC.rfl.trans (FrC.sub F22 (by decide))).trans (FrC.sub F30 (by decide)))⟩
      · refine tn_iconst dX8_comeTo_24 ?_
        refine tn_goto (tgt := 29) dX8_comeTo_25 (by decide) ?_
        refine tn_istore_n (L' := [(3, .int (iI 1)), (0, .ref a), (1, .ref p1), (2, .int (iI p2))]) dX8_comeTo_29 rfl (by decide) rfl ?_
        refine tn_iconst dX8_comeTo_30 ?_
        refine tn_istore (L' := [(4, .int (iI 0)), (3, .int (iI 1)), (0, .ref a), (1, .ref p1), (2, .int (iI p2))]) dX8_comeTo_31 (by decide) rfl ?_
        refine tn_sub [2, 4, 1, 0] rfl (l_X8_comeTo_33 (d) (T := T) (σ0 := σ) (a := a) (c2 := p2) (c3 := 1) ha (by omega) (by omega) hw (fun i431 σ32 w35 F36 r37 => ?_) _ (0) σ hw FrC.rfl (by omega) rfl)
        show Tn _ _ 131 T σ32 [(0, .ref a), (2, .int (iI p2)), (3, .int (iI 1)), (4, .int (iI i431))] [] _
        refine tn_aload_n dX8_comeTo_131 rfl 0 rfl ?_
        refine tn_getR (ci := 8) (i := 6) (n := 78) (x := x4) dX8_comeTo_132 rfl lay_8 (by decide) fl8_28 ha rfl rfl (rc_F F36 (Or.inl (by decide)) (by decide) (hx5)) ?_
        refine tn_iload_n dX8_comeTo_135 rfl 1 rfl ?_
        refine tn_iconst dX8_comeTo_136 ?_
        refine tn_callSN (M := m_X8_comeTo) (pc := 137) (ix := 128) (M' := m_X11_put) (As := [.ref x4, .int (iI p2), .int (iI 1)]) (rest := []) dX8_comeTo_137 ok_X11_put stt_X11_put nl8_128 np_X11_put rfl (Nat.le_of_ble_eq_true rfl) (Nat.le_of_ble_eq_true rfl) rfl (k_X11_put (d) (T := T) (σ := σ32) (x := x4) (i := p2) (y := 1) hk6i (by omega) (by omega) (by decide) w35 (nh_k hk6 (by unfold HT; omega)) (vok_1 (by have q9 := hk6; omega) (by omega))) (fun r38 T40 σ39 gt41 hp => ?_)
        obtain ⟨rfl, rfl, w43, F44⟩ := hp
        clear gt41
        show Tn _ _ 140 T σ39 [(0, .ref a), (2, .int (iI p2)), (3, .int (iI 1)), (4, .int (iI i431))] [] _
        exact tn_vret rfl dX8_comeTo_140 ⟨rfl, rfl, w43, ((FrC.rfl.trans (FrC.sub F36 (by decide))).trans (FrC.sub F44 (by decide)))⟩
    · exact tn_vret rfl dX8_comeTo_12 ⟨rfl, rfl, hw, FrC.rfl⟩
end
section
theorem cd_X8_goThrough : Cond.code yX8_goThrough cX8_goThrough 7 none ∈ pWW := pw6 (List.mem_of_getElem? (i := 4) rfl) rfl
abbrev m_X8_goThrough : MT := (yX8_goThrough, cX8_goThrough, 7, none)
theorem ok_X8_goThrough : pOk m_X8_goThrough := ⟨⟨cd_X8_goThrough, ini_8⟩, by decide +kernel, ⟨by decide +kernel, by decide +kernel⟩, Nat.le_of_ble_eq_true rfl⟩
theorem np_X8_goThrough : (parseMethodDescriptor yX8_goThrough.desc).map (fun d => d.parameters.length) = some 2 := by decide +kernel
theorem im_X8_goThrough : Cond.instanceMethod yX8_goThrough ∈ pWW := pw6 (List.mem_of_getElem? (i := 3) rfl) rfl
theorem se_X8_goThrough : Cond.selects RX8 yX8_goThrough yX8_goThrough ∈ pWW := pws (List.mem_map.mpr ⟨_, lw_pin 81 rfl, rfl⟩) rfl
theorem cst8_150 : Cond.constantLong RX8 150 (-1) ∈ pWW := pw6 (List.mem_of_getElem? (i := 5) rfl) rfl
theorem dX8_goThrough_0 : decode cX8_goThrough 0 = .ok (.aload_n 1, 1) := by decide +kernel
theorem dX8_goThrough_1 : decode cX8_goThrough 1 = .ok (.iload_n 2, 1) := by decide +kernel
theorem dX8_goThrough_2 : decode cX8_goThrough 2 = .ok (.invokevirtual 120, 3) := by decide +kernel
theorem dX8_goThrough_5 : decode cX8_goThrough 5 = .ok (.istore_n 3, 1) := by decide +kernel
theorem dX8_goThrough_6 : decode cX8_goThrough 6 = .ok (.iconst 0, 1) := by decide +kernel
theorem dX8_goThrough_7 : decode cX8_goThrough 7 = .ok (.istore 4, 2) := by decide +kernel
theorem dX8_goThrough_9 : decode cX8_goThrough 9 = .ok (.iload 4, 2) := by decide +kernel
theorem dX8_goThrough_11 : decode cX8_goThrough 11 = .ok (.iconst 3, 1) := by decide +kernel
theorem dX8_goThrough_12 : decode cX8_goThrough 12 = .ok (.if_icmp .ge 69, 3) := by decide +kernel
theorem dX8_goThrough_15 : decode cX8_goThrough 15 = .ok (.iload_n 3, 1) := by decide +kernel
theorem dX8_goThrough_16 : decode cX8_goThrough 16 = .ok (.iconst (-1), 1) := by decide +kernel
theorem dX8_goThrough_17 : decode cX8_goThrough 17 = .ok (.if_icmp .ne 7, 3) := by decide +kernel
theorem dX8_goThrough_24 : decode cX8_goThrough 24 = .ok (.aload_n 0, 1) := by decide +kernel
theorem dX8_goThrough_25 : decode cX8_goThrough 25 = .ok (.getfield 22, 3) := by decide +kernel
theorem dX8_goThrough_28 : decode cX8_goThrough 28 = .ok (.aload_n 0, 1) := by decide +kernel
theorem dX8_goThrough_29 : decode cX8_goThrough 29 = .ok (.getfield 18, 3) := by decide +kernel
theorem dX8_goThrough_32 : decode cX8_goThrough 32 = .ok (.iload_n 3, 1) := by decide +kernel
theorem dX8_goThrough_33 : decode cX8_goThrough 33 = .ok (.invokestatic 74, 3) := by decide +kernel
theorem dX8_goThrough_36 : decode cX8_goThrough 36 = .ok (.iconst 3, 1) := by decide +kernel
theorem dX8_goThrough_37 : decode cX8_goThrough 37 = .ok (.imul, 1) := by decide +kernel
theorem dX8_goThrough_38 : decode cX8_goThrough 38 = .ok (.iload 4, 2) := by decide +kernel
theorem dX8_goThrough_40 : decode cX8_goThrough 40 = .ok (.iadd, 1) := by decide +kernel
theorem dX8_goThrough_41 : decode cX8_goThrough 41 = .ok (.invokestatic 132, 3) := by decide +kernel
theorem dX8_goThrough_44 : decode cX8_goThrough 44 = .ok (.lstore 5, 2) := by decide +kernel
theorem dX8_goThrough_46 : decode cX8_goThrough 46 = .ok (.aload_n 0, 1) := by decide +kernel
theorem dX8_goThrough_47 : decode cX8_goThrough 47 = .ok (.getfield 31, 3) := by decide +kernel
theorem dX8_goThrough_50 : decode cX8_goThrough 50 = .ok (.iload 4, 2) := by decide +kernel
theorem dX8_goThrough_52 : decode cX8_goThrough 52 = .ok (.aload_n 0, 1) := by decide +kernel
theorem dX8_goThrough_53 : decode cX8_goThrough 53 = .ok (.getfield 25, 3) := by decide +kernel
theorem dX8_goThrough_56 : decode cX8_goThrough 56 = .ok (.iload_n 2, 1) := by decide +kernel
theorem dX8_goThrough_57 : decode cX8_goThrough 57 = .ok (.iconst 3, 1) := by decide +kernel
theorem dX8_goThrough_58 : decode cX8_goThrough 58 = .ok (.imul, 1) := by decide +kernel
theorem dX8_goThrough_59 : decode cX8_goThrough 59 = .ok (.iload 4, 2) := by decide +kernel
theorem dX8_goThrough_61 : decode cX8_goThrough 61 = .ok (.iadd, 1) := by decide +kernel
theorem dX8_goThrough_62 : decode cX8_goThrough 62 = .ok (.invokestatic 132, 3) := by decide +kernel
theorem dX8_goThrough_65 : decode cX8_goThrough 65 = .ok (.lload 5, 2) := by decide +kernel
theorem dX8_goThrough_67 : decode cX8_goThrough 67 = .ok (.ldc2_w 150, 3) := by decide +kernel
theorem dX8_goThrough_70 : decode cX8_goThrough 70 = .ok (.lxor, 1) := by decide +kernel
theorem dX8_goThrough_71 : decode cX8_goThrough 71 = .ok (.land, 1) := by decide +kernel
theorem dX8_goThrough_72 : decode cX8_goThrough 72 = .ok (.invokestatic 152, 3) := by decide +kernel
theorem dX8_goThrough_75 : decode cX8_goThrough 75 = .ok (.iinc 4 1, 3) := by decide +kernel
theorem dX8_goThrough_78 : decode cX8_goThrough 78 = .ok (.goto (-69), 3) := by decide +kernel
theorem dX8_goThrough_20 : decode cX8_goThrough 20 = .ok (.lconst 0, 1) := by decide +kernel
theorem dX8_goThrough_21 : decode cX8_goThrough 21 = .ok (.goto 23, 3) := by decide +kernel
set_option maxRecDepth 20000 in
theorem l_X8_goThrough_9 (d : Nat) {T : CT} {σ0 : MS} {a : Nat} {rx1 : Nat} {c2 : Int} {c3 : Int} {post : Option Value → CT → MS → Prop} (h_a : OB T a 8) (h_rx1 : OB T rx1 1) (t_rx1 : (T rx1).1 = 50) (r_c2 : -2147483648 ≤ c2 ∧ c2 ≤ 2147483647) (r_c3 : -2147483648 ≤ c3 ∧ c3 ≤ 2147483647) (hw0 : WT T σ0) (hx_81 : ∀ (i4 : Int) (σ : MS) , (WT T σ) → (FrC T [] σ0 σ) → (0 ≤ i4 ∧ i4 ≤ 2147483647) → Tn (d + 3) m_X8_goThrough 81 T σ [(0, .ref a), (1, .ref rx1), (2, .int (iI c2)), (3, .int (iI c3)), (4, .int (iI i4))] [] post) : ∀ (n : Nat) (i4 : Int) (σ : MS) , (WT T σ) → (FrC T [] σ0 σ) → (0 ≤ i4 ∧ i4 ≤ 2147483647) → (2147483700 - i4).toNat = n → Tn (d + 3) m_X8_goThrough 9 T σ [(0, .ref a), (1, .ref rx1), (2, .int (iI c2)), (3, .int (iI c3)), (4, .int (iI i4))] [] post := by
  intro n
  induction n using Nat.strongRecOn with
  | _ n ih =>
    intro i4 σ hw hF r_i4 hm
    refine tn_iload dX8_goThrough_9 4 rfl ?_
    refine tn_iconst dX8_goThrough_11 ?_
    refine tn_icmp_ge (tgt := 81) dX8_goThrough_12 (by decide) ⟨by omega, by omega⟩ ⟨by decide, by decide⟩ (fun h1 => ?_) (fun h1 => ?_)
    · exact tn_sub [0, 1, 2, 3, 4] rfl (hx_81 (i4) σ hw (FrC.rfl.trans (FrC.sub hF (by decide))) (by omega))
    · refine tn_iload_n dX8_goThrough_15 rfl 3 rfl ?_
      refine tn_iconst dX8_goThrough_16 ?_
      refine tn_icmp_ne (tgt := 24) dX8_goThrough_17 (by decide) ⟨by omega, by omega⟩ ⟨by decide, by decide⟩ (fun h2 => ?_) (fun h2 => ?_)
      · refine tn_aload_n dX8_goThrough_24 rfl 0 rfl ?_
        obtain ⟨x3, hx4, hk5, hl6⟩ : ∃ x : Nat, σ0.2.1 76 a = (x : Int) ∧ AR T x 3 576 576 := wf_76 hw0 h_a
        refine tn_getR (ci := 8) (i := 4) (n := 76) (x := x3) dX8_goThrough_25 rfl lay_8 (by decide) fl8_22 h_a rfl rfl (rc_F hF (Or.inl (by decide)) (by decide) (hx4)) ?_
        refine tn_aload_n dX8_goThrough_28 rfl 0 rfl ?_
        obtain ⟨x7, hx8, hk9, hl10⟩ : ∃ x : Nat, σ0.2.1 75 a = (x : Int) ∧ AR T x 1 192 192 := wf_75 hw0 h_a
        have hk9i : IA T x7 := by unfold IA; omega
        refine tn_getR (ci := 8) (i := 3) (n := 75) (x := x7) dX8_goThrough_29 rfl lay_8 (by decide) fl8_18 h_a rfl rfl (rc_F hF (Or.inl (by decide)) (by decide) (hx8)) ?_
        refine tn_iload_n dX8_goThrough_32 rfl 3 rfl ?_
        refine tn_callSN (M := m_X8_goThrough) (pc := 33) (ix := 74) (M' := m_X11_at) (As := [.ref x7, .int (iI c3)]) (rest := [.ref x3]) dX8_goThrough_33 ok_X11_at stt_X11_at nl8_74 np_X11_at rfl (Nat.le_of_ble_eq_true rfl) (Nat.le_of_ble_eq_true rfl) rfl (k_X11_at (d + 1) (T := T) (σ := σ) (x := x7) (i := c3) hk9i (by omega) (by omega) hw ) (fun r11 T13 σ12 gt14 hp => ?_)
        obtain ⟨v18, rfl, rfl, rfl, f15, f16, f17⟩ := hp
        clear gt14
        clear f16 f17
        show Tn _ _ 36 T σ [(0, .ref a), (1, .ref rx1), (2, .int (iI c2)), (3, .int (iI c3)), (4, .int (iI i4))] [.int (iI v18), .ref x3] _
        refine tn_iconst dX8_goThrough_36 ?_
        refine tn_imul dX8_goThrough_37 ?_
        refine tn_any (fun z19 g20 => ?_)
        have g20r : -2147483648 ≤ z19 ∧ z19 ≤ 2147483647 := g20
        refine tn_iload dX8_goThrough_38 4 rfl ?_
        refine tn_iadd dX8_goThrough_40 ?_
        refine tn_any (fun z21 g22 => ?_)
        have g22r : -2147483648 ≤ z21 ∧ z21 ≤ 2147483647 := g22
        refine tn_callSN (M := m_X8_goThrough) (pc := 41) (ix := 132) (M' := m_X11_bitsAt) (As := [.ref x3, .int (iI z21)]) (rest := []) dX8_goThrough_41 ok_X11_bitsAt stt_X11_bitsAt nl8_132 np_X11_bitsAt rfl (Nat.le_of_ble_eq_true rfl) (Nat.le_of_ble_eq_true rfl) rfl (k_X11_bitsAt (d + 1) (T := T) (σ := σ) (x := x3) (i := z21) hk5 (by omega) (by omega) hw ) (fun r23 T25 σ24 gt26 hp => ?_)
        obtain ⟨v27, rfl, rfl, rfl⟩ := hp
        clear gt26
        show Tn _ _ 44 T σ [(0, .ref a), (1, .ref rx1), (2, .int (iI c2)), (3, .int (iI c3)), (4, .int (iI i4))] [.long (v27)] _
        refine tn_lstore (L' := [(5, .long (v27)), (0, .ref a), (1, .ref rx1), (2, .int (iI c2)), (3, .int (iI c3)), (4, .int (iI i4))]) dX8_goThrough_44 (by decide) rfl ?_
        refine tn_aload_n dX8_goThrough_46 rfl 1 rfl ?_
        obtain ⟨x28, hx29, hk30, hl31⟩ : ∃ x : Nat, σ0.2.1 79 a = (x : Int) ∧ AR T x 3 3 3 := wf_79 hw0 h_a
        refine tn_getR (ci := 8) (i := 7) (n := 79) (x := x28) dX8_goThrough_47 rfl lay_8 (by decide) fl8_31 h_a rfl rfl (rc_F hF (Or.inl (by decide)) (by decide) (hx29)) ?_
        refine tn_iload dX8_goThrough_50 5 rfl ?_
        refine tn_aload_n dX8_goThrough_52 rfl 1 rfl ?_
        obtain ⟨x32, hx33, hk34, hl35⟩ : ∃ x : Nat, σ0.2.1 77 a = (x : Int) ∧ AR T x 3 603 603 := wf_77 hw0 h_a
        refine tn_getR (ci := 8) (i := 5) (n := 77) (x := x32) dX8_goThrough_53 rfl lay_8 (by decide) fl8_25 h_a rfl rfl (rc_F hF (Or.inl (by decide)) (by decide) (hx33)) ?_
        refine tn_iload_n dX8_goThrough_56 rfl 3 rfl ?_
        refine tn_iconst dX8_goThrough_57 ?_
        refine tn_imul dX8_goThrough_58 ?_
        refine tn_any (fun z36 g37 => ?_)
        have g37r : -2147483648 ≤ z36 ∧ z36 ≤ 2147483647 := g37
        refine tn_iload dX8_goThrough_59 5 rfl ?_
        refine tn_iadd dX8_goThrough_61 ?_
        refine tn_any (fun z38 g39 => ?_)
        have g39r : -2147483648 ≤ z38 ∧ z38 ≤ 2147483647 := g39
        refine tn_callSN (M := m_X8_goThrough) (pc := 62) (ix := 132) (M' := m_X11_bitsAt) (As := [.ref x32, .int (iI z38)]) (rest := [.int (iI i4), .ref x28]) dX8_goThrough_62 ok_X11_bitsAt stt_X11_bitsAt nl8_132 np_X11_bitsAt rfl (Nat.le_of_ble_eq_true rfl) (Nat.le_of_ble_eq_true rfl) rfl (k_X11_bitsAt (d + 1) (T := T) (σ := σ) (x := x32) (i := z38) hk34 (by omega) (by omega) hw ) (fun r40 T42 σ41 gt43 hp => ?_)
        obtain ⟨v44, rfl, rfl, rfl⟩ := hp
        clear gt43
        show Tn _ _ 65 T σ [(5, .long (v27)), (0, .ref a), (1, .ref rx1), (2, .int (iI c2)), (3, .int (iI c3)), (4, .int (iI i4))] [.long (v44), .int (iI i4), .ref x28] _
        refine tn_lload dX8_goThrough_65 0 rfl ?_
        refine tn_ldc2 dX8_goThrough_67 cst8_150 ?_
        refine tn_lxor dX8_goThrough_70 ?_
        refine tn_longX (fun w45 => ?_)
        refine tn_land dX8_goThrough_71 ?_
        refine tn_longX (fun w46 => ?_)
        refine tn_callSN (M := m_X8_goThrough) (pc := 72) (ix := 152) (M' := m_X11_putBits) (As := [.ref x28, .int (iI i4), .long (w46)]) (rest := []) dX8_goThrough_72 ok_X11_putBits stt_X11_putBits nl8_152 np_X11_putBits rfl (Nat.le_of_ble_eq_true rfl) (Nat.le_of_ble_eq_true rfl) rfl (k_X11_putBits (d + 1) (T := T) (σ := σ) (x := x28) (i := i4) (w := w46) hk30 (by omega) (by omega) hw ) (fun r47 T49 σ48 gt50 hp => ?_)
        obtain ⟨rfl, rfl, w52, F53⟩ := hp
        clear gt50
        show Tn _ _ 75 T σ48 [(5, .long (v27)), (0, .ref a), (1, .ref rx1), (2, .int (iI c2)), (3, .int (iI c3)), (4, .int (iI i4))] [] _
        refine tn_iinc (q0 := 5) (L' := [(4, .int (iI (i4 + 1))), (5, .long (v27)), (0, .ref a), (1, .ref rx1), (2, .int (iI c2)), (3, .int (iI c3))]) dX8_goThrough_75 rfl (by decide) rfl ?_
        refine tn_goto (tgt := 9) dX8_goThrough_78 (by decide) ?_
        exact tn_sub [2, 3, 4, 5, 0] rfl (ih _ (by omega) (i4 + 1) σ48 w52 ((FrC.rfl.trans (FrC.sub hF (by decide))).trans (FrC.sub F53 (by decide))) (by omega) rfl)
      · refine tn_lconst (v := 0) dX8_goThrough_20 rfl ?_
        refine tn_goto (tgt := 44) dX8_goThrough_21 (by decide) ?_
        refine tn_lstore (L' := [(5, .long (0)), (0, .ref a), (1, .ref rx1), (2, .int (iI c2)), (3, .int (iI c3)), (4, .int (iI i4))]) dX8_goThrough_44 (by decide) rfl ?_
        refine tn_aload_n dX8_goThrough_46 rfl 1 rfl ?_
        obtain ⟨x54, hx55, hk56, hl57⟩ : ∃ x : Nat, σ0.2.1 79 a = (x : Int) ∧ AR T x 3 3 3 := wf_79 hw0 h_a
        refine tn_getR (ci := 8) (i := 7) (n := 79) (x := x54) dX8_goThrough_47 rfl lay_8 (by decide) fl8_31 h_a rfl rfl (rc_F hF (Or.inl (by decide)) (by decide) (hx55)) ?_
        refine tn_iload dX8_goThrough_50 5 rfl ?_
        refine tn_aload_n dX8_goThrough_52 rfl 1 rfl ?_
        obtain ⟨x58, hx59, hk60, hl61⟩ : ∃ x : Nat, σ0.2.1 77 a = (x : Int) ∧ AR T x 3 603 603 := wf_77 hw0 h_a
        refine tn_getR (ci := 8) (i := 5) (n := 77) (x := x58) dX8_goThrough_53 rfl lay_8 (by decide) fl8_25 h_a rfl rfl (rc_F hF (Or.inl (by decide)) (by decide) (hx59)) ?_
        refine tn_iload_n dX8_goThrough_56 rfl 3 rfl ?_
        refine tn_iconst dX8_goThrough_57 ?_
        refine tn_imul dX8_goThrough_58 ?_
        refine tn_any (fun z62 g63 => ?_)
        have g63r : -2147483648 ≤ z62 ∧ z62 ≤ 2147483647 := g63
        refine tn_iload dX8_goThrough_59 5 rfl ?_
        refine tn_iadd dX8_goThrough_61 ?_
        refine tn_any (fun z64 g65 => ?_)
        have g65r : -2147483648 ≤ z64 ∧ z64 ≤ 2147483647 := g65
        refine tn_callSN (M := m_X8_goThrough) (pc := 62) (ix := 132) (M' := m_X11_bitsAt) (As := [.ref x58, .int (iI z64)]) (rest := [.int (iI i4), .ref x54]) dX8_goThrough_62 ok_X11_bitsAt stt_X11_bitsAt nl8_132 np_X11_bitsAt rfl (Nat.le_of_ble_eq_true rfl) (Nat.le_of_ble_eq_true rfl) rfl (k_X11_bitsAt (d + 1) (T := T) (σ := σ) (x := x58) (i := z64) hk60 (by omega) (by omega) hw ) (fun r66 T68 σ67 gt69 hp => ?_)
        obtain ⟨v70, rfl, rfl, rfl⟩ := hp
        clear gt69
        show Tn _ _ 65 T σ [(5, .long (0)), (0, .ref a), (1, .ref rx1), (2, .int (iI c2)), (3, .int (iI c3)), (4, .int (iI i4))] [.long (v70), .int (iI i4), .ref x54] _
        refine tn_lload dX8_goThrough_65 0 rfl ?_
        refine tn_ldc2 dX8_goThrough_67 cst8_150 ?_
        refine tn_lxor dX8_goThrough_70 ?_
        refine tn_longX (fun w71 => ?_)
        refine tn_land dX8_goThrough_71 ?_
        refine tn_longX (fun w72 => ?_)
        refine tn_callSN (M := m_X8_goThrough) (pc := 72) (ix := 152) (M' := m_X11_putBits) (As := [.ref x54, .int (iI i4), .long (w72)]) (rest := []) dX8_goThrough_72 ok_X11_putBits stt_X11_putBits nl8_152 np_X11_putBits rfl (Nat.le_of_ble_eq_true rfl) (Nat.le_of_ble_eq_true rfl) rfl (k_X11_putBits (d + 1) (T := T) (σ := σ) (x := x54) (i := i4) (w := w72) hk56 (by omega) (by omega) hw ) (fun r73 T75 σ74 gt76 hp => ?_)
        obtain ⟨rfl, rfl, w78, F79⟩ := hp
        clear gt76
        show Tn _ _ 75 T σ74 [(5, .long (0)), (0, .ref a), (1, .ref rx1), (2, .int (iI c2)), (3, .int (iI c3)), (4, .int (iI i4))] [] _
        refine tn_iinc (q0 := 5) (L' := [(4, .int (iI (i4 + 1))), (5, .long (0)), (0, .ref a), (1, .ref rx1), (2, .int (iI c2)), (3, .int (iI c3))]) dX8_goThrough_75 rfl (by decide) rfl ?_
        refine tn_goto (tgt := 9) dX8_goThrough_78 (by decide) ?_
        exact tn_sub [2, 3, 4, 5, 0] rfl (ih _ (by omega) (i4 + 1) σ74 w78 ((FrC.rfl.trans (FrC.sub hF (by decide))).trans (FrC.sub F79 (by decide))) (by omega) rfl)
theorem ml8_156 : Cond.methodLink RX8 156 yX1_fallsOn ∈ pWW := pw6 (List.mem_of_getElem? (i := 7) rfl) rfl
theorem ml8_163 : Cond.methodLink RX8 163 yX1_targetOf ∈ pWW := pw6 (List.mem_of_getElem? (i := 12) rfl) rfl
theorem ml8_160 : Cond.methodLink RX8 160 yX8_comeTo ∈ pWW := pw6 (List.mem_of_getElem? (i := 8) rfl) rfl
theorem dX8_goThrough_81 : decode cX8_goThrough 81 = .ok (.aload_n 0, 1) := by decide +kernel
theorem dX8_goThrough_82 : decode cX8_goThrough 82 = .ok (.getfield 31, 3) := by decide +kernel
theorem dX8_goThrough_85 : decode cX8_goThrough 85 = .ok (.iconst 0, 1) := by decide +kernel
theorem dX8_goThrough_86 : decode cX8_goThrough 86 = .ok (.iload_n 3, 1) := by decide +kernel
theorem dX8_goThrough_87 : decode cX8_goThrough 87 = .ok (.invokestatic 104, 3) := by decide +kernel
theorem dX8_goThrough_90 : decode cX8_goThrough 90 = .ok (.aload_n 1, 1) := by decide +kernel
theorem dX8_goThrough_91 : decode cX8_goThrough 91 = .ok (.iload_n 2, 1) := by decide +kernel
theorem dX8_goThrough_92 : decode cX8_goThrough 92 = .ok (.invokevirtual 156, 3) := by decide +kernel
theorem dX8_goThrough_95 : decode cX8_goThrough 95 = .ok (.ifCond .eq 11, 3) := by decide +kernel
theorem dX8_goThrough_106 : decode cX8_goThrough 106 = .ok (.aload_n 0, 1) := by decide +kernel
theorem dX8_goThrough_107 : decode cX8_goThrough 107 = .ok (.aload_n 1, 1) := by decide +kernel
theorem dX8_goThrough_108 : decode cX8_goThrough 108 = .ok (.aload_n 1, 1) := by decide +kernel
theorem dX8_goThrough_109 : decode cX8_goThrough 109 = .ok (.iload_n 2, 1) := by decide +kernel
theorem dX8_goThrough_110 : decode cX8_goThrough 110 = .ok (.invokevirtual 163, 3) := by decide +kernel
theorem dX8_goThrough_113 : decode cX8_goThrough 113 = .ok (.invokevirtual 160, 3) := by decide +kernel
theorem dX8_goThrough_116 : decode cX8_goThrough 116 = .ok (.return_, 1) := by decide +kernel
theorem dX8_goThrough_98 : decode cX8_goThrough 98 = .ok (.aload_n 0, 1) := by decide +kernel
theorem dX8_goThrough_99 : decode cX8_goThrough 99 = .ok (.aload_n 1, 1) := by decide +kernel
theorem dX8_goThrough_100 : decode cX8_goThrough 100 = .ok (.iload_n 2, 1) := by decide +kernel
theorem dX8_goThrough_101 : decode cX8_goThrough 101 = .ok (.iconst 1, 1) := by decide +kernel
theorem dX8_goThrough_102 : decode cX8_goThrough 102 = .ok (.iadd, 1) := by decide +kernel
theorem dX8_goThrough_103 : decode cX8_goThrough 103 = .ok (.invokevirtual 160, 3) := by decide +kernel
set_option maxRecDepth 20000 in
theorem k_X8_goThrough (d : Nat) {T : CT} {σ : MS} {a : Nat} {p1 : Nat} {p2 : Int} (ha : OB T a 8) (h_p1 : OB T p1 1) (t_p1 : (T p1).1 = 50) (h_p2 : -2147483648 ≤ p2 ∧ p2 ≤ 2147483647) (hw : WT T σ) : Tn (d + 3) m_X8_goThrough 0 T σ [(0, .ref a), (1, .ref p1), (2, .int (iI p2))] [] (fun ro T2 σ2 => ro = none ∧ T = T2 ∧ WT T2 σ2 ∧ FrC T [80] σ σ2) := by
  refine tn_aload_n dX8_goThrough_0 rfl 1 rfl ?_
  refine tn_iload_n dX8_goThrough_1 rfl 2 rfl ?_
  refine tn_callV (M := m_X8_goThrough) (pc := 2) (ix := 120) (ci := 1) (M' := m_X1_writtenBy) (As := [.int (iI p2)]) (rest := []) dX8_goThrough_2 ok_X1_writtenBy im_X1_writtenBy se_X1_writtenBy ml8_120 np_X1_writtenBy rfl rfl h_p1 rfl (Nat.le_of_ble_eq_true rfl) (Nat.le_of_ble_eq_true rfl) rfl (k_X1_writtenBy (d) (T := T) (σ := σ) (a := p1) (k := p2) h_p1 (by omega) hw ) (fun r1 T3 σ2 gt4 hp => ?_)
  obtain ⟨v6, rfl, rfl, rfl, f5⟩ := hp
  clear gt4
  show Tn _ _ 5 T σ [(0, .ref a), (1, .ref p1), (2, .int (iI p2))] [.int (iI v6)] _
  refine tn_istore_n (L' := [(3, .int (iI v6)), (0, .ref a), (1, .ref p1), (2, .int (iI p2))]) dX8_goThrough_5 rfl (by decide) rfl ?_
  refine tn_iconst dX8_goThrough_6 ?_
  refine tn_istore (L' := [(4, .int (iI 0)), (3, .int (iI v6)), (0, .ref a), (1, .ref p1), (2, .int (iI p2))]) dX8_goThrough_7 (by decide) rfl ?_
  refine tn_sub [2, 3, 4, 1, 0] rfl (l_X8_goThrough_9 (d) (T := T) (σ0 := σ) (a := a) (rx1 := p1) (c2 := p2) (c3 := v6) ha h_p1 t_p1 (by omega) (by omega) hw (fun i47 σ8 w11 F12 r13 => ?_) _ (0) σ hw FrC.rfl (by omega) rfl)
  show Tn _ _ 81 T σ8 [(0, .ref a), (1, .ref p1), (2, .int (iI p2)), (3, .int (iI v6)), (4, .int (iI i47))] [] _
  refine tn_aload_n dX8_goThrough_81 rfl 0 rfl ?_
  obtain ⟨x14, hx15, hk16, hl17⟩ : ∃ x : Nat, σ.2.1 79 a = (x : Int) ∧ AR T x 3 3 3 := wf_79 hw ha
  refine tn_getR (ci := 8) (i := 7) (n := 79) (x := x14) dX8_goThrough_82 rfl lay_8 (by decide) fl8_31 ha rfl rfl (rc_F F12 (Or.inl (by decide)) (by decide) (hx15)) ?_
  refine tn_iconst dX8_goThrough_85 ?_
  refine tn_iload_n dX8_goThrough_86 rfl 3 rfl ?_
  refine tn_callSN (M := m_X8_goThrough) (pc := 87) (ix := 104) (M' := m_X11_include) (As := [.ref x14, .int (iI 0), .int (iI v6)]) (rest := []) dX8_goThrough_87 ok_X11_include stt_X11_include nl8_104 np_X11_include rfl (Nat.le_of_ble_eq_true rfl) (Nat.le_of_ble_eq_true rfl) rfl (k_X11_include (d) (T := T) (σ := σ8) (x := x14) (k := 0) (r := v6) hk16 (by omega) (by decide) (by omega) w11 ) (fun r18 T20 σ19 gt21 hp => ?_)
  obtain ⟨rfl, rfl, w23, F24⟩ := hp
  clear gt21
  show Tn _ _ 90 T σ19 [(0, .ref a), (1, .ref p1), (2, .int (iI p2)), (3, .int (iI v6)), (4, .int (iI i47))] [] _
  refine tn_aload_n dX8_goThrough_90 rfl 1 rfl ?_
  refine tn_iload_n dX8_goThrough_91 rfl 2 rfl ?_
  refine tn_callV (M := m_X8_goThrough) (pc := 92) (ix := 156) (ci := 1) (M' := m_X1_fallsOn) (As := [.int (iI p2)]) (rest := []) dX8_goThrough_92 ok_X1_fallsOn im_X1_fallsOn se_X1_fallsOn ml8_156 np_X1_fallsOn rfl rfl h_p1 rfl (Nat.le_of_ble_eq_true rfl) (Nat.le_of_ble_eq_true rfl) rfl (k_X1_fallsOn (d) (T := T) (σ := σ19) (a := p1) (k := p2) h_p1 (by omega) w23 ) (fun r25 T27 σ26 gt28 hp => ?_)
  obtain ⟨v30, rfl, rfl, rfl, f29⟩ := hp
  clear gt28
  show Tn _ _ 95 T σ19 [(0, .ref a), (1, .ref p1), (2, .int (iI p2)), (3, .int (iI v6)), (4, .int (iI i47))] [.int (iI v30)] _
  refine tn_if_eq (tgt := 106) dX8_goThrough_95 (by decide) ⟨by omega, by omega⟩ (fun h31 => ?_) (fun h31 => ?_)
  · refine tn_aload_n dX8_goThrough_106 rfl 0 rfl ?_
    refine tn_aload_n dX8_goThrough_107 rfl 1 rfl ?_
    refine tn_aload_n dX8_goThrough_108 rfl 1 rfl ?_
    refine tn_iload_n dX8_goThrough_109 rfl 2 rfl ?_
    refine tn_callV (M := m_X8_goThrough) (pc := 110) (ix := 163) (ci := 1) (M' := m_X1_targetOf) (As := [.int (iI p2)]) (rest := [.ref p1, .ref a]) dX8_goThrough_110 ok_X1_targetOf im_X1_targetOf se_X1_targetOf ml8_163 np_X1_targetOf rfl rfl h_p1 rfl (Nat.le_of_ble_eq_true rfl) (Nat.le_of_ble_eq_true rfl) rfl (k_X1_targetOf (d) (T := T) (σ := σ19) (a := p1) (k := p2) h_p1 (by omega) w23 ) (fun r32 T34 σ33 gt35 hp => ?_)
    obtain ⟨v37, rfl, rfl, rfl, f36⟩ := hp
    clear gt35
    show Tn _ _ 113 T σ19 [(0, .ref a), (1, .ref p1), (2, .int (iI p2)), (3, .int (iI v6)), (4, .int (iI i47))] [.int (iI v37), .ref p1, .ref a] _
    refine tn_callV (M := m_X8_goThrough) (pc := 113) (ix := 160) (ci := 8) (M' := m_X8_comeTo) (As := [.ref p1, .int (iI v37)]) (rest := []) dX8_goThrough_113 ok_X8_comeTo im_X8_comeTo se_X8_comeTo ml8_160 np_X8_comeTo rfl rfl ha rfl (Nat.le_of_ble_eq_true rfl) (Nat.le_of_ble_eq_true rfl) rfl (k_X8_comeTo (d) (T := T) (σ := σ19) (a := a) (p1 := p1) (p2 := v37) ha h_p1 t_p1 (by omega) w23 ) (fun r38 T40 σ39 gt41 hp => ?_)
    obtain ⟨rfl, rfl, w43, F44⟩ := hp
    clear gt41
    show Tn _ _ 116 T σ39 [(0, .ref a), (1, .ref p1), (2, .int (iI p2)), (3, .int (iI v6)), (4, .int (iI i47))] [] _
    exact tn_vret rfl dX8_goThrough_116 ⟨rfl, rfl, w43, (((FrC.rfl.trans (FrC.sub F12 (by decide))).trans (FrC.sub F24 (by decide))).trans (FrC.sub F44 (by decide)))⟩
  · refine tn_aload_n dX8_goThrough_98 rfl 0 rfl ?_
    refine tn_aload_n dX8_goThrough_99 rfl 1 rfl ?_
    refine tn_iload_n dX8_goThrough_100 rfl 2 rfl ?_
    refine tn_iconst dX8_goThrough_101 ?_
    refine tn_iadd dX8_goThrough_102 ?_
    refine tn_any (fun z45 g46 => ?_)
    have g46r : -2147483648 ≤ z45 ∧ z45 ≤ 2147483647 := g46
    refine tn_callV (M := m_X8_goThrough) (pc := 103) (ix := 160) (ci := 8) (M' := m_X8_comeTo) (As := [.ref p1, .int (iI z45)]) (rest := []) dX8_goThrough_103 ok_X8_comeTo im_X8_comeTo se_X8_comeTo ml8_160 np_X8_comeTo rfl rfl ha rfl (Nat.le_of_ble_eq_true rfl) (Nat.le_of_ble_eq_true rfl) rfl (k_X8_comeTo (d) (T := T) (σ := σ19) (a := a) (p1 := p1) (p2 := z45) ha h_p1 t_p1 (by omega) w23 ) (fun r47 T49 σ48 gt50 hp => ?_)
    obtain ⟨rfl, rfl, w52, F53⟩ := hp
    clear gt50
    show Tn _ _ 106 T σ48 [(0, .ref a), (1, .ref p1), (2, .int (iI p2)), (3, .int (iI v6)), (4, .int (iI i47))] [] _
    refine tn_aload_n dX8_goThrough_106 rfl 0 rfl ?_
    refine tn_aload_n dX8_goThrough_107 rfl 1 rfl ?_
    refine tn_aload_n dX8_goThrough_108 rfl 1 rfl ?_
    refine tn_iload_n dX8_goThrough_109 rfl 2 rfl ?_
    refine tn_callV (M := m_X8_goThrough) (pc := 110) (ix := 163) (ci := 1) (M' := m_X1_targetOf) (As := [.int (iI p2)]) (rest := [.ref p1, .ref a]) dX8_goThrough_110 ok_X1_targetOf im_X1_targetOf se_X1_targetOf ml8_163 np_X1_targetOf rfl rfl h_p1 rfl (Nat.le_of_ble_eq_true rfl) (Nat.le_of_ble_eq_true rfl) rfl (k_X1_targetOf (d) (T := T) (σ := σ48) (a := p1) (k := p2) h_p1 (by omega) w52 ) (fun r54 T56 σ55 gt57 hp => ?_)
    obtain ⟨v59, rfl, rfl, rfl, f58⟩ := hp
    clear gt57
    show Tn _ _ 113 T σ48 [(0, .ref a), (1, .ref p1), (2, .int (iI p2)), (3, .int (iI v6)), (4, .int (iI i47))] [.int (iI v59), .ref p1, .ref a] _
    refine tn_callV (M := m_X8_goThrough) (pc := 113) (ix := 160) (ci := 8) (M' := m_X8_comeTo) (As := [.ref p1, .int (iI v59)]) (rest := []) dX8_goThrough_113 ok_X8_comeTo im_X8_comeTo se_X8_comeTo ml8_160 np_X8_comeTo rfl rfl ha rfl (Nat.le_of_ble_eq_true rfl) (Nat.le_of_ble_eq_true rfl) rfl (k_X8_comeTo (d) (T := T) (σ := σ48) (a := a) (p1 := p1) (p2 := v59) ha h_p1 t_p1 (by omega) w52 ) (fun r60 T62 σ61 gt63 hp => ?_)
    obtain ⟨rfl, rfl, w65, F66⟩ := hp
    clear gt63
    show Tn _ _ 116 T σ61 [(0, .ref a), (1, .ref p1), (2, .int (iI p2)), (3, .int (iI v6)), (4, .int (iI i47))] [] _
    exact tn_vret rfl dX8_goThrough_116 ⟨rfl, rfl, w65, ((((FrC.rfl.trans (FrC.sub F12 (by decide))).trans (FrC.sub F24 (by decide))).trans (FrC.sub F53 (by decide))).trans (FrC.sub F66 (by decide)))⟩
end
section
theorem cd_X8_findLatest : Cond.code yX8_findLatest cX8_findLatest 4 none ∈ pWW := pw5 (List.mem_of_getElem? (i := 237) rfl) rfl
abbrev m_X8_findLatest : MT := (yX8_findLatest, cX8_findLatest, 4, none)
theorem ok_X8_findLatest : pOk m_X8_findLatest := ⟨⟨cd_X8_findLatest, ini_8⟩, by decide +kernel, ⟨by decide +kernel, by decide +kernel⟩, Nat.le_of_ble_eq_true rfl⟩
theorem np_X8_findLatest : (parseMethodDescriptor yX8_findLatest.desc).map (fun d => d.parameters.length) = some 1 := by decide +kernel
theorem im_X8_findLatest : Cond.instanceMethod yX8_findLatest ∈ pWW := pw5 (List.mem_of_getElem? (i := 236) rfl) rfl
theorem se_X8_findLatest : Cond.selects RX8 yX8_findLatest yX8_findLatest ∈ pWW := pws (List.mem_map.mpr ⟨_, lw_pin 80 rfl, rfl⟩) rfl
theorem ml8_136 : Cond.methodLink RX8 136 yJ7_fill_53178 ∈ pWW := pw5 (List.mem_of_getElem? (i := 238) rfl) rfl
theorem cst8_146 : Cond.constant RX8 146 (1000000) ∈ pWW := pw5 (List.mem_of_getElem? (i := 239) rfl) rfl
theorem ml8_147 : Cond.methodLink RX8 147 yX8_goThrough ∈ pWW := pw6 (List.mem_of_getElem? (i := 1) rfl) rfl
theorem dX8_findLatest_0 : decode cX8_findLatest 0 = .ok (.aload_n 0, 1) := by decide +kernel
theorem dX8_findLatest_1 : decode cX8_findLatest 1 = .ok (.getfield 28, 3) := by decide +kernel
theorem dX8_findLatest_4 : decode cX8_findLatest 4 = .ok (.iconst 0, 1) := by decide +kernel
theorem dX8_findLatest_5 : decode cX8_findLatest 5 = .ok (.invokestatic 136, 3) := by decide +kernel
theorem dX8_findLatest_8 : decode cX8_findLatest 8 = .ok (.aload_n 0, 1) := by decide +kernel
theorem dX8_findLatest_9 : decode cX8_findLatest 9 = .ok (.getfield 15, 3) := by decide +kernel
theorem dX8_findLatest_12 : decode cX8_findLatest 12 = .ok (.iconst 0, 1) := by decide +kernel
theorem dX8_findLatest_13 : decode cX8_findLatest 13 = .ok (.aload_n 0, 1) := by decide +kernel
theorem dX8_findLatest_14 : decode cX8_findLatest 14 = .ok (.getfield 25, 3) := by decide +kernel
theorem dX8_findLatest_17 : decode cX8_findLatest 17 = .ok (.iconst 0, 1) := by decide +kernel
theorem dX8_findLatest_18 : decode cX8_findLatest 18 = .ok (.iconst 3, 1) := by decide +kernel
theorem dX8_findLatest_19 : decode cX8_findLatest 19 = .ok (.invokestatic 92, 3) := by decide +kernel
theorem dX8_findLatest_22 : decode cX8_findLatest 22 = .ok (.aload_n 0, 1) := by decide +kernel
theorem dX8_findLatest_23 : decode cX8_findLatest 23 = .ok (.getfield 28, 3) := by decide +kernel
theorem dX8_findLatest_26 : decode cX8_findLatest 26 = .ok (.iconst 0, 1) := by decide +kernel
theorem dX8_findLatest_27 : decode cX8_findLatest 27 = .ok (.iconst 1, 1) := by decide +kernel
theorem dX8_findLatest_28 : decode cX8_findLatest 28 = .ok (.invokestatic 128, 3) := by decide +kernel
theorem dX8_findLatest_31 : decode cX8_findLatest 31 = .ok (.aload_n 0, 1) := by decide +kernel
theorem dX8_findLatest_32 : decode cX8_findLatest 32 = .ok (.iconst 1, 1) := by decide +kernel
theorem dX8_findLatest_33 : decode cX8_findLatest 33 = .ok (.putfield 142, 3) := by decide +kernel
theorem dX8_findLatest_36 : decode cX8_findLatest 36 = .ok (.iconst 0, 1) := by decide +kernel
theorem dX8_findLatest_37 : decode cX8_findLatest 37 = .ok (.istore_n 2, 1) := by decide +kernel
theorem dX8_findLatest_38 : decode cX8_findLatest 38 = .ok (.aload_n 0, 1) := by decide +kernel
theorem dX8_findLatest_39 : decode cX8_findLatest 39 = .ok (.getfield 142, 3) := by decide +kernel
theorem dX8_findLatest_42 : decode cX8_findLatest 42 = .ok (.ifCond .eq 53, 3) := by decide +kernel
theorem dX8_findLatest_45 : decode cX8_findLatest 45 = .ok (.iload_n 2, 1) := by decide +kernel
theorem dX8_findLatest_46 : decode cX8_findLatest 46 = .ok (.ldc 146, 2) := by decide +kernel
theorem dX8_findLatest_48 : decode cX8_findLatest 48 = .ok (.if_icmp .ge 47, 3) := by decide +kernel
theorem dX8_findLatest_51 : decode cX8_findLatest 51 = .ok (.aload_n 0, 1) := by decide +kernel
theorem dX8_findLatest_52 : decode cX8_findLatest 52 = .ok (.iconst 0, 1) := by decide +kernel
theorem dX8_findLatest_53 : decode cX8_findLatest 53 = .ok (.putfield 142, 3) := by decide +kernel
theorem dX8_findLatest_56 : decode cX8_findLatest 56 = .ok (.iconst 0, 1) := by decide +kernel
theorem dX8_findLatest_57 : decode cX8_findLatest 57 = .ok (.istore_n 3, 1) := by decide +kernel
theorem dX8_findLatest_58 : decode cX8_findLatest 58 = .ok (.iload_n 3, 1) := by decide +kernel
theorem dX8_findLatest_59 : decode cX8_findLatest 59 = .ok (.aload_n 1, 1) := by decide +kernel
theorem dX8_findLatest_60 : decode cX8_findLatest 60 = .ok (.getfield 70, 3) := by decide +kernel
theorem dX8_findLatest_63 : decode cX8_findLatest 63 = .ok (.if_icmp .ge 26, 3) := by decide +kernel
theorem dX8_findLatest_66 : decode cX8_findLatest 66 = .ok (.aload_n 0, 1) := by decide +kernel
theorem dX8_findLatest_67 : decode cX8_findLatest 67 = .ok (.getfield 28, 3) := by decide +kernel
theorem dX8_findLatest_70 : decode cX8_findLatest 70 = .ok (.iload_n 3, 1) := by decide +kernel
theorem dX8_findLatest_71 : decode cX8_findLatest 71 = .ok (.invokestatic 74, 3) := by decide +kernel
theorem dX8_findLatest_74 : decode cX8_findLatest 74 = .ok (.ifCond .eq 9, 3) := by decide +kernel
theorem dX8_findLatest_83 : decode cX8_findLatest 83 = .ok (.iinc 3 1, 3) := by decide +kernel
theorem dX8_findLatest_86 : decode cX8_findLatest 86 = .ok (.goto (-28), 3) := by decide +kernel
theorem dX8_findLatest_77 : decode cX8_findLatest 77 = .ok (.aload_n 0, 1) := by decide +kernel
theorem dX8_findLatest_78 : decode cX8_findLatest 78 = .ok (.aload_n 1, 1) := by decide +kernel
theorem dX8_findLatest_79 : decode cX8_findLatest 79 = .ok (.iload_n 3, 1) := by decide +kernel
theorem dX8_findLatest_80 : decode cX8_findLatest 80 = .ok (.invokevirtual 147, 3) := by decide +kernel
set_option maxRecDepth 20000 in
theorem l_X8_findLatest_58 (d : Nat) {T : CT} {σ0 : MS} {a : Nat} {rx1 : Nat} {c2 : Int} {post : Option Value → CT → MS → Prop} (h_a : OB T a 8) (h_rx1 : OB T rx1 1) (t_rx1 : (T rx1).1 = 50) (r_c2 : 0 ≤ c2 ∧ c2 ≤ 999999) (hw0 : WT T σ0) (hx_89 : ∀ (i3 : Int) (σ : MS) , (WT T σ) → (FrC T [80] σ0 σ) → (0 ≤ i3 ∧ i3 ≤ 2147483647) → Tn (d + 4) m_X8_findLatest 89 T σ [(0, .ref a), (1, .ref rx1), (2, .int (iI c2)), (3, .int (iI i3))] [] post) : ∀ (n : Nat) (i3 : Int) (σ : MS) , (WT T σ) → (FrC T [80] σ0 σ) → (0 ≤ i3 ∧ i3 ≤ 2147483647) → (2147483700 - i3).toNat = n → Tn (d + 4) m_X8_findLatest 58 T σ [(0, .ref a), (1, .ref rx1), (2, .int (iI c2)), (3, .int (iI i3))] [] post := by
  intro n
  induction n using Nat.strongRecOn with
  | _ n ih =>
    intro i3 σ hw hF r_i3 hm
    refine tn_iload_n dX8_findLatest_58 rfl 3 rfl ?_
    refine tn_aload_n dX8_findLatest_59 rfl 1 rfl ?_
    refine tn_getI (ci := 1) (i := 1) (n := 6) (t := σ0.2.1 6 rx1) dX8_findLatest_60 rfl lay_1 (by decide) fl8_70 h_rx1 rfl rfl (rc_F hF (Or.inl (by decide)) (by decide) (rfl)) ?_
    have g1 : ((0 : Int) ≤ σ0.2.1 6 rx1 ∧ σ0.2.1 6 rx1 ≤ 5000) ∧ ((T rx1).1 = 50 → σ0.2.1 6 rx1 ≤ 200) := wf_6 hw0 h_rx1
    have g1x := g1.2
    replace g1 := g1.1
    have g1x := g1x t_rx1
    refine tn_icmp_ge (tgt := 89) dX8_findLatest_63 (by decide) ⟨by omega, by omega⟩ ⟨by omega, by omega⟩ (fun h2 => ?_) (fun h2 => ?_)
    · exact tn_sub [0, 1, 2, 3] rfl (hx_89 (i3) σ hw (FrC.rfl.trans (FrC.sub hF (by decide))) (by omega))
    · refine tn_aload_n dX8_findLatest_66 rfl 0 rfl ?_
      obtain ⟨x3, hx4, hk5, hl6⟩ : ∃ x : Nat, σ0.2.1 78 a = (x : Int) ∧ AR T x 1 201 201 := wf_78 hw0 h_a
      have hk5i : IA T x3 := by unfold IA; omega
      refine tn_getR (ci := 8) (i := 6) (n := 78) (x := x3) dX8_findLatest_67 rfl lay_8 (by decide) fl8_28 h_a rfl rfl (rc_F hF (Or.inl (by decide)) (by decide) (hx4)) ?_
      refine tn_iload_n dX8_findLatest_70 rfl 3 rfl ?_
      refine tn_callSN (M := m_X8_findLatest) (pc := 71) (ix := 74) (M' := m_X11_at) (As := [.ref x3, .int (iI i3)]) (rest := []) dX8_findLatest_71 ok_X11_at stt_X11_at nl8_74 np_X11_at rfl (Nat.le_of_ble_eq_true rfl) (Nat.le_of_ble_eq_true rfl) rfl (k_X11_at (d + 2) (T := T) (σ := σ) (x := x3) (i := i3) hk5i (by omega) (by omega) hw ) (fun r7 T9 σ8 gt10 hp => ?_)
      obtain ⟨v14, rfl, rfl, rfl, f11, f12, f13⟩ := hp
      clear gt10
      clear f12 f13
      show Tn _ _ 74 T σ [(0, .ref a), (1, .ref rx1), (2, .int (iI c2)), (3, .int (iI i3))] [.int (iI v14)] _
      refine tn_if_eq (tgt := 83) dX8_findLatest_74 (by decide) ⟨by omega, by omega⟩ (fun h15 => ?_) (fun h15 => ?_)
      · refine tn_iinc (q0 := 3) (L' := [(3, .int (iI (i3 + 1))), (0, .ref a), (1, .ref rx1), (2, .int (iI c2))]) dX8_findLatest_83 rfl (by decide) rfl ?_
        refine tn_goto (tgt := 58) dX8_findLatest_86 (by decide) ?_
        exact tn_sub [1, 2, 3, 0] rfl (ih _ (by omega) (i3 + 1) σ hw (FrC.rfl.trans (FrC.sub hF (by decide))) (by omega) rfl)
      · refine tn_aload_n dX8_findLatest_77 rfl 0 rfl ?_
        refine tn_aload_n dX8_findLatest_78 rfl 1 rfl ?_
        refine tn_iload_n dX8_findLatest_79 rfl 3 rfl ?_
        refine tn_callV (M := m_X8_findLatest) (pc := 80) (ix := 147) (ci := 8) (M' := m_X8_goThrough) (As := [.ref rx1, .int (iI i3)]) (rest := []) dX8_findLatest_80 ok_X8_goThrough im_X8_goThrough se_X8_goThrough ml8_147 np_X8_goThrough rfl rfl h_a rfl (Nat.le_of_ble_eq_true rfl) (Nat.le_of_ble_eq_true rfl) rfl (k_X8_goThrough (d) (T := T) (σ := σ) (a := a) (p1 := rx1) (p2 := i3) h_a h_rx1 t_rx1 (by omega) hw ) (fun r16 T18 σ17 gt19 hp => ?_)
        obtain ⟨rfl, rfl, w21, F22⟩ := hp
        clear gt19
        show Tn _ _ 83 T σ17 [(0, .ref a), (1, .ref rx1), (2, .int (iI c2)), (3, .int (iI i3))] [] _
        refine tn_iinc (q0 := 3) (L' := [(3, .int (iI (i3 + 1))), (0, .ref a), (1, .ref rx1), (2, .int (iI c2))]) dX8_findLatest_83 rfl (by decide) rfl ?_
        refine tn_goto (tgt := 58) dX8_findLatest_86 (by decide) ?_
        exact tn_sub [1, 2, 3, 0] rfl (ih _ (by omega) (i3 + 1) σ17 w21 ((FrC.rfl.trans (FrC.sub hF (by decide))).trans (FrC.sub F22 (by decide))) (by omega) rfl)
theorem dX8_findLatest_89 : decode cX8_findLatest 89 = .ok (.iinc 2 1, 3) := by decide +kernel
theorem dX8_findLatest_92 : decode cX8_findLatest 92 = .ok (.goto (-54), 3) := by decide +kernel
set_option maxRecDepth 20000 in
theorem l_X8_findLatest_38 (d : Nat) {T : CT} {σ0 : MS} {a : Nat} {rx1 : Nat} {post : Option Value → CT → MS → Prop} (h_a : OB T a 8) (h_rx1 : OB T rx1 1) (t_rx1 : (T rx1).1 = 50) (hw0 : WT T σ0) (hx_95 : ∀ (i2 : Int) (σ : MS) , (WT T σ) → (FrC T [80] σ0 σ) → (0 ≤ i2 ∧ i2 ≤ 2147483647) → Tn (d + 4) m_X8_findLatest 95 T σ [(0, .ref a), (1, .ref rx1), (2, .int (iI i2))] [] post) : ∀ (n : Nat) (i2 : Int) (σ : MS) , (WT T σ) → (FrC T [80] σ0 σ) → (0 ≤ i2 ∧ i2 ≤ 2147483647) → (2147483700 - i2).toNat = n → Tn (d + 4) m_X8_findLatest 38 T σ [(0, .ref a), (1, .ref rx1), (2, .int (iI i2))] [] post := by
  intro n
  induction n using Nat.strongRecOn with
  | _ n ih =>
    intro i2 σ hw hF r_i2 hm
    refine tn_aload_n dX8_findLatest_38 rfl 0 rfl ?_
    refine tn_getI (ci := 8) (i := 8) (n := 80) (t := σ.2.1 80 a) dX8_findLatest_39 rfl lay_8 (by decide) fl8_142 h_a rfl rfl (rfl) ?_
    have g1 : ((0 : Int) ≤ σ.2.1 80 a ∧ σ.2.1 80 a ≤ 1) := wf_80 hw h_a
    refine tn_if_eq (tgt := 95) dX8_findLatest_42 (by decide) ⟨by omega, by omega⟩ (fun h2 => ?_) (fun h2 => ?_)
    · exact tn_sub [0, 1, 2] rfl (hx_95 (i2) σ hw (FrC.rfl.trans (FrC.sub hF (by decide))) (by omega))
    · refine tn_iload_n dX8_findLatest_45 rfl 2 rfl ?_
      refine tn_ldc (n := 1000000) dX8_findLatest_46 cst8_146 rfl ?_
      refine tn_icmp_ge (tgt := 95) dX8_findLatest_48 (by decide) ⟨by omega, by omega⟩ ⟨by decide, by decide⟩ (fun h3 => ?_) (fun h3 => ?_)
      · exact tn_sub [0, 1, 2] rfl (hx_95 (i2) σ hw (FrC.rfl.trans (FrC.sub hF (by decide))) (by omega))
      · refine tn_aload_n dX8_findLatest_51 rfl 0 rfl ?_
        refine tn_iconst dX8_findLatest_52 ?_
        refine tn_putV (ci := 8) (i := 8) (n := 80) (r := false) (v := 0) tyX8 tyX8_ok nmX8 dX8_findLatest_53 rfl lay_8 (by decide) fl8_142 rfl (tyX8_ok 8 (by decide)) rfl rfl rfl h_a rfl rfl ?_
        refine tn_iconst dX8_findLatest_56 ?_
        refine tn_istore_n (L' := [(3, .int (iI 0)), (0, .ref a), (1, .ref rx1), (2, .int (iI i2))]) dX8_findLatest_57 rfl (by decide) rfl ?_
        refine tn_sub [1, 2, 3, 0] rfl (l_X8_findLatest_58 (d) (T := T) (σ0 := (sA 80 a (0) σ)) (a := a) (rx1 := rx1) (c2 := i2) h_a h_rx1 t_rx1 (by omega) (hw.put (by decide) (by decide) (fo_80 (by omega))) (fun i34 σ5 w8 F9 r10 => ?_) _ (0) (sA 80 a (0) σ) (hw.put (by decide) (by decide) (fo_80 (by omega))) FrC.rfl (by omega) rfl)
        show Tn _ _ 89 T σ5 [(0, .ref a), (1, .ref rx1), (2, .int (iI i2)), (3, .int (iI i34))] [] _
        refine tn_iinc (q0 := 2) (L' := [(2, .int (iI (i2 + 1))), (0, .ref a), (1, .ref rx1), (3, .int (iI i34))]) dX8_findLatest_89 rfl (by decide) rfl ?_
        refine tn_goto (tgt := 38) dX8_findLatest_92 (by decide) ?_
        exact tn_sub [1, 2, 0] rfl (ih _ (by omega) (i2 + 1) σ5 w8 (((FrC.rfl.trans (FrC.sub hF (by decide))).put (by decide) (by decide)).trans (FrC.sub F9 (by decide))) (by omega) rfl)
theorem dX8_findLatest_95 : decode cX8_findLatest 95 = .ok (.return_, 1) := by decide +kernel
set_option maxRecDepth 20000 in
theorem k_X8_findLatest (d : Nat) {T : CT} {σ : MS} {a : Nat} {p1 : Nat} (ha : OB T a 8) (h_p1 : OB T p1 1) (t_p1 : (T p1).1 = 50) (hw : WT T σ) : Tn (d + 4) m_X8_findLatest 0 T σ [(0, .ref a), (1, .ref p1)] [] (fun ro T2 σ2 => ro = none ∧ T = T2 ∧ WT T2 σ2 ∧ FrC T [80] σ σ2) := by
  refine tn_aload_n dX8_findLatest_0 rfl 0 rfl ?_
  obtain ⟨x1, hx2, hk3, hl4⟩ : ∃ x : Nat, σ.2.1 78 a = (x : Int) ∧ AR T x 1 201 201 := wf_78 hw ha
  have hk3i : IA T x1 := by unfold IA; omega
  refine tn_getR (ci := 8) (i := 6) (n := 78) (x := x1) dX8_findLatest_1 rfl lay_8 (by decide) fl8_28 ha rfl rfl (hx2) ?_
  refine tn_iconst dX8_findLatest_4 ?_
  refine tn_callS (M := m_X8_findLatest) (pc := 5) (ix := 136) (M' := m_J7_fill_53178) (As := [.ref x1, .int (iI 0)]) (rest := []) dX8_findLatest_5 ok_J7_fill_53178 stt_J7_fill_53178 ml8_136 np_J7_fill_53178 rfl (Nat.le_of_ble_eq_true rfl) (Nat.le_of_ble_eq_true rfl) rfl (k_J7_fill_53178 (d + 2) (T := T) (σ := σ) (x := x1) (y := 0) hk3i (by omega) (by decide) hw (nh_k hk3 (by unfold HT; omega)) (by omega)) (fun r5 T7 σ6 gt8 hp => ?_)
  obtain ⟨rfl, rfl, w10, F11⟩ := hp
  clear gt8
  show Tn _ _ 8 T σ6 [(0, .ref a), (1, .ref p1)] [] _
  refine tn_aload_n dX8_findLatest_8 rfl 0 rfl ?_
  obtain ⟨x12, hx13, hk14, hl15⟩ : ∃ x : Nat, σ.2.1 74 a = (x : Int) ∧ AR T x 3 3 3 := wf_74 hw ha
  refine tn_getR (ci := 8) (i := 2) (n := 74) (x := x12) dX8_findLatest_9 rfl lay_8 (by decide) fl8_15 ha rfl rfl (rc_F F11 (Or.inl (by decide)) (by decide) (hx13)) ?_
  refine tn_iconst dX8_findLatest_12 ?_
  refine tn_aload_n dX8_findLatest_13 rfl 0 rfl ?_
  obtain ⟨x16, hx17, hk18, hl19⟩ : ∃ x : Nat, σ.2.1 77 a = (x : Int) ∧ AR T x 3 603 603 := wf_77 hw ha
  refine tn_getR (ci := 8) (i := 5) (n := 77) (x := x16) dX8_findLatest_14 rfl lay_8 (by decide) fl8_25 ha rfl rfl (rc_F F11 (Or.inl (by decide)) (by decide) (hx17)) ?_
  refine tn_iconst dX8_findLatest_17 ?_
  refine tn_iconst dX8_findLatest_18 ?_
  refine tn_acopyL (a := x12) (b := x16) (sp := 0) (dp := 0) (n := 3) dX8_findLatest_19 mla8_92 acNat acSt acIni hk14 hk18 ⟨by omega, by omega⟩ (by omega) (by omega) (by omega) (by omega) (by omega) (by omega) (Nat.le_of_ble_eq_true rfl) (fun fl20 => ?_)
  skip
  refine tn_aload_n dX8_findLatest_22 rfl 0 rfl ?_
  refine tn_getR (ci := 8) (i := 6) (n := 78) (x := x1) dX8_findLatest_23 rfl lay_8 (by decide) fl8_28 ha rfl rfl ((rc_F F11 (Or.inl (by decide)) (by decide) (hx2))) ?_
  refine tn_iconst dX8_findLatest_26 ?_
  refine tn_iconst dX8_findLatest_27 ?_
  refine tn_callSN (M := m_X8_findLatest) (pc := 28) (ix := 128) (M' := m_X11_put) (As := [.ref x1, .int (iI 0), .int (iI 1)]) (rest := []) dX8_findLatest_28 ok_X11_put stt_X11_put nl8_128 np_X11_put rfl (Nat.le_of_ble_eq_true rfl) (Nat.le_of_ble_eq_true rfl) rfl (k_X11_put (d + 2) (T := T) (σ := (rowL x16 fl20 σ6)) (x := x1) (i := 0) (y := 1) hk3i (by omega) (by decide) (by decide) (w10.rowL) (nh_k hk3 (by unfold HT; omega)) (vok_1 (by have q9 := hk3; omega) (by omega))) (fun r21 T23 σ22 gt24 hp => ?_)
  obtain ⟨rfl, rfl, w26, F27⟩ := hp
  clear gt24
  show Tn _ _ 31 T σ22 [(0, .ref a), (1, .ref p1)] [] _
  refine tn_aload_n dX8_findLatest_31 rfl 0 rfl ?_
  refine tn_iconst dX8_findLatest_32 ?_
  refine tn_putV (ci := 8) (i := 8) (n := 80) (r := false) (v := 1) tyX8 tyX8_ok nmX8 dX8_findLatest_33 rfl lay_8 (by decide) fl8_142 rfl (tyX8_ok 8 (by decide)) rfl rfl rfl ha rfl rfl ?_
  refine tn_iconst dX8_findLatest_36 ?_
  refine tn_istore_n (L' := [(2, .int (iI 0)), (0, .ref a), (1, .ref p1)]) dX8_findLatest_37 rfl (by decide) rfl ?_
  refine tn_sub [1, 2, 0] rfl (l_X8_findLatest_38 (d) (T := T) (σ0 := (sA 80 a (1) σ22)) (a := a) (rx1 := p1) ha h_p1 t_p1 (w26.put (by decide) (by decide) (fo_80 (by omega))) (fun i228 σ29 w32 F33 r34 => ?_) _ (0) (sA 80 a (1) σ22) (w26.put (by decide) (by decide) (fo_80 (by omega))) FrC.rfl (by omega) rfl)
  show Tn _ _ 95 T σ29 [(0, .ref a), (1, .ref p1), (2, .int (iI i228))] [] _
  exact tn_vret rfl dX8_findLatest_95 ⟨rfl, rfl, w32, (((((FrC.rfl.trans (FrC.sub F11 (by decide))).rowL).trans (FrC.sub F27 (by decide))).put (by decide) (by decide)).trans (FrC.sub F33 (by decide)))⟩
end
section
theorem cd_X8_leansOnLost : Cond.code yX8_leansOnLost cX8_leansOnLost 5 (some .boolean) ∈ pWW := pw6 (List.mem_of_getElem? (i := 16) rfl) rfl
abbrev m_X8_leansOnLost : MT := (yX8_leansOnLost, cX8_leansOnLost, 5, (some .boolean))
theorem ok_X8_leansOnLost : pOk m_X8_leansOnLost := ⟨⟨cd_X8_leansOnLost, ini_8⟩, by decide +kernel, ⟨by decide +kernel, by decide +kernel⟩, Nat.le_of_ble_eq_true rfl⟩
theorem np_X8_leansOnLost : (parseMethodDescriptor yX8_leansOnLost.desc).map (fun d => d.parameters.length) = some 3 := by decide +kernel
theorem im_X8_leansOnLost : Cond.instanceMethod yX8_leansOnLost ∈ pWW := pw6 (List.mem_of_getElem? (i := 15) rfl) rfl
theorem se_X8_leansOnLost : Cond.selects RX8 yX8_leansOnLost yX8_leansOnLost ∈ pWW := pws (List.mem_map.mpr ⟨_, lw_pin 83 rfl, rfl⟩) rfl
theorem ml8_166 : Cond.methodLink RX8 166 yX1_get ∈ pWW := pw6 (List.mem_of_getElem? (i := 17) rfl) rfl
theorem ml8_169 : Cond.methodLink RX8 169 yX1_leansOn ∈ pWW := pw6 (List.mem_of_getElem? (i := 18) rfl) rfl
theorem dX8_leansOnLost_0 : decode cX8_leansOnLost 0 = .ok (.aload_n 1, 1) := by decide +kernel
theorem dX8_leansOnLost_1 : decode cX8_leansOnLost 1 = .ok (.iload_n 2, 1) := by decide +kernel
theorem dX8_leansOnLost_2 : decode cX8_leansOnLost 2 = .ok (.iconst 0, 1) := by decide +kernel
theorem dX8_leansOnLost_3 : decode cX8_leansOnLost 3 = .ok (.invokevirtual 166, 3) := by decide +kernel
theorem dX8_leansOnLost_6 : decode cX8_leansOnLost 6 = .ok (.bipush 12, 2) := by decide +kernel
theorem dX8_leansOnLost_8 : decode cX8_leansOnLost 8 = .ok (.if_icmp .ne 15, 3) := by decide +kernel
theorem dX8_leansOnLost_23 : decode cX8_leansOnLost 23 = .ok (.iconst 0, 1) := by decide +kernel
theorem dX8_leansOnLost_24 : decode cX8_leansOnLost 24 = .ok (.ireturn, 1) := by decide +kernel
theorem dX8_leansOnLost_11 : decode cX8_leansOnLost 11 = .ok (.aload_n 1, 1) := by decide +kernel
theorem dX8_leansOnLost_12 : decode cX8_leansOnLost 12 = .ok (.iload_n 2, 1) := by decide +kernel
theorem dX8_leansOnLost_13 : decode cX8_leansOnLost 13 = .ok (.bipush 11, 2) := by decide +kernel
theorem dX8_leansOnLost_15 : decode cX8_leansOnLost 15 = .ok (.invokevirtual 166, 3) := by decide +kernel
theorem dX8_leansOnLost_18 : decode cX8_leansOnLost 18 = .ok (.bipush 10, 2) := by decide +kernel
theorem dX8_leansOnLost_20 : decode cX8_leansOnLost 20 = .ok (.if_icmp .lt 5, 3) := by decide +kernel
theorem dX8_leansOnLost_25 : decode cX8_leansOnLost 25 = .ok (.iconst 0, 1) := by decide +kernel
theorem dX8_leansOnLost_26 : decode cX8_leansOnLost 26 = .ok (.istore 4, 2) := by decide +kernel
theorem dX8_leansOnLost_28 : decode cX8_leansOnLost 28 = .ok (.iload 4, 2) := by decide +kernel
theorem dX8_leansOnLost_30 : decode cX8_leansOnLost 30 = .ok (.iload_n 3, 1) := by decide +kernel
theorem dX8_leansOnLost_31 : decode cX8_leansOnLost 31 = .ok (.if_icmp .ge 34, 3) := by decide +kernel
theorem dX8_leansOnLost_34 : decode cX8_leansOnLost 34 = .ok (.aload_n 1, 1) := by decide +kernel
theorem dX8_leansOnLost_35 : decode cX8_leansOnLost 35 = .ok (.iload_n 2, 1) := by decide +kernel
theorem dX8_leansOnLost_36 : decode cX8_leansOnLost 36 = .ok (.iload 4, 2) := by decide +kernel
theorem dX8_leansOnLost_38 : decode cX8_leansOnLost 38 = .ok (.invokevirtual 169, 3) := by decide +kernel
theorem dX8_leansOnLost_41 : decode cX8_leansOnLost 41 = .ok (.ifCond .eq 18, 3) := by decide +kernel
theorem dX8_leansOnLost_59 : decode cX8_leansOnLost 59 = .ok (.iinc 4 1, 3) := by decide +kernel
theorem dX8_leansOnLost_62 : decode cX8_leansOnLost 62 = .ok (.goto (-34), 3) := by decide +kernel
theorem dX8_leansOnLost_44 : decode cX8_leansOnLost 44 = .ok (.aload_n 0, 1) := by decide +kernel
theorem dX8_leansOnLost_45 : decode cX8_leansOnLost 45 = .ok (.getfield 25, 3) := by decide +kernel
theorem dX8_leansOnLost_48 : decode cX8_leansOnLost 48 = .ok (.iload_n 2, 1) := by decide +kernel
theorem dX8_leansOnLost_49 : decode cX8_leansOnLost 49 = .ok (.iload 4, 2) := by decide +kernel
theorem dX8_leansOnLost_51 : decode cX8_leansOnLost 51 = .ok (.invokestatic 112, 3) := by decide +kernel
theorem dX8_leansOnLost_54 : decode cX8_leansOnLost 54 = .ok (.ifCond .ne 5, 3) := by decide +kernel
set_option maxRecDepth 20000 in
theorem l_X8_leansOnLost_28 (d : Nat) {T : CT} {σ : MS} {a : Nat} {rx1 : Nat} {c2 : Int} {c3 : Int} {post : Option Value → CT → MS → Prop} (h_a : OB T a 8) (h_rx1 : OB T rx1 1) (t_rx1 : (T rx1).1 = 50) (r_c2 : -2147483648 ≤ c2 ∧ c2 ≤ 2147483647) (r_c3 : -2147483648 ≤ c3 ∧ c3 ≤ 2147483647) (hw : WT T σ) (hx_57 : ∀ (i4 : Int) , (0 ≤ i4 ∧ i4 ≤ 2147483647) → Tn (d + 3) m_X8_leansOnLost 57 T σ [(0, .ref a), (1, .ref rx1), (2, .int (iI c2)), (3, .int (iI c3)), (4, .int (iI i4))] [] post) (hx_65 : ∀ (i4 : Int) , (0 ≤ i4 ∧ i4 ≤ 2147483647) → Tn (d + 3) m_X8_leansOnLost 65 T σ [(0, .ref a), (1, .ref rx1), (2, .int (iI c2)), (3, .int (iI c3)), (4, .int (iI i4))] [] post) : ∀ (n : Nat) (i4 : Int) , (0 ≤ i4 ∧ i4 ≤ 2147483647) → (2147483700 - i4).toNat = n → Tn (d + 3) m_X8_leansOnLost 28 T σ [(0, .ref a), (1, .ref rx1), (2, .int (iI c2)), (3, .int (iI c3)), (4, .int (iI i4))] [] post := by
  intro n
  induction n using Nat.strongRecOn with
  | _ n ih =>
    intro i4 r_i4 hm
    refine tn_iload dX8_leansOnLost_28 4 rfl ?_
    refine tn_iload_n dX8_leansOnLost_30 rfl 3 rfl ?_
    refine tn_icmp_ge (tgt := 65) dX8_leansOnLost_31 (by decide) ⟨by omega, by omega⟩ ⟨by omega, by omega⟩ (fun h1 => ?_) (fun h1 => ?_)
    · exact tn_sub [0, 1, 2, 3, 4] rfl (hx_65 (i4) (by omega))
    · refine tn_aload_n dX8_leansOnLost_34 rfl 1 rfl ?_
      refine tn_iload_n dX8_leansOnLost_35 rfl 2 rfl ?_
      refine tn_iload dX8_leansOnLost_36 4 rfl ?_
      refine tn_callV (M := m_X8_leansOnLost) (pc := 38) (ix := 169) (ci := 1) (M' := m_X1_leansOn) (As := [.int (iI c2), .int (iI i4)]) (rest := []) dX8_leansOnLost_38 ok_X1_leansOn im_X1_leansOn se_X1_leansOn ml8_169 np_X1_leansOn rfl rfl h_rx1 rfl (Nat.le_of_ble_eq_true rfl) (Nat.le_of_ble_eq_true rfl) rfl (k_X1_leansOn (d) (T := T) (σ := σ) (a := rx1) (k := c2) (r := i4) h_rx1 (by omega) (by omega) hw ) (fun r2 T4 σ3 gt5 hp => ?_)
      obtain ⟨v7, rfl, rfl, rfl, f6⟩ := hp
      clear gt5
      show Tn _ _ 41 T σ [(0, .ref a), (1, .ref rx1), (2, .int (iI c2)), (3, .int (iI c3)), (4, .int (iI i4))] [.int (iI v7)] _
      refine tn_if_eq (tgt := 59) dX8_leansOnLost_41 (by decide) ⟨by omega, by omega⟩ (fun h8 => ?_) (fun h8 => ?_)
      · refine tn_iinc (q0 := 4) (L' := [(4, .int (iI (i4 + 1))), (0, .ref a), (1, .ref rx1), (2, .int (iI c2)), (3, .int (iI c3))]) dX8_leansOnLost_59 rfl (by decide) rfl ?_
        refine tn_goto (tgt := 28) dX8_leansOnLost_62 (by decide) ?_
        exact tn_sub [1, 2, 3, 4, 0] rfl (ih _ (by omega) (i4 + 1) (by omega) rfl)
      · refine tn_aload_n dX8_leansOnLost_44 rfl 0 rfl ?_
        obtain ⟨x9, hx10, hk11, hl12⟩ : ∃ x : Nat, σ.2.1 77 a = (x : Int) ∧ AR T x 3 603 603 := wf_77 hw h_a
        refine tn_getR (ci := 8) (i := 5) (n := 77) (x := x9) dX8_leansOnLost_45 rfl lay_8 (by decide) fl8_25 h_a rfl rfl (hx10) ?_
        refine tn_iload_n dX8_leansOnLost_48 rfl 2 rfl ?_
        refine tn_iload dX8_leansOnLost_49 4 rfl ?_
        refine tn_callSN (M := m_X8_leansOnLost) (pc := 51) (ix := 112) (M' := m_X11_has) (As := [.ref x9, .int (iI c2), .int (iI i4)]) (rest := []) dX8_leansOnLost_51 ok_X11_has stt_X11_has nl8_112 np_X11_has rfl (Nat.le_of_ble_eq_true rfl) (Nat.le_of_ble_eq_true rfl) rfl (k_X11_has (d) (T := T) (σ := σ) (x := x9) (k := c2) (r := i4) hk11 (by omega) (by omega) (by omega) hw ) (fun r13 T15 σ14 gt16 hp => ?_)
        obtain ⟨v18, rfl, rfl, rfl, f17⟩ := hp
        clear gt16
        show Tn _ _ 54 T σ [(0, .ref a), (1, .ref rx1), (2, .int (iI c2)), (3, .int (iI c3)), (4, .int (iI i4))] [.int (iI v18)] _
        refine tn_if_ne (tgt := 59) dX8_leansOnLost_54 (by decide) ⟨by omega, by omega⟩ (fun h19 => ?_) (fun h19 => ?_)
        · refine tn_iinc (q0 := 4) (L' := [(4, .int (iI (i4 + 1))), (0, .ref a), (1, .ref rx1), (2, .int (iI c2)), (3, .int (iI c3))]) dX8_leansOnLost_59 rfl (by decide) rfl ?_
          refine tn_goto (tgt := 28) dX8_leansOnLost_62 (by decide) ?_
          exact tn_sub [1, 2, 3, 4, 0] rfl (ih _ (by omega) (i4 + 1) (by omega) rfl)
        · exact tn_sub [0, 1, 2, 3, 4] rfl (hx_57 (i4) (by omega))
theorem dX8_leansOnLost_57 : decode cX8_leansOnLost 57 = .ok (.iconst 1, 1) := by decide +kernel
theorem dX8_leansOnLost_58 : decode cX8_leansOnLost 58 = .ok (.ireturn, 1) := by decide +kernel
theorem dX8_leansOnLost_65 : decode cX8_leansOnLost 65 = .ok (.iconst 0, 1) := by decide +kernel
theorem dX8_leansOnLost_66 : decode cX8_leansOnLost 66 = .ok (.ireturn, 1) := by decide +kernel
set_option maxRecDepth 20000 in
theorem k_X8_leansOnLost (d : Nat) {T : CT} {σ : MS} {a : Nat} {p1 : Nat} {p2 : Int} {p3 : Int} (ha : OB T a 8) (h_p1 : OB T p1 1) (t_p1 : (T p1).1 = 50) (h_p2 : -2147483648 ≤ p2 ∧ p2 ≤ 2147483647) (h_p3 : -2147483648 ≤ p3 ∧ p3 ≤ 2147483647) (hw : WT T σ) : Tn (d + 3) m_X8_leansOnLost 0 T σ [(0, .ref a), (1, .ref p1), (2, .int (iI p2)), (3, .int (iI p3))] [] (fun ro T2 σ2 => ∃ v : Int, ro = some (.int (iI v)) ∧ T = T2 ∧ σ = σ2 ∧ (v = 0 ∨ v = 1)) := by
  refine tn_aload_n dX8_leansOnLost_0 rfl 1 rfl ?_
  refine tn_iload_n dX8_leansOnLost_1 rfl 2 rfl ?_
  refine tn_iconst dX8_leansOnLost_2 ?_
  refine tn_callV (M := m_X8_leansOnLost) (pc := 3) (ix := 166) (ci := 1) (M' := m_X1_get) (As := [.int (iI p2), .int (iI 0)]) (rest := []) dX8_leansOnLost_3 ok_X1_get im_X1_get se_X1_get ml8_166 np_X1_get rfl rfl h_p1 rfl (Nat.le_of_ble_eq_true rfl) (Nat.le_of_ble_eq_true rfl) rfl (k_X1_get (d + 1) (T := T) (σ := σ) (a := p1) (k := p2) (c := 0) h_p1 (by omega) (by decide) hw (by omega)) (fun r1 T3 σ2 gt4 hp => ?_)
  obtain ⟨v6, rfl, rfl, rfl, f5⟩ := hp
  clear gt4
  show Tn _ _ 6 T σ [(0, .ref a), (1, .ref p1), (2, .int (iI p2)), (3, .int (iI p3))] [.int (iI v6)] _
  refine tn_bipush dX8_leansOnLost_6 (by decide) ?_
  refine tn_icmp_ne (tgt := 23) dX8_leansOnLost_8 (by decide) ⟨by omega, by omega⟩ ⟨by decide, by decide⟩ (fun h7 => ?_) (fun h7 => ?_)
  · refine tn_iconst dX8_leansOnLost_23 ?_
    exact tn_zret (v := 0) rfl (by decide) dX8_leansOnLost_24 ⟨_, rfl, rfl, rfl, by omega⟩
  · refine tn_aload_n dX8_leansOnLost_11 rfl 1 rfl ?_
    refine tn_iload_n dX8_leansOnLost_12 rfl 2 rfl ?_
    refine tn_bipush dX8_leansOnLost_13 (by decide) ?_
    refine tn_callV (M := m_X8_leansOnLost) (pc := 15) (ix := 166) (ci := 1) (M' := m_X1_get) (As := [.int (iI p2), .int (iI 11)]) (rest := []) dX8_leansOnLost_15 ok_X1_get im_X1_get se_X1_get ml8_166 np_X1_get rfl rfl h_p1 rfl (Nat.le_of_ble_eq_true rfl) (Nat.le_of_ble_eq_true rfl) rfl (k_X1_get (d + 1) (T := T) (σ := σ) (a := p1) (k := p2) (c := 11) h_p1 (by omega) (by decide) hw (by omega)) (fun r8 T10 σ9 gt11 hp => ?_)
    obtain ⟨v13, rfl, rfl, rfl, f12⟩ := hp
    clear gt11
    show Tn _ _ 18 T σ [(0, .ref a), (1, .ref p1), (2, .int (iI p2)), (3, .int (iI p3))] [.int (iI v13)] _
    refine tn_bipush dX8_leansOnLost_18 (by decide) ?_
    refine tn_icmp_lt (tgt := 25) dX8_leansOnLost_20 (by decide) ⟨by omega, by omega⟩ ⟨by decide, by decide⟩ (fun h14 => ?_) (fun h14 => ?_)
    · refine tn_iconst dX8_leansOnLost_25 ?_
      refine tn_istore (L' := [(4, .int (iI 0)), (0, .ref a), (1, .ref p1), (2, .int (iI p2)), (3, .int (iI p3))]) dX8_leansOnLost_26 (by decide) rfl ?_
      refine tn_sub [1, 2, 3, 4, 0] rfl (l_X8_leansOnLost_28 (d) (T := T) (σ := σ) (a := a) (rx1 := p1) (c2 := p2) (c3 := p3) ha h_p1 t_p1 (by omega) (by omega) hw (fun i415 r21 => ?_) (fun i422 r28 => ?_) _ (0) (by omega) rfl)
      · show Tn _ _ 57 T σ [(0, .ref a), (1, .ref p1), (2, .int (iI p2)), (3, .int (iI p3)), (4, .int (iI i415))] [] _
        refine tn_iconst dX8_leansOnLost_57 ?_
        exact tn_zret (v := 1) rfl (by decide) dX8_leansOnLost_58 ⟨_, rfl, rfl, rfl, by omega⟩
      · show Tn _ _ 65 T σ [(0, .ref a), (1, .ref p1), (2, .int (iI p2)), (3, .int (iI p3)), (4, .int (iI i422))] [] _
        refine tn_iconst dX8_leansOnLost_65 ?_
        exact tn_zret (v := 0) rfl (by decide) dX8_leansOnLost_66 ⟨_, rfl, rfl, rfl, by omega⟩
    · refine tn_iconst dX8_leansOnLost_23 ?_
      exact tn_zret (v := 0) rfl (by decide) dX8_leansOnLost_24 ⟨_, rfl, rfl, rfl, by omega⟩
end
section
theorem cd_X8_renumber : Cond.code yX8_renumber cX8_renumber 5 none ∈ pWW := pw6 (List.mem_of_getElem? (i := 23) rfl) rfl
abbrev m_X8_renumber : MT := (yX8_renumber, cX8_renumber, 5, none)
theorem ok_X8_renumber : pOk m_X8_renumber := ⟨⟨cd_X8_renumber, ini_8⟩, by decide +kernel, ⟨by decide +kernel, by decide +kernel⟩, Nat.le_of_ble_eq_true rfl⟩
theorem np_X8_renumber : (parseMethodDescriptor yX8_renumber.desc).map (fun d => d.parameters.length) = some 1 := by decide +kernel
theorem im_X8_renumber : Cond.instanceMethod yX8_renumber ∈ pWW := pw6 (List.mem_of_getElem? (i := 22) rfl) rfl
theorem se_X8_renumber : Cond.selects RX8 yX8_renumber yX8_renumber ∈ pWW := pws (List.mem_map.mpr ⟨_, lw_pin 84 rfl, rfl⟩) rfl
theorem fl8_172 : Cond.fieldLink RX8 172 (TX1 5).1 (TX1 5).2.1 (TX1 5).2.2.1 ∈ pWW := pw1 (List.mem_of_getElem? (i := 106) rfl) rfl
theorem fl8_175 : Cond.fieldLink RX8 175 (TX1 10).1 (TX1 10).2.1 (TX1 10).2.2.1 ∈ pWW := pw1 (List.mem_of_getElem? (i := 126) rfl) rfl
theorem dX8_renumber_0 : decode cX8_renumber 0 = .ok (.iconst 0, 1) := by decide +kernel
theorem dX8_renumber_1 : decode cX8_renumber 1 = .ok (.istore_n 2, 1) := by decide +kernel
theorem dX8_renumber_2 : decode cX8_renumber 2 = .ok (.iload_n 2, 1) := by decide +kernel
theorem dX8_renumber_3 : decode cX8_renumber 3 = .ok (.aload_n 1, 1) := by decide +kernel
theorem dX8_renumber_4 : decode cX8_renumber 4 = .ok (.getfield 172, 3) := by decide +kernel
theorem dX8_renumber_7 : decode cX8_renumber 7 = .ok (.bipush 12, 2) := by decide +kernel
theorem dX8_renumber_9 : decode cX8_renumber 9 = .ok (.imul, 1) := by decide +kernel
theorem dX8_renumber_10 : decode cX8_renumber 10 = .ok (.if_icmp .ge 32, 3) := by decide +kernel
theorem dX8_renumber_13 : decode cX8_renumber 13 = .ok (.aload_n 1, 1) := by decide +kernel
theorem dX8_renumber_14 : decode cX8_renumber 14 = .ok (.getfield 175, 3) := by decide +kernel
theorem dX8_renumber_17 : decode cX8_renumber 17 = .ok (.iload_n 2, 1) := by decide +kernel
theorem dX8_renumber_18 : decode cX8_renumber 18 = .ok (.aload_n 0, 1) := by decide +kernel
theorem dX8_renumber_19 : decode cX8_renumber 19 = .ok (.getfield 18, 3) := by decide +kernel
theorem dX8_renumber_22 : decode cX8_renumber 22 = .ok (.aload_n 1, 1) := by decide +kernel
theorem dX8_renumber_23 : decode cX8_renumber 23 = .ok (.getfield 175, 3) := by decide +kernel
theorem dX8_renumber_26 : decode cX8_renumber 26 = .ok (.iload_n 2, 1) := by decide +kernel
theorem dX8_renumber_27 : decode cX8_renumber 27 = .ok (.invokestatic 74, 3) := by decide +kernel
theorem dX8_renumber_30 : decode cX8_renumber 30 = .ok (.invokestatic 74, 3) := by decide +kernel
theorem dX8_renumber_33 : decode cX8_renumber 33 = .ok (.invokestatic 128, 3) := by decide +kernel
theorem dX8_renumber_36 : decode cX8_renumber 36 = .ok (.iinc 2 1, 3) := by decide +kernel
theorem dX8_renumber_39 : decode cX8_renumber 39 = .ok (.goto (-37), 3) := by decide +kernel
set_option maxRecDepth 20000 in
theorem l_X8_renumber_2 (d : Nat) {T : CT} {σ0 : MS} {a : Nat} {rx1 : Nat} {post : Option Value → CT → MS → Prop} (h_a : OB T a 8) (h_rx1 : OB T rx1 1) (t_rx1 : (T rx1).1 = 50) (hw0 : WT T σ0) (hx_42 : ∀ (i2 : Int) (σ : MS) , (WT T σ) → (FrC T [] σ0 σ) → (0 ≤ i2 ∧ i2 ≤ 2147483647) → Tn (d + 3) m_X8_renumber 42 T σ [(0, .ref a), (1, .ref rx1), (2, .int (iI i2))] [] post) : ∀ (n : Nat) (i2 : Int) (σ : MS) , (WT T σ) → (FrC T [] σ0 σ) → (0 ≤ i2 ∧ i2 ≤ 2147483647) → (2147483700 - i2).toNat = n → Tn (d + 3) m_X8_renumber 2 T σ [(0, .ref a), (1, .ref rx1), (2, .int (iI i2))] [] post := by
  intro n
  induction n using Nat.strongRecOn with
  | _ n ih =>
    intro i2 σ hw hF r_i2 hm
    refine tn_iload_n dX8_renumber_2 rfl 2 rfl ?_
    refine tn_aload_n dX8_renumber_3 rfl 1 rfl ?_
    refine tn_getI (ci := 1) (i := 5) (n := 10) (t := σ0.2.1 10 rx1) dX8_renumber_4 rfl lay_1 (by decide) fl8_172 h_rx1 rfl rfl (rc_F hF (Or.inl (by decide)) (by decide) (rfl)) ?_
    have g1 : ((0 : Int) ≤ σ0.2.1 10 rx1 ∧ σ0.2.1 10 rx1 ≤ 12) := wf_10 hw0 h_rx1
    refine tn_bipush dX8_renumber_7 (by decide) ?_
    refine tn_imul dX8_renumber_9 ?_
    refine tn_icmp_ge (tgt := 42) dX8_renumber_10 (by decide) ⟨by omega, by omega⟩ ⟨by omega, by omega⟩ (fun h2 => ?_) (fun h2 => ?_)
    · exact tn_sub [0, 1, 2] rfl (hx_42 (i2) σ hw (FrC.rfl.trans (FrC.sub hF (by decide))) (by omega))
    · refine tn_aload_n dX8_renumber_13 rfl 1 rfl ?_
      obtain ⟨x3, hx4, hk5, hl6⟩ : ∃ x : Nat, σ0.2.1 15 rx1 = (x : Int) ∧ AR T x 1 144 144 := wf_15 hw0 h_rx1
      have hk5i : IA T x3 := by unfold IA; omega
      refine tn_getR (ci := 1) (i := 10) (n := 15) (x := x3) dX8_renumber_14 rfl lay_1 (by decide) fl8_175 h_rx1 rfl rfl (rc_F hF (Or.inl (by decide)) (by decide) (hx4)) ?_
      refine tn_iload_n dX8_renumber_17 rfl 2 rfl ?_
      refine tn_aload_n dX8_renumber_18 rfl 0 rfl ?_
      obtain ⟨x7, hx8, hk9, hl10⟩ : ∃ x : Nat, σ0.2.1 75 a = (x : Int) ∧ AR T x 1 192 192 := wf_75 hw0 h_a
      have hk9i : IA T x7 := by unfold IA; omega
      refine tn_getR (ci := 8) (i := 3) (n := 75) (x := x7) dX8_renumber_19 rfl lay_8 (by decide) fl8_18 h_a rfl rfl (rc_F hF (Or.inl (by decide)) (by decide) (hx8)) ?_
      refine tn_aload_n dX8_renumber_22 rfl 1 rfl ?_
      refine tn_getR (ci := 1) (i := 10) (n := 15) (x := x3) dX8_renumber_23 rfl lay_1 (by decide) fl8_175 h_rx1 rfl rfl (rc_F hF (Or.inl (by decide)) (by decide) (hx4)) ?_
      refine tn_iload_n dX8_renumber_26 rfl 2 rfl ?_
      refine tn_callSN (M := m_X8_renumber) (pc := 27) (ix := 74) (M' := m_X11_at) (As := [.ref x3, .int (iI i2)]) (rest := [.ref x7, .int (iI i2), .ref x3]) dX8_renumber_27 ok_X11_at stt_X11_at nl8_74 np_X11_at rfl (Nat.le_of_ble_eq_true rfl) (Nat.le_of_ble_eq_true rfl) rfl (k_X11_at (d + 1) (T := T) (σ := σ) (x := x3) (i := i2) hk5i (by omega) (by omega) hw ) (fun r11 T13 σ12 gt14 hp => ?_)
      obtain ⟨v18, rfl, rfl, rfl, f15, f16, f17⟩ := hp
      clear gt14
      clear f16 f17
      show Tn _ _ 30 T σ [(0, .ref a), (1, .ref rx1), (2, .int (iI i2))] [.int (iI v18), .ref x7, .int (iI i2), .ref x3] _
      refine tn_callSN (M := m_X8_renumber) (pc := 30) (ix := 74) (M' := m_X11_at) (As := [.ref x7, .int (iI v18)]) (rest := [.int (iI i2), .ref x3]) dX8_renumber_30 ok_X11_at stt_X11_at nl8_74 np_X11_at rfl (Nat.le_of_ble_eq_true rfl) (Nat.le_of_ble_eq_true rfl) rfl (k_X11_at (d + 1) (T := T) (σ := σ) (x := x7) (i := v18) hk9i (by omega) (by omega) hw ) (fun r19 T21 σ20 gt22 hp => ?_)
      obtain ⟨v26, rfl, rfl, rfl, f23, f24, f25⟩ := hp
      clear gt22
      clear f24 f25
      show Tn _ _ 33 T σ [(0, .ref a), (1, .ref rx1), (2, .int (iI i2))] [.int (iI v26), .int (iI i2), .ref x3] _
      refine tn_callSN (M := m_X8_renumber) (pc := 33) (ix := 128) (M' := m_X11_put) (As := [.ref x3, .int (iI i2), .int (iI v26)]) (rest := []) dX8_renumber_33 ok_X11_put stt_X11_put nl8_128 np_X11_put rfl (Nat.le_of_ble_eq_true rfl) (Nat.le_of_ble_eq_true rfl) rfl (k_X11_put (d + 1) (T := T) (σ := σ) (x := x3) (i := i2) (y := v26) hk5i (by omega) (by omega) (by omega) hw (nh_k hk5 (by unfold HT; omega)) (vok_1 (by have q9 := hk5; omega) (by omega))) (fun r27 T29 σ28 gt30 hp => ?_)
      obtain ⟨rfl, rfl, w32, F33⟩ := hp
      clear gt30
      show Tn _ _ 36 T σ28 [(0, .ref a), (1, .ref rx1), (2, .int (iI i2))] [] _
      refine tn_iinc (q0 := 2) (L' := [(2, .int (iI (i2 + 1))), (0, .ref a), (1, .ref rx1)]) dX8_renumber_36 rfl (by decide) rfl ?_
      refine tn_goto (tgt := 2) dX8_renumber_39 (by decide) ?_
      exact tn_sub [1, 2, 0] rfl (ih _ (by omega) (i2 + 1) σ28 w32 ((FrC.rfl.trans (FrC.sub hF (by decide))).trans (FrC.sub F33 (by decide))) (by omega) rfl)
theorem ml8_178 : Cond.methodLink RX8 178 yX1_set ∈ pWW := pw6 (List.mem_of_getElem? (i := 24) rfl) rfl
theorem dX8_renumber_42 : decode cX8_renumber 42 = .ok (.iconst 0, 1) := by decide +kernel
theorem dX8_renumber_43 : decode cX8_renumber 43 = .ok (.istore_n 2, 1) := by decide +kernel
theorem dX8_renumber_44 : decode cX8_renumber 44 = .ok (.iload_n 2, 1) := by decide +kernel
theorem dX8_renumber_45 : decode cX8_renumber 45 = .ok (.aload_n 1, 1) := by decide +kernel
theorem dX8_renumber_46 : decode cX8_renumber 46 = .ok (.getfield 70, 3) := by decide +kernel
theorem dX8_renumber_49 : decode cX8_renumber 49 = .ok (.if_icmp .ge 127, 3) := by decide +kernel
theorem dX8_renumber_52 : decode cX8_renumber 52 = .ok (.aload_n 1, 1) := by decide +kernel
theorem dX8_renumber_53 : decode cX8_renumber 53 = .ok (.iload_n 2, 1) := by decide +kernel
theorem dX8_renumber_54 : decode cX8_renumber 54 = .ok (.invokevirtual 120, 3) := by decide +kernel
theorem dX8_renumber_57 : decode cX8_renumber 57 = .ok (.istore_n 3, 1) := by decide +kernel
theorem dX8_renumber_58 : decode cX8_renumber 58 = .ok (.iload_n 3, 1) := by decide +kernel
theorem dX8_renumber_59 : decode cX8_renumber 59 = .ok (.iconst (-1), 1) := by decide +kernel
theorem dX8_renumber_60 : decode cX8_renumber 60 = .ok (.if_icmp .eq 17, 3) := by decide +kernel
theorem dX8_renumber_77 : decode cX8_renumber 77 = .ok (.aload_n 1, 1) := by decide +kernel
theorem dX8_renumber_78 : decode cX8_renumber 78 = .ok (.iload_n 2, 1) := by decide +kernel
theorem dX8_renumber_79 : decode cX8_renumber 79 = .ok (.iconst 0, 1) := by decide +kernel
theorem dX8_renumber_80 : decode cX8_renumber 80 = .ok (.invokevirtual 166, 3) := by decide +kernel
theorem dX8_renumber_83 : decode cX8_renumber 83 = .ok (.bipush 12, 2) := by decide +kernel
theorem dX8_renumber_85 : decode cX8_renumber 85 = .ok (.if_icmp .ne 33, 3) := by decide +kernel
theorem dX8_renumber_118 : decode cX8_renumber 118 = .ok (.iconst 3, 1) := by decide +kernel
theorem dX8_renumber_119 : decode cX8_renumber 119 = .ok (.istore 4, 2) := by decide +kernel
theorem dX8_renumber_121 : decode cX8_renumber 121 = .ok (.iload 4, 2) := by decide +kernel
theorem dX8_renumber_123 : decode cX8_renumber 123 = .ok (.bipush 11, 2) := by decide +kernel
theorem dX8_renumber_125 : decode cX8_renumber 125 = .ok (.if_icmp .ge 45, 3) := by decide +kernel
theorem dX8_renumber_128 : decode cX8_renumber 128 = .ok (.aload_n 1, 1) := by decide +kernel
theorem dX8_renumber_129 : decode cX8_renumber 129 = .ok (.iload_n 2, 1) := by decide +kernel
theorem dX8_renumber_130 : decode cX8_renumber 130 = .ok (.iload 4, 2) := by decide +kernel
theorem dX8_renumber_132 : decode cX8_renumber 132 = .ok (.invokevirtual 166, 3) := by decide +kernel
theorem dX8_renumber_135 : decode cX8_renumber 135 = .ok (.iconst 2, 1) := by decide +kernel
theorem dX8_renumber_136 : decode cX8_renumber 136 = .ok (.if_icmp .ne 28, 3) := by decide +kernel
theorem dX8_renumber_164 : decode cX8_renumber 164 = .ok (.iinc 4 2, 3) := by decide +kernel
theorem dX8_renumber_167 : decode cX8_renumber 167 = .ok (.goto (-46), 3) := by decide +kernel
theorem dX8_renumber_139 : decode cX8_renumber 139 = .ok (.aload_n 1, 1) := by decide +kernel
theorem dX8_renumber_140 : decode cX8_renumber 140 = .ok (.iload_n 2, 1) := by decide +kernel
theorem dX8_renumber_141 : decode cX8_renumber 141 = .ok (.iload 4, 2) := by decide +kernel
theorem dX8_renumber_143 : decode cX8_renumber 143 = .ok (.iconst 1, 1) := by decide +kernel
theorem dX8_renumber_144 : decode cX8_renumber 144 = .ok (.iadd, 1) := by decide +kernel
theorem dX8_renumber_145 : decode cX8_renumber 145 = .ok (.aload_n 0, 1) := by decide +kernel
theorem dX8_renumber_146 : decode cX8_renumber 146 = .ok (.getfield 18, 3) := by decide +kernel
theorem dX8_renumber_149 : decode cX8_renumber 149 = .ok (.aload_n 1, 1) := by decide +kernel
theorem dX8_renumber_150 : decode cX8_renumber 150 = .ok (.iload_n 2, 1) := by decide +kernel
theorem dX8_renumber_151 : decode cX8_renumber 151 = .ok (.iload 4, 2) := by decide +kernel
theorem dX8_renumber_153 : decode cX8_renumber 153 = .ok (.iconst 1, 1) := by decide +kernel
theorem dX8_renumber_154 : decode cX8_renumber 154 = .ok (.iadd, 1) := by decide +kernel
theorem dX8_renumber_155 : decode cX8_renumber 155 = .ok (.invokevirtual 166, 3) := by decide +kernel
theorem dX8_renumber_158 : decode cX8_renumber 158 = .ok (.invokestatic 74, 3) := by decide +kernel
theorem dX8_renumber_161 : decode cX8_renumber 161 = .ok (.invokevirtual 178, 3) := by decide +kernel
set_option maxRecDepth 20000 in
theorem l_X8_renumber_121 (d : Nat) {T : CT} {σ0 : MS} {a : Nat} {rx1 : Nat} {c2 : Int} {post : Option Value → CT → MS → Prop} (h_a : OB T a 8) (h_rx1 : OB T rx1 1) (t_rx1 : (T rx1).1 = 50) (r_c2 : 0 ≤ c2 ∧ c2 ≤ 199) (hw0 : WT T σ0) (hx_170 : ∀ (i4 : Int) (σ : MS) , (WT T σ) → (FrC T [] σ0 σ) → (3 ≤ i4 ∧ i4 ≤ 2147483647) → Tn (d + 3) m_X8_renumber 170 T σ [(0, .ref a), (1, .ref rx1), (2, .int (iI c2)), (4, .int (iI i4))] [] post) : ∀ (n : Nat) (i4 : Int) (σ : MS) , (WT T σ) → (FrC T [] σ0 σ) → (3 ≤ i4 ∧ i4 ≤ 2147483647) → (2147483700 - i4).toNat = n → Tn (d + 3) m_X8_renumber 121 T σ [(0, .ref a), (1, .ref rx1), (2, .int (iI c2)), (4, .int (iI i4))] [] post := by
  intro n
  induction n using Nat.strongRecOn with
  | _ n ih =>
    intro i4 σ hw hF r_i4 hm
    refine tn_iload dX8_renumber_121 3 rfl ?_
    refine tn_bipush dX8_renumber_123 (by decide) ?_
    refine tn_icmp_ge (tgt := 170) dX8_renumber_125 (by decide) ⟨by omega, by omega⟩ ⟨by decide, by decide⟩ (fun h1 => ?_) (fun h1 => ?_)
    · exact tn_sub [0, 1, 2, 3] rfl (hx_170 (i4) σ hw (FrC.rfl.trans (FrC.sub hF (by decide))) (by omega))
    · refine tn_aload_n dX8_renumber_128 rfl 1 rfl ?_
      refine tn_iload_n dX8_renumber_129 rfl 2 rfl ?_
      refine tn_iload dX8_renumber_130 3 rfl ?_
      refine tn_callV (M := m_X8_renumber) (pc := 132) (ix := 166) (ci := 1) (M' := m_X1_get) (As := [.int (iI c2), .int (iI i4)]) (rest := []) dX8_renumber_132 ok_X1_get im_X1_get se_X1_get ml8_166 np_X1_get rfl rfl h_rx1 rfl (Nat.le_of_ble_eq_true rfl) (Nat.le_of_ble_eq_true rfl) rfl (k_X1_get (d + 1) (T := T) (σ := σ) (a := rx1) (k := c2) (c := i4) h_rx1 (by omega) (by omega) hw (by omega)) (fun r2 T4 σ3 gt5 hp => ?_)
      obtain ⟨v7, rfl, rfl, rfl, f6⟩ := hp
      clear gt5
      show Tn _ _ 135 T σ [(0, .ref a), (1, .ref rx1), (2, .int (iI c2)), (4, .int (iI i4))] [.int (iI v7)] _
      refine tn_iconst dX8_renumber_135 ?_
      refine tn_icmp_ne (tgt := 164) dX8_renumber_136 (by decide) ⟨by omega, by omega⟩ ⟨by decide, by decide⟩ (fun h8 => ?_) (fun h8 => ?_)
      · refine tn_iinc (q0 := 3) (L' := [(4, .int (iI (i4 + 2))), (0, .ref a), (1, .ref rx1), (2, .int (iI c2))]) dX8_renumber_164 rfl (by decide) rfl ?_
        refine tn_goto (tgt := 121) dX8_renumber_167 (by decide) ?_
        exact tn_sub [1, 2, 3, 0] rfl (ih _ (by omega) (i4 + 2) σ hw (FrC.rfl.trans (FrC.sub hF (by decide))) (by omega) rfl)
      · refine tn_aload_n dX8_renumber_139 rfl 1 rfl ?_
        refine tn_iload_n dX8_renumber_140 rfl 2 rfl ?_
        refine tn_iload dX8_renumber_141 3 rfl ?_
        refine tn_iconst dX8_renumber_143 ?_
        refine tn_iadd dX8_renumber_144 ?_
        refine tn_aload_n dX8_renumber_145 rfl 0 rfl ?_
        obtain ⟨x9, hx10, hk11, hl12⟩ : ∃ x : Nat, σ0.2.1 75 a = (x : Int) ∧ AR T x 1 192 192 := wf_75 hw0 h_a
        have hk11i : IA T x9 := by unfold IA; omega
        refine tn_getR (ci := 8) (i := 3) (n := 75) (x := x9) dX8_renumber_146 rfl lay_8 (by decide) fl8_18 h_a rfl rfl (rc_F hF (Or.inl (by decide)) (by decide) (hx10)) ?_
        refine tn_aload_n dX8_renumber_149 rfl 1 rfl ?_
        refine tn_iload_n dX8_renumber_150 rfl 2 rfl ?_
        refine tn_iload dX8_renumber_151 3 rfl ?_
        refine tn_iconst dX8_renumber_153 ?_
        refine tn_iadd dX8_renumber_154 ?_
        refine tn_callV (M := m_X8_renumber) (pc := 155) (ix := 166) (ci := 1) (M' := m_X1_get) (As := [.int (iI c2), .int (iI (i4 + 1))]) (rest := [.ref x9, .int (iI (i4 + 1)), .int (iI c2), .ref rx1]) dX8_renumber_155 ok_X1_get im_X1_get se_X1_get ml8_166 np_X1_get rfl rfl h_rx1 rfl (Nat.le_of_ble_eq_true rfl) (Nat.le_of_ble_eq_true rfl) rfl (k_X1_get (d + 1) (T := T) (σ := σ) (a := rx1) (k := c2) (c := i4 + 1) h_rx1 (by omega) (by omega) hw (by omega)) (fun r13 T15 σ14 gt16 hp => ?_)
        obtain ⟨v18, rfl, rfl, rfl, f17⟩ := hp
        clear gt16
        show Tn _ _ 158 T σ [(0, .ref a), (1, .ref rx1), (2, .int (iI c2)), (4, .int (iI i4))] [.int (iI v18), .ref x9, .int (iI (i4 + 1)), .int (iI c2), .ref rx1] _
        refine tn_callSN (M := m_X8_renumber) (pc := 158) (ix := 74) (M' := m_X11_at) (As := [.ref x9, .int (iI v18)]) (rest := [.int (iI (i4 + 1)), .int (iI c2), .ref rx1]) dX8_renumber_158 ok_X11_at stt_X11_at nl8_74 np_X11_at rfl (Nat.le_of_ble_eq_true rfl) (Nat.le_of_ble_eq_true rfl) rfl (k_X11_at (d + 1) (T := T) (σ := σ) (x := x9) (i := v18) hk11i (by omega) (by omega) hw ) (fun r19 T21 σ20 gt22 hp => ?_)
        obtain ⟨v26, rfl, rfl, rfl, f23, f24, f25⟩ := hp
        clear gt22
        clear f24 f25
        show Tn _ _ 161 T σ [(0, .ref a), (1, .ref rx1), (2, .int (iI c2)), (4, .int (iI i4))] [.int (iI v26), .int (iI (i4 + 1)), .int (iI c2), .ref rx1] _
        refine tn_callV (M := m_X8_renumber) (pc := 161) (ix := 178) (ci := 1) (M' := m_X1_set) (As := [.int (iI c2), .int (iI (i4 + 1)), .int (iI v26)]) (rest := []) dX8_renumber_161 ok_X1_set im_X1_set se_X1_set ml8_178 np_X1_set rfl rfl h_rx1 rfl (Nat.le_of_ble_eq_true rfl) (Nat.le_of_ble_eq_true rfl) rfl (k_X1_set (d + 1) (T := T) (σ := σ) (a := rx1) (k := c2) (c := i4 + 1) (y := v26) h_rx1 (by omega) (by omega) (by omega) hw (by omega) (by omega)) (fun r27 T29 σ28 gt30 hp => ?_)
        obtain ⟨rfl, rfl, w32, F33⟩ := hp
        clear gt30
        show Tn _ _ 164 T σ28 [(0, .ref a), (1, .ref rx1), (2, .int (iI c2)), (4, .int (iI i4))] [] _
        refine tn_iinc (q0 := 3) (L' := [(4, .int (iI (i4 + 2))), (0, .ref a), (1, .ref rx1), (2, .int (iI c2))]) dX8_renumber_164 rfl (by decide) rfl ?_
        refine tn_goto (tgt := 121) dX8_renumber_167 (by decide) ?_
        exact tn_sub [1, 2, 3, 0] rfl (ih _ (by omega) (i4 + 2) σ28 w32 ((FrC.rfl.trans (FrC.sub hF (by decide))).trans (FrC.sub F33 (by decide))) (by omega) rfl)
theorem dX8_renumber_170 : decode cX8_renumber 170 = .ok (.iinc 2 1, 3) := by decide +kernel
theorem dX8_renumber_173 : decode cX8_renumber 173 = .ok (.goto (-129), 3) := by decide +kernel
theorem dX8_renumber_88 : decode cX8_renumber 88 = .ok (.aload_n 1, 1) := by decide +kernel
theorem dX8_renumber_89 : decode cX8_renumber 89 = .ok (.iload_n 2, 1) := by decide +kernel
theorem dX8_renumber_90 : decode cX8_renumber 90 = .ok (.bipush 11, 2) := by decide +kernel
theorem dX8_renumber_92 : decode cX8_renumber 92 = .ok (.invokevirtual 166, 3) := by decide +kernel
theorem dX8_renumber_95 : decode cX8_renumber 95 = .ok (.iconst 2, 1) := by decide +kernel
theorem dX8_renumber_96 : decode cX8_renumber 96 = .ok (.if_icmp .ne 22, 3) := by decide +kernel
theorem dX8_renumber_99 : decode cX8_renumber 99 = .ok (.aload_n 1, 1) := by decide +kernel
theorem dX8_renumber_100 : decode cX8_renumber 100 = .ok (.iload_n 2, 1) := by decide +kernel
theorem dX8_renumber_101 : decode cX8_renumber 101 = .ok (.iconst 4, 1) := by decide +kernel
theorem dX8_renumber_102 : decode cX8_renumber 102 = .ok (.aload_n 0, 1) := by decide +kernel
theorem dX8_renumber_103 : decode cX8_renumber 103 = .ok (.getfield 18, 3) := by decide +kernel
theorem dX8_renumber_106 : decode cX8_renumber 106 = .ok (.aload_n 1, 1) := by decide +kernel
theorem dX8_renumber_107 : decode cX8_renumber 107 = .ok (.iload_n 2, 1) := by decide +kernel
theorem dX8_renumber_108 : decode cX8_renumber 108 = .ok (.iconst 4, 1) := by decide +kernel
theorem dX8_renumber_109 : decode cX8_renumber 109 = .ok (.invokevirtual 166, 3) := by decide +kernel
theorem dX8_renumber_112 : decode cX8_renumber 112 = .ok (.invokestatic 74, 3) := by decide +kernel
theorem dX8_renumber_115 : decode cX8_renumber 115 = .ok (.invokevirtual 178, 3) := by decide +kernel
theorem dX8_renumber_63 : decode cX8_renumber 63 = .ok (.aload_n 1, 1) := by decide +kernel
theorem dX8_renumber_64 : decode cX8_renumber 64 = .ok (.iload_n 2, 1) := by decide +kernel
theorem dX8_renumber_65 : decode cX8_renumber 65 = .ok (.iconst 1, 1) := by decide +kernel
theorem dX8_renumber_66 : decode cX8_renumber 66 = .ok (.aload_n 0, 1) := by decide +kernel
theorem dX8_renumber_67 : decode cX8_renumber 67 = .ok (.getfield 18, 3) := by decide +kernel
theorem dX8_renumber_70 : decode cX8_renumber 70 = .ok (.iload_n 3, 1) := by decide +kernel
theorem dX8_renumber_71 : decode cX8_renumber 71 = .ok (.invokestatic 74, 3) := by decide +kernel
theorem dX8_renumber_74 : decode cX8_renumber 74 = .ok (.invokevirtual 178, 3) := by decide +kernel
set_option maxRecDepth 20000 in
theorem l_X8_renumber_44 (d : Nat) {T : CT} {σ0 : MS} {a : Nat} {rx1 : Nat} {post : Option Value → CT → MS → Prop} (h_a : OB T a 8) (h_rx1 : OB T rx1 1) (t_rx1 : (T rx1).1 = 50) (hw0 : WT T σ0) (hx_176 : ∀ (i2 : Int) (σ : MS) , (WT T σ) → (FrC T [] σ0 σ) → (0 ≤ i2 ∧ i2 ≤ 2147483647) → Tn (d + 3) m_X8_renumber 176 T σ [(0, .ref a), (1, .ref rx1), (2, .int (iI i2))] [] post) : ∀ (n : Nat) (i2 : Int) (σ : MS) , (WT T σ) → (FrC T [] σ0 σ) → (0 ≤ i2 ∧ i2 ≤ 2147483647) → (2147483700 - i2).toNat = n → Tn (d + 3) m_X8_renumber 44 T σ [(0, .ref a), (1, .ref rx1), (2, .int (iI i2))] [] post := by
  intro n
  induction n using Nat.strongRecOn with
  | _ n ih =>
    intro i2 σ hw hF r_i2 hm
    refine tn_iload_n dX8_renumber_44 rfl 2 rfl ?_
    refine tn_aload_n dX8_renumber_45 rfl 1 rfl ?_
    refine tn_getI (ci := 1) (i := 1) (n := 6) (t := σ0.2.1 6 rx1) dX8_renumber_46 rfl lay_1 (by decide) fl8_70 h_rx1 rfl rfl (rc_F hF (Or.inl (by decide)) (by decide) (rfl)) ?_
    have g1 : ((0 : Int) ≤ σ0.2.1 6 rx1 ∧ σ0.2.1 6 rx1 ≤ 5000) ∧ ((T rx1).1 = 50 → σ0.2.1 6 rx1 ≤ 200) := wf_6 hw0 h_rx1
    have g1x := g1.2
    replace g1 := g1.1
    have g1x := g1x t_rx1
    refine tn_icmp_ge (tgt := 176) dX8_renumber_49 (by decide) ⟨by omega, by omega⟩ ⟨by omega, by omega⟩ (fun h2 => ?_) (fun h2 => ?_)
    · exact tn_sub [0, 1, 2] rfl (hx_176 (i2) σ hw (FrC.rfl.trans (FrC.sub hF (by decide))) (by omega))
    · refine tn_aload_n dX8_renumber_52 rfl 1 rfl ?_
      refine tn_iload_n dX8_renumber_53 rfl 2 rfl ?_
      refine tn_callV (M := m_X8_renumber) (pc := 54) (ix := 120) (ci := 1) (M' := m_X1_writtenBy) (As := [.int (iI i2)]) (rest := []) dX8_renumber_54 ok_X1_writtenBy im_X1_writtenBy se_X1_writtenBy ml8_120 np_X1_writtenBy rfl rfl h_rx1 rfl (Nat.le_of_ble_eq_true rfl) (Nat.le_of_ble_eq_true rfl) rfl (k_X1_writtenBy (d) (T := T) (σ := σ) (a := rx1) (k := i2) h_rx1 (by omega) hw ) (fun r3 T5 σ4 gt6 hp => ?_)
      obtain ⟨v8, rfl, rfl, rfl, f7⟩ := hp
      clear gt6
      show Tn _ _ 57 T σ [(0, .ref a), (1, .ref rx1), (2, .int (iI i2))] [.int (iI v8)] _
      refine tn_istore_n (L' := [(3, .int (iI v8)), (0, .ref a), (1, .ref rx1), (2, .int (iI i2))]) dX8_renumber_57 rfl (by decide) rfl ?_
      refine tn_iload_n dX8_renumber_58 rfl 0 rfl ?_
      refine tn_iconst dX8_renumber_59 ?_
      refine tn_icmp_eq (tgt := 77) dX8_renumber_60 (by decide) ⟨by omega, by omega⟩ ⟨by decide, by decide⟩ (fun h9 => ?_) (fun h9 => ?_)
      · refine tn_aload_n dX8_renumber_77 rfl 2 rfl ?_
        refine tn_iload_n dX8_renumber_78 rfl 3 rfl ?_
        refine tn_iconst dX8_renumber_79 ?_
        refine tn_callV (M := m_X8_renumber) (pc := 80) (ix := 166) (ci := 1) (M' := m_X1_get) (As := [.int (iI i2), .int (iI 0)]) (rest := []) dX8_renumber_80 ok_X1_get im_X1_get se_X1_get ml8_166 np_X1_get rfl rfl h_rx1 rfl (Nat.le_of_ble_eq_true rfl) (Nat.le_of_ble_eq_true rfl) rfl (k_X1_get (d + 1) (T := T) (σ := σ) (a := rx1) (k := i2) (c := 0) h_rx1 (by omega) (by decide) hw (by omega)) (fun r10 T12 σ11 gt13 hp => ?_)
        obtain ⟨v15, rfl, rfl, rfl, f14⟩ := hp
        clear gt13
        show Tn _ _ 83 T σ [(3, .int (iI v8)), (0, .ref a), (1, .ref rx1), (2, .int (iI i2))] [.int (iI v15)] _
        refine tn_bipush dX8_renumber_83 (by decide) ?_
        refine tn_icmp_ne (tgt := 118) dX8_renumber_85 (by decide) ⟨by omega, by omega⟩ ⟨by decide, by decide⟩ (fun h16 => ?_) (fun h16 => ?_)
        · refine tn_iconst dX8_renumber_118 ?_
          refine tn_istore (L' := [(4, .int (iI 3)), (3, .int (iI v8)), (0, .ref a), (1, .ref rx1), (2, .int (iI i2))]) dX8_renumber_119 (by decide) rfl ?_
          refine tn_sub [2, 3, 4, 0] rfl (l_X8_renumber_121 (d) (T := T) (σ0 := σ) (a := a) (rx1 := rx1) (c2 := i2) h_a h_rx1 t_rx1 (by omega) hw (fun i417 σ18 w21 F22 r23 => ?_) _ (3) σ hw FrC.rfl (by omega) rfl)
          show Tn _ _ 170 T σ18 [(0, .ref a), (1, .ref rx1), (2, .int (iI i2)), (4, .int (iI i417))] [] _
          refine tn_iinc (q0 := 2) (L' := [(2, .int (iI (i2 + 1))), (0, .ref a), (1, .ref rx1), (4, .int (iI i417))]) dX8_renumber_170 rfl (by decide) rfl ?_
          refine tn_goto (tgt := 44) dX8_renumber_173 (by decide) ?_
          exact tn_sub [1, 2, 0] rfl (ih _ (by omega) (i2 + 1) σ18 w21 ((FrC.rfl.trans (FrC.sub hF (by decide))).trans (FrC.sub F22 (by decide))) (by omega) rfl)
        · refine tn_aload_n dX8_renumber_88 rfl 2 rfl ?_
          refine tn_iload_n dX8_renumber_89 rfl 3 rfl ?_
          refine tn_bipush dX8_renumber_90 (by decide) ?_
          refine tn_callV (M := m_X8_renumber) (pc := 92) (ix := 166) (ci := 1) (M' := m_X1_get) (As := [.int (iI i2), .int (iI 11)]) (rest := []) dX8_renumber_92 ok_X1_get im_X1_get se_X1_get ml8_166 np_X1_get rfl rfl h_rx1 rfl (Nat.le_of_ble_eq_true rfl) (Nat.le_of_ble_eq_true rfl) rfl (k_X1_get (d + 1) (T := T) (σ := σ) (a := rx1) (k := i2) (c := 11) h_rx1 (by omega) (by decide) hw (by omega)) (fun r24 T26 σ25 gt27 hp => ?_)
          obtain ⟨v29, rfl, rfl, rfl, f28⟩ := hp
          clear gt27
          show Tn _ _ 95 T σ [(3, .int (iI v8)), (0, .ref a), (1, .ref rx1), (2, .int (iI i2))] [.int (iI v29)] _
          refine tn_iconst dX8_renumber_95 ?_
          refine tn_icmp_ne (tgt := 118) dX8_renumber_96 (by decide) ⟨by omega, by omega⟩ ⟨by decide, by decide⟩ (fun h30 => ?_) (fun h30 => ?_)
          · refine tn_iconst dX8_renumber_118 ?_
            refine tn_istore (L' := [(4, .int (iI 3)), (3, .int (iI v8)), (0, .ref a), (1, .ref rx1), (2, .int (iI i2))]) dX8_renumber_119 (by decide) rfl ?_
            refine tn_sub [2, 3, 4, 0] rfl (l_X8_renumber_121 (d) (T := T) (σ0 := σ) (a := a) (rx1 := rx1) (c2 := i2) h_a h_rx1 t_rx1 (by omega) hw (fun i431 σ32 w35 F36 r37 => ?_) _ (3) σ hw FrC.rfl (by omega) rfl)
            show Tn _ _ 170 T σ32 [(0, .ref a), (1, .ref rx1), (2, .int (iI i2)), (4, .int (iI i431))] [] _
            refine tn_iinc (q0 := 2) (L' := [(2, .int (iI (i2 + 1))), (0, .ref a), (1, .ref rx1), (4, .int (iI i431))]) dX8_renumber_170 rfl (by decide) rfl ?_
            refine tn_goto (tgt := 44) dX8_renumber_173 (by decide) ?_
            exact tn_sub [1, 2, 0] rfl (ih _ (by omega) (i2 + 1) σ32 w35 ((FrC.rfl.trans (FrC.sub hF (by decide))).trans (FrC.sub F36 (by decide))) (by omega) rfl)
          · refine tn_aload_n dX8_renumber_99 rfl 2 rfl ?_
            refine tn_iload_n dX8_renumber_100 rfl 3 rfl ?_
            refine tn_iconst dX8_renumber_101 ?_
            refine tn_aload_n dX8_renumber_102 rfl 1 rfl ?_
            obtain ⟨x38, hx39, hk40, hl41⟩ : ∃ x : Nat, σ0.2.1 75 a = (x : Int) ∧ AR T x 1 192 192 := wf_75 hw0 h_a
            have hk40i : IA T x38 := by unfold IA; omega
            refine tn_getR (ci := 8) (i := 3) (n := 75) (x := x38) dX8_renumber_103 rfl lay_8 (by decide) fl8_18 h_a rfl rfl (rc_F hF (Or.inl (by decide)) (by decide) (hx39)) ?_
            refine tn_aload_n dX8_renumber_106 rfl 2 rfl ?_
            refine tn_iload_n dX8_renumber_107 rfl 3 rfl ?_
            refine tn_iconst dX8_renumber_108 ?_
            refine tn_callV (M := m_X8_renumber) (pc := 109) (ix := 166) (ci := 1) (M' := m_X1_get) (As := [.int (iI i2), .int (iI 4)]) (rest := [.ref x38, .int (iI 4), .int (iI i2), .ref rx1]) dX8_renumber_109 ok_X1_get im_X1_get se_X1_get ml8_166 np_X1_get rfl rfl h_rx1 rfl (Nat.le_of_ble_eq_true rfl) (Nat.le_of_ble_eq_true rfl) rfl (k_X1_get (d + 1) (T := T) (σ := σ) (a := rx1) (k := i2) (c := 4) h_rx1 (by omega) (by decide) hw (by omega)) (fun r42 T44 σ43 gt45 hp => ?_)
            obtain ⟨v47, rfl, rfl, rfl, f46⟩ := hp
            clear gt45
            show Tn _ _ 112 T σ [(3, .int (iI v8)), (0, .ref a), (1, .ref rx1), (2, .int (iI i2))] [.int (iI v47), .ref x38, .int (iI 4), .int (iI i2), .ref rx1] _
            refine tn_callSN (M := m_X8_renumber) (pc := 112) (ix := 74) (M' := m_X11_at) (As := [.ref x38, .int (iI v47)]) (rest := [.int (iI 4), .int (iI i2), .ref rx1]) dX8_renumber_112 ok_X11_at stt_X11_at nl8_74 np_X11_at rfl (Nat.le_of_ble_eq_true rfl) (Nat.le_of_ble_eq_true rfl) rfl (k_X11_at (d + 1) (T := T) (σ := σ) (x := x38) (i := v47) hk40i (by omega) (by omega) hw ) (fun r48 T50 σ49 gt51 hp => ?_)
            obtain ⟨v55, rfl, rfl, rfl, f52, f53, f54⟩ := hp
            clear gt51
            clear f53 f54
            show Tn _ _ 115 T σ [(3, .int (iI v8)), (0, .ref a), (1, .ref rx1), (2, .int (iI i2))] [.int (iI v55), .int (iI 4), .int (iI i2), .ref rx1] _
            refine tn_callV (M := m_X8_renumber) (pc := 115) (ix := 178) (ci := 1) (M' := m_X1_set) (As := [.int (iI i2), .int (iI 4), .int (iI v55)]) (rest := []) dX8_renumber_115 ok_X1_set im_X1_set se_X1_set ml8_178 np_X1_set rfl rfl h_rx1 rfl (Nat.le_of_ble_eq_true rfl) (Nat.le_of_ble_eq_true rfl) rfl (k_X1_set (d + 1) (T := T) (σ := σ) (a := rx1) (k := i2) (c := 4) (y := v55) h_rx1 (by omega) (by decide) (by omega) hw (by omega) (by omega)) (fun r56 T58 σ57 gt59 hp => ?_)
            obtain ⟨rfl, rfl, w61, F62⟩ := hp
            clear gt59
            show Tn _ _ 118 T σ57 [(3, .int (iI v8)), (0, .ref a), (1, .ref rx1), (2, .int (iI i2))] [] _
            refine tn_iconst dX8_renumber_118 ?_
            refine tn_istore (L' := [(4, .int (iI 3)), (3, .int (iI v8)), (0, .ref a), (1, .ref rx1), (2, .int (iI i2))]) dX8_renumber_119 (by decide) rfl ?_
            refine tn_sub [2, 3, 4, 0] rfl (l_X8_renumber_121 (d) (T := T) (σ0 := σ57) (a := a) (rx1 := rx1) (c2 := i2) h_a h_rx1 t_rx1 (by omega) w61 (fun i463 σ64 w67 F68 r69 => ?_) _ (3) σ57 w61 FrC.rfl (by omega) rfl)
            show Tn _ _ 170 T σ64 [(0, .ref a), (1, .ref rx1), (2, .int (iI i2)), (4, .int (iI i463))] [] _
            refine tn_iinc (q0 := 2) (L' := [(2, .int (iI (i2 + 1))), (0, .ref a), (1, .ref rx1), (4, .int (iI i463))]) dX8_renumber_170 rfl (by decide) rfl ?_
            refine tn_goto (tgt := 44) dX8_renumber_173 (by decide) ?_
            exact tn_sub [1, 2, 0] rfl (ih _ (by omega) (i2 + 1) σ64 w67 (((FrC.rfl.trans (FrC.sub hF (by decide))).trans (FrC.sub F62 (by decide))).trans (FrC.sub F68 (by decide))) (by omega) rfl)
      · refine tn_aload_n dX8_renumber_63 rfl 2 rfl ?_
        refine tn_iload_n dX8_renumber_64 rfl 3 rfl ?_
        refine tn_iconst dX8_renumber_65 ?_
        refine tn_aload_n dX8_renumber_66 rfl 1 rfl ?_
        obtain ⟨x70, hx71, hk72, hl73⟩ : ∃ x : Nat, σ0.2.1 75 a = (x : Int) ∧ AR T x 1 192 192 := wf_75 hw0 h_a
        have hk72i : IA T x70 := by unfold IA; omega
        refine tn_getR (ci := 8) (i := 3) (n := 75) (x := x70) dX8_renumber_67 rfl lay_8 (by decide) fl8_18 h_a rfl rfl (rc_F hF (Or.inl (by decide)) (by decide) (hx71)) ?_
        refine tn_iload_n dX8_renumber_70 rfl 0 rfl ?_
        refine tn_callSN (M := m_X8_renumber) (pc := 71) (ix := 74) (M' := m_X11_at) (As := [.ref x70, .int (iI v8)]) (rest := [.int (iI 1), .int (iI i2), .ref rx1]) dX8_renumber_71 ok_X11_at stt_X11_at nl8_74 np_X11_at rfl (Nat.le_of_ble_eq_true rfl) (Nat.le_of_ble_eq_true rfl) rfl (k_X11_at (d + 1) (T := T) (σ := σ) (x := x70) (i := v8) hk72i (by omega) (by omega) hw ) (fun r74 T76 σ75 gt77 hp => ?_)
        obtain ⟨v81, rfl, rfl, rfl, f78, f79, f80⟩ := hp
        clear gt77
        clear f79 f80
        show Tn _ _ 74 T σ [(3, .int (iI v8)), (0, .ref a), (1, .ref rx1), (2, .int (iI i2))] [.int (iI v81), .int (iI 1), .int (iI i2), .ref rx1] _
        refine tn_callV (M := m_X8_renumber) (pc := 74) (ix := 178) (ci := 1) (M' := m_X1_set) (As := [.int (iI i2), .int (iI 1), .int (iI v81)]) (rest := []) dX8_renumber_74 ok_X1_set im_X1_set se_X1_set ml8_178 np_X1_set rfl rfl h_rx1 rfl (Nat.le_of_ble_eq_true rfl) (Nat.le_of_ble_eq_true rfl) rfl (k_X1_set (d + 1) (T := T) (σ := σ) (a := rx1) (k := i2) (c := 1) (y := v81) h_rx1 (by omega) (by decide) (by omega) hw (by omega) (by omega)) (fun r82 T84 σ83 gt85 hp => ?_)
        obtain ⟨rfl, rfl, w87, F88⟩ := hp
        clear gt85
        show Tn _ _ 77 T σ83 [(3, .int (iI v8)), (0, .ref a), (1, .ref rx1), (2, .int (iI i2))] [] _
        refine tn_aload_n dX8_renumber_77 rfl 2 rfl ?_
        refine tn_iload_n dX8_renumber_78 rfl 3 rfl ?_
        refine tn_iconst dX8_renumber_79 ?_
        refine tn_callV (M := m_X8_renumber) (pc := 80) (ix := 166) (ci := 1) (M' := m_X1_get) (As := [.int (iI i2), .int (iI 0)]) (rest := []) dX8_renumber_80 ok_X1_get im_X1_get se_X1_get ml8_166 np_X1_get rfl rfl h_rx1 rfl (Nat.le_of_ble_eq_true rfl) (Nat.le_of_ble_eq_true rfl) rfl (k_X1_get (d + 1) (T := T) (σ := σ83) (a := rx1) (k := i2) (c := 0) h_rx1 (by omega) (by decide) w87 (by omega)) (fun r89 T91 σ90 gt92 hp => ?_)
        obtain ⟨v94, rfl, rfl, rfl, f93⟩ := hp
        clear gt92
        show Tn _ _ 83 T σ83 [(3, .int (iI v8)), (0, .ref a), (1, .ref rx1), (2, .int (iI i2))] [.int (iI v94)] _
        refine tn_bipush dX8_renumber_83 (by decide) ?_
        refine tn_icmp_ne (tgt := 118) dX8_renumber_85 (by decide) ⟨by omega, by omega⟩ ⟨by decide, by decide⟩ (fun h95 => ?_) (fun h95 => ?_)
        · refine tn_iconst dX8_renumber_118 ?_
          refine tn_istore (L' := [(4, .int (iI 3)), (3, .int (iI v8)), (0, .ref a), (1, .ref rx1), (2, .int (iI i2))]) dX8_renumber_119 (by decide) rfl ?_
          refine tn_sub [2, 3, 4, 0] rfl (l_X8_renumber_121 (d) (T := T) (σ0 := σ83) (a := a) (rx1 := rx1) (c2 := i2) h_a h_rx1 t_rx1 (by omega) w87 (fun i496 σ97 w100 F101 r102 => ?_) _ (3) σ83 w87 FrC.rfl (by omega) rfl)
          show Tn _ _ 170 T σ97 [(0, .ref a), (1, .ref rx1), (2, .int (iI i2)), (4, .int (iI i496))] [] _
          refine tn_iinc (q0 := 2) (L' := [(2, .int (iI (i2 + 1))), (0, .ref a), (1, .ref rx1), (4, .int (iI i496))]) dX8_renumber_170 rfl (by decide) rfl ?_
          refine tn_goto (tgt := 44) dX8_renumber_173 (by decide) ?_
          exact tn_sub [1, 2, 0] rfl (ih _ (by omega) (i2 + 1) σ97 w100 (((FrC.rfl.trans (FrC.sub hF (by decide))).trans (FrC.sub F88 (by decide))).trans (FrC.sub F101 (by decide))) (by omega) rfl)
        · refine tn_aload_n dX8_renumber_88 rfl 2 rfl ?_
          refine tn_iload_n dX8_renumber_89 rfl 3 rfl ?_
          refine tn_bipush dX8_renumber_90 (by decide) ?_
          refine tn_callV (M := m_X8_renumber) (pc := 92) (ix := 166) (ci := 1) (M' := m_X1_get) (As := [.int (iI i2), .int (iI 11)]) (rest := []) dX8_renumber_92 ok_X1_get im_X1_get se_X1_get ml8_166 np_X1_get rfl rfl h_rx1 rfl (Nat.le_of_ble_eq_true rfl) (Nat.le_of_ble_eq_true rfl) rfl (k_X1_get (d + 1) (T := T) (σ := σ83) (a := rx1) (k := i2) (c := 11) h_rx1 (by omega) (by decide) w87 (by omega)) (fun r103 T105 σ104 gt106 hp => ?_)
          obtain ⟨v108, rfl, rfl, rfl, f107⟩ := hp
          clear gt106
          show Tn _ _ 95 T σ83 [(3, .int (iI v8)), (0, .ref a), (1, .ref rx1), (2, .int (iI i2))] [.int (iI v108)] _
          refine tn_iconst dX8_renumber_95 ?_
          refine tn_icmp_ne (tgt := 118) dX8_renumber_96 (by decide) ⟨by omega, by omega⟩ ⟨by decide, by decide⟩ (fun h109 => ?_) (fun h109 => ?_)
          · refine tn_iconst dX8_renumber_118 ?_
            refine tn_istore (L' := [(4, .int (iI 3)), (3, .int (iI v8)), (0, .ref a), (1, .ref rx1), (2, .int (iI i2))]) dX8_renumber_119 (by decide) rfl ?_
            refine tn_sub [2, 3, 4, 0] rfl (l_X8_renumber_121 (d) (T := T) (σ0 := σ83) (a := a) (rx1 := rx1) (c2 := i2) h_a h_rx1 t_rx1 (by omega) w87 (fun i4110 σ111 w114 F115 r116 => ?_) _ (3) σ83 w87 FrC.rfl (by omega) rfl)
            show Tn _ _ 170 T σ111 [(0, .ref a), (1, .ref rx1), (2, .int (iI i2)), (4, .int (iI i4110))] [] _
            refine tn_iinc (q0 := 2) (L' := [(2, .int (iI (i2 + 1))), (0, .ref a), (1, .ref rx1), (4, .int (iI i4110))]) dX8_renumber_170 rfl (by decide) rfl ?_
            refine tn_goto (tgt := 44) dX8_renumber_173 (by decide) ?_
            exact tn_sub [1, 2, 0] rfl (ih _ (by omega) (i2 + 1) σ111 w114 (((FrC.rfl.trans (FrC.sub hF (by decide))).trans (FrC.sub F88 (by decide))).trans (FrC.sub F115 (by decide))) (by omega) rfl)
          · refine tn_aload_n dX8_renumber_99 rfl 2 rfl ?_
            refine tn_iload_n dX8_renumber_100 rfl 3 rfl ?_
            refine tn_iconst dX8_renumber_101 ?_
            refine tn_aload_n dX8_renumber_102 rfl 1 rfl ?_
            refine tn_getR (ci := 8) (i := 3) (n := 75) (x := x70) dX8_renumber_103 rfl lay_8 (by decide) fl8_18 h_a rfl rfl (rc_F F88 (Or.inl (by decide)) (by decide) (rc_F hF (Or.inl (by decide)) (by decide) (hx71))) ?_
            refine tn_aload_n dX8_renumber_106 rfl 2 rfl ?_
            refine tn_iload_n dX8_renumber_107 rfl 3 rfl ?_
            refine tn_iconst dX8_renumber_108 ?_
            refine tn_callV (M := m_X8_renumber) (pc := 109) (ix := 166) (ci := 1) (M' := m_X1_get) (As := [.int (iI i2), .int (iI 4)]) (rest := [.ref x70, .int (iI 4), .int (iI i2), .ref rx1]) dX8_renumber_109 ok_X1_get im_X1_get se_X1_get ml8_166 np_X1_get rfl rfl h_rx1 rfl (Nat.le_of_ble_eq_true rfl) (Nat.le_of_ble_eq_true rfl) rfl (k_X1_get (d + 1) (T := T) (σ := σ83) (a := rx1) (k := i2) (c := 4) h_rx1 (by omega) (by decide) w87 (by omega)) (fun r117 T119 σ118 gt120 hp => ?_)
            obtain ⟨v122, rfl, rfl, rfl, f121⟩ := hp
            clear gt120
            show Tn _ _ 112 T σ83 [(3, .int (iI v8)), (0, .ref a), (1, .ref rx1), (2, .int (iI i2))] [.int (iI v122), .ref x70, .int (iI 4), .int (iI i2), .ref rx1] _
            refine tn_callSN (M := m_X8_renumber) (pc := 112) (ix := 74) (M' := m_X11_at) (As := [.ref x70, .int (iI v122)]) (rest := [.int (iI 4), .int (iI i2), .ref rx1]) dX8_renumber_112 ok_X11_at stt_X11_at nl8_74 np_X11_at rfl (Nat.le_of_ble_eq_true rfl) (Nat.le_of_ble_eq_true rfl) rfl (k_X11_at (d + 1) (T := T) (σ := σ83) (x := x70) (i := v122) hk72i (by omega) (by omega) w87 ) (fun r123 T125 σ124 gt126 hp => ?_)
            obtain ⟨v130, rfl, rfl, rfl, f127, f128, f129⟩ := hp
            clear gt126
            clear f128 f129
            show Tn _ _ 115 T σ83 [(3, .int (iI v8)), (0, .ref a), (1, .ref rx1), (2, .int (iI i2))] [.int (iI v130), .int (iI 4), .int (iI i2), .ref rx1] _
            refine tn_callV (M := m_X8_renumber) (pc := 115) (ix := 178) (ci := 1) (M' := m_X1_set) (As := [.int (iI i2), .int (iI 4), .int (iI v130)]) (rest := []) dX8_renumber_115 ok_X1_set im_X1_set se_X1_set ml8_178 np_X1_set rfl rfl h_rx1 rfl (Nat.le_of_ble_eq_true rfl) (Nat.le_of_ble_eq_true rfl) rfl (k_X1_set (d + 1) (T := T) (σ := σ83) (a := rx1) (k := i2) (c := 4) (y := v130) h_rx1 (by omega) (by decide) (by omega) w87 (by omega) (by omega)) (fun r131 T133 σ132 gt134 hp => ?_)
            obtain ⟨rfl, rfl, w136, F137⟩ := hp
            clear gt134
            show Tn _ _ 118 T σ132 [(3, .int (iI v8)), (0, .ref a), (1, .ref rx1), (2, .int (iI i2))] [] _
            refine tn_iconst dX8_renumber_118 ?_
            refine tn_istore (L' := [(4, .int (iI 3)), (3, .int (iI v8)), (0, .ref a), (1, .ref rx1), (2, .int (iI i2))]) dX8_renumber_119 (by decide) rfl ?_
            refine tn_sub [2, 3, 4, 0] rfl (l_X8_renumber_121 (d) (T := T) (σ0 := σ132) (a := a) (rx1 := rx1) (c2 := i2) h_a h_rx1 t_rx1 (by omega) w136 (fun i4138 σ139 w142 F143 r144 => ?_) _ (3) σ132 w136 FrC.rfl (by omega) rfl)
            show Tn _ _ 170 T σ139 [(0, .ref a), (1, .ref rx1), (2, .int (iI i2)), (4, .int (iI i4138))] [] _
            refine tn_iinc (q0 := 2) (L' := [(2, .int (iI (i2 + 1))), (0, .ref a), (1, .ref rx1), (4, .int (iI i4138))]) dX8_renumber_170 rfl (by decide) rfl ?_
            refine tn_goto (tgt := 44) dX8_renumber_173 (by decide) ?_
            exact tn_sub [1, 2, 0] rfl (ih _ (by omega) (i2 + 1) σ139 w142 ((((FrC.rfl.trans (FrC.sub hF (by decide))).trans (FrC.sub F88 (by decide))).trans (FrC.sub F137 (by decide))).trans (FrC.sub F143 (by decide))) (by omega) rfl)
theorem dX8_renumber_176 : decode cX8_renumber 176 = .ok (.return_, 1) := by decide +kernel
set_option maxRecDepth 20000 in
theorem k_X8_renumber (d : Nat) {T : CT} {σ : MS} {a : Nat} {p1 : Nat} (ha : OB T a 8) (h_p1 : OB T p1 1) (t_p1 : (T p1).1 = 50) (hw : WT T σ) : Tn (d + 3) m_X8_renumber 0 T σ [(0, .ref a), (1, .ref p1)] [] (fun ro T2 σ2 => ro = none ∧ T = T2 ∧ WT T2 σ2 ∧ FrC T [] σ σ2) := by
  refine tn_iconst dX8_renumber_0 ?_
  refine tn_istore_n (L' := [(2, .int (iI 0)), (0, .ref a), (1, .ref p1)]) dX8_renumber_1 rfl (by decide) rfl ?_
  refine tn_sub [1, 2, 0] rfl (l_X8_renumber_2 (d) (T := T) (σ0 := σ) (a := a) (rx1 := p1) ha h_p1 t_p1 hw (fun i21 σ2 w5 F6 r7 => ?_) _ (0) σ hw FrC.rfl (by omega) rfl)
  show Tn _ _ 42 T σ2 [(0, .ref a), (1, .ref p1), (2, .int (iI i21))] [] _
  refine tn_iconst dX8_renumber_42 ?_
  refine tn_istore_n (L' := [(2, .int (iI 0)), (0, .ref a), (1, .ref p1)]) dX8_renumber_43 rfl (by decide) rfl ?_
  refine tn_sub [1, 2, 0] rfl (l_X8_renumber_44 (d) (T := T) (σ0 := σ2) (a := a) (rx1 := p1) ha h_p1 t_p1 w5 (fun i28 σ9 w12 F13 r14 => ?_) _ (0) σ2 w5 FrC.rfl (by omega) rfl)
  show Tn _ _ 176 T σ9 [(0, .ref a), (1, .ref p1), (2, .int (iI i28))] [] _
  exact tn_vret rfl dX8_renumber_176 ⟨rfl, rfl, w12, ((FrC.rfl.trans (FrC.sub F6 (by decide))).trans (FrC.sub F13 (by decide)))⟩
end
section
theorem cd_X8_share : Cond.code yX8_share cX8_share 4 (some .int) ∈ pWW := pw5 (List.mem_of_getElem? (i := 202) rfl) rfl
abbrev m_X8_share : MT := (yX8_share, cX8_share, 4, (some .int))
theorem ok_X8_share : pOk m_X8_share := ⟨⟨cd_X8_share, ini_8⟩, by decide +kernel, ⟨by decide +kernel, by decide +kernel⟩, Nat.le_of_ble_eq_true rfl⟩
theorem np_X8_share : (parseMethodDescriptor yX8_share.desc).map (fun d => d.parameters.length) = some 1 := by decide +kernel
theorem im_X8_share : Cond.instanceMethod yX8_share ∈ pWW := pw5 (List.mem_of_getElem? (i := 200) rfl) rfl
theorem se_X8_share : Cond.selects RX8 yX8_share yX8_share ∈ pWW := pw5 (List.mem_of_getElem? (i := 201) rfl) rfl
theorem ml8_38 : Cond.methodLink RX8 38 yX3_findLiving ∈ pWW := pw5 (List.mem_of_getElem? (i := 203) rfl) rfl
theorem ml8_44 : Cond.methodLink RX8 44 yX1_registers ∈ pWW := pw5 (List.mem_of_getElem? (i := 204) rfl) rfl
theorem mlm8_50 : Cond.methodLink RX8 50 Lib.Math.min.name ∈ pWW := pw5 (List.mem_of_getElem? (i := 205) rfl) rfl
theorem ml8_56 : Cond.methodLink RX8 56 yX8_findFirst ∈ pWW := pw5 (List.mem_of_getElem? (i := 206) rfl) rfl
theorem ml8_59 : Cond.methodLink RX8 59 yX8_findOdds ∈ pWW := pw5 (List.mem_of_getElem? (i := 213) rfl) rfl
theorem ml8_63 : Cond.methodLink RX8 63 yX8_numberAnew ∈ pWW := pw5 (List.mem_of_getElem? (i := 224) rfl) rfl
theorem ml8_67 : Cond.methodLink RX8 67 yX8_findLatest ∈ pWW := pw5 (List.mem_of_getElem? (i := 234) rfl) rfl
theorem ml8_78 : Cond.methodLink RX8 78 yX8_leansOnLost ∈ pWW := pw6 (List.mem_of_getElem? (i := 13) rfl) rfl
theorem ml8_82 : Cond.methodLink RX8 82 yX1_setWhere ∈ pWW := pw6 (List.mem_of_getElem? (i := 19) rfl) rfl
theorem dX8_share_0 : decode cX8_share 0 = .ok (.aload_n 0, 1) := by decide +kernel
theorem dX8_share_1 : decode cX8_share 1 = .ok (.getfield 34, 3) := by decide +kernel
theorem dX8_share_4 : decode cX8_share 4 = .ok (.aload_n 1, 1) := by decide +kernel
theorem dX8_share_5 : decode cX8_share 5 = .ok (.invokevirtual 38, 3) := by decide +kernel
theorem dX8_share_8 : decode cX8_share 8 = .ok (.aload_n 1, 1) := by decide +kernel
theorem dX8_share_9 : decode cX8_share 9 = .ok (.invokevirtual 44, 3) := by decide +kernel
theorem dX8_share_12 : decode cX8_share 12 = .ok (.sipush 192, 3) := by decide +kernel
theorem dX8_share_15 : decode cX8_share 15 = .ok (.invokestatic 50, 3) := by decide +kernel
theorem dX8_share_18 : decode cX8_share 18 = .ok (.istore_n 2, 1) := by decide +kernel
theorem dX8_share_19 : decode cX8_share 19 = .ok (.aload_n 0, 1) := by decide +kernel
theorem dX8_share_20 : decode cX8_share 20 = .ok (.aload_n 1, 1) := by decide +kernel
theorem dX8_share_21 : decode cX8_share 21 = .ok (.invokevirtual 56, 3) := by decide +kernel
theorem dX8_share_24 : decode cX8_share 24 = .ok (.aload_n 0, 1) := by decide +kernel
theorem dX8_share_25 : decode cX8_share 25 = .ok (.aload_n 1, 1) := by decide +kernel
theorem dX8_share_26 : decode cX8_share 26 = .ok (.iload_n 2, 1) := by decide +kernel
theorem dX8_share_27 : decode cX8_share 27 = .ok (.invokevirtual 59, 3) := by decide +kernel
theorem dX8_share_30 : decode cX8_share 30 = .ok (.aload_n 0, 1) := by decide +kernel
theorem dX8_share_31 : decode cX8_share 31 = .ok (.iload_n 2, 1) := by decide +kernel
theorem dX8_share_32 : decode cX8_share 32 = .ok (.invokevirtual 63, 3) := by decide +kernel
theorem dX8_share_35 : decode cX8_share 35 = .ok (.aload_n 0, 1) := by decide +kernel
theorem dX8_share_36 : decode cX8_share 36 = .ok (.aload_n 1, 1) := by decide +kernel
theorem dX8_share_37 : decode cX8_share 37 = .ok (.invokevirtual 67, 3) := by decide +kernel
theorem dX8_share_40 : decode cX8_share 40 = .ok (.iconst 0, 1) := by decide +kernel
theorem dX8_share_41 : decode cX8_share 41 = .ok (.istore_n 3, 1) := by decide +kernel
theorem dX8_share_42 : decode cX8_share 42 = .ok (.iload_n 3, 1) := by decide +kernel
theorem dX8_share_43 : decode cX8_share 43 = .ok (.aload_n 1, 1) := by decide +kernel
theorem dX8_share_44 : decode cX8_share 44 = .ok (.getfield 70, 3) := by decide +kernel
theorem dX8_share_47 : decode cX8_share 47 = .ok (.if_icmp .ge 38, 3) := by decide +kernel
theorem dX8_share_50 : decode cX8_share 50 = .ok (.aload_n 0, 1) := by decide +kernel
theorem dX8_share_51 : decode cX8_share 51 = .ok (.getfield 28, 3) := by decide +kernel
theorem dX8_share_54 : decode cX8_share 54 = .ok (.iload_n 3, 1) := by decide +kernel
theorem dX8_share_55 : decode cX8_share 55 = .ok (.invokestatic 74, 3) := by decide +kernel
theorem dX8_share_58 : decode cX8_share 58 = .ok (.ifCond .eq 21, 3) := by decide +kernel
theorem dX8_share_79 : decode cX8_share 79 = .ok (.iinc 3 1, 3) := by decide +kernel
theorem dX8_share_82 : decode cX8_share 82 = .ok (.goto (-40), 3) := by decide +kernel
theorem dX8_share_61 : decode cX8_share 61 = .ok (.aload_n 0, 1) := by decide +kernel
theorem dX8_share_62 : decode cX8_share 62 = .ok (.aload_n 1, 1) := by decide +kernel
theorem dX8_share_63 : decode cX8_share 63 = .ok (.iload_n 3, 1) := by decide +kernel
theorem dX8_share_64 : decode cX8_share 64 = .ok (.iload_n 2, 1) := by decide +kernel
theorem dX8_share_65 : decode cX8_share 65 = .ok (.invokevirtual 78, 3) := by decide +kernel
theorem dX8_share_68 : decode cX8_share 68 = .ok (.ifCond .eq 11, 3) := by decide +kernel
theorem dX8_share_71 : decode cX8_share 71 = .ok (.aload_n 1, 1) := by decide +kernel
theorem dX8_share_72 : decode cX8_share 72 = .ok (.iload_n 3, 1) := by decide +kernel
theorem dX8_share_73 : decode cX8_share 73 = .ok (.bipush 13, 2) := by decide +kernel
theorem dX8_share_75 : decode cX8_share 75 = .ok (.iconst 0, 1) := by decide +kernel
theorem dX8_share_76 : decode cX8_share 76 = .ok (.invokevirtual 82, 3) := by decide +kernel
set_option maxRecDepth 20000 in
theorem l_X8_share_42 (d : Nat) {T : CT} {σ0 : MS} {a : Nat} {rx1 : Nat} {c2 : Int} {post : Option Value → CT → MS → Prop} (h_a : OB T a 8) (h_rx1 : OB T rx1 1) (t_rx1 : (T rx1).1 = 50) (r_c2 : -2147483648 ≤ c2 ∧ c2 ≤ 192) (hw0 : WT T σ0) (hx_85 : ∀ (i3 : Int) (σ : MS) , (WT T σ) → (FrC T [] σ0 σ) → (0 ≤ i3 ∧ i3 ≤ 2147483647) → Tn (d + 5) m_X8_share 85 T σ [(0, .ref a), (1, .ref rx1), (2, .int (iI c2)), (3, .int (iI i3))] [] post) : ∀ (n : Nat) (i3 : Int) (σ : MS) , (WT T σ) → (FrC T [] σ0 σ) → (0 ≤ i3 ∧ i3 ≤ 2147483647) → (2147483700 - i3).toNat = n → Tn (d + 5) m_X8_share 42 T σ [(0, .ref a), (1, .ref rx1), (2, .int (iI c2)), (3, .int (iI i3))] [] post := by
  intro n
  induction n using Nat.strongRecOn with
  | _ n ih =>
    intro i3 σ hw hF r_i3 hm
    refine tn_iload_n dX8_share_42 rfl 3 rfl ?_
    refine tn_aload_n dX8_share_43 rfl 1 rfl ?_
    refine tn_getI (ci := 1) (i := 1) (n := 6) (t := σ0.2.1 6 rx1) dX8_share_44 rfl lay_1 (by decide) fl8_70 h_rx1 rfl rfl (rc_F hF (Or.inl (by decide)) (by decide) (rfl)) ?_
    have g1 : ((0 : Int) ≤ σ0.2.1 6 rx1 ∧ σ0.2.1 6 rx1 ≤ 5000) ∧ ((T rx1).1 = 50 → σ0.2.1 6 rx1 ≤ 200) := wf_6 hw0 h_rx1
    have g1x := g1.2
    replace g1 := g1.1
    have g1x := g1x t_rx1
    refine tn_icmp_ge (tgt := 85) dX8_share_47 (by decide) ⟨by omega, by omega⟩ ⟨by omega, by omega⟩ (fun h2 => ?_) (fun h2 => ?_)
    · exact tn_sub [0, 1, 2, 3] rfl (hx_85 (i3) σ hw (FrC.rfl.trans (FrC.sub hF (by decide))) (by omega))
    · refine tn_aload_n dX8_share_50 rfl 0 rfl ?_
      obtain ⟨x3, hx4, hk5, hl6⟩ : ∃ x : Nat, σ0.2.1 78 a = (x : Int) ∧ AR T x 1 201 201 := wf_78 hw0 h_a
      have hk5i : IA T x3 := by unfold IA; omega
      refine tn_getR (ci := 8) (i := 6) (n := 78) (x := x3) dX8_share_51 rfl lay_8 (by decide) fl8_28 h_a rfl rfl (rc_F hF (Or.inl (by decide)) (by decide) (hx4)) ?_
      refine tn_iload_n dX8_share_54 rfl 3 rfl ?_
      refine tn_callSN (M := m_X8_share) (pc := 55) (ix := 74) (M' := m_X11_at) (As := [.ref x3, .int (iI i3)]) (rest := []) dX8_share_55 ok_X11_at stt_X11_at nl8_74 np_X11_at rfl (Nat.le_of_ble_eq_true rfl) (Nat.le_of_ble_eq_true rfl) rfl (k_X11_at (d + 3) (T := T) (σ := σ) (x := x3) (i := i3) hk5i (by omega) (by omega) hw ) (fun r7 T9 σ8 gt10 hp => ?_)
      obtain ⟨v14, rfl, rfl, rfl, f11, f12, f13⟩ := hp
      clear gt10
      clear f12 f13
      show Tn _ _ 58 T σ [(0, .ref a), (1, .ref rx1), (2, .int (iI c2)), (3, .int (iI i3))] [.int (iI v14)] _
      refine tn_if_eq (tgt := 79) dX8_share_58 (by decide) ⟨by omega, by omega⟩ (fun h15 => ?_) (fun h15 => ?_)
      · refine tn_iinc (q0 := 3) (L' := [(3, .int (iI (i3 + 1))), (0, .ref a), (1, .ref rx1), (2, .int (iI c2))]) dX8_share_79 rfl (by decide) rfl ?_
        refine tn_goto (tgt := 42) dX8_share_82 (by decide) ?_
        exact tn_sub [1, 2, 3, 0] rfl (ih _ (by omega) (i3 + 1) σ hw (FrC.rfl.trans (FrC.sub hF (by decide))) (by omega) rfl)
      · refine tn_aload_n dX8_share_61 rfl 0 rfl ?_
        refine tn_aload_n dX8_share_62 rfl 1 rfl ?_
        refine tn_iload_n dX8_share_63 rfl 3 rfl ?_
        refine tn_iload_n dX8_share_64 rfl 2 rfl ?_
        refine tn_callV (M := m_X8_share) (pc := 65) (ix := 78) (ci := 8) (M' := m_X8_leansOnLost) (As := [.ref rx1, .int (iI i3), .int (iI c2)]) (rest := []) dX8_share_65 ok_X8_leansOnLost im_X8_leansOnLost se_X8_leansOnLost ml8_78 np_X8_leansOnLost rfl rfl h_a rfl (Nat.le_of_ble_eq_true rfl) (Nat.le_of_ble_eq_true rfl) rfl (k_X8_leansOnLost (d + 1) (T := T) (σ := σ) (a := a) (p1 := rx1) (p2 := i3) (p3 := c2) h_a h_rx1 t_rx1 (by omega) (by omega) hw ) (fun r16 T18 σ17 gt19 hp => ?_)
        obtain ⟨v21, rfl, rfl, rfl, f20⟩ := hp
        clear gt19
        show Tn _ _ 68 T σ [(0, .ref a), (1, .ref rx1), (2, .int (iI c2)), (3, .int (iI i3))] [.int (iI v21)] _
        refine tn_if_eq (tgt := 79) dX8_share_68 (by decide) ⟨by omega, by omega⟩ (fun h22 => ?_) (fun h22 => ?_)
        · refine tn_iinc (q0 := 3) (L' := [(3, .int (iI (i3 + 1))), (0, .ref a), (1, .ref rx1), (2, .int (iI c2))]) dX8_share_79 rfl (by decide) rfl ?_
          refine tn_goto (tgt := 42) dX8_share_82 (by decide) ?_
          exact tn_sub [1, 2, 3, 0] rfl (ih _ (by omega) (i3 + 1) σ hw (FrC.rfl.trans (FrC.sub hF (by decide))) (by omega) rfl)
        · refine tn_aload_n dX8_share_71 rfl 1 rfl ?_
          refine tn_iload_n dX8_share_72 rfl 3 rfl ?_
          refine tn_bipush dX8_share_73 (by decide) ?_
          refine tn_iconst dX8_share_75 ?_
          refine tn_callV (M := m_X8_share) (pc := 76) (ix := 82) (ci := 1) (M' := m_X1_setWhere) (As := [.int (iI i3), .int (iI 13), .int (iI 0)]) (rest := []) dX8_share_76 ok_X1_setWhere im_X1_setWhere se_X1_setWhere ml8_82 np_X1_setWhere rfl rfl h_rx1 rfl (Nat.le_of_ble_eq_true rfl) (Nat.le_of_ble_eq_true rfl) rfl (k_X1_setWhere (d + 2) (T := T) (σ := σ) (a := rx1) (k := i3) (y := 13) (z := 0) h_rx1 (by omega) (by decide) (by decide) hw ) (fun r23 T25 σ24 gt26 hp => ?_)
          obtain ⟨rfl, rfl, w28, F29⟩ := hp
          clear gt26
          show Tn _ _ 79 T σ24 [(0, .ref a), (1, .ref rx1), (2, .int (iI c2)), (3, .int (iI i3))] [] _
          refine tn_iinc (q0 := 3) (L' := [(3, .int (iI (i3 + 1))), (0, .ref a), (1, .ref rx1), (2, .int (iI c2))]) dX8_share_79 rfl (by decide) rfl ?_
          refine tn_goto (tgt := 42) dX8_share_82 (by decide) ?_
          exact tn_sub [1, 2, 3, 0] rfl (ih _ (by omega) (i3 + 1) σ24 w28 ((FrC.rfl.trans (FrC.sub hF (by decide))).trans (FrC.sub F29 (by decide))) (by omega) rfl)
theorem ml8_86 : Cond.methodLink RX8 86 yX8_renumber ∈ pWW := pw6 (List.mem_of_getElem? (i := 20) rfl) rfl
theorem dX8_share_85 : decode cX8_share 85 = .ok (.aload_n 0, 1) := by decide +kernel
theorem dX8_share_86 : decode cX8_share 86 = .ok (.aload_n 1, 1) := by decide +kernel
theorem dX8_share_87 : decode cX8_share 87 = .ok (.invokevirtual 86, 3) := by decide +kernel
theorem dX8_share_90 : decode cX8_share 90 = .ok (.aload_n 1, 1) := by decide +kernel
theorem dX8_share_91 : decode cX8_share 91 = .ok (.invokevirtual 44, 3) := by decide +kernel
theorem dX8_share_94 : decode cX8_share 94 = .ok (.ireturn, 1) := by decide +kernel
set_option maxRecDepth 20000 in
theorem k_X8_share (d : Nat) {T : CT} {σ : MS} {a : Nat} {p1 : Nat} (ha : OB T a 8) (h_p1 : OB T p1 1) (t_p1 : (T p1).1 = 50) (hw : WT T σ) : Tn (d + 5) m_X8_share 0 T σ [(0, .ref a), (1, .ref p1)] [] (fun ro T2 σ2 => ∃ v : Int, ro = some (.int (iI v)) ∧ T = T2 ∧ WT T2 σ2 ∧ FrC T [80] σ σ2 ∧ (-2147483648 ≤ v ∧ v ≤ 2147483647)) := by
  refine tn_aload_n dX8_share_0 rfl 0 rfl ?_
  obtain ⟨x1, hx2, hk3⟩ : ∃ x : Nat, σ.2.1 72 a = (x : Int) ∧ (T x).1 = 33 := wf_72 hw ha
  have hk3o : OB T x1 3 := ⟨by omega, by rw [hk3]; rfl, by omega⟩
  refine tn_getR (ci := 8) (i := 0) (n := 72) (x := x1) dX8_share_1 rfl lay_8 (by decide) fl8_34 ha rfl rfl (hx2) ?_
  refine tn_aload_n dX8_share_4 rfl 1 rfl ?_
  refine tn_callV (M := m_X8_share) (pc := 5) (ix := 38) (ci := 3) (M' := m_X3_findLiving) (As := [.ref p1]) (rest := []) dX8_share_5 ok_X3_findLiving im_X3_findLiving se_X3_findLiving ml8_38 np_X3_findLiving rfl rfl hk3o rfl (Nat.le_of_ble_eq_true rfl) (Nat.le_of_ble_eq_true rfl) rfl (k_X3_findLiving (d) (T := T) (σ := σ) (a := x1) (p1 := p1) hk3o h_p1 hw ) (fun r5 T7 σ6 gt8 hp => ?_)
  obtain ⟨rfl, rfl, w10, F11⟩ := hp
  clear gt8
  show Tn _ _ 8 T σ6 [(0, .ref a), (1, .ref p1)] [] _
  refine tn_aload_n dX8_share_8 rfl 1 rfl ?_
  refine tn_callV (M := m_X8_share) (pc := 9) (ix := 44) (ci := 1) (M' := m_X1_registers) (As := []) (rest := []) dX8_share_9 ok_X1_registers im_X1_registers se_X1_registers ml8_44 np_X1_registers rfl rfl h_p1 rfl (Nat.le_of_ble_eq_true rfl) (Nat.le_of_ble_eq_true rfl) rfl (k_X1_registers (d) (T := T) (σ := σ6) (a := p1) h_p1 w10 ) (fun r12 T14 σ13 gt15 hp => ?_)
  obtain ⟨v17, rfl, rfl, rfl, f16⟩ := hp
  clear gt15
  show Tn _ _ 12 T σ6 [(0, .ref a), (1, .ref p1)] [.int (iI v17)] _
  refine tn_sipush dX8_share_12 (by decide) ?_
  refine tn_mmin (x := v17) (y := 192) dX8_share_15 mlm8_50 stM_min iniM cdM_min (by omega) (Nat.le_of_ble_eq_true rfl) ⟨by omega, by omega⟩ ⟨by omega, by omega⟩ (fun z18 g19 => ?_)
  refine tn_istore_n (L' := [(2, .int (iI z18)), (0, .ref a), (1, .ref p1)]) dX8_share_18 rfl (by decide) rfl ?_
  refine tn_aload_n dX8_share_19 rfl 1 rfl ?_
  refine tn_aload_n dX8_share_20 rfl 2 rfl ?_
  refine tn_callV (M := m_X8_share) (pc := 21) (ix := 56) (ci := 8) (M' := m_X8_findFirst) (As := [.ref p1]) (rest := []) dX8_share_21 ok_X8_findFirst im_X8_findFirst se_X8_findFirst ml8_56 np_X8_findFirst rfl rfl ha rfl (Nat.le_of_ble_eq_true rfl) (Nat.le_of_ble_eq_true rfl) rfl (k_X8_findFirst (d + 1) (T := T) (σ := σ6) (a := a) (p1 := p1) ha h_p1 t_p1 w10 ) (fun r20 T22 σ21 gt23 hp => ?_)
  obtain ⟨rfl, rfl, w25, F26⟩ := hp
  clear gt23
  show Tn _ _ 24 T σ21 [(2, .int (iI z18)), (0, .ref a), (1, .ref p1)] [] _
  refine tn_aload_n dX8_share_24 rfl 1 rfl ?_
  refine tn_aload_n dX8_share_25 rfl 2 rfl ?_
  refine tn_iload_n dX8_share_26 rfl 0 rfl ?_
  refine tn_callV (M := m_X8_share) (pc := 27) (ix := 59) (ci := 8) (M' := m_X8_findOdds) (As := [.ref p1, .int (iI z18)]) (rest := []) dX8_share_27 ok_X8_findOdds im_X8_findOdds se_X8_findOdds ml8_59 np_X8_findOdds rfl rfl ha rfl (Nat.le_of_ble_eq_true rfl) (Nat.le_of_ble_eq_true rfl) rfl (k_X8_findOdds (d) (T := T) (σ := σ21) (a := a) (p1 := p1) (p2 := z18) ha h_p1 t_p1 (by omega) w25 ) (fun r27 T29 σ28 gt30 hp => ?_)
  obtain ⟨rfl, rfl, w32, F33⟩ := hp
  clear gt30
  show Tn _ _ 30 T σ28 [(2, .int (iI z18)), (0, .ref a), (1, .ref p1)] [] _
  refine tn_aload_n dX8_share_30 rfl 1 rfl ?_
  refine tn_iload_n dX8_share_31 rfl 0 rfl ?_
  refine tn_callV (M := m_X8_share) (pc := 32) (ix := 63) (ci := 8) (M' := m_X8_numberAnew) (As := [.int (iI z18)]) (rest := []) dX8_share_32 ok_X8_numberAnew im_X8_numberAnew se_X8_numberAnew ml8_63 np_X8_numberAnew rfl rfl ha rfl (Nat.le_of_ble_eq_true rfl) (Nat.le_of_ble_eq_true rfl) rfl (k_X8_numberAnew (d) (T := T) (σ := σ28) (a := a) (p1 := z18) ha (by omega) w32 ) (fun r34 T36 σ35 gt37 hp => ?_)
  obtain ⟨rfl, rfl, w39, F40⟩ := hp
  clear gt37
  show Tn _ _ 35 T σ35 [(2, .int (iI z18)), (0, .ref a), (1, .ref p1)] [] _
  refine tn_aload_n dX8_share_35 rfl 1 rfl ?_
  refine tn_aload_n dX8_share_36 rfl 2 rfl ?_
  refine tn_callV (M := m_X8_share) (pc := 37) (ix := 67) (ci := 8) (M' := m_X8_findLatest) (As := [.ref p1]) (rest := []) dX8_share_37 ok_X8_findLatest im_X8_findLatest se_X8_findLatest ml8_67 np_X8_findLatest rfl rfl ha rfl (Nat.le_of_ble_eq_true rfl) (Nat.le_of_ble_eq_true rfl) rfl (k_X8_findLatest (d) (T := T) (σ := σ35) (a := a) (p1 := p1) ha h_p1 t_p1 w39 ) (fun r41 T43 σ42 gt44 hp => ?_)
  obtain ⟨rfl, rfl, w46, F47⟩ := hp
  clear gt44
  show Tn _ _ 40 T σ42 [(2, .int (iI z18)), (0, .ref a), (1, .ref p1)] [] _
  refine tn_iconst dX8_share_40 ?_
  refine tn_istore_n (L' := [(3, .int (iI 0)), (2, .int (iI z18)), (0, .ref a), (1, .ref p1)]) dX8_share_41 rfl (by decide) rfl ?_
  refine tn_sub [2, 3, 1, 0] rfl (l_X8_share_42 (d) (T := T) (σ0 := σ42) (a := a) (rx1 := p1) (c2 := z18) ha h_p1 t_p1 (by omega) w46 (fun i348 σ49 w52 F53 r54 => ?_) _ (0) σ42 w46 FrC.rfl (by omega) rfl)
  show Tn _ _ 85 T σ49 [(0, .ref a), (1, .ref p1), (2, .int (iI z18)), (3, .int (iI i348))] [] _
  refine tn_aload_n dX8_share_85 rfl 0 rfl ?_
  refine tn_aload_n dX8_share_86 rfl 1 rfl ?_
  refine tn_callV (M := m_X8_share) (pc := 87) (ix := 86) (ci := 8) (M' := m_X8_renumber) (As := [.ref p1]) (rest := []) dX8_share_87 ok_X8_renumber im_X8_renumber se_X8_renumber ml8_86 np_X8_renumber rfl rfl ha rfl (Nat.le_of_ble_eq_true rfl) (Nat.le_of_ble_eq_true rfl) rfl (k_X8_renumber (d + 1) (T := T) (σ := σ49) (a := a) (p1 := p1) ha h_p1 t_p1 w52 ) (fun r55 T57 σ56 gt58 hp => ?_)
  obtain ⟨rfl, rfl, w60, F61⟩ := hp
  clear gt58
  show Tn _ _ 90 T σ56 [(0, .ref a), (1, .ref p1), (2, .int (iI z18)), (3, .int (iI i348))] [] _
  refine tn_aload_n dX8_share_90 rfl 1 rfl ?_
  refine tn_callV (M := m_X8_share) (pc := 91) (ix := 44) (ci := 1) (M' := m_X1_registers) (As := []) (rest := []) dX8_share_91 ok_X1_registers im_X1_registers se_X1_registers ml8_44 np_X1_registers rfl rfl h_p1 rfl (Nat.le_of_ble_eq_true rfl) (Nat.le_of_ble_eq_true rfl) rfl (k_X1_registers (d) (T := T) (σ := σ56) (a := p1) h_p1 w60 ) (fun r62 T64 σ63 gt65 hp => ?_)
  obtain ⟨v67, rfl, rfl, rfl, f66⟩ := hp
  clear gt65
  show Tn _ _ 94 T σ56 [(0, .ref a), (1, .ref p1), (2, .int (iI z18)), (3, .int (iI i348))] [.int (iI v67)] _
  exact tn_iret rfl dX8_share_94 ⟨_, rfl, rfl, w60, (((((((FrC.rfl.trans (FrC.sub F11 (by decide))).trans (FrC.sub F26 (by decide))).trans (FrC.sub F33 (by decide))).trans (FrC.sub F40 (by decide))).trans (FrC.sub F47 (by decide))).trans (FrC.sub F53 (by decide))).trans (FrC.sub F61 (by decide))), by omega⟩
end
section
theorem vok_12 {i v : Int} (hv : -2147483648 ≤ v ∧ v ≤ 2147483647) (h : i = 1200 → v = 0 ∨ v = 263 ∨ v = 264) : VOK 12 i v := ⟨hv, fun e => by omega, fun _ => h, fun e => by omega, fun e => by omega⟩
/-- at the last place there is no token -/
def TKI (σ : MS) (t : Nat) : Prop := σ.2.1 84 t = 1200 → σ.2.1 85 t = 0 ∨ σ.2.1 85 t = 263 ∨ σ.2.1 85 t = 264
/-- a token is taken -/
def ADV (σ τ : MS) (t : Nat) : Prop := σ.2.1 85 t ≠ 0 → σ.2.1 85 t ≠ 263 → σ.2.1 85 t ≠ 264 → τ.2.1 84 t = σ.2.1 84 t + 1
def CAT (r v : Int) : Prop := (0 ≤ v ∧ 0 ≤ r ∧ r ≤ 5) ∨ (v < 0 ∧ (r < 0 ∨ 5 < r))
/-- whose code the found frame goes by -/
def FRV (T : CT) (σ : MS) (a : Nat) : Int := ATV T σ (σ.2.1 59 a).toNat (σ.2.1 70 a)
theorem frv_of {T : CT} {σ : MS} {a x : Nat} {v i : Int} (hx : σ.2.1 59 a = (x : Int)) (hi : σ.2.1 70 a = i) (hv : v = ATV T σ x i) : v = FRV T σ a := by
  unfold FRV; rw [hx, hi]; exact hv
theorem FRV.keep {T T2 : CT} {σ τ : MS} {a : Nat} {ks : List Nat} (hw : WT T σ) (ha : OB T a 7) (g : GT T T2) (f : FrC T ks σ τ) (h1 : 59 ∉ ks) (h2 : 70 ∉ ks) (h3 : 515 ∉ ks) : FRV T2 τ a = FRV T σ a := by
  obtain ⟨x, hx, hk, -⟩ := wf_59 hw ha
  unfold FRV
  rw [f.1 59 (by omega) h1, f.1 70 (by omega) h2, hx]
  show ATV T2 τ x _ = ATV T σ x _
  unfold ATV
  rw [g x (by omega) (by omega), f.2 x (by rw [hk]; unfold HT; omega) (by rw [hk]; exact h3)]
theorem RC.ob {T : CT} {a x : Nat} (h : RC T a x) : OB T x 1 := by
  by_cases q : (T a).1 = 57
  · have w := h.1 q; exact ⟨by omega, by rw [w]; rfl, by omega⟩
  · have w := h.2 q; exact ⟨by omega, by rw [w]; rfl, by omega⟩
/-- the plain run's depth -/
def PIv (σ : MS) (a : Nat) : Prop := σ.2.1 56 a = 1 → σ.2.1 58 a = σ.2.1 57 a + 1
/-- of objects only a was written -/
def FA (a : Nat) (σ τ : MS) : Prop := ∀ (k b : Nat), k < 200 → b ≠ a → τ.2.1 k (b : Int) = σ.2.1 k b
section FAS
variable {a k x : Nat} {σ τ υ : MS} {z v : Int}
theorem FA.rfl : FA a σ σ := fun _ _ _ _ => Eq.refl _
theorem FA.trans (h : FA a σ τ) (g : FA a τ υ) : FA a σ υ := fun k b p q => (g k b p q).trans (h k b p q)
theorem FA.put (h : FA a σ τ) : FA a σ (sA k a v τ) := fun j b p q => by rw [sA_ne (by omega)]; exact h j b p q
theorem FA.arr (h : FA a σ τ) : FA a σ (sA (1000 + x) z v τ) := fun j b p q => by rw [sA_k (by omega)]; exact h j b p q
theorem FA.row {f : Int → Int} (h : FA a σ τ) : FA a σ (rowS (1000 + x) f τ) := fun j b p q => by rw [rowS_ne (by omega)]; exact h j b p q
theorem FA.of {T : CT} {ks : List Nat} (h : FrC T ks σ τ) (hk : ∀ k ∈ ks, 200 ≤ k) : FA a σ τ := fun j b p q => by rw [h.1 j (Or.inl p) (fun w => by have := hk j w; omega)]
end FAS
/-- of a pair: the plain run's depth -/
def PB (σ : MS) (a : Nat) : Prop := ∀ p : Nat, σ.2.1 1 a = (p : Int) → PIv σ p
theorem PB.of {σ : MS} {a x : Nat} (hx : σ.2.1 1 a = (x : Int)) (h : PIv σ x) : PB σ a := fun p q => by
  have e : p = x := by omega
  rw [e]; exact h
theorem PIv.keep {σ τ : MS} {p b : Nat} (h : PIv σ p) (f : FA b σ τ) (hb : p ≠ b) : PIv τ p := by
  unfold PIv; rw [f 56 p (by decide) hb, f 57 p (by decide) hb, f 58 p (by decide) hb]; exact h
theorem PIv.frc {T : CT} {ks : List Nat} {σ τ : MS} {p : Nat} (h : PIv σ p) (f : FrC T ks σ τ) (h1 : 56 ∉ ks) (h2 : 57 ∉ ks) (h3 : 58 ∉ ks) : PIv τ p := by
  unfold PIv; rw [f.1 56 (by omega) h1, f.1 57 (by omega) h2, f.1 58 (by omega) h3]; exact h
theorem PB.frc {T : CT} {ks : List Nat} {σ τ : MS} {a : Nat} (h : PB σ a) (f : FrC T ks σ τ) (h0 : 1 ∉ ks) (h1 : 56 ∉ ks) (h2 : 57 ∉ ks) (h3 : 58 ∉ ks) : PB τ a := fun p q => (h p (by rw [← f.1 1 (by omega) h0]; exact q)).frc f h1 h2 h3
end
section
set_option maxRecDepth 20000 in
theorem k_X11_put_0 (d : Nat) {T : CT} {σ : MS} {i : Int} {y : Int} (h_i : -2147483648 ≤ i ∧ i ≤ 2147483647) (h_y : -2147483648 ≤ y ∧ y ≤ 2147483647) (hw : WT T σ) : Tn (d + 1) m_X11_put 0 T σ [(0, .null), (1, .int (iI i)), (2, .int (iI y))] [] (fun ro T2 σ2 => ro = none ∧ T = T2 ∧ WT T2 σ2 ∧ FrC T [] σ σ2) := by
  refine tn_aload_nN dX11_put_0 rfl 0 rfl ?_
  refine tn_ifnullN (tgt := 18) dX11_put_1 (by decide) ?_
  exact tn_vret rfl dX11_put_18 ⟨rfl, rfl, hw, FrC.rfl⟩
end
section
theorem cd_X9_wordKind : Cond.code yX9_wordKind cX9_wordKind 2 (some .int) ∈ pWW := pw3 (List.mem_of_getElem? (i := 42) rfl) rfl
theorem ini_9 : Cond.initialized RX9 ∈ pWW := pw1 (List.mem_of_getElem? (i := 3) rfl) rfl
abbrev m_X9_wordKind : MT := (yX9_wordKind, cX9_wordKind, 2, (some .int))
theorem ok_X9_wordKind : pOk m_X9_wordKind := ⟨⟨cd_X9_wordKind, ini_9⟩, by decide +kernel, ⟨by decide +kernel, by decide +kernel⟩, Nat.le_of_ble_eq_true rfl⟩
theorem np_X9_wordKind : (parseMethodDescriptor yX9_wordKind.desc).map (fun d => d.parameters.length) = some 0 := by decide +kernel
theorem im_X9_wordKind : Cond.instanceMethod yX9_wordKind ∈ pWW := pw3 (List.mem_of_getElem? (i := 41) rfl) rfl
theorem se_X9_wordKind : Cond.selects RX9 yX9_wordKind yX9_wordKind ∈ pWW := pws (List.mem_map.mpr ⟨_, lw_pin 2 rfl, rfl⟩) rfl
theorem fl9_66 : Cond.fieldLink RX9 66 "LineKeeper$Tokens" "WORD_KEYS" "[I" ∈ pWW := pw3 (List.mem_of_getElem? (i := 43) rfl) rfl
theorem fl9_55 : Cond.fieldLink RX9 55 (TX9 5).1 (TX9 5).2.1 (TX9 5).2.2.1 ∈ pWW := pw1 (List.mem_of_getElem? (i := 50) rfl) rfl
theorem dX9_wordKind_0 : decode cX9_wordKind 0 = .ok (.iconst 0, 1) := by decide +kernel
theorem dX9_wordKind_1 : decode cX9_wordKind 1 = .ok (.istore_n 1, 1) := by decide +kernel
theorem dX9_wordKind_2 : decode cX9_wordKind 2 = .ok (.iload_n 1, 1) := by decide +kernel
theorem dX9_wordKind_3 : decode cX9_wordKind 3 = .ok (.getstatic 66, 3) := by decide +kernel
theorem dX9_wordKind_6 : decode cX9_wordKind 6 = .ok (.arraylength, 1) := by decide +kernel
theorem dX9_wordKind_7 : decode cX9_wordKind 7 = .ok (.if_icmp .ge 27, 3) := by decide +kernel
theorem dX9_wordKind_10 : decode cX9_wordKind 10 = .ok (.getstatic 66, 3) := by decide +kernel
theorem dX9_wordKind_13 : decode cX9_wordKind 13 = .ok (.iload_n 1, 1) := by decide +kernel
theorem dX9_wordKind_14 : decode cX9_wordKind 14 = .ok (.iaload, 1) := by decide +kernel
theorem dX9_wordKind_15 : decode cX9_wordKind 15 = .ok (.aload_n 0, 1) := by decide +kernel
theorem dX9_wordKind_16 : decode cX9_wordKind 16 = .ok (.getfield 55, 3) := by decide +kernel
theorem dX9_wordKind_19 : decode cX9_wordKind 19 = .ok (.if_icmp .ne 9, 3) := by decide +kernel
theorem dX9_wordKind_28 : decode cX9_wordKind 28 = .ok (.iinc 1 1, 3) := by decide +kernel
theorem dX9_wordKind_31 : decode cX9_wordKind 31 = .ok (.goto (-29), 3) := by decide +kernel
set_option maxRecDepth 20000 in
theorem l_X9_wordKind_2 (d : Nat) {T : CT} {σ : MS} {a : Nat} {post : Option Value → CT → MS → Prop} (h_a : OB T a 9) (hw : WT T σ) (hx_22 : ∀ (i1 : Int) , (0 ≤ i1 ∧ i1 ≤ 2147483647) → Tn (d + 1) m_X9_wordKind 22 T σ [(0, .ref a), (1, .int (iI i1))] [] post) (hx_34 : ∀ (i1 : Int) , (0 ≤ i1 ∧ i1 ≤ 2147483647) → Tn (d + 1) m_X9_wordKind 34 T σ [(0, .ref a), (1, .int (iI i1))] [] post) : ∀ (n : Nat) (i1 : Int) , (0 ≤ i1 ∧ i1 ≤ 2147483647) → (2147483700 - i1).toNat = n → Tn (d + 1) m_X9_wordKind 2 T σ [(0, .ref a), (1, .int (iI i1))] [] post := by
  intro n
  induction n using Nat.strongRecOn with
  | _ n ih =>
    intro i1 r_i1 hm
    refine tn_iload_n dX9_wordKind_2 rfl 1 rfl ?_
    refine tn_stLen st_wk dX9_wordKind_3 fl9_66 dX9_wordKind_6 ?_
    show Tn _ _ 7 T σ [(0, .ref a), (1, .int (iI i1))] (.int (iI 5) :: [.int (iI i1)]) _
    refine tn_icmp_ge (tgt := 34) dX9_wordKind_7 (by decide) ⟨by omega, by omega⟩ ⟨by decide, by decide⟩ (fun h1 => ?_) (fun h1 => ?_)
    · exact tn_sub [0, 1] rfl (hx_34 (i1) (by omega))
    · refine tn_stInt (z := i1) st_wk dX9_wordKind_10 fl9_66 (Or.inl ⟨_, rfl, rfl, dX9_wordKind_13⟩) (q := 1) rfl dX9_wordKind_14 (by omega) (by omega) (by decide) (fun v2 g3 => ?_)
      have g3r : -2147483648 ≤ v2 ∧ v2 ≤ 2147483647 := g3.1
      clear g3
      show Tn _ _ 15 T σ [(0, .ref a), (1, .int (iI i1))] [.int (iI v2)] _
      refine tn_aload_n dX9_wordKind_15 rfl 0 rfl ?_
      refine tn_getI (ci := 9) (i := 5) (n := 86) (t := σ.2.1 86 a) dX9_wordKind_16 rfl lay_9 (by decide) fl9_55 h_a rfl rfl (rfl) ?_
      have g4 : ((-2147483648 : Int) ≤ σ.2.1 86 a ∧ σ.2.1 86 a ≤ 2147483647) := wf_86 hw h_a
      refine tn_icmp_ne (tgt := 28) dX9_wordKind_19 (by decide) ⟨by omega, by omega⟩ ⟨by omega, by omega⟩ (fun h5 => ?_) (fun h5 => ?_)
      · refine tn_iinc (q0 := 1) (L' := [(1, .int (iI (i1 + 1))), (0, .ref a)]) dX9_wordKind_28 rfl (by decide) rfl ?_
        refine tn_goto (tgt := 2) dX9_wordKind_31 (by decide) ?_
        exact tn_sub [1, 0] rfl (ih _ (by omega) (i1 + 1) (by omega) rfl)
      · exact tn_sub [0, 1] rfl (hx_22 (i1) (by omega))
theorem dX9_wordKind_22 : decode cX9_wordKind 22 = .ok (.sipush 258, 3) := by decide +kernel
theorem dX9_wordKind_25 : decode cX9_wordKind 25 = .ok (.iload_n 1, 1) := by decide +kernel
theorem dX9_wordKind_26 : decode cX9_wordKind 26 = .ok (.iadd, 1) := by decide +kernel
theorem dX9_wordKind_27 : decode cX9_wordKind 27 = .ok (.ireturn, 1) := by decide +kernel
theorem dX9_wordKind_34 : decode cX9_wordKind 34 = .ok (.sipush 256, 3) := by decide +kernel
theorem dX9_wordKind_37 : decode cX9_wordKind 37 = .ok (.ireturn, 1) := by decide +kernel
set_option maxRecDepth 20000 in
theorem k_X9_wordKind (d : Nat) {T : CT} {σ : MS} {a : Nat} (ha : OB T a 9) (hw : WT T σ) : Tn (d + 1) m_X9_wordKind 0 T σ [(0, .ref a)] [] (fun ro T2 σ2 => ∃ v : Int, ro = some (.int (iI v)) ∧ T = T2 ∧ σ = σ2 ∧ (-2147483648 ≤ v ∧ v ≤ 2147483647)) := by
  refine tn_iconst dX9_wordKind_0 ?_
  refine tn_istore_n (L' := [(1, .int (iI 0)), (0, .ref a)]) dX9_wordKind_1 rfl (by decide) rfl ?_
  refine tn_sub [1, 0] rfl (l_X9_wordKind_2 (d) (T := T) (σ := σ) (a := a) ha hw (fun i11 r7 => ?_) (fun i18 r14 => ?_) _ (0) (by omega) rfl)
  · show Tn _ _ 22 T σ [(0, .ref a), (1, .int (iI i11))] [] _
    refine tn_sipush dX9_wordKind_22 (by decide) ?_
    refine tn_iload_n dX9_wordKind_25 rfl 1 rfl ?_
    refine tn_iadd dX9_wordKind_26 ?_
    refine tn_any (fun z15 g16 => ?_)
    have g16r : -2147483648 ≤ z15 ∧ z15 ≤ 2147483647 := g16
    exact tn_iret rfl dX9_wordKind_27 ⟨_, rfl, rfl, rfl, by omega⟩
  · show Tn _ _ 34 T σ [(0, .ref a), (1, .int (iI i18))] [] _
    refine tn_sipush dX9_wordKind_34 (by decide) ?_
    exact tn_iret rfl dX9_wordKind_37 ⟨_, rfl, rfl, rfl, by omega⟩
end
section
theorem cd_X9_isSign : Cond.code yX9_isSign cX9_isSign 2 (some .boolean) ∈ pWW := pw3 (List.mem_of_getElem? (i := 47) rfl) rfl
abbrev m_X9_isSign : MT := (yX9_isSign, cX9_isSign, 2, (some .boolean))
theorem ok_X9_isSign : pOk m_X9_isSign := ⟨⟨cd_X9_isSign, ini_9⟩, by decide +kernel, ⟨by decide +kernel, by decide +kernel⟩, Nat.le_of_ble_eq_true rfl⟩
theorem np_X9_isSign : (parseMethodDescriptor yX9_isSign.desc).map (fun d => d.parameters.length) = some 1 := by decide +kernel
theorem stt_X9_isSign : Cond.static yX9_isSign ∈ pWW := pw3 (List.mem_of_getElem? (i := 46) rfl) rfl
theorem fl9_69 : Cond.fieldLink RX9 69 "LineKeeper$Tokens" "SIGNS" "[C" ∈ pWW := pw3 (List.mem_of_getElem? (i := 48) rfl) rfl
theorem dX9_isSign_0 : decode cX9_isSign 0 = .ok (.iconst 0, 1) := by decide +kernel
theorem dX9_isSign_1 : decode cX9_isSign 1 = .ok (.istore_n 1, 1) := by decide +kernel
theorem dX9_isSign_2 : decode cX9_isSign 2 = .ok (.iload_n 1, 1) := by decide +kernel
theorem dX9_isSign_3 : decode cX9_isSign 3 = .ok (.getstatic 69, 3) := by decide +kernel
theorem dX9_isSign_6 : decode cX9_isSign 6 = .ok (.arraylength, 1) := by decide +kernel
theorem dX9_isSign_7 : decode cX9_isSign 7 = .ok (.if_icmp .ge 20, 3) := by decide +kernel
theorem dX9_isSign_10 : decode cX9_isSign 10 = .ok (.getstatic 69, 3) := by decide +kernel
theorem dX9_isSign_13 : decode cX9_isSign 13 = .ok (.iload_n 1, 1) := by decide +kernel
theorem dX9_isSign_14 : decode cX9_isSign 14 = .ok (.caload, 1) := by decide +kernel
theorem dX9_isSign_15 : decode cX9_isSign 15 = .ok (.iload_n 0, 1) := by decide +kernel
theorem dX9_isSign_16 : decode cX9_isSign 16 = .ok (.if_icmp .ne 5, 3) := by decide +kernel
theorem dX9_isSign_21 : decode cX9_isSign 21 = .ok (.iinc 1 1, 3) := by decide +kernel
theorem dX9_isSign_24 : decode cX9_isSign 24 = .ok (.goto (-22), 3) := by decide +kernel
set_option maxRecDepth 20000 in
theorem l_X9_isSign_2 (d : Nat) {T : CT} {σ : MS} {c0 : Int} {post : Option Value → CT → MS → Prop} (r_c0 : -2147483648 ≤ c0 ∧ c0 ≤ 2147483647) (hw : WT T σ) (hx_19 : ∀ (i1 : Int) , (0 ≤ i1 ∧ i1 ≤ 2147483647) → Tn (d + 1) m_X9_isSign 19 T σ [(0, .int (iI c0)), (1, .int (iI i1))] [] post) (hx_27 : ∀ (i1 : Int) , (0 ≤ i1 ∧ i1 ≤ 2147483647) → Tn (d + 1) m_X9_isSign 27 T σ [(0, .int (iI c0)), (1, .int (iI i1))] [] post) : ∀ (n : Nat) (i1 : Int) , (0 ≤ i1 ∧ i1 ≤ 2147483647) → (2147483700 - i1).toNat = n → Tn (d + 1) m_X9_isSign 2 T σ [(0, .int (iI c0)), (1, .int (iI i1))] [] post := by
  intro n
  induction n using Nat.strongRecOn with
  | _ n ih =>
    intro i1 r_i1 hm
    refine tn_iload_n dX9_isSign_2 rfl 1 rfl ?_
    refine tn_stLen st_sg dX9_isSign_3 fl9_69 dX9_isSign_6 ?_
    show Tn _ _ 7 T σ [(0, .int (iI c0)), (1, .int (iI i1))] (.int (iI 11) :: [.int (iI i1)]) _
    refine tn_icmp_ge (tgt := 27) dX9_isSign_7 (by decide) ⟨by omega, by omega⟩ ⟨by decide, by decide⟩ (fun h1 => ?_) (fun h1 => ?_)
    · exact tn_sub [0, 1] rfl (hx_27 (i1) (by omega))
    · refine tn_stChr (z := i1) st_sg dX9_isSign_10 fl9_69 dX9_isSign_13 rfl (q := 1) rfl dX9_isSign_14 (by omega) (by omega) (by decide) (fun v2 g3 => ?_)
      have g3r : -2147483648 ≤ v2 ∧ v2 ≤ 2147483647 := g3
      clear g3
      show Tn _ _ 15 T σ [(0, .int (iI c0)), (1, .int (iI i1))] [.int (iI v2)] _
      refine tn_iload_n dX9_isSign_15 rfl 0 rfl ?_
      refine tn_icmp_ne (tgt := 21) dX9_isSign_16 (by decide) ⟨by omega, by omega⟩ ⟨by omega, by omega⟩ (fun h4 => ?_) (fun h4 => ?_)
      · refine tn_iinc (q0 := 1) (L' := [(1, .int (iI (i1 + 1))), (0, .int (iI c0))]) dX9_isSign_21 rfl (by decide) rfl ?_
        refine tn_goto (tgt := 2) dX9_isSign_24 (by decide) ?_
        exact tn_sub [1, 0] rfl (ih _ (by omega) (i1 + 1) (by omega) rfl)
      · exact tn_sub [0, 1] rfl (hx_19 (i1) (by omega))
theorem dX9_isSign_19 : decode cX9_isSign 19 = .ok (.iconst 1, 1) := by decide +kernel
theorem dX9_isSign_20 : decode cX9_isSign 20 = .ok (.ireturn, 1) := by decide +kernel
theorem dX9_isSign_27 : decode cX9_isSign 27 = .ok (.iconst 0, 1) := by decide +kernel
theorem dX9_isSign_28 : decode cX9_isSign 28 = .ok (.ireturn, 1) := by decide +kernel
set_option maxRecDepth 20000 in
theorem k_X9_isSign (d : Nat) {T : CT} {σ : MS} {p1 : Int} (h_p1 : -2147483648 ≤ p1 ∧ p1 ≤ 2147483647) (hw : WT T σ) : Tn (d + 1) m_X9_isSign 0 T σ [(0, .int (iI p1))] [] (fun ro T2 σ2 => ∃ v : Int, ro = some (.int (iI v)) ∧ T = T2 ∧ σ = σ2 ∧ (v = 0 ∨ v = 1)) := by
  refine tn_iconst dX9_isSign_0 ?_
  refine tn_istore_n (L' := [(1, .int (iI 0)), (0, .int (iI p1))]) dX9_isSign_1 rfl (by decide) rfl ?_
  refine tn_sub [1, 0] rfl (l_X9_isSign_2 (d) (T := T) (σ := σ) (c0 := p1) (by omega) hw (fun i11 r7 => ?_) (fun i18 r14 => ?_) _ (0) (by omega) rfl)
  · show Tn _ _ 19 T σ [(0, .int (iI p1)), (1, .int (iI i11))] [] _
    refine tn_iconst dX9_isSign_19 ?_
    exact tn_zret (v := 1) rfl (by decide) dX9_isSign_20 ⟨_, rfl, rfl, rfl, by omega⟩
  · show Tn _ _ 27 T σ [(0, .int (iI p1)), (1, .int (iI i18))] [] _
    refine tn_iconst dX9_isSign_27 ?_
    exact tn_zret (v := 0) rfl (by decide) dX9_isSign_28 ⟨_, rfl, rfl, rfl, by omega⟩
end
section
theorem cd_X9_nextIs : Cond.code yX9_nextIs cX9_nextIs 2 (some .boolean) ∈ pWW := pw3 (List.mem_of_getElem? (i := 153) rfl) rfl
abbrev m_X9_nextIs : MT := (yX9_nextIs, cX9_nextIs, 2, (some .boolean))
theorem ok_X9_nextIs : pOk m_X9_nextIs := ⟨⟨cd_X9_nextIs, ini_9⟩, by decide +kernel, ⟨by decide +kernel, by decide +kernel⟩, Nat.le_of_ble_eq_true rfl⟩
theorem np_X9_nextIs : (parseMethodDescriptor yX9_nextIs.desc).map (fun d => d.parameters.length) = some 1 := by decide +kernel
theorem im_X9_nextIs : Cond.instanceMethod yX9_nextIs ∈ pWW := pw3 (List.mem_of_getElem? (i := 151) rfl) rfl
theorem se_X9_nextIs : Cond.selects RX9 yX9_nextIs yX9_nextIs ∈ pWW := pw3 (List.mem_of_getElem? (i := 152) rfl) rfl
theorem fl9_30 : Cond.fieldLink RX9 30 (TX9 4).1 (TX9 4).2.1 (TX9 4).2.2.1 ∈ pWW := pw1 (List.mem_of_getElem? (i := 48) rfl) rfl
theorem fl9_9 : Cond.fieldLink RX9 9 (TX9 0).1 (TX9 0).2.1 (TX9 0).2.2.1 ∈ pWW := pw1 (List.mem_of_getElem? (i := 44) rfl) rfl
theorem fl9_45 : Cond.fieldLink RX9 45 (TX9 3).1 (TX9 3).2.1 (TX9 3).2.2.1 ∈ pWW := pw1 (List.mem_of_getElem? (i := 47) rfl) rfl
theorem nl9_73 : (RX9, 73, yX11_at, "LineKeeper") ∈ nst_M := List.mem_of_getElem? (i := 10) rfl
theorem dX9_nextIs_0 : decode cX9_nextIs 0 = .ok (.aload_n 0, 1) := by decide +kernel
theorem dX9_nextIs_1 : decode cX9_nextIs 1 = .ok (.getfield 30, 3) := by decide +kernel
theorem dX9_nextIs_4 : decode cX9_nextIs 4 = .ok (.sipush 264, 3) := by decide +kernel
theorem dX9_nextIs_7 : decode cX9_nextIs 7 = .ok (.if_icmp .eq 34, 3) := by decide +kernel
theorem dX9_nextIs_41 : decode cX9_nextIs 41 = .ok (.iconst 0, 1) := by decide +kernel
theorem dX9_nextIs_42 : decode cX9_nextIs 42 = .ok (.ireturn, 1) := by decide +kernel
theorem dX9_nextIs_10 : decode cX9_nextIs 10 = .ok (.aload_n 0, 1) := by decide +kernel
theorem dX9_nextIs_11 : decode cX9_nextIs 11 = .ok (.getfield 30, 3) := by decide +kernel
theorem dX9_nextIs_14 : decode cX9_nextIs 14 = .ok (.sipush 263, 3) := by decide +kernel
theorem dX9_nextIs_17 : decode cX9_nextIs 17 = .ok (.if_icmp .eq 24, 3) := by decide +kernel
theorem dX9_nextIs_20 : decode cX9_nextIs 20 = .ok (.aload_n 0, 1) := by decide +kernel
theorem dX9_nextIs_21 : decode cX9_nextIs 21 = .ok (.getfield 9, 3) := by decide +kernel
theorem dX9_nextIs_24 : decode cX9_nextIs 24 = .ok (.aload_n 0, 1) := by decide +kernel
theorem dX9_nextIs_25 : decode cX9_nextIs 25 = .ok (.getfield 45, 3) := by decide +kernel
theorem dX9_nextIs_28 : decode cX9_nextIs 28 = .ok (.iconst 1, 1) := by decide +kernel
theorem dX9_nextIs_29 : decode cX9_nextIs 29 = .ok (.iadd, 1) := by decide +kernel
theorem dX9_nextIs_30 : decode cX9_nextIs 30 = .ok (.invokestatic 73, 3) := by decide +kernel
theorem dX9_nextIs_33 : decode cX9_nextIs 33 = .ok (.iload_n 1, 1) := by decide +kernel
theorem dX9_nextIs_34 : decode cX9_nextIs 34 = .ok (.if_icmp .ne 7, 3) := by decide +kernel
theorem dX9_nextIs_37 : decode cX9_nextIs 37 = .ok (.iconst 1, 1) := by decide +kernel
theorem dX9_nextIs_38 : decode cX9_nextIs 38 = .ok (.goto 4, 3) := by decide +kernel
set_option maxRecDepth 20000 in
theorem k_X9_nextIs (d : Nat) {T : CT} {σ : MS} {a : Nat} {p1 : Int} (ha : OB T a 9) (h_p1 : -2147483648 ≤ p1 ∧ p1 ≤ 2147483647) (hw : WT T σ) : Tn (d + 2) m_X9_nextIs 0 T σ [(0, .ref a), (1, .int (iI p1))] [] (fun ro T2 σ2 => ∃ v : Int, ro = some (.int (iI v)) ∧ T = T2 ∧ σ = σ2 ∧ (v = 0 ∨ v = 1)) := by
  refine tn_aload_n dX9_nextIs_0 rfl 0 rfl ?_
  refine tn_getI (ci := 9) (i := 4) (n := 85) (t := σ.2.1 85 a) dX9_nextIs_1 rfl lay_9 (by decide) fl9_30 ha rfl rfl (rfl) ?_
  have g1 : ((-2147483648 : Int) ≤ σ.2.1 85 a ∧ σ.2.1 85 a ≤ 2147483647) := wf_85 hw ha
  refine tn_sipush dX9_nextIs_4 (by decide) ?_
  refine tn_icmp_eq (tgt := 41) dX9_nextIs_7 (by decide) ⟨by omega, by omega⟩ ⟨by decide, by decide⟩ (fun h2 => ?_) (fun h2 => ?_)
  · refine tn_iconst dX9_nextIs_41 ?_
    exact tn_zret (v := 0) rfl (by decide) dX9_nextIs_42 ⟨_, rfl, rfl, rfl, by omega⟩
  · refine tn_aload_n dX9_nextIs_10 rfl 0 rfl ?_
    refine tn_getI (ci := 9) (i := 4) (n := 85) (t := σ.2.1 85 a) dX9_nextIs_11 rfl lay_9 (by decide) fl9_30 ha rfl rfl (rfl) ?_
    refine tn_sipush dX9_nextIs_14 (by decide) ?_
    refine tn_icmp_eq (tgt := 41) dX9_nextIs_17 (by decide) ⟨by omega, by omega⟩ ⟨by decide, by decide⟩ (fun h3 => ?_) (fun h3 => ?_)
    · refine tn_iconst dX9_nextIs_41 ?_
      exact tn_zret (v := 0) rfl (by decide) dX9_nextIs_42 ⟨_, rfl, rfl, rfl, by omega⟩
    · refine tn_aload_n dX9_nextIs_20 rfl 0 rfl ?_
      obtain ⟨x4, hx5, hk6, hl7⟩ : ∃ x : Nat, σ.2.1 81 a = (x : Int) ∧ AR T x 12 1201 1201 := wf_81 hw ha
      have hk6i : IA T x4 := by unfold IA; omega
      refine tn_getR (ci := 9) (i := 0) (n := 81) (x := x4) dX9_nextIs_21 rfl lay_9 (by decide) fl9_9 ha rfl rfl (hx5) ?_
      refine tn_aload_n dX9_nextIs_24 rfl 0 rfl ?_
      refine tn_getI (ci := 9) (i := 3) (n := 84) (t := σ.2.1 84 a) dX9_nextIs_25 rfl lay_9 (by decide) fl9_45 ha rfl rfl (rfl) ?_
      have g8 : ((-1 : Int) ≤ σ.2.1 84 a ∧ σ.2.1 84 a ≤ 1200) := wf_84 hw ha
      refine tn_iconst dX9_nextIs_28 ?_
      refine tn_iadd dX9_nextIs_29 ?_
      refine tn_callSN (M := m_X9_nextIs) (pc := 30) (ix := 73) (M' := m_X11_at) (As := [.ref x4, .int (iI ((σ.2.1 84 a) + 1))]) (rest := []) dX9_nextIs_30 ok_X11_at stt_X11_at nl9_73 np_X11_at rfl (Nat.le_of_ble_eq_true rfl) (Nat.le_of_ble_eq_true rfl) rfl (k_X11_at (d) (T := T) (σ := σ) (x := x4) (i := (σ.2.1 84 a) + 1) hk6i (by omega) (by omega) hw ) (fun r9 T11 σ10 gt12 hp => ?_)
      obtain ⟨v16, rfl, rfl, rfl, f13, f14, f15⟩ := hp
      clear gt12
      clear f14 f15
      show Tn _ _ 33 T σ [(0, .ref a), (1, .int (iI p1))] [.int (iI v16)] _
      refine tn_iload_n dX9_nextIs_33 rfl 1 rfl ?_
      refine tn_icmp_ne (tgt := 41) dX9_nextIs_34 (by decide) ⟨by omega, by omega⟩ ⟨by omega, by omega⟩ (fun h17 => ?_) (fun h17 => ?_)
      · refine tn_iconst dX9_nextIs_41 ?_
        exact tn_zret (v := 0) rfl (by decide) dX9_nextIs_42 ⟨_, rfl, rfl, rfl, by omega⟩
      · refine tn_iconst dX9_nextIs_37 ?_
        refine tn_goto (tgt := 42) dX9_nextIs_38 (by decide) ?_
        exact tn_zret (v := 1) rfl (by decide) dX9_nextIs_42 ⟨_, rfl, rfl, rfl, by omega⟩
end
