theorem cd_X8_addOdds : Cond.code yX8_addOdds cX8_addOdds 6 none ∈ pWW := pw5 (List.mem_of_getElem? (i := 222) rfl) rfl
abbrev m_X8_addOdds : MT := (yX8_addOdds, cX8_addOdds, 6, none)
theorem ok_X8_addOdds : pOk m_X8_addOdds := ⟨⟨cd_X8_addOdds, ini_8⟩, by decide +kernel, ⟨by decide +kernel, by decide +kernel⟩, Nat.le_of_ble_eq_true rfl⟩
theorem np_X8_addOdds : (parseMethodDescriptor yX8_addOdds.desc).map (fun d => d.parameters.length) = some 4 := by decide +kernel
theorem im_X8_addOdds : Cond.instanceMethod yX8_addOdds ∈ pWW := pw5 (List.mem_of_getElem? (i := 221) rfl) rfl
theorem se_X8_addOdds : Cond.selects RX8 yX8_addOdds yX8_addOdds ∈ pWW := pws (List.mem_map.mpr ⟨_, lw_pin 77 rfl, rfl⟩) rfl
theorem nl8_112 : (RX8, 112, yX11_has, "LineKeeper") ∈ nst_M := List.mem_of_getElem? (i := 42) rfl
theorem fl8_9 : Cond.fieldLink RX8 9 (TX8 1).1 (TX8 1).2.1 (TX8 1).2.2.1 ∈ pWW := pw2 (List.mem_of_getElem? (i := 99) rfl) rfl
theorem dX8_addOdds_0 : decode cX8_addOdds 0 = .ok (.iconst 0, 1) := by decide +kernel
theorem dX8_addOdds_1 : decode cX8_addOdds 1 = .ok (.istore 5, 2) := by decide +kernel
theorem dX8_addOdds_3 : decode cX8_addOdds 3 = .ok (.iload 5, 2) := by decide +kernel
theorem dX8_addOdds_5 : decode cX8_addOdds 5 = .ok (.iload 4, 2) := by decide +kernel
theorem dX8_addOdds_7 : decode cX8_addOdds 7 = .ok (.if_icmp .ge 45, 3) := by decide +kernel
theorem dX8_addOdds_10 : decode cX8_addOdds 10 = .ok (.iload 5, 2) := by decide +kernel
theorem dX8_addOdds_12 : decode cX8_addOdds 12 = .ok (.iload_n 3, 1) := by decide +kernel
theorem dX8_addOdds_13 : decode cX8_addOdds 13 = .ok (.if_icmp .eq 33, 3) := by decide +kernel
theorem dX8_addOdds_46 : decode cX8_addOdds 46 = .ok (.iinc 5 1, 3) := by decide +kernel
theorem dX8_addOdds_49 : decode cX8_addOdds 49 = .ok (.goto (-46), 3) := by decide +kernel
theorem dX8_addOdds_16 : decode cX8_addOdds 16 = .ok (.aload_n 1, 1) := by decide +kernel
theorem dX8_addOdds_17 : decode cX8_addOdds 17 = .ok (.iload_n 2, 1) := by decide +kernel
theorem dX8_addOdds_18 : decode cX8_addOdds 18 = .ok (.iload 5, 2) := by decide +kernel
theorem dX8_addOdds_20 : decode cX8_addOdds 20 = .ok (.invokestatic 112, 3) := by decide +kernel
theorem dX8_addOdds_23 : decode cX8_addOdds 23 = .ok (.ifCond .eq 23, 3) := by decide +kernel
theorem dX8_addOdds_26 : decode cX8_addOdds 26 = .ok (.aload_n 0, 1) := by decide +kernel
theorem dX8_addOdds_27 : decode cX8_addOdds 27 = .ok (.getfield 9, 3) := by decide +kernel
theorem dX8_addOdds_30 : decode cX8_addOdds 30 = .ok (.iload_n 3, 1) := by decide +kernel
theorem dX8_addOdds_31 : decode cX8_addOdds 31 = .ok (.iload 5, 2) := by decide +kernel
theorem dX8_addOdds_33 : decode cX8_addOdds 33 = .ok (.invokestatic 104, 3) := by decide +kernel
theorem dX8_addOdds_36 : decode cX8_addOdds 36 = .ok (.aload_n 0, 1) := by decide +kernel
theorem dX8_addOdds_37 : decode cX8_addOdds 37 = .ok (.getfield 9, 3) := by decide +kernel
theorem dX8_addOdds_40 : decode cX8_addOdds 40 = .ok (.iload 5, 2) := by decide +kernel
theorem dX8_addOdds_42 : decode cX8_addOdds 42 = .ok (.iload_n 3, 1) := by decide +kernel
theorem dX8_addOdds_43 : decode cX8_addOdds 43 = .ok (.invokestatic 104, 3) := by decide +kernel
set_option maxRecDepth 20000 in
theorem l_X8_addOdds_3 (d : Nat) {T : CT} {σ0 : MS} {a : Nat} {rx1 : Nat} {c2 : Int} {c3 : Int} {c4 : Int} {post : Option Value → CT → MS → Prop} (h_a : OB T a 8) (h_rx1 : (T rx1).1 = 3) (l_rx1 : (T rx1).2 ≤ 1000000) (r_c2 : -2147483648 ≤ c2 ∧ c2 ≤ 2147483647) (r_c3 : -2147483648 ≤ c3 ∧ c3 ≤ 2147483647) (r_c4 : -2147483648 ≤ c4 ∧ c4 ≤ 2147483647) (hw0 : WT T σ0) (hx_52 : ∀ (i5 : Int) (σ : MS) , (WT T σ) → (FrC T [] σ0 σ) → (0 ≤ i5 ∧ i5 ≤ 2147483647) → Tn (d + 3) m_X8_addOdds 52 T σ [(0, .ref a), (1, .ref rx1), (2, .int (iI c2)), (3, .int (iI c3)), (4, .int (iI c4)), (5, .int (iI i5))] [] post) : ∀ (n : Nat) (i5 : Int) (σ : MS) , (WT T σ) → (FrC T [] σ0 σ) → (0 ≤ i5 ∧ i5 ≤ 2147483647) → (2147483700 - i5).toNat = n → Tn (d + 3) m_X8_addOdds 3 T σ [(0, .ref a), (1, .ref rx1), (2, .int (iI c2)), (3, .int (iI c3)), (4, .int (iI c4)), (5, .int (iI i5))] [] post := by
  intro n
  induction n using Nat.strongRecOn with
  | _ n ih =>
    intro i5 σ hw hF r_i5 hm
    refine tn_iload dX8_addOdds_3 5 rfl ?_
    refine tn_iload dX8_addOdds_5 4 rfl ?_
    refine tn_icmp_ge (tgt := 52) dX8_addOdds_7 (by decide) ⟨by omega, by omega⟩ ⟨by omega, by omega⟩ (fun h1 => ?_) (fun h1 => ?_)
    · exact tn_sub [0, 1, 2, 3, 4, 5] rfl (hx_52 (i5) σ hw (FrC.rfl.trans (FrC.sub hF (by decide))) (by omega))
    · refine tn_iload dX8_addOdds_10 5 rfl ?_
      refine tn_iload_n dX8_addOdds_12 rfl 3 rfl ?_
      refine tn_icmp_eq (tgt := 46) dX8_addOdds_13 (by decide) ⟨by omega, by omega⟩ ⟨by omega, by omega⟩ (fun h2 => ?_) (fun h2 => ?_)
      · refine tn_iinc (q0 := 5) (L' := [(5, .int (iI (i5 + 1))), (0, .ref a), (1, .ref rx1), (2, .int (iI c2)), (3, .int (iI c3)), (4, .int (iI c4))]) dX8_addOdds_46 rfl (by decide) rfl ?_
        refine tn_goto (tgt := 3) dX8_addOdds_49 (by decide) ?_
        exact tn_sub [1, 2, 3, 4, 5, 0] rfl (ih _ (by omega) (i5 + 1) σ hw (FrC.rfl.trans (FrC.sub hF (by decide))) (by omega) rfl)
      · refine tn_aload_n dX8_addOdds_16 rfl 1 rfl ?_
        refine tn_iload_n dX8_addOdds_17 rfl 2 rfl ?_
        refine tn_iload dX8_addOdds_18 5 rfl ?_
        refine tn_callSN (M := m_X8_addOdds) (pc := 20) (ix := 112) (M' := m_X11_has) (As := [.ref rx1, .int (iI c2), .int (iI i5)]) (rest := []) dX8_addOdds_20 ok_X11_has stt_X11_has nl8_112 np_X11_has rfl (Nat.le_of_ble_eq_true rfl) (Nat.le_of_ble_eq_true rfl) rfl (k_X11_has (d) (T := T) (σ := σ) (x := rx1) (k := c2) (r := i5) h_rx1 (by omega) (by omega) (by omega) hw ) (fun r3 T5 σ4 gt6 hp => ?_)
        obtain ⟨v8, rfl, rfl, rfl, f7⟩ := hp
        clear gt6
        show Tn _ _ 23 T σ [(0, .ref a), (1, .ref rx1), (2, .int (iI c2)), (3, .int (iI c3)), (4, .int (iI c4)), (5, .int (iI i5))] [.int (iI v8)] _
        refine tn_if_eq (tgt := 46) dX8_addOdds_23 (by decide) ⟨by omega, by omega⟩ (fun h9 => ?_) (fun h9 => ?_)
        · refine tn_iinc (q0 := 5) (L' := [(5, .int (iI (i5 + 1))), (0, .ref a), (1, .ref rx1), (2, .int (iI c2)), (3, .int (iI c3)), (4, .int (iI c4))]) dX8_addOdds_46 rfl (by decide) rfl ?_
          refine tn_goto (tgt := 3) dX8_addOdds_49 (by decide) ?_
          exact tn_sub [1, 2, 3, 4, 5, 0] rfl (ih _ (by omega) (i5 + 1) σ hw (FrC.rfl.trans (FrC.sub hF (by decide))) (by omega) rfl)
        · refine tn_aload_n dX8_addOdds_26 rfl 0 rfl ?_
          obtain ⟨x10, hx11, hk12, hl13⟩ : ∃ x : Nat, σ0.2.1 73 a = (x : Int) ∧ AR T x 3 576 576 := wf_73 hw0 h_a
          refine tn_getR (ci := 8) (i := 1) (n := 73) (x := x10) dX8_addOdds_27 rfl lay_8 (by decide) fl8_9 h_a rfl rfl (rc_F hF (Or.inl (by decide)) (by decide) (hx11)) ?_
          refine tn_iload_n dX8_addOdds_30 rfl 3 rfl ?_
          refine tn_iload dX8_addOdds_31 5 rfl ?_
          refine tn_callSN (M := m_X8_addOdds) (pc := 33) (ix := 104) (M' := m_X11_include) (As := [.ref x10, .int (iI c3), .int (iI i5)]) (rest := []) dX8_addOdds_33 ok_X11_include stt_X11_include nl8_104 np_X11_include rfl (Nat.le_of_ble_eq_true rfl) (Nat.le_of_ble_eq_true rfl) rfl (k_X11_include (d) (T := T) (σ := σ) (x := x10) (k := c3) (r := i5) hk12 (by omega) (by omega) (by omega) hw ) (fun r14 T16 σ15 gt17 hp => ?_)
          obtain ⟨rfl, rfl, w19, F20⟩ := hp
          clear gt17
          show Tn _ _ 36 T σ15 [(0, .ref a), (1, .ref rx1), (2, .int (iI c2)), (3, .int (iI c3)), (4, .int (iI c4)), (5, .int (iI i5))] [] _
          refine tn_aload_n dX8_addOdds_36 rfl 0 rfl ?_
          refine tn_getR (ci := 8) (i := 1) (n := 73) (x := x10) dX8_addOdds_37 rfl lay_8 (by decide) fl8_9 h_a rfl rfl (rc_F F20 (Or.inl (by decide)) (by decide) (rc_F hF (Or.inl (by decide)) (by decide) (hx11))) ?_
          refine tn_iload dX8_addOdds_40 5 rfl ?_
          refine tn_iload_n dX8_addOdds_42 rfl 3 rfl ?_
          refine tn_callSN (M := m_X8_addOdds) (pc := 43) (ix := 104) (M' := m_X11_include) (As := [.ref x10, .int (iI i5), .int (iI c3)]) (rest := []) dX8_addOdds_43 ok_X11_include stt_X11_include nl8_104 np_X11_include rfl (Nat.le_of_ble_eq_true rfl) (Nat.le_of_ble_eq_true rfl) rfl (k_X11_include (d) (T := T) (σ := σ15) (x := x10) (k := i5) (r := c3) hk12 (by omega) (by omega) (by omega) w19 ) (fun r21 T23 σ22 gt24 hp => ?_)
          obtain ⟨rfl, rfl, w26, F27⟩ := hp
          clear gt24
          show Tn _ _ 46 T σ22 [(0, .ref a), (1, .ref rx1), (2, .int (iI c2)), (3, .int (iI c3)), (4, .int (iI c4)), (5, .int (iI i5))] [] _
          refine tn_iinc (q0 := 5) (L' := [(5, .int (iI (i5 + 1))), (0, .ref a), (1, .ref rx1), (2, .int (iI c2)), (3, .int (iI c3)), (4, .int (iI c4))]) dX8_addOdds_46 rfl (by decide) rfl ?_
          refine tn_goto (tgt := 3) dX8_addOdds_49 (by decide) ?_
          exact tn_sub [1, 2, 3, 4, 5, 0] rfl (ih _ (by omega) (i5 + 1) σ22 w26 (((FrC.rfl.trans (FrC.sub hF (by decide))).trans (FrC.sub F20 (by decide))).trans (FrC.sub F27 (by decide))) (by omega) rfl)
theorem dX8_addOdds_52 : decode cX8_addOdds 52 = .ok (.return_, 1) := by decide +kernel
set_option maxRecDepth 20000 in
theorem k_X8_addOdds (d : Nat) {T : CT} {σ : MS} {a : Nat} {p1 : Nat} {p2 : Int} {p3 : Int} {p4 : Int} (ha : OB T a 8) (h_p1 : (T p1).1 = 3) (l_p1 : (T p1).2 ≤ 1000000) (h_p2 : -2147483648 ≤ p2 ∧ p2 ≤ 2147483647) (h_p3 : -2147483648 ≤ p3 ∧ p3 ≤ 2147483647) (h_p4 : -2147483648 ≤ p4 ∧ p4 ≤ 2147483647) (hw : WT T σ) : Tn (d + 3) m_X8_addOdds 0 T σ [(0, .ref a), (1, .ref p1), (2, .int (iI p2)), (3, .int (iI p3)), (4, .int (iI p4))] [] (fun ro T2 σ2 => ro = none ∧ T = T2 ∧ WT T2 σ2 ∧ FrC T [] σ σ2) := by
  refine tn_iconst dX8_addOdds_0 ?_
  refine tn_istore (L' := [(5, .int (iI 0)), (0, .ref a), (1, .ref p1), (2, .int (iI p2)), (3, .int (iI p3)), (4, .int (iI p4))]) dX8_addOdds_1 (by decide) rfl ?_
  refine tn_sub [1, 2, 3, 4, 5, 0] rfl (l_X8_addOdds_3 (d) (T := T) (σ0 := σ) (a := a) (rx1 := p1) (c2 := p2) (c3 := p3) (c4 := p4) ha h_p1 (by omega) (by omega) (by omega) (by omega) hw (fun i51 σ2 w5 F6 r7 => ?_) _ (0) σ hw FrC.rfl (by omega) rfl)
  show Tn _ _ 52 T σ2 [(0, .ref a), (1, .ref p1), (2, .int (iI p2)), (3, .int (iI p3)), (4, .int (iI p4)), (5, .int (iI i51))] [] _
  exact tn_vret rfl dX8_addOdds_52 ⟨rfl, rfl, w5, (FrC.rfl.trans (FrC.sub F6 (by decide)))⟩
