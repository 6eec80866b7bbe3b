theorem cd_X8_findOdds : Cond.code yX8_findOdds cX8_findOdds 5 none ∈ pWW := pw5 (List.mem_of_getElem? (i := 216) rfl) rfl
abbrev m_X8_findOdds : MT := (yX8_findOdds, cX8_findOdds, 5, none)
theorem ok_X8_findOdds : pOk m_X8_findOdds := ⟨⟨cd_X8_findOdds, ini_8⟩, by decide +kernel, ⟨by decide +kernel, by decide +kernel⟩, Nat.le_of_ble_eq_true rfl⟩
theorem np_X8_findOdds : (parseMethodDescriptor yX8_findOdds.desc).map (fun d => d.parameters.length) = some 2 := by decide +kernel
theorem im_X8_findOdds : Cond.instanceMethod yX8_findOdds ∈ pWW := pw5 (List.mem_of_getElem? (i := 215) rfl) rfl
theorem se_X8_findOdds : Cond.selects RX8 yX8_findOdds yX8_findOdds ∈ pWW := pws (List.mem_map.mpr ⟨_, lw_pin 76 rfl, rfl⟩) rfl
theorem nl8_108 : (RX8, 108, yX11_clear, "LineKeeper") ∈ nst_M := List.mem_of_getElem? (i := 41) rfl
theorem ml8_116 : Cond.methodLink RX8 116 yX8_addOdds ∈ pWW := pw5 (List.mem_of_getElem? (i := 219) rfl) rfl
theorem dX8_findOdds_0 : decode cX8_findOdds 0 = .ok (.aload_n 0, 1) := by decide +kernel
theorem dX8_findOdds_1 : decode cX8_findOdds 1 = .ok (.getfield 9, 3) := by decide +kernel
theorem dX8_findOdds_4 : decode cX8_findOdds 4 = .ok (.iload_n 2, 1) := by decide +kernel
theorem dX8_findOdds_5 : decode cX8_findOdds 5 = .ok (.iconst 3, 1) := by decide +kernel
theorem dX8_findOdds_6 : decode cX8_findOdds 6 = .ok (.imul, 1) := by decide +kernel
theorem dX8_findOdds_7 : decode cX8_findOdds 7 = .ok (.invokestatic 108, 3) := by decide +kernel
theorem dX8_findOdds_10 : decode cX8_findOdds 10 = .ok (.iconst 0, 1) := by decide +kernel
theorem dX8_findOdds_11 : decode cX8_findOdds 11 = .ok (.istore_n 3, 1) := by decide +kernel
theorem dX8_findOdds_12 : decode cX8_findOdds 12 = .ok (.iload_n 3, 1) := by decide +kernel
theorem dX8_findOdds_13 : decode cX8_findOdds 13 = .ok (.iload_n 2, 1) := by decide +kernel
theorem dX8_findOdds_14 : decode cX8_findOdds 14 = .ok (.if_icmp .ge 32, 3) := by decide +kernel
theorem dX8_findOdds_17 : decode cX8_findOdds 17 = .ok (.aload_n 0, 1) := by decide +kernel
theorem dX8_findOdds_18 : decode cX8_findOdds 18 = .ok (.getfield 15, 3) := by decide +kernel
theorem dX8_findOdds_21 : decode cX8_findOdds 21 = .ok (.iconst 0, 1) := by decide +kernel
theorem dX8_findOdds_22 : decode cX8_findOdds 22 = .ok (.iload_n 3, 1) := by decide +kernel
theorem dX8_findOdds_23 : decode cX8_findOdds 23 = .ok (.invokestatic 112, 3) := by decide +kernel
theorem dX8_findOdds_26 : decode cX8_findOdds 26 = .ok (.ifCond .eq 14, 3) := by decide +kernel
theorem dX8_findOdds_40 : decode cX8_findOdds 40 = .ok (.iinc 3 1, 3) := by decide +kernel
theorem dX8_findOdds_43 : decode cX8_findOdds 43 = .ok (.goto (-31), 3) := by decide +kernel
theorem dX8_findOdds_29 : decode cX8_findOdds 29 = .ok (.aload_n 0, 1) := by decide +kernel
theorem dX8_findOdds_30 : decode cX8_findOdds 30 = .ok (.aload_n 0, 1) := by decide +kernel
theorem dX8_findOdds_31 : decode cX8_findOdds 31 = .ok (.getfield 15, 3) := by decide +kernel
theorem dX8_findOdds_34 : decode cX8_findOdds 34 = .ok (.iconst 0, 1) := by decide +kernel
theorem dX8_findOdds_35 : decode cX8_findOdds 35 = .ok (.iload_n 3, 1) := by decide +kernel
theorem dX8_findOdds_36 : decode cX8_findOdds 36 = .ok (.iload_n 2, 1) := by decide +kernel
theorem dX8_findOdds_37 : decode cX8_findOdds 37 = .ok (.invokevirtual 116, 3) := by decide +kernel
set_option maxRecDepth 20000 in
theorem l_X8_findOdds_12 (d : Nat) {T : CT} {σ0 : MS} {a : Nat} {rx1 : Nat} {c2 : Int} {post : Option Value → CT → MS → Prop} (h_a : OB T a 8) (h_rx1 : OB T rx1 1) (t_rx1 : (T rx1).1 = 50) (r_c2 : -2147483648 ≤ c2 ∧ c2 ≤ 2147483647) (hw0 : WT T σ0) (hx_46 : ∀ (i3 : Int) (σ : MS) , (WT T σ) → (FrC T [] σ0 σ) → (0 ≤ i3 ∧ i3 ≤ 2147483647) → Tn (d + 4) m_X8_findOdds 46 T σ [(0, .ref a), (1, .ref rx1), (2, .int (iI c2)), (3, .int (iI i3))] [] post) : ∀ (n : Nat) (i3 : Int) (σ : MS) , (WT T σ) → (FrC T [] σ0 σ) → (0 ≤ i3 ∧ i3 ≤ 2147483647) → (2147483700 - i3).toNat = n → Tn (d + 4) m_X8_findOdds 12 T σ [(0, .ref a), (1, .ref rx1), (2, .int (iI c2)), (3, .int (iI i3))] [] post := by
  intro n
  induction n using Nat.strongRecOn with
  | _ n ih =>
    intro i3 σ hw hF r_i3 hm
    refine tn_iload_n dX8_findOdds_12 rfl 3 rfl ?_
    refine tn_iload_n dX8_findOdds_13 rfl 2 rfl ?_
    refine tn_icmp_ge (tgt := 46) dX8_findOdds_14 (by decide) ⟨by omega, by omega⟩ ⟨by omega, by omega⟩ (fun h1 => ?_) (fun h1 => ?_)
    · exact tn_sub [0, 1, 2, 3] rfl (hx_46 (i3) σ hw (FrC.rfl.trans (FrC.sub hF (by decide))) (by omega))
    · refine tn_aload_n dX8_findOdds_17 rfl 0 rfl ?_
      obtain ⟨x2, hx3, hk4, hl5⟩ : ∃ x : Nat, σ0.2.1 74 a = (x : Int) ∧ AR T x 3 3 3 := wf_74 hw0 h_a
      refine tn_getR (ci := 8) (i := 2) (n := 74) (x := x2) dX8_findOdds_18 rfl lay_8 (by decide) fl8_15 h_a rfl rfl (rc_F hF (Or.inl (by decide)) (by decide) (hx3)) ?_
      refine tn_iconst dX8_findOdds_21 ?_
      refine tn_iload_n dX8_findOdds_22 rfl 3 rfl ?_
      refine tn_callSN (M := m_X8_findOdds) (pc := 23) (ix := 112) (M' := m_X11_has) (As := [.ref x2, .int (iI 0), .int (iI i3)]) (rest := []) dX8_findOdds_23 ok_X11_has stt_X11_has nl8_112 np_X11_has rfl (Nat.le_of_ble_eq_true rfl) (Nat.le_of_ble_eq_true rfl) rfl (k_X11_has (d + 1) (T := T) (σ := σ) (x := x2) (k := 0) (r := i3) hk4 (by omega) (by decide) (by omega) hw ) (fun r6 T8 σ7 gt9 hp => ?_)
      obtain ⟨v11, rfl, rfl, rfl, f10⟩ := hp
      clear gt9
      show Tn _ _ 26 T σ [(0, .ref a), (1, .ref rx1), (2, .int (iI c2)), (3, .int (iI i3))] [.int (iI v11)] _
      refine tn_if_eq (tgt := 40) dX8_findOdds_26 (by decide) ⟨by omega, by omega⟩ (fun h12 => ?_) (fun h12 => ?_)
      · refine tn_iinc (q0 := 3) (L' := [(3, .int (iI (i3 + 1))), (0, .ref a), (1, .ref rx1), (2, .int (iI c2))]) dX8_findOdds_40 rfl (by decide) rfl ?_
        refine tn_goto (tgt := 12) dX8_findOdds_43 (by decide) ?_
        exact tn_sub [1, 2, 3, 0] rfl (ih _ (by omega) (i3 + 1) σ hw (FrC.rfl.trans (FrC.sub hF (by decide))) (by omega) rfl)
      · refine tn_aload_n dX8_findOdds_29 rfl 0 rfl ?_
        refine tn_aload_n dX8_findOdds_30 rfl 0 rfl ?_
        refine tn_getR (ci := 8) (i := 2) (n := 74) (x := x2) dX8_findOdds_31 rfl lay_8 (by decide) fl8_15 h_a rfl rfl (rc_F hF (Or.inl (by decide)) (by decide) (hx3)) ?_
        refine tn_iconst dX8_findOdds_34 ?_
        refine tn_iload_n dX8_findOdds_35 rfl 3 rfl ?_
        refine tn_iload_n dX8_findOdds_36 rfl 2 rfl ?_
        refine tn_callV (M := m_X8_findOdds) (pc := 37) (ix := 116) (ci := 8) (M' := m_X8_addOdds) (As := [.ref x2, .int (iI 0), .int (iI i3), .int (iI c2)]) (rest := []) dX8_findOdds_37 ok_X8_addOdds im_X8_addOdds se_X8_addOdds ml8_116 np_X8_addOdds rfl rfl h_a rfl (Nat.le_of_ble_eq_true rfl) (Nat.le_of_ble_eq_true rfl) rfl (k_X8_addOdds (d) (T := T) (σ := σ) (a := a) (p1 := x2) (p2 := 0) (p3 := i3) (p4 := c2) h_a hk4 (by omega) (by decide) (by omega) (by omega) hw ) (fun r13 T15 σ14 gt16 hp => ?_)
        obtain ⟨rfl, rfl, w18, F19⟩ := hp
        clear gt16
        show Tn _ _ 40 T σ14 [(0, .ref a), (1, .ref rx1), (2, .int (iI c2)), (3, .int (iI i3))] [] _
        refine tn_iinc (q0 := 3) (L' := [(3, .int (iI (i3 + 1))), (0, .ref a), (1, .ref rx1), (2, .int (iI c2))]) dX8_findOdds_40 rfl (by decide) rfl ?_
        refine tn_goto (tgt := 12) dX8_findOdds_43 (by decide) ?_
        exact tn_sub [1, 2, 3, 0] rfl (ih _ (by omega) (i3 + 1) σ14 w18 ((FrC.rfl.trans (FrC.sub hF (by decide))).trans (FrC.sub F19 (by decide))) (by omega) rfl)
theorem fl8_70 : Cond.fieldLink RX8 70 (TX1 1).1 (TX1 1).2.1 (TX1 1).2.2.1 ∈ pWW := pw1 (List.mem_of_getElem? (i := 81) rfl) rfl
theorem ml8_120 : Cond.methodLink RX8 120 yX1_writtenBy ∈ pWW := pw5 (List.mem_of_getElem? (i := 223) rfl) rfl
theorem dX8_findOdds_46 : decode cX8_findOdds 46 = .ok (.iconst 0, 1) := by decide +kernel
theorem dX8_findOdds_47 : decode cX8_findOdds 47 = .ok (.istore_n 3, 1) := by decide +kernel
theorem dX8_findOdds_48 : decode cX8_findOdds 48 = .ok (.iload_n 3, 1) := by decide +kernel
theorem dX8_findOdds_49 : decode cX8_findOdds 49 = .ok (.aload_n 1, 1) := by decide +kernel
theorem dX8_findOdds_50 : decode cX8_findOdds 50 = .ok (.getfield 70, 3) := by decide +kernel
theorem dX8_findOdds_53 : decode cX8_findOdds 53 = .ok (.if_icmp .ge 39, 3) := by decide +kernel
theorem dX8_findOdds_56 : decode cX8_findOdds 56 = .ok (.aload_n 1, 1) := by decide +kernel
theorem dX8_findOdds_57 : decode cX8_findOdds 57 = .ok (.iload_n 3, 1) := by decide +kernel
theorem dX8_findOdds_58 : decode cX8_findOdds 58 = .ok (.invokevirtual 120, 3) := by decide +kernel
theorem dX8_findOdds_61 : decode cX8_findOdds 61 = .ok (.istore 4, 2) := by decide +kernel
theorem dX8_findOdds_63 : decode cX8_findOdds 63 = .ok (.iload 4, 2) := by decide +kernel
theorem dX8_findOdds_65 : decode cX8_findOdds 65 = .ok (.iconst (-1), 1) := by decide +kernel
theorem dX8_findOdds_66 : decode cX8_findOdds 66 = .ok (.if_icmp .eq 20, 3) := by decide +kernel
theorem dX8_findOdds_86 : decode cX8_findOdds 86 = .ok (.iinc 3 1, 3) := by decide +kernel
theorem dX8_findOdds_89 : decode cX8_findOdds 89 = .ok (.goto (-41), 3) := by decide +kernel
theorem dX8_findOdds_69 : decode cX8_findOdds 69 = .ok (.aload_n 0, 1) := by decide +kernel
theorem dX8_findOdds_70 : decode cX8_findOdds 70 = .ok (.aload_n 0, 1) := by decide +kernel
theorem dX8_findOdds_71 : decode cX8_findOdds 71 = .ok (.getfield 34, 3) := by decide +kernel
theorem dX8_findOdds_74 : decode cX8_findOdds 74 = .ok (.getfield 89, 3) := by decide +kernel
theorem dX8_findOdds_77 : decode cX8_findOdds 77 = .ok (.iload_n 3, 1) := by decide +kernel
theorem dX8_findOdds_78 : decode cX8_findOdds 78 = .ok (.iconst 1, 1) := by decide +kernel
theorem dX8_findOdds_79 : decode cX8_findOdds 79 = .ok (.iadd, 1) := by decide +kernel
theorem dX8_findOdds_80 : decode cX8_findOdds 80 = .ok (.iload 4, 2) := by decide +kernel
theorem dX8_findOdds_82 : decode cX8_findOdds 82 = .ok (.iload_n 2, 1) := by decide +kernel
theorem dX8_findOdds_83 : decode cX8_findOdds 83 = .ok (.invokevirtual 116, 3) := by decide +kernel
set_option maxRecDepth 20000 in
theorem l_X8_findOdds_48 (d : Nat) {T : CT} {σ0 : MS} {a : Nat} {rx1 : Nat} {c2 : Int} {post : Option Value → CT → MS → Prop} (h_a : OB T a 8) (h_rx1 : OB T rx1 1) (t_rx1 : (T rx1).1 = 50) (r_c2 : -2147483648 ≤ c2 ∧ c2 ≤ 2147483647) (hw0 : WT T σ0) (hx_92 : ∀ (i3 : Int) (σ : MS) , (WT T σ) → (FrC T [] σ0 σ) → (0 ≤ i3 ∧ i3 ≤ 2147483647) → Tn (d + 4) m_X8_findOdds 92 T σ [(0, .ref a), (1, .ref rx1), (2, .int (iI c2)), (3, .int (iI i3))] [] post) : ∀ (n : Nat) (i3 : Int) (σ : MS) , (WT T σ) → (FrC T [] σ0 σ) → (0 ≤ i3 ∧ i3 ≤ 2147483647) → (2147483700 - i3).toNat = n → Tn (d + 4) m_X8_findOdds 48 T σ [(0, .ref a), (1, .ref rx1), (2, .int (iI c2)), (3, .int (iI i3))] [] post := by
  intro n
  induction n using Nat.strongRecOn with
  | _ n ih =>
    intro i3 σ hw hF r_i3 hm
    refine tn_iload_n dX8_findOdds_48 rfl 3 rfl ?_
    refine tn_aload_n dX8_findOdds_49 rfl 1 rfl ?_
    refine tn_getI (ci := 1) (i := 1) (n := 6) (t := σ0.2.1 6 rx1) dX8_findOdds_50 rfl lay_1 (by decide) fl8_70 h_rx1 rfl rfl (rc_F hF (Or.inl (by decide)) (by decide) (rfl)) ?_
    have g1 : ((0 : Int) ≤ σ0.2.1 6 rx1 ∧ σ0.2.1 6 rx1 ≤ 5000) ∧ ((T rx1).1 = 50 → σ0.2.1 6 rx1 ≤ 200) := wf_6 hw0 h_rx1
    have g1x := g1.2
    replace g1 := g1.1
    have g1x := g1x t_rx1
    refine tn_icmp_ge (tgt := 92) dX8_findOdds_53 (by decide) ⟨by omega, by omega⟩ ⟨by omega, by omega⟩ (fun h2 => ?_) (fun h2 => ?_)
    · exact tn_sub [0, 1, 2, 3] rfl (hx_92 (i3) σ hw (FrC.rfl.trans (FrC.sub hF (by decide))) (by omega))
    · refine tn_aload_n dX8_findOdds_56 rfl 1 rfl ?_
      refine tn_iload_n dX8_findOdds_57 rfl 3 rfl ?_
      refine tn_callV (M := m_X8_findOdds) (pc := 58) (ix := 120) (ci := 1) (M' := m_X1_writtenBy) (As := [.int (iI i3)]) (rest := []) dX8_findOdds_58 ok_X1_writtenBy im_X1_writtenBy se_X1_writtenBy ml8_120 np_X1_writtenBy rfl rfl h_rx1 rfl (Nat.le_of_ble_eq_true rfl) (Nat.le_of_ble_eq_true rfl) rfl (k_X1_writtenBy (d + 1) (T := T) (σ := σ) (a := rx1) (k := i3) h_rx1 (by omega) hw ) (fun r3 T5 σ4 gt6 hp => ?_)
      obtain ⟨v8, rfl, rfl, rfl, f7⟩ := hp
      clear gt6
      show Tn _ _ 61 T σ [(0, .ref a), (1, .ref rx1), (2, .int (iI c2)), (3, .int (iI i3))] [.int (iI v8)] _
      refine tn_istore (L' := [(4, .int (iI v8)), (0, .ref a), (1, .ref rx1), (2, .int (iI c2)), (3, .int (iI i3))]) dX8_findOdds_61 (by decide) rfl ?_
      refine tn_iload dX8_findOdds_63 0 rfl ?_
      refine tn_iconst dX8_findOdds_65 ?_
      refine tn_icmp_eq (tgt := 86) dX8_findOdds_66 (by decide) ⟨by omega, by omega⟩ ⟨by decide, by decide⟩ (fun h9 => ?_) (fun h9 => ?_)
      · refine tn_iinc (q0 := 4) (L' := [(3, .int (iI (i3 + 1))), (4, .int (iI v8)), (0, .ref a), (1, .ref rx1), (2, .int (iI c2))]) dX8_findOdds_86 rfl (by decide) rfl ?_
        refine tn_goto (tgt := 48) dX8_findOdds_89 (by decide) ?_
        exact tn_sub [2, 3, 4, 0] rfl (ih _ (by omega) (i3 + 1) σ hw (FrC.rfl.trans (FrC.sub hF (by decide))) (by omega) rfl)
      · refine tn_aload_n dX8_findOdds_69 rfl 1 rfl ?_
        refine tn_aload_n dX8_findOdds_70 rfl 1 rfl ?_
        obtain ⟨x10, hx11, hk12⟩ : ∃ x : Nat, σ0.2.1 72 a = (x : Int) ∧ (T x).1 = 33 := wf_72 hw0 h_a
        have hk12o : OB T x10 3 := ⟨by omega, by rw [hk12]; rfl, by omega⟩
        refine tn_getR (ci := 8) (i := 0) (n := 72) (x := x10) dX8_findOdds_71 rfl lay_8 (by decide) fl8_34 h_a rfl rfl (rc_F hF (Or.inl (by decide)) (by decide) (hx11)) ?_
        obtain ⟨x14, hx15, hk16, hl17⟩ : ∃ x : Nat, σ0.2.1 18 x10 = (x : Int) ∧ AR T x 3 603 603 := wf_18 hw0 hk12o
        refine tn_getR (ci := 3) (i := 0) (n := 18) (x := x14) dX8_findOdds_74 rfl lay_3 (by decide) fl8_89 hk12o rfl rfl (rc_F hF (Or.inl (by decide)) (by decide) (hx15)) ?_
        refine tn_iload_n dX8_findOdds_77 rfl 4 rfl ?_
        refine tn_iconst dX8_findOdds_78 ?_
        refine tn_iadd dX8_findOdds_79 ?_
        refine tn_iload dX8_findOdds_80 0 rfl ?_
        refine tn_iload_n dX8_findOdds_82 rfl 3 rfl ?_
        refine tn_callV (M := m_X8_findOdds) (pc := 83) (ix := 116) (ci := 8) (M' := m_X8_addOdds) (As := [.ref x14, .int (iI (i3 + 1)), .int (iI v8), .int (iI c2)]) (rest := []) dX8_findOdds_83 ok_X8_addOdds im_X8_addOdds se_X8_addOdds ml8_116 np_X8_addOdds rfl rfl h_a rfl (Nat.le_of_ble_eq_true rfl) (Nat.le_of_ble_eq_true rfl) rfl (k_X8_addOdds (d) (T := T) (σ := σ) (a := a) (p1 := x14) (p2 := i3 + 1) (p3 := v8) (p4 := c2) h_a hk16 (by omega) (by omega) (by omega) (by omega) hw ) (fun r18 T20 σ19 gt21 hp => ?_)
        obtain ⟨rfl, rfl, w23, F24⟩ := hp
        clear gt21
        show Tn _ _ 86 T σ19 [(4, .int (iI v8)), (0, .ref a), (1, .ref rx1), (2, .int (iI c2)), (3, .int (iI i3))] [] _
        refine tn_iinc (q0 := 4) (L' := [(3, .int (iI (i3 + 1))), (4, .int (iI v8)), (0, .ref a), (1, .ref rx1), (2, .int (iI c2))]) dX8_findOdds_86 rfl (by decide) rfl ?_
        refine tn_goto (tgt := 48) dX8_findOdds_89 (by decide) ?_
        exact tn_sub [2, 3, 4, 0] rfl (ih _ (by omega) (i3 + 1) σ19 w23 ((FrC.rfl.trans (FrC.sub hF (by decide))).trans (FrC.sub F24 (by decide))) (by omega) rfl)
theorem dX8_findOdds_92 : decode cX8_findOdds 92 = .ok (.return_, 1) := by decide +kernel
set_option maxRecDepth 20000 in
theorem k_X8_findOdds (d : Nat) {T : CT} {σ : MS} {a : Nat} {p1 : Nat} {p2 : Int} (ha : OB T a 8) (h_p1 : OB T p1 1) (t_p1 : (T p1).1 = 50) (h_p2 : -2147483648 ≤ p2 ∧ p2 ≤ 2147483647) (hw : WT T σ) : Tn (d + 4) m_X8_findOdds 0 T σ [(0, .ref a), (1, .ref p1), (2, .int (iI p2))] [] (fun ro T2 σ2 => ro = none ∧ T = T2 ∧ WT T2 σ2 ∧ FrC T [] σ σ2) := by
  refine tn_aload_n dX8_findOdds_0 rfl 0 rfl ?_
  obtain ⟨x1, hx2, hk3, hl4⟩ : ∃ x : Nat, σ.2.1 73 a = (x : Int) ∧ AR T x 3 576 576 := wf_73 hw ha
  refine tn_getR (ci := 8) (i := 1) (n := 73) (x := x1) dX8_findOdds_1 rfl lay_8 (by decide) fl8_9 ha rfl rfl (hx2) ?_
  refine tn_iload_n dX8_findOdds_4 rfl 2 rfl ?_
  refine tn_iconst dX8_findOdds_5 ?_
  refine tn_imul dX8_findOdds_6 ?_
  refine tn_any (fun z5 g6 => ?_)
  have g6r : -2147483648 ≤ z5 ∧ z5 ≤ 2147483647 := g6
  refine tn_callSN (M := m_X8_findOdds) (pc := 7) (ix := 108) (M' := m_X11_clear) (As := [.ref x1, .int (iI z5)]) (rest := []) dX8_findOdds_7 ok_X11_clear stt_X11_clear nl8_108 np_X11_clear rfl (Nat.le_of_ble_eq_true rfl) (Nat.le_of_ble_eq_true rfl) rfl (k_X11_clear (d) (T := T) (σ := σ) (x := x1) (n := z5) hk3 (by omega) (by omega) hw ) (fun r7 T9 σ8 gt10 hp => ?_)
  obtain ⟨rfl, rfl, w12, F13⟩ := hp
  clear gt10
  show Tn _ _ 10 T σ8 [(0, .ref a), (1, .ref p1), (2, .int (iI p2))] [] _
  refine tn_iconst dX8_findOdds_10 ?_
  refine tn_istore_n (L' := [(3, .int (iI 0)), (0, .ref a), (1, .ref p1), (2, .int (iI p2))]) dX8_findOdds_11 rfl (by decide) rfl ?_
  refine tn_sub [1, 2, 3, 0] rfl (l_X8_findOdds_12 (d) (T := T) (σ0 := σ8) (a := a) (rx1 := p1) (c2 := p2) ha h_p1 t_p1 (by omega) w12 (fun i314 σ15 w18 F19 r20 => ?_) _ (0) σ8 w12 FrC.rfl (by omega) rfl)
  show Tn _ _ 46 T σ15 [(0, .ref a), (1, .ref p1), (2, .int (iI p2)), (3, .int (iI i314))] [] _
  refine tn_iconst dX8_findOdds_46 ?_
  refine tn_istore_n (L' := [(3, .int (iI 0)), (0, .ref a), (1, .ref p1), (2, .int (iI p2))]) dX8_findOdds_47 rfl (by decide) rfl ?_
  refine tn_sub [1, 2, 3, 0] rfl (l_X8_findOdds_48 (d) (T := T) (σ0 := σ15) (a := a) (rx1 := p1) (c2 := p2) ha h_p1 t_p1 (by omega) w18 (fun i321 σ22 w25 F26 r27 => ?_) _ (0) σ15 w18 FrC.rfl (by omega) rfl)
  show Tn _ _ 92 T σ22 [(0, .ref a), (1, .ref p1), (2, .int (iI p2)), (3, .int (iI i321))] [] _
  exact tn_vret rfl dX8_findOdds_92 ⟨rfl, rfl, w25, (((FrC.rfl.trans (FrC.sub F13 (by decide))).trans (FrC.sub F19 (by decide))).trans (FrC.sub F26 (by decide)))⟩
