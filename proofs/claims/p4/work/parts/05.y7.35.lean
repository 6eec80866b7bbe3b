theorem cd_X8_findLatest : Cond.code yX8_findLatest cX8_findLatest 4 none ∈ pWW := pw5 (List.mem_of_getElem? (i := 237) rfl) rfl
abbrev m_X8_findLatest : MT := (yX8_findLatest, cX8_findLatest, 4, none)
theorem ok_X8_findLatest : pOk m_X8_findLatest := ⟨⟨cd_X8_findLatest, ini_8⟩, by decide +kernel, ⟨by decide +kernel, by decide +kernel⟩, Nat.le_of_ble_eq_true rfl⟩
theorem np_X8_findLatest : (parseMethodDescriptor yX8_findLatest.desc).map (fun d => d.parameters.length) = some 1 := by decide +kernel
theorem im_X8_findLatest : Cond.instanceMethod yX8_findLatest ∈ pWW := pw5 (List.mem_of_getElem? (i := 236) rfl) rfl
theorem se_X8_findLatest : Cond.selects RX8 yX8_findLatest yX8_findLatest ∈ pWW := pws (List.mem_map.mpr ⟨_, lw_pin 80 rfl, rfl⟩) rfl
theorem ml8_136 : Cond.methodLink RX8 136 yJ7_fill_53178 ∈ pWW := pw5 (List.mem_of_getElem? (i := 238) rfl) rfl
theorem cst8_146 : Cond.constant RX8 146 (1000000) ∈ pWW := pw5 (List.mem_of_getElem? (i := 239) rfl) rfl
theorem ml8_147 : Cond.methodLink RX8 147 yX8_goThrough ∈ pWW := pw6 (List.mem_of_getElem? (i := 1) rfl) rfl
theorem dX8_findLatest_0 : decode cX8_findLatest 0 = .ok (.aload_n 0, 1) := by decide +kernel
theorem dX8_findLatest_1 : decode cX8_findLatest 1 = .ok (.getfield 28, 3) := by decide +kernel
theorem dX8_findLatest_4 : decode cX8_findLatest 4 = .ok (.iconst 0, 1) := by decide +kernel
theorem dX8_findLatest_5 : decode cX8_findLatest 5 = .ok (.invokestatic 136, 3) := by decide +kernel
theorem dX8_findLatest_8 : decode cX8_findLatest 8 = .ok (.aload_n 0, 1) := by decide +kernel
theorem dX8_findLatest_9 : decode cX8_findLatest 9 = .ok (.getfield 15, 3) := by decide +kernel
theorem dX8_findLatest_12 : decode cX8_findLatest 12 = .ok (.iconst 0, 1) := by decide +kernel
theorem dX8_findLatest_13 : decode cX8_findLatest 13 = .ok (.aload_n 0, 1) := by decide +kernel
theorem dX8_findLatest_14 : decode cX8_findLatest 14 = .ok (.getfield 25, 3) := by decide +kernel
theorem dX8_findLatest_17 : decode cX8_findLatest 17 = .ok (.iconst 0, 1) := by decide +kernel
theorem dX8_findLatest_18 : decode cX8_findLatest 18 = .ok (.iconst 3, 1) := by decide +kernel
theorem dX8_findLatest_19 : decode cX8_findLatest 19 = .ok (.invokestatic 92, 3) := by decide +kernel
theorem dX8_findLatest_22 : decode cX8_findLatest 22 = .ok (.aload_n 0, 1) := by decide +kernel
theorem dX8_findLatest_23 : decode cX8_findLatest 23 = .ok (.getfield 28, 3) := by decide +kernel
theorem dX8_findLatest_26 : decode cX8_findLatest 26 = .ok (.iconst 0, 1) := by decide +kernel
theorem dX8_findLatest_27 : decode cX8_findLatest 27 = .ok (.iconst 1, 1) := by decide +kernel
theorem dX8_findLatest_28 : decode cX8_findLatest 28 = .ok (.invokestatic 128, 3) := by decide +kernel
theorem dX8_findLatest_31 : decode cX8_findLatest 31 = .ok (.aload_n 0, 1) := by decide +kernel
theorem dX8_findLatest_32 : decode cX8_findLatest 32 = .ok (.iconst 1, 1) := by decide +kernel
theorem dX8_findLatest_33 : decode cX8_findLatest 33 = .ok (.putfield 142, 3) := by decide +kernel
theorem dX8_findLatest_36 : decode cX8_findLatest 36 = .ok (.iconst 0, 1) := by decide +kernel
theorem dX8_findLatest_37 : decode cX8_findLatest 37 = .ok (.istore_n 2, 1) := by decide +kernel
theorem dX8_findLatest_38 : decode cX8_findLatest 38 = .ok (.aload_n 0, 1) := by decide +kernel
theorem dX8_findLatest_39 : decode cX8_findLatest 39 = .ok (.getfield 142, 3) := by decide +kernel
theorem dX8_findLatest_42 : decode cX8_findLatest 42 = .ok (.ifCond .eq 53, 3) := by decide +kernel
theorem dX8_findLatest_45 : decode cX8_findLatest 45 = .ok (.iload_n 2, 1) := by decide +kernel
theorem dX8_findLatest_46 : decode cX8_findLatest 46 = .ok (.ldc 146, 2) := by decide +kernel
theorem dX8_findLatest_48 : decode cX8_findLatest 48 = .ok (.if_icmp .ge 47, 3) := by decide +kernel
theorem dX8_findLatest_51 : decode cX8_findLatest 51 = .ok (.aload_n 0, 1) := by decide +kernel
theorem dX8_findLatest_52 : decode cX8_findLatest 52 = .ok (.iconst 0, 1) := by decide +kernel
theorem dX8_findLatest_53 : decode cX8_findLatest 53 = .ok (.putfield 142, 3) := by decide +kernel
theorem dX8_findLatest_56 : decode cX8_findLatest 56 = .ok (.iconst 0, 1) := by decide +kernel
theorem dX8_findLatest_57 : decode cX8_findLatest 57 = .ok (.istore_n 3, 1) := by decide +kernel
theorem dX8_findLatest_58 : decode cX8_findLatest 58 = .ok (.iload_n 3, 1) := by decide +kernel
theorem dX8_findLatest_59 : decode cX8_findLatest 59 = .ok (.aload_n 1, 1) := by decide +kernel
theorem dX8_findLatest_60 : decode cX8_findLatest 60 = .ok (.getfield 70, 3) := by decide +kernel
theorem dX8_findLatest_63 : decode cX8_findLatest 63 = .ok (.if_icmp .ge 26, 3) := by decide +kernel
theorem dX8_findLatest_66 : decode cX8_findLatest 66 = .ok (.aload_n 0, 1) := by decide +kernel
theorem dX8_findLatest_67 : decode cX8_findLatest 67 = .ok (.getfield 28, 3) := by decide +kernel
theorem dX8_findLatest_70 : decode cX8_findLatest 70 = .ok (.iload_n 3, 1) := by decide +kernel
theorem dX8_findLatest_71 : decode cX8_findLatest 71 = .ok (.invokestatic 74, 3) := by decide +kernel
theorem dX8_findLatest_74 : decode cX8_findLatest 74 = .ok (.ifCond .eq 9, 3) := by decide +kernel
theorem dX8_findLatest_83 : decode cX8_findLatest 83 = .ok (.iinc 3 1, 3) := by decide +kernel
theorem dX8_findLatest_86 : decode cX8_findLatest 86 = .ok (.goto (-28), 3) := by decide +kernel
theorem dX8_findLatest_77 : decode cX8_findLatest 77 = .ok (.aload_n 0, 1) := by decide +kernel
theorem dX8_findLatest_78 : decode cX8_findLatest 78 = .ok (.aload_n 1, 1) := by decide +kernel
theorem dX8_findLatest_79 : decode cX8_findLatest 79 = .ok (.iload_n 3, 1) := by decide +kernel
theorem dX8_findLatest_80 : decode cX8_findLatest 80 = .ok (.invokevirtual 147, 3) := by decide +kernel
set_option maxRecDepth 20000 in
theorem l_X8_findLatest_58 (d : Nat) {T : CT} {σ0 : MS} {a : Nat} {rx1 : Nat} {c2 : Int} {post : Option Value → CT → MS → Prop} (h_a : OB T a 8) (h_rx1 : OB T rx1 1) (t_rx1 : (T rx1).1 = 50) (r_c2 : 0 ≤ c2 ∧ c2 ≤ 999999) (hw0 : WT T σ0) (hx_89 : ∀ (i3 : Int) (σ : MS) , (WT T σ) → (FrC T [80] σ0 σ) → (0 ≤ i3 ∧ i3 ≤ 2147483647) → Tn (d + 4) m_X8_findLatest 89 T σ [(0, .ref a), (1, .ref rx1), (2, .int (iI c2)), (3, .int (iI i3))] [] post) : ∀ (n : Nat) (i3 : Int) (σ : MS) , (WT T σ) → (FrC T [80] σ0 σ) → (0 ≤ i3 ∧ i3 ≤ 2147483647) → (2147483700 - i3).toNat = n → Tn (d + 4) m_X8_findLatest 58 T σ [(0, .ref a), (1, .ref rx1), (2, .int (iI c2)), (3, .int (iI i3))] [] post := by
  intro n
  induction n using Nat.strongRecOn with
  | _ n ih =>
    intro i3 σ hw hF r_i3 hm
    refine tn_iload_n dX8_findLatest_58 rfl 3 rfl ?_
    refine tn_aload_n dX8_findLatest_59 rfl 1 rfl ?_
    refine tn_getI (ci := 1) (i := 1) (n := 6) (t := σ0.2.1 6 rx1) dX8_findLatest_60 rfl lay_1 (by decide) fl8_70 h_rx1 rfl rfl (rc_F hF (Or.inl (by decide)) (by decide) (rfl)) ?_
    have g1 : ((0 : Int) ≤ σ0.2.1 6 rx1 ∧ σ0.2.1 6 rx1 ≤ 5000) ∧ ((T rx1).1 = 50 → σ0.2.1 6 rx1 ≤ 200) := wf_6 hw0 h_rx1
    have g1x := g1.2
    replace g1 := g1.1
    have g1x := g1x t_rx1
    refine tn_icmp_ge (tgt := 89) dX8_findLatest_63 (by decide) ⟨by omega, by omega⟩ ⟨by omega, by omega⟩ (fun h2 => ?_) (fun h2 => ?_)
    · exact tn_sub [0, 1, 2, 3] rfl (hx_89 (i3) σ hw (FrC.rfl.trans (FrC.sub hF (by decide))) (by omega))
    · refine tn_aload_n dX8_findLatest_66 rfl 0 rfl ?_
      obtain ⟨x3, hx4, hk5, hl6⟩ : ∃ x : Nat, σ0.2.1 78 a = (x : Int) ∧ AR T x 1 201 201 := wf_78 hw0 h_a
      have hk5i : IA T x3 := by unfold IA; omega
      refine tn_getR (ci := 8) (i := 6) (n := 78) (x := x3) dX8_findLatest_67 rfl lay_8 (by decide) fl8_28 h_a rfl rfl (rc_F hF (Or.inl (by decide)) (by decide) (hx4)) ?_
      refine tn_iload_n dX8_findLatest_70 rfl 3 rfl ?_
      refine tn_callSN (M := m_X8_findLatest) (pc := 71) (ix := 74) (M' := m_X11_at) (As := [.ref x3, .int (iI i3)]) (rest := []) dX8_findLatest_71 ok_X11_at stt_X11_at nl8_74 np_X11_at rfl (Nat.le_of_ble_eq_true rfl) (Nat.le_of_ble_eq_true rfl) rfl (k_X11_at (d + 2) (T := T) (σ := σ) (x := x3) (i := i3) hk5i (by omega) (by omega) hw ) (fun r7 T9 σ8 gt10 hp => ?_)
      obtain ⟨v14, rfl, rfl, rfl, f11, f12, f13⟩ := hp
      clear gt10
      clear f12 f13
      show Tn _ _ 74 T σ [(0, .ref a), (1, .ref rx1), (2, .int (iI c2)), (3, .int (iI i3))] [.int (iI v14)] _
      refine tn_if_eq (tgt := 83) dX8_findLatest_74 (by decide) ⟨by omega, by omega⟩ (fun h15 => ?_) (fun h15 => ?_)
      · refine tn_iinc (q0 := 3) (L' := [(3, .int (iI (i3 + 1))), (0, .ref a), (1, .ref rx1), (2, .int (iI c2))]) dX8_findLatest_83 rfl (by decide) rfl ?_
        refine tn_goto (tgt := 58) dX8_findLatest_86 (by decide) ?_
        exact tn_sub [1, 2, 3, 0] rfl (ih _ (by omega) (i3 + 1) σ hw (FrC.rfl.trans (FrC.sub hF (by decide))) (by omega) rfl)
      · refine tn_aload_n dX8_findLatest_77 rfl 0 rfl ?_
        refine tn_aload_n dX8_findLatest_78 rfl 1 rfl ?_
        refine tn_iload_n dX8_findLatest_79 rfl 3 rfl ?_
        refine tn_callV (M := m_X8_findLatest) (pc := 80) (ix := 147) (ci := 8) (M' := m_X8_goThrough) (As := [.ref rx1, .int (iI i3)]) (rest := []) dX8_findLatest_80 ok_X8_goThrough im_X8_goThrough se_X8_goThrough ml8_147 np_X8_goThrough rfl rfl h_a rfl (Nat.le_of_ble_eq_true rfl) (Nat.le_of_ble_eq_true rfl) rfl (k_X8_goThrough (d) (T := T) (σ := σ) (a := a) (p1 := rx1) (p2 := i3) h_a h_rx1 t_rx1 (by omega) hw ) (fun r16 T18 σ17 gt19 hp => ?_)
        obtain ⟨rfl, rfl, w21, F22⟩ := hp
        clear gt19
        show Tn _ _ 83 T σ17 [(0, .ref a), (1, .ref rx1), (2, .int (iI c2)), (3, .int (iI i3))] [] _
        refine tn_iinc (q0 := 3) (L' := [(3, .int (iI (i3 + 1))), (0, .ref a), (1, .ref rx1), (2, .int (iI c2))]) dX8_findLatest_83 rfl (by decide) rfl ?_
        refine tn_goto (tgt := 58) dX8_findLatest_86 (by decide) ?_
        exact tn_sub [1, 2, 3, 0] rfl (ih _ (by omega) (i3 + 1) σ17 w21 ((FrC.rfl.trans (FrC.sub hF (by decide))).trans (FrC.sub F22 (by decide))) (by omega) rfl)
theorem dX8_findLatest_89 : decode cX8_findLatest 89 = .ok (.iinc 2 1, 3) := by decide +kernel
theorem dX8_findLatest_92 : decode cX8_findLatest 92 = .ok (.goto (-54), 3) := by decide +kernel
set_option maxRecDepth 20000 in
theorem l_X8_findLatest_38 (d : Nat) {T : CT} {σ0 : MS} {a : Nat} {rx1 : Nat} {post : Option Value → CT → MS → Prop} (h_a : OB T a 8) (h_rx1 : OB T rx1 1) (t_rx1 : (T rx1).1 = 50) (hw0 : WT T σ0) (hx_95 : ∀ (i2 : Int) (σ : MS) , (WT T σ) → (FrC T [80] σ0 σ) → (0 ≤ i2 ∧ i2 ≤ 2147483647) → Tn (d + 4) m_X8_findLatest 95 T σ [(0, .ref a), (1, .ref rx1), (2, .int (iI i2))] [] post) : ∀ (n : Nat) (i2 : Int) (σ : MS) , (WT T σ) → (FrC T [80] σ0 σ) → (0 ≤ i2 ∧ i2 ≤ 2147483647) → (2147483700 - i2).toNat = n → Tn (d + 4) m_X8_findLatest 38 T σ [(0, .ref a), (1, .ref rx1), (2, .int (iI i2))] [] post := by
  intro n
  induction n using Nat.strongRecOn with
  | _ n ih =>
    intro i2 σ hw hF r_i2 hm
    refine tn_aload_n dX8_findLatest_38 rfl 0 rfl ?_
    refine tn_getI (ci := 8) (i := 8) (n := 80) (t := σ.2.1 80 a) dX8_findLatest_39 rfl lay_8 (by decide) fl8_142 h_a rfl rfl (rfl) ?_
    have g1 : ((0 : Int) ≤ σ.2.1 80 a ∧ σ.2.1 80 a ≤ 1) := wf_80 hw h_a
    refine tn_if_eq (tgt := 95) dX8_findLatest_42 (by decide) ⟨by omega, by omega⟩ (fun h2 => ?_) (fun h2 => ?_)
    · exact tn_sub [0, 1, 2] rfl (hx_95 (i2) σ hw (FrC.rfl.trans (FrC.sub hF (by decide))) (by omega))
    · refine tn_iload_n dX8_findLatest_45 rfl 2 rfl ?_
      refine tn_ldc (n := 1000000) dX8_findLatest_46 cst8_146 rfl ?_
      refine tn_icmp_ge (tgt := 95) dX8_findLatest_48 (by decide) ⟨by omega, by omega⟩ ⟨by decide, by decide⟩ (fun h3 => ?_) (fun h3 => ?_)
      · exact tn_sub [0, 1, 2] rfl (hx_95 (i2) σ hw (FrC.rfl.trans (FrC.sub hF (by decide))) (by omega))
      · refine tn_aload_n dX8_findLatest_51 rfl 0 rfl ?_
        refine tn_iconst dX8_findLatest_52 ?_
        refine tn_putV (ci := 8) (i := 8) (n := 80) (r := false) (v := 0) tyX8 tyX8_ok nmX8 dX8_findLatest_53 rfl lay_8 (by decide) fl8_142 rfl (tyX8_ok 8 (by decide)) rfl rfl rfl h_a rfl rfl ?_
        refine tn_iconst dX8_findLatest_56 ?_
        refine tn_istore_n (L' := [(3, .int (iI 0)), (0, .ref a), (1, .ref rx1), (2, .int (iI i2))]) dX8_findLatest_57 rfl (by decide) rfl ?_
        refine tn_sub [1, 2, 3, 0] rfl (l_X8_findLatest_58 (d) (T := T) (σ0 := (sA 80 a (0) σ)) (a := a) (rx1 := rx1) (c2 := i2) h_a h_rx1 t_rx1 (by omega) (hw.put (by decide) (by decide) (fo_80 (by omega))) (fun i34 σ5 w8 F9 r10 => ?_) _ (0) (sA 80 a (0) σ) (hw.put (by decide) (by decide) (fo_80 (by omega))) FrC.rfl (by omega) rfl)
        show Tn _ _ 89 T σ5 [(0, .ref a), (1, .ref rx1), (2, .int (iI i2)), (3, .int (iI i34))] [] _
        refine tn_iinc (q0 := 2) (L' := [(2, .int (iI (i2 + 1))), (0, .ref a), (1, .ref rx1), (3, .int (iI i34))]) dX8_findLatest_89 rfl (by decide) rfl ?_
        refine tn_goto (tgt := 38) dX8_findLatest_92 (by decide) ?_
        exact tn_sub [1, 2, 0] rfl (ih _ (by omega) (i2 + 1) σ5 w8 (((FrC.rfl.trans (FrC.sub hF (by decide))).put (by decide) (by decide)).trans (FrC.sub F9 (by decide))) (by omega) rfl)
theorem dX8_findLatest_95 : decode cX8_findLatest 95 = .ok (.return_, 1) := by decide +kernel
set_option maxRecDepth 20000 in
theorem k_X8_findLatest (d : Nat) {T : CT} {σ : MS} {a : Nat} {p1 : Nat} (ha : OB T a 8) (h_p1 : OB T p1 1) (t_p1 : (T p1).1 = 50) (hw : WT T σ) : Tn (d + 4) m_X8_findLatest 0 T σ [(0, .ref a), (1, .ref p1)] [] (fun ro T2 σ2 => ro = none ∧ T = T2 ∧ WT T2 σ2 ∧ FrC T [80] σ σ2) := by
  refine tn_aload_n dX8_findLatest_0 rfl 0 rfl ?_
  obtain ⟨x1, hx2, hk3, hl4⟩ : ∃ x : Nat, σ.2.1 78 a = (x : Int) ∧ AR T x 1 201 201 := wf_78 hw ha
  have hk3i : IA T x1 := by unfold IA; omega
  refine tn_getR (ci := 8) (i := 6) (n := 78) (x := x1) dX8_findLatest_1 rfl lay_8 (by decide) fl8_28 ha rfl rfl (hx2) ?_
  refine tn_iconst dX8_findLatest_4 ?_
  refine tn_callS (M := m_X8_findLatest) (pc := 5) (ix := 136) (M' := m_J7_fill_53178) (As := [.ref x1, .int (iI 0)]) (rest := []) dX8_findLatest_5 ok_J7_fill_53178 stt_J7_fill_53178 ml8_136 np_J7_fill_53178 rfl (Nat.le_of_ble_eq_true rfl) (Nat.le_of_ble_eq_true rfl) rfl (k_J7_fill_53178 (d + 2) (T := T) (σ := σ) (x := x1) (y := 0) hk3i (by omega) (by decide) hw (nh_k hk3 (by unfold HT; omega)) (by omega)) (fun r5 T7 σ6 gt8 hp => ?_)
  obtain ⟨rfl, rfl, w10, F11⟩ := hp
  clear gt8
  show Tn _ _ 8 T σ6 [(0, .ref a), (1, .ref p1)] [] _
  refine tn_aload_n dX8_findLatest_8 rfl 0 rfl ?_
  obtain ⟨x12, hx13, hk14, hl15⟩ : ∃ x : Nat, σ.2.1 74 a = (x : Int) ∧ AR T x 3 3 3 := wf_74 hw ha
  refine tn_getR (ci := 8) (i := 2) (n := 74) (x := x12) dX8_findLatest_9 rfl lay_8 (by decide) fl8_15 ha rfl rfl (rc_F F11 (Or.inl (by decide)) (by decide) (hx13)) ?_
  refine tn_iconst dX8_findLatest_12 ?_
  refine tn_aload_n dX8_findLatest_13 rfl 0 rfl ?_
  obtain ⟨x16, hx17, hk18, hl19⟩ : ∃ x : Nat, σ.2.1 77 a = (x : Int) ∧ AR T x 3 603 603 := wf_77 hw ha
  refine tn_getR (ci := 8) (i := 5) (n := 77) (x := x16) dX8_findLatest_14 rfl lay_8 (by decide) fl8_25 ha rfl rfl (rc_F F11 (Or.inl (by decide)) (by decide) (hx17)) ?_
  refine tn_iconst dX8_findLatest_17 ?_
  refine tn_iconst dX8_findLatest_18 ?_
  refine tn_acopyL (a := x12) (b := x16) (sp := 0) (dp := 0) (n := 3) dX8_findLatest_19 mla8_92 acNat acSt acIni hk14 hk18 ⟨by omega, by omega⟩ (by omega) (by omega) (by omega) (by omega) (by omega) (by omega) (Nat.le_of_ble_eq_true rfl) (fun fl20 => ?_)
  skip
  refine tn_aload_n dX8_findLatest_22 rfl 0 rfl ?_
  refine tn_getR (ci := 8) (i := 6) (n := 78) (x := x1) dX8_findLatest_23 rfl lay_8 (by decide) fl8_28 ha rfl rfl ((rc_F F11 (Or.inl (by decide)) (by decide) (hx2))) ?_
  refine tn_iconst dX8_findLatest_26 ?_
  refine tn_iconst dX8_findLatest_27 ?_
  refine tn_callSN (M := m_X8_findLatest) (pc := 28) (ix := 128) (M' := m_X11_put) (As := [.ref x1, .int (iI 0), .int (iI 1)]) (rest := []) dX8_findLatest_28 ok_X11_put stt_X11_put nl8_128 np_X11_put rfl (Nat.le_of_ble_eq_true rfl) (Nat.le_of_ble_eq_true rfl) rfl (k_X11_put (d + 2) (T := T) (σ := (rowL x16 fl20 σ6)) (x := x1) (i := 0) (y := 1) hk3i (by omega) (by decide) (by decide) (w10.rowL) (nh_k hk3 (by unfold HT; omega)) (vok_1 (by have q9 := hk3; omega) (by omega))) (fun r21 T23 σ22 gt24 hp => ?_)
  obtain ⟨rfl, rfl, w26, F27⟩ := hp
  clear gt24
  show Tn _ _ 31 T σ22 [(0, .ref a), (1, .ref p1)] [] _
  refine tn_aload_n dX8_findLatest_31 rfl 0 rfl ?_
  refine tn_iconst dX8_findLatest_32 ?_
  refine tn_putV (ci := 8) (i := 8) (n := 80) (r := false) (v := 1) tyX8 tyX8_ok nmX8 dX8_findLatest_33 rfl lay_8 (by decide) fl8_142 rfl (tyX8_ok 8 (by decide)) rfl rfl rfl ha rfl rfl ?_
  refine tn_iconst dX8_findLatest_36 ?_
  refine tn_istore_n (L' := [(2, .int (iI 0)), (0, .ref a), (1, .ref p1)]) dX8_findLatest_37 rfl (by decide) rfl ?_
  refine tn_sub [1, 2, 0] rfl (l_X8_findLatest_38 (d) (T := T) (σ0 := (sA 80 a (1) σ22)) (a := a) (rx1 := p1) ha h_p1 t_p1 (w26.put (by decide) (by decide) (fo_80 (by omega))) (fun i228 σ29 w32 F33 r34 => ?_) _ (0) (sA 80 a (1) σ22) (w26.put (by decide) (by decide) (fo_80 (by omega))) FrC.rfl (by omega) rfl)
  show Tn _ _ 95 T σ29 [(0, .ref a), (1, .ref p1), (2, .int (iI i228))] [] _
  exact tn_vret rfl dX8_findLatest_95 ⟨rfl, rfl, w32, (((((FrC.rfl.trans (FrC.sub F11 (by decide))).rowL).trans (FrC.sub F27 (by decide))).put (by decide) (by decide)).trans (FrC.sub F33 (by decide)))⟩
