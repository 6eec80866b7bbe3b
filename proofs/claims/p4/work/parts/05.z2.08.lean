theorem cd_X4_addBody : Cond.code yX4_addBody cX4_addBody 3 none ∈ pWW := pw5 (List.mem_of_getElem? (i := 189) rfl) rfl
abbrev m_X4_addBody : MT := (yX4_addBody, cX4_addBody, 3, none)
theorem ok_X4_addBody : pOk m_X4_addBody := ⟨⟨cd_X4_addBody, ini_4⟩, by decide +kernel, ⟨by decide +kernel, by decide +kernel⟩, Nat.le_of_ble_eq_true rfl⟩
theorem np_X4_addBody : (parseMethodDescriptor yX4_addBody.desc).map (fun d => d.parameters.length) = some 0 := by decide +kernel
theorem im_X4_addBody : Cond.instanceMethod yX4_addBody ∈ pWW := pw5 (List.mem_of_getElem? (i := 188) rfl) rfl
theorem se_X4_addBody : Cond.selects RX4 yX4_addBody yX4_addBody ∈ pWW := pws (List.mem_map.mpr ⟨_, lw_pin 72 rfl, rfl⟩) rfl
theorem ml4_157 : Cond.methodLink RX4 157 yX4_addItem ∈ pWW := pw5 (List.mem_of_getElem? (i := 190) rfl) rfl
theorem fl4_78 : Cond.fieldLink RX4 78 (TX4 8).1 (TX4 8).2.1 (TX4 8).2.2.1 ∈ pWW := pw2 (List.mem_of_getElem? (i := 69) rfl) rfl
theorem ml4_151 : Cond.methodLink RX4 151 yX4_addCopy ∈ pWW := pw5 (List.mem_of_getElem? (i := 181) rfl) rfl
theorem fl4_72 : Cond.fieldLink RX4 72 (TX4 7).1 (TX4 7).2.1 (TX4 7).2.2.1 ∈ pWW := pw2 (List.mem_of_getElem? (i := 68) rfl) rfl
theorem dX4_addBody_0 : decode cX4_addBody 0 = .ok (.iconst 0, 1) := by decide +kernel
theorem dX4_addBody_1 : decode cX4_addBody 1 = .ok (.istore_n 1, 1) := by decide +kernel
theorem dX4_addBody_2 : decode cX4_addBody 2 = .ok (.iload_n 1, 1) := by decide +kernel
theorem dX4_addBody_3 : decode cX4_addBody 3 = .ok (.aload_n 0, 1) := by decide +kernel
theorem dX4_addBody_4 : decode cX4_addBody 4 = .ok (.getfield 33, 3) := by decide +kernel
theorem dX4_addBody_7 : decode cX4_addBody 7 = .ok (.getfield 23, 3) := by decide +kernel
theorem dX4_addBody_10 : decode cX4_addBody 10 = .ok (.if_icmp .ge 84, 3) := by decide +kernel
theorem dX4_addBody_13 : decode cX4_addBody 13 = .ok (.aload_n 0, 1) := by decide +kernel
theorem dX4_addBody_14 : decode cX4_addBody 14 = .ok (.getfield 33, 3) := by decide +kernel
theorem dX4_addBody_17 : decode cX4_addBody 17 = .ok (.iload_n 1, 1) := by decide +kernel
theorem dX4_addBody_18 : decode cX4_addBody 18 = .ok (.iconst 0, 1) := by decide +kernel
theorem dX4_addBody_19 : decode cX4_addBody 19 = .ok (.invokevirtual 29, 3) := by decide +kernel
theorem dX4_addBody_22 : decode cX4_addBody 22 = .ok (.bipush 7, 2) := by decide +kernel
theorem dX4_addBody_24 : decode cX4_addBody 24 = .ok (.if_icmp .ne 59, 3) := by decide +kernel
theorem dX4_addBody_83 : decode cX4_addBody 83 = .ok (.aload_n 0, 1) := by decide +kernel
theorem dX4_addBody_84 : decode cX4_addBody 84 = .ok (.iload_n 1, 1) := by decide +kernel
theorem dX4_addBody_85 : decode cX4_addBody 85 = .ok (.invokevirtual 157, 3) := by decide +kernel
theorem dX4_addBody_88 : decode cX4_addBody 88 = .ok (.iinc 1 1, 3) := by decide +kernel
theorem dX4_addBody_91 : decode cX4_addBody 91 = .ok (.goto (-89), 3) := by decide +kernel
theorem dX4_addBody_27 : decode cX4_addBody 27 = .ok (.aload_n 0, 1) := by decide +kernel
theorem dX4_addBody_28 : decode cX4_addBody 28 = .ok (.getfield 33, 3) := by decide +kernel
theorem dX4_addBody_31 : decode cX4_addBody 31 = .ok (.iload_n 1, 1) := by decide +kernel
theorem dX4_addBody_32 : decode cX4_addBody 32 = .ok (.iconst 3, 1) := by decide +kernel
theorem dX4_addBody_33 : decode cX4_addBody 33 = .ok (.invokevirtual 29, 3) := by decide +kernel
theorem dX4_addBody_36 : decode cX4_addBody 36 = .ok (.istore_n 2, 1) := by decide +kernel
theorem dX4_addBody_37 : decode cX4_addBody 37 = .ok (.aload_n 0, 1) := by decide +kernel
theorem dX4_addBody_38 : decode cX4_addBody 38 = .ok (.aload_n 0, 1) := by decide +kernel
theorem dX4_addBody_39 : decode cX4_addBody 39 = .ok (.getfield 78, 3) := by decide +kernel
theorem dX4_addBody_42 : decode cX4_addBody 42 = .ok (.iload_n 2, 1) := by decide +kernel
theorem dX4_addBody_43 : decode cX4_addBody 43 = .ok (.aload_n 0, 1) := by decide +kernel
theorem dX4_addBody_44 : decode cX4_addBody 44 = .ok (.getfield 33, 3) := by decide +kernel
theorem dX4_addBody_47 : decode cX4_addBody 47 = .ok (.iload_n 1, 1) := by decide +kernel
theorem dX4_addBody_48 : decode cX4_addBody 48 = .ok (.iconst 4, 1) := by decide +kernel
theorem dX4_addBody_49 : decode cX4_addBody 49 = .ok (.invokevirtual 29, 3) := by decide +kernel
theorem dX4_addBody_52 : decode cX4_addBody 52 = .ok (.iload_n 2, 1) := by decide +kernel
theorem dX4_addBody_53 : decode cX4_addBody 53 = .ok (.iconst 2, 1) := by decide +kernel
theorem dX4_addBody_54 : decode cX4_addBody 54 = .ok (.if_icmp .ne 10, 3) := by decide +kernel
theorem dX4_addBody_64 : decode cX4_addBody 64 = .ok (.iconst 0, 1) := by decide +kernel
theorem dX4_addBody_65 : decode cX4_addBody 65 = .ok (.iadd, 1) := by decide +kernel
theorem dX4_addBody_66 : decode cX4_addBody 66 = .ok (.invokevirtual 151, 3) := by decide +kernel
theorem dX4_addBody_69 : decode cX4_addBody 69 = .ok (.aload_n 0, 1) := by decide +kernel
theorem dX4_addBody_70 : decode cX4_addBody 70 = .ok (.bipush 8, 2) := by decide +kernel
theorem dX4_addBody_72 : decode cX4_addBody 72 = .ok (.aload_n 0, 1) := by decide +kernel
theorem dX4_addBody_73 : decode cX4_addBody 73 = .ok (.getfield 72, 3) := by decide +kernel
theorem dX4_addBody_76 : decode cX4_addBody 76 = .ok (.iconst 0, 1) := by decide +kernel
theorem dX4_addBody_77 : decode cX4_addBody 77 = .ok (.invokevirtual 148, 3) := by decide +kernel
theorem dX4_addBody_80 : decode cX4_addBody 80 = .ok (.goto 8, 3) := by decide +kernel
theorem dX4_addBody_57 : decode cX4_addBody 57 = .ok (.aload_n 0, 1) := by decide +kernel
theorem dX4_addBody_58 : decode cX4_addBody 58 = .ok (.getfield 57, 3) := by decide +kernel
theorem dX4_addBody_61 : decode cX4_addBody 61 = .ok (.goto 4, 3) := by decide +kernel
set_option maxRecDepth 20000 in
theorem l_X4_addBody_2 (d : Nat) {T : CT} {σ0 : MS} {a : Nat} {post : Option Value → CT → MS → Prop} (h_a : OB T a 4) (hw0 : WT T σ0) (hh : 0 ≤ σ0.2.1 25 a) (hg : 0 ≤ σ0.2.1 26 a) (hx_94 : ∀ (i1 : Int) (σ : MS) , (WT T σ) → (FrC T [32] σ0 σ) → (0 ≤ i1 ∧ i1 ≤ 2147483647) → Tn (d + 4) m_X4_addBody 94 T σ [(0, .ref a), (1, .int (iI i1))] [] post) : ∀ (n : Nat) (i1 : Int) (σ : MS) , (WT T σ) → (FrC T [32] σ0 σ) → (0 ≤ i1 ∧ i1 ≤ 2147483647) → (2147483700 - i1).toNat = n → Tn (d + 4) m_X4_addBody 2 T σ [(0, .ref a), (1, .int (iI i1))] [] post := by
  intro n
  induction n using Nat.strongRecOn with
  | _ n ih =>
    intro i1 σ hw hF r_i1 hm
    refine tn_iload_n dX4_addBody_2 rfl 1 rfl ?_
    refine tn_aload_n dX4_addBody_3 rfl 0 rfl ?_
    have nn8 : 0 ≤ σ0.2.1 26 a := (by omega)
    obtain ⟨x5, hx6, hk7⟩ := (wf_26 hw0 h_a).resolve_left (by omega)
    have hk7o : OB T x5 1 := ⟨by omega, by rw [hk7]; rfl, by omega⟩
    refine tn_getR (ci := 4) (i := 3) (n := 26) (x := x5) dX4_addBody_4 rfl lay_4 (by decide) fl4_33 h_a rfl rfl (rc_F hF (Or.inl (by decide)) (by decide) (hx6)) ?_
    refine tn_getI (ci := 1) (i := 1) (n := 6) (t := σ0.2.1 6 x5) dX4_addBody_7 rfl lay_1 (by decide) fl4_23 hk7o rfl rfl (rc_F hF (Or.inl (by decide)) (by decide) (rfl)) ?_
    have g9 : ((0 : Int) ≤ σ0.2.1 6 x5 ∧ σ0.2.1 6 x5 ≤ 5000) ∧ ((T x5).1 = 50 → σ0.2.1 6 x5 ≤ 200) := wf_6 hw0 hk7o
    have g9x := g9.2
    replace g9 := g9.1
    have g9x := g9x hk7
    refine tn_icmp_ge (tgt := 94) dX4_addBody_10 (by decide) ⟨by omega, by omega⟩ ⟨by omega, by omega⟩ (fun h10 => ?_) (fun h10 => ?_)
    · exact tn_sub [0, 1] rfl (hx_94 (i1) σ hw (FrC.rfl.trans (FrC.sub hF (by decide))) (by omega))
    · refine tn_aload_n dX4_addBody_13 rfl 0 rfl ?_
      refine tn_getR (ci := 4) (i := 3) (n := 26) (x := x5) dX4_addBody_14 rfl lay_4 (by decide) fl4_33 h_a rfl rfl (rc_F hF (Or.inl (by decide)) (by decide) (hx6)) ?_
      refine tn_iload_n dX4_addBody_17 rfl 1 rfl ?_
      refine tn_iconst dX4_addBody_18 ?_
      refine tn_callV (M := m_X4_addBody) (pc := 19) (ix := 29) (ci := 1) (M' := m_X1_get) (As := [.int (iI i1), .int (iI 0)]) (rest := []) dX4_addBody_19 ok_X1_get im_X1_get se_X1_get ml4_29 np_X1_get rfl rfl hk7o rfl (Nat.le_of_ble_eq_true rfl) (Nat.le_of_ble_eq_true rfl) rfl (k_X1_get (d + 2) (T := T) (σ := σ) (a := x5) (k := i1) (c := 0) hk7o (by omega) (by decide) hw (by omega)) (fun r11 T13 σ12 gt14 hp => ?_)
      obtain ⟨v16, rfl, rfl, rfl, f15⟩ := hp
      clear gt14
      show Tn _ _ 22 T σ [(0, .ref a), (1, .int (iI i1))] [.int (iI v16)] _
      refine tn_bipush dX4_addBody_22 (by decide) ?_
      refine tn_icmp_ne (tgt := 83) dX4_addBody_24 (by decide) ⟨by omega, by omega⟩ ⟨by decide, by decide⟩ (fun h17 => ?_) (fun h17 => ?_)
      · refine tn_aload_n dX4_addBody_83 rfl 0 rfl ?_
        refine tn_iload_n dX4_addBody_84 rfl 1 rfl ?_
        refine tn_callV (M := m_X4_addBody) (pc := 85) (ix := 157) (ci := 4) (M' := m_X4_addItem) (As := [.int (iI i1)]) (rest := []) dX4_addBody_85 ok_X4_addItem im_X4_addItem se_X4_addItem ml4_157 np_X4_addItem rfl rfl h_a rfl (Nat.le_of_ble_eq_true rfl) (Nat.le_of_ble_eq_true rfl) rfl (k_X4_addItem (d) (T := T) (σ := σ) (a := a) (p1 := i1) h_a (by omega) hw (by rw [show σ.2.1 25 a = σ0.2.1 25 a from rc_F hF (Or.inl (by decide)) (by decide) (rfl)]; omega) (by rw [show σ.2.1 26 a = σ0.2.1 26 a from rc_F hF (Or.inl (by decide)) (by decide) (rfl)]; omega)) (fun r18 T20 σ19 gt21 hp => ?_)
        obtain ⟨rfl, rfl, w23, F24⟩ := hp
        clear gt21
        show Tn _ _ 88 T σ19 [(0, .ref a), (1, .int (iI i1))] [] _
        refine tn_iinc (q0 := 1) (L' := [(1, .int (iI (i1 + 1))), (0, .ref a)]) dX4_addBody_88 rfl (by decide) rfl ?_
        refine tn_goto (tgt := 2) dX4_addBody_91 (by decide) ?_
        exact tn_sub [1, 0] rfl (ih _ (by omega) (i1 + 1) σ19 w23 ((FrC.rfl.trans (FrC.sub hF (by decide))).trans (FrC.sub F24 (by decide))) (by omega) rfl)
      · refine tn_aload_n dX4_addBody_27 rfl 0 rfl ?_
        refine tn_getR (ci := 4) (i := 3) (n := 26) (x := x5) dX4_addBody_28 rfl lay_4 (by decide) fl4_33 h_a rfl rfl (rc_F hF (Or.inl (by decide)) (by decide) (hx6)) ?_
        refine tn_iload_n dX4_addBody_31 rfl 1 rfl ?_
        refine tn_iconst dX4_addBody_32 ?_
        refine tn_callV (M := m_X4_addBody) (pc := 33) (ix := 29) (ci := 1) (M' := m_X1_get) (As := [.int (iI i1), .int (iI 3)]) (rest := []) dX4_addBody_33 ok_X1_get im_X1_get se_X1_get ml4_29 np_X1_get rfl rfl hk7o rfl (Nat.le_of_ble_eq_true rfl) (Nat.le_of_ble_eq_true rfl) rfl (k_X1_get (d + 2) (T := T) (σ := σ) (a := x5) (k := i1) (c := 3) hk7o (by omega) (by decide) hw (by omega)) (fun r25 T27 σ26 gt28 hp => ?_)
        obtain ⟨v30, rfl, rfl, rfl, f29⟩ := hp
        clear gt28
        show Tn _ _ 36 T σ [(0, .ref a), (1, .int (iI i1))] [.int (iI v30)] _
        refine tn_istore_n (L' := [(2, .int (iI v30)), (0, .ref a), (1, .int (iI i1))]) dX4_addBody_36 rfl (by decide) rfl ?_
        refine tn_aload_n dX4_addBody_37 rfl 1 rfl ?_
        refine tn_aload_n dX4_addBody_38 rfl 1 rfl ?_
        refine tn_getI (ci := 4) (i := 8) (n := 31) (t := σ0.2.1 31 a) dX4_addBody_39 rfl lay_4 (by decide) fl4_78 h_a rfl rfl (rc_F hF (Or.inl (by decide)) (by decide) (rfl)) ?_
        have g31 : ((-2147483648 : Int) ≤ σ0.2.1 31 a ∧ σ0.2.1 31 a ≤ 2147483647) := wf_31 hw0 h_a
        refine tn_iload_n dX4_addBody_42 rfl 0 rfl ?_
        refine tn_aload_n dX4_addBody_43 rfl 1 rfl ?_
        refine tn_getR (ci := 4) (i := 3) (n := 26) (x := x5) dX4_addBody_44 rfl lay_4 (by decide) fl4_33 h_a rfl rfl (rc_F hF (Or.inl (by decide)) (by decide) (hx6)) ?_
        refine tn_iload_n dX4_addBody_47 rfl 2 rfl ?_
        refine tn_iconst dX4_addBody_48 ?_
        refine tn_callV (M := m_X4_addBody) (pc := 49) (ix := 29) (ci := 1) (M' := m_X1_get) (As := [.int (iI i1), .int (iI 4)]) (rest := [.int (iI v30), .int (iI (σ0.2.1 31 a)), .ref a]) dX4_addBody_49 ok_X1_get im_X1_get se_X1_get ml4_29 np_X1_get rfl rfl hk7o rfl (Nat.le_of_ble_eq_true rfl) (Nat.le_of_ble_eq_true rfl) rfl (k_X1_get (d + 2) (T := T) (σ := σ) (a := x5) (k := i1) (c := 4) hk7o (by omega) (by decide) hw (by omega)) (fun r32 T34 σ33 gt35 hp => ?_)
        obtain ⟨v37, rfl, rfl, rfl, f36⟩ := hp
        clear gt35
        show Tn _ _ 52 T σ [(2, .int (iI v30)), (0, .ref a), (1, .int (iI i1))] [.int (iI v37), .int (iI v30), .int (iI (σ0.2.1 31 a)), .ref a] _
        refine tn_iload_n dX4_addBody_52 rfl 0 rfl ?_
        refine tn_iconst dX4_addBody_53 ?_
        refine tn_icmp_ne (tgt := 64) dX4_addBody_54 (by decide) ⟨by omega, by omega⟩ ⟨by decide, by decide⟩ (fun h38 => ?_) (fun h38 => ?_)
        · refine tn_iconst dX4_addBody_64 ?_
          refine tn_iadd dX4_addBody_65 ?_
          refine tn_callV (M := m_X4_addBody) (pc := 66) (ix := 151) (ci := 4) (M' := m_X4_addCopy) (As := [.int (iI (σ0.2.1 31 a)), .int (iI v30), .int (iI (v37 + 0))]) (rest := []) dX4_addBody_66 ok_X4_addCopy im_X4_addCopy se_X4_addCopy ml4_151 np_X4_addCopy rfl rfl h_a rfl (Nat.le_of_ble_eq_true rfl) (Nat.le_of_ble_eq_true rfl) rfl (k_X4_addCopy (d) (T := T) (σ := σ) (a := a) (p1 := σ0.2.1 31 a) (p2 := v30) (p3 := v37 + 0) h_a (by omega) (by omega) (by omega) hw (by rw [show σ.2.1 25 a = σ0.2.1 25 a from rc_F hF (Or.inl (by decide)) (by decide) (rfl)]; omega)) (fun r39 T41 σ40 gt42 hp => ?_)
          obtain ⟨rfl, rfl, w44, F45⟩ := hp
          clear gt42
          show Tn _ _ 69 T σ40 [(2, .int (iI v30)), (0, .ref a), (1, .int (iI i1))] [] _
          refine tn_aload_n dX4_addBody_69 rfl 1 rfl ?_
          refine tn_bipush dX4_addBody_70 (by decide) ?_
          refine tn_aload_n dX4_addBody_72 rfl 1 rfl ?_
          refine tn_getI (ci := 4) (i := 7) (n := 30) (t := σ0.2.1 30 a) dX4_addBody_73 rfl lay_4 (by decide) fl4_72 h_a rfl rfl (rc_F F45 (Or.inl (by decide)) (by decide) (rc_F hF (Or.inl (by decide)) (by decide) (rfl))) ?_
          have g46 : ((-2147483648 : Int) ≤ σ0.2.1 30 a ∧ σ0.2.1 30 a ≤ 2147483647) := wf_30 hw0 h_a
          refine tn_iconst dX4_addBody_76 ?_
          refine tn_callV (M := m_X4_addBody) (pc := 77) (ix := 148) (ci := 4) (M' := m_X4_addRow) (As := [.int (iI 8), .int (iI (σ0.2.1 30 a)), .int (iI 0)]) (rest := []) dX4_addBody_77 ok_X4_addRow im_X4_addRow se_X4_addRow ml4_148 np_X4_addRow rfl rfl h_a rfl (Nat.le_of_ble_eq_true rfl) (Nat.le_of_ble_eq_true rfl) rfl (k_X4_addRow (d + 1) (T := T) (σ := σ40) (a := a) (p1 := 8) (p2 := σ0.2.1 30 a) (p3 := 0) h_a (by decide) (by omega) (by decide) w44 (by rw [show σ40.2.1 25 a = σ0.2.1 25 a from rc_F F45 (Or.inl (by decide)) (by decide) (rc_F hF (Or.inl (by decide)) (by decide) (rfl))]; omega)) (fun r47 T49 σ48 gt50 hp => ?_)
          obtain ⟨rfl, rfl, w52, F53⟩ := hp
          clear gt50
          show Tn _ _ 80 T σ48 [(2, .int (iI v30)), (0, .ref a), (1, .int (iI i1))] [] _
          refine tn_goto (tgt := 88) dX4_addBody_80 (by decide) ?_
          refine tn_iinc (q0 := 2) (L' := [(1, .int (iI (i1 + 1))), (2, .int (iI v30)), (0, .ref a)]) dX4_addBody_88 rfl (by decide) rfl ?_
          refine tn_goto (tgt := 2) dX4_addBody_91 (by decide) ?_
          exact tn_sub [2, 0] rfl (ih _ (by omega) (i1 + 1) σ48 w52 (((FrC.rfl.trans (FrC.sub hF (by decide))).trans (FrC.sub F45 (by decide))).trans (FrC.sub F53 (by decide))) (by omega) rfl)
        · refine tn_aload_n dX4_addBody_57 rfl 1 rfl ?_
          refine tn_getI (ci := 4) (i := 4) (n := 27) (t := σ0.2.1 27 a) dX4_addBody_58 rfl lay_4 (by decide) fl4_57 h_a rfl rfl (rc_F hF (Or.inl (by decide)) (by decide) (rfl)) ?_
          have g54 : ((-2147483648 : Int) ≤ σ0.2.1 27 a ∧ σ0.2.1 27 a ≤ 2147483647) := wf_27 hw0 h_a
          refine tn_goto (tgt := 65) dX4_addBody_61 (by decide) ?_
          refine tn_iadd dX4_addBody_65 ?_
          refine tn_any (fun z55 g56 => ?_)
          have g56r : -2147483648 ≤ z55 ∧ z55 ≤ 2147483647 := g56
          refine tn_callV (M := m_X4_addBody) (pc := 66) (ix := 151) (ci := 4) (M' := m_X4_addCopy) (As := [.int (iI (σ0.2.1 31 a)), .int (iI v30), .int (iI z55)]) (rest := []) dX4_addBody_66 ok_X4_addCopy im_X4_addCopy se_X4_addCopy ml4_151 np_X4_addCopy rfl rfl h_a rfl (Nat.le_of_ble_eq_true rfl) (Nat.le_of_ble_eq_true rfl) rfl (k_X4_addCopy (d) (T := T) (σ := σ) (a := a) (p1 := σ0.2.1 31 a) (p2 := v30) (p3 := z55) h_a (by omega) (by omega) (by omega) hw (by rw [show σ.2.1 25 a = σ0.2.1 25 a from rc_F hF (Or.inl (by decide)) (by decide) (rfl)]; omega)) (fun r57 T59 σ58 gt60 hp => ?_)
          obtain ⟨rfl, rfl, w62, F63⟩ := hp
          clear gt60
          show Tn _ _ 69 T σ58 [(2, .int (iI v30)), (0, .ref a), (1, .int (iI i1))] [] _
          refine tn_aload_n dX4_addBody_69 rfl 1 rfl ?_
          refine tn_bipush dX4_addBody_70 (by decide) ?_
          refine tn_aload_n dX4_addBody_72 rfl 1 rfl ?_
          refine tn_getI (ci := 4) (i := 7) (n := 30) (t := σ0.2.1 30 a) dX4_addBody_73 rfl lay_4 (by decide) fl4_72 h_a rfl rfl (rc_F F63 (Or.inl (by decide)) (by decide) (rc_F hF (Or.inl (by decide)) (by decide) (rfl))) ?_
          have g64 : ((-2147483648 : Int) ≤ σ0.2.1 30 a ∧ σ0.2.1 30 a ≤ 2147483647) := wf_30 hw0 h_a
          refine tn_iconst dX4_addBody_76 ?_
          refine tn_callV (M := m_X4_addBody) (pc := 77) (ix := 148) (ci := 4) (M' := m_X4_addRow) (As := [.int (iI 8), .int (iI (σ0.2.1 30 a)), .int (iI 0)]) (rest := []) dX4_addBody_77 ok_X4_addRow im_X4_addRow se_X4_addRow ml4_148 np_X4_addRow rfl rfl h_a rfl (Nat.le_of_ble_eq_true rfl) (Nat.le_of_ble_eq_true rfl) rfl (k_X4_addRow (d + 1) (T := T) (σ := σ58) (a := a) (p1 := 8) (p2 := σ0.2.1 30 a) (p3 := 0) h_a (by decide) (by omega) (by decide) w62 (by rw [show σ58.2.1 25 a = σ0.2.1 25 a from rc_F F63 (Or.inl (by decide)) (by decide) (rc_F hF (Or.inl (by decide)) (by decide) (rfl))]; omega)) (fun r65 T67 σ66 gt68 hp => ?_)
          obtain ⟨rfl, rfl, w70, F71⟩ := hp
          clear gt68
          show Tn _ _ 80 T σ66 [(2, .int (iI v30)), (0, .ref a), (1, .int (iI i1))] [] _
          refine tn_goto (tgt := 88) dX4_addBody_80 (by decide) ?_
          refine tn_iinc (q0 := 2) (L' := [(1, .int (iI (i1 + 1))), (2, .int (iI v30)), (0, .ref a)]) dX4_addBody_88 rfl (by decide) rfl ?_
          refine tn_goto (tgt := 2) dX4_addBody_91 (by decide) ?_
          exact tn_sub [2, 0] rfl (ih _ (by omega) (i1 + 1) σ66 w70 (((FrC.rfl.trans (FrC.sub hF (by decide))).trans (FrC.sub F63 (by decide))).trans (FrC.sub F71 (by decide))) (by omega) rfl)
theorem dX4_addBody_94 : decode cX4_addBody 94 = .ok (.aload_n 0, 1) := by decide +kernel
theorem dX4_addBody_95 : decode cX4_addBody 95 = .ok (.bipush 13, 2) := by decide +kernel
theorem dX4_addBody_97 : decode cX4_addBody 97 = .ok (.aload_n 0, 1) := by decide +kernel
theorem dX4_addBody_98 : decode cX4_addBody 98 = .ok (.getfield 72, 3) := by decide +kernel
theorem dX4_addBody_101 : decode cX4_addBody 101 = .ok (.iconst 0, 1) := by decide +kernel
theorem dX4_addBody_102 : decode cX4_addBody 102 = .ok (.invokevirtual 148, 3) := by decide +kernel
theorem dX4_addBody_105 : decode cX4_addBody 105 = .ok (.aload_n 0, 1) := by decide +kernel
theorem dX4_addBody_106 : decode cX4_addBody 106 = .ok (.bipush 15, 2) := by decide +kernel
theorem dX4_addBody_108 : decode cX4_addBody 108 = .ok (.aload_n 0, 1) := by decide +kernel
theorem dX4_addBody_109 : decode cX4_addBody 109 = .ok (.getfield 69, 3) := by decide +kernel
theorem dX4_addBody_112 : decode cX4_addBody 112 = .ok (.iconst 0, 1) := by decide +kernel
theorem dX4_addBody_113 : decode cX4_addBody 113 = .ok (.invokevirtual 148, 3) := by decide +kernel
theorem dX4_addBody_116 : decode cX4_addBody 116 = .ok (.return_, 1) := by decide +kernel
set_option maxRecDepth 20000 in
theorem k_X4_addBody (d : Nat) {T : CT} {σ : MS} {a : Nat} (ha : OB T a 4) (hw : WT T σ) (hh : 0 ≤ σ.2.1 25 a) (hg : 0 ≤ σ.2.1 26 a) : Tn (d + 4) m_X4_addBody 0 T σ [(0, .ref a)] [] (fun ro T2 σ2 => ro = none ∧ T = T2 ∧ WT T2 σ2 ∧ FrC T [32] σ σ2) := by
  refine tn_iconst dX4_addBody_0 ?_
  refine tn_istore_n (L' := [(1, .int (iI 0)), (0, .ref a)]) dX4_addBody_1 rfl (by decide) rfl ?_
  refine tn_sub [1, 0] rfl (l_X4_addBody_2 (d) (T := T) (σ0 := σ) (a := a) ha hw (by omega) (by omega) (fun i11 σ2 w5 F6 r7 => ?_) _ (0) σ hw FrC.rfl (by omega) rfl)
  show Tn _ _ 94 T σ2 [(0, .ref a), (1, .int (iI i11))] [] _
  refine tn_aload_n dX4_addBody_94 rfl 0 rfl ?_
  refine tn_bipush dX4_addBody_95 (by decide) ?_
  refine tn_aload_n dX4_addBody_97 rfl 0 rfl ?_
  refine tn_getI (ci := 4) (i := 7) (n := 30) (t := σ.2.1 30 a) dX4_addBody_98 rfl lay_4 (by decide) fl4_72 ha rfl rfl (rc_F F6 (Or.inl (by decide)) (by decide) (rfl)) ?_
  have g8 : ((-2147483648 : Int) ≤ σ.2.1 30 a ∧ σ.2.1 30 a ≤ 2147483647) := wf_30 hw ha
  refine tn_iconst dX4_addBody_101 ?_
  refine tn_callV (M := m_X4_addBody) (pc := 102) (ix := 148) (ci := 4) (M' := m_X4_addRow) (As := [.int (iI 13), .int (iI (σ.2.1 30 a)), .int (iI 0)]) (rest := []) dX4_addBody_102 ok_X4_addRow im_X4_addRow se_X4_addRow ml4_148 np_X4_addRow rfl rfl ha rfl (Nat.le_of_ble_eq_true rfl) (Nat.le_of_ble_eq_true rfl) rfl (k_X4_addRow (d + 1) (T := T) (σ := σ2) (a := a) (p1 := 13) (p2 := σ.2.1 30 a) (p3 := 0) ha (by decide) (by omega) (by decide) w5 (by rw [show σ2.2.1 25 a = σ.2.1 25 a from rc_F F6 (Or.inl (by decide)) (by decide) (rfl)]; omega)) (fun r9 T11 σ10 gt12 hp => ?_)
  obtain ⟨rfl, rfl, w14, F15⟩ := hp
  clear gt12
  show Tn _ _ 105 T σ10 [(0, .ref a), (1, .int (iI i11))] [] _
  refine tn_aload_n dX4_addBody_105 rfl 0 rfl ?_
  refine tn_bipush dX4_addBody_106 (by decide) ?_
  refine tn_aload_n dX4_addBody_108 rfl 0 rfl ?_
  refine tn_getI (ci := 4) (i := 6) (n := 29) (t := σ.2.1 29 a) dX4_addBody_109 rfl lay_4 (by decide) fl4_69 ha rfl rfl (rc_F F15 (Or.inl (by decide)) (by decide) (rc_F F6 (Or.inl (by decide)) (by decide) (rfl))) ?_
  have g16 : ((-2147483648 : Int) ≤ σ.2.1 29 a ∧ σ.2.1 29 a ≤ 2147483647) := wf_29 hw ha
  refine tn_iconst dX4_addBody_112 ?_
  refine tn_callV (M := m_X4_addBody) (pc := 113) (ix := 148) (ci := 4) (M' := m_X4_addRow) (As := [.int (iI 15), .int (iI (σ.2.1 29 a)), .int (iI 0)]) (rest := []) dX4_addBody_113 ok_X4_addRow im_X4_addRow se_X4_addRow ml4_148 np_X4_addRow rfl rfl ha rfl (Nat.le_of_ble_eq_true rfl) (Nat.le_of_ble_eq_true rfl) rfl (k_X4_addRow (d + 1) (T := T) (σ := σ10) (a := a) (p1 := 15) (p2 := σ.2.1 29 a) (p3 := 0) ha (by decide) (by omega) (by decide) w14 (by rw [show σ10.2.1 25 a = σ.2.1 25 a from rc_F F15 (Or.inl (by decide)) (by decide) (rc_F F6 (Or.inl (by decide)) (by decide) (rfl))]; omega)) (fun r17 T19 σ18 gt20 hp => ?_)
  obtain ⟨rfl, rfl, w22, F23⟩ := hp
  clear gt20
  show Tn _ _ 116 T σ18 [(0, .ref a), (1, .int (iI i11))] [] _
  exact tn_vret rfl dX4_addBody_116 ⟨rfl, rfl, w22, (((FrC.rfl.trans (FrC.sub F6 (by decide))).trans (FrC.sub F15 (by decide))).trans (FrC.sub F23 (by decide)))⟩
