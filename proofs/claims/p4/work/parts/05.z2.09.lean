theorem cd_X4_addEntry : Cond.code yX4_addEntry cX4_addEntry 4 none ∈ pWW := pw5 (List.mem_of_getElem? (i := 175) rfl) rfl
abbrev m_X4_addEntry : MT := (yX4_addEntry, cX4_addEntry, 4, none)
theorem ok_X4_addEntry : pOk m_X4_addEntry := ⟨⟨cd_X4_addEntry, ini_4⟩, by decide +kernel, ⟨by decide +kernel, by decide +kernel⟩, Nat.le_of_ble_eq_true rfl⟩
theorem np_X4_addEntry : (parseMethodDescriptor yX4_addEntry.desc).map (fun d => d.parameters.length) = some 0 := by decide +kernel
theorem im_X4_addEntry : Cond.instanceMethod yX4_addEntry ∈ pWW := pw5 (List.mem_of_getElem? (i := 174) rfl) rfl
theorem se_X4_addEntry : Cond.selects RX4 yX4_addEntry yX4_addEntry ∈ pWW := pws (List.mem_map.mpr ⟨_, lw_pin 69 rfl, rfl⟩) rfl
theorem ml4_154 : Cond.methodLink RX4 154 yX1_setWhere ∈ pWW := pw5 (List.mem_of_getElem? (i := 185) rfl) rfl
theorem fl4_9 : Cond.fieldLink RX4 9 (TX4 1).1 (TX4 1).2.1 (TX4 1).2.2.1 ∈ pWW := pw2 (List.mem_of_getElem? (i := 62) rfl) rfl
theorem nl4_128 : (RX4, 128, yX11_at, "LineKeeper") ∈ nst_M := List.mem_of_getElem? (i := 38) rfl
theorem dX4_addEntry_0 : decode cX4_addEntry 0 = .ok (.aload_n 0, 1) := by decide +kernel
theorem dX4_addEntry_1 : decode cX4_addEntry 1 = .ok (.bipush 14, 2) := by decide +kernel
theorem dX4_addEntry_3 : decode cX4_addEntry 3 = .ok (.aload_n 0, 1) := by decide +kernel
theorem dX4_addEntry_4 : decode cX4_addEntry 4 = .ok (.getfield 69, 3) := by decide +kernel
theorem dX4_addEntry_7 : decode cX4_addEntry 7 = .ok (.iconst 0, 1) := by decide +kernel
theorem dX4_addEntry_8 : decode cX4_addEntry 8 = .ok (.invokevirtual 148, 3) := by decide +kernel
theorem dX4_addEntry_11 : decode cX4_addEntry 11 = .ok (.iconst 0, 1) := by decide +kernel
theorem dX4_addEntry_12 : decode cX4_addEntry 12 = .ok (.istore_n 1, 1) := by decide +kernel
theorem dX4_addEntry_13 : decode cX4_addEntry 13 = .ok (.iload_n 1, 1) := by decide +kernel
theorem dX4_addEntry_14 : decode cX4_addEntry 14 = .ok (.aload_n 0, 1) := by decide +kernel
theorem dX4_addEntry_15 : decode cX4_addEntry 15 = .ok (.getfield 33, 3) := by decide +kernel
theorem dX4_addEntry_18 : decode cX4_addEntry 18 = .ok (.getfield 105, 3) := by decide +kernel
theorem dX4_addEntry_21 : decode cX4_addEntry 21 = .ok (.if_icmp .ge 112, 3) := by decide +kernel
theorem dX4_addEntry_24 : decode cX4_addEntry 24 = .ok (.aload_n 0, 1) := by decide +kernel
theorem dX4_addEntry_25 : decode cX4_addEntry 25 = .ok (.getfield 57, 3) := by decide +kernel
theorem dX4_addEntry_28 : decode cX4_addEntry 28 = .ok (.aload_n 0, 1) := by decide +kernel
theorem dX4_addEntry_29 : decode cX4_addEntry 29 = .ok (.getfield 33, 3) := by decide +kernel
theorem dX4_addEntry_32 : decode cX4_addEntry 32 = .ok (.iconst 0, 1) := by decide +kernel
theorem dX4_addEntry_33 : decode cX4_addEntry 33 = .ok (.iload_n 1, 1) := by decide +kernel
theorem dX4_addEntry_34 : decode cX4_addEntry 34 = .ok (.invokevirtual 122, 3) := by decide +kernel
theorem dX4_addEntry_37 : decode cX4_addEntry 37 = .ok (.iadd, 1) := by decide +kernel
theorem dX4_addEntry_38 : decode cX4_addEntry 38 = .ok (.istore_n 2, 1) := by decide +kernel
theorem dX4_addEntry_39 : decode cX4_addEntry 39 = .ok (.iload_n 1, 1) := by decide +kernel
theorem dX4_addEntry_40 : decode cX4_addEntry 40 = .ok (.aload_n 0, 1) := by decide +kernel
theorem dX4_addEntry_41 : decode cX4_addEntry 41 = .ok (.getfield 33, 3) := by decide +kernel
theorem dX4_addEntry_44 : decode cX4_addEntry 44 = .ok (.getfield 108, 3) := by decide +kernel
theorem dX4_addEntry_47 : decode cX4_addEntry 47 = .ok (.if_icmp .ge 7, 3) := by decide +kernel
theorem dX4_addEntry_54 : decode cX4_addEntry 54 = .ok (.iconst 0, 1) := by decide +kernel
theorem dX4_addEntry_55 : decode cX4_addEntry 55 = .ok (.istore_n 3, 1) := by decide +kernel
theorem dX4_addEntry_56 : decode cX4_addEntry 56 = .ok (.iload_n 3, 1) := by decide +kernel
theorem dX4_addEntry_57 : decode cX4_addEntry 57 = .ok (.ifCond .eq 30, 3) := by decide +kernel
theorem dX4_addEntry_87 : decode cX4_addEntry 87 = .ok (.aload_n 0, 1) := by decide +kernel
theorem dX4_addEntry_88 : decode cX4_addEntry 88 = .ok (.getfield 19, 3) := by decide +kernel
theorem dX4_addEntry_91 : decode cX4_addEntry 91 = .ok (.aload_n 0, 1) := by decide +kernel
theorem dX4_addEntry_92 : decode cX4_addEntry 92 = .ok (.getfield 96, 3) := by decide +kernel
theorem dX4_addEntry_95 : decode cX4_addEntry 95 = .ok (.iload_n 3, 1) := by decide +kernel
theorem dX4_addEntry_96 : decode cX4_addEntry 96 = .ok (.ifCond .eq 7, 3) := by decide +kernel
theorem dX4_addEntry_103 : decode cX4_addEntry 103 = .ok (.iconst 1, 1) := by decide +kernel
theorem dX4_addEntry_104 : decode cX4_addEntry 104 = .ok (.iload_n 3, 1) := by decide +kernel
theorem dX4_addEntry_105 : decode cX4_addEntry 105 = .ok (.ifCond .eq 7, 3) := by decide +kernel
theorem dX4_addEntry_112 : decode cX4_addEntry 112 = .ok (.iconst 0, 1) := by decide +kernel
theorem dX4_addEntry_113 : decode cX4_addEntry 113 = .ok (.invokevirtual 154, 3) := by decide +kernel
theorem dX4_addEntry_116 : decode cX4_addEntry 116 = .ok (.aload_n 0, 1) := by decide +kernel
theorem dX4_addEntry_117 : decode cX4_addEntry 117 = .ok (.bipush 12, 2) := by decide +kernel
theorem dX4_addEntry_119 : decode cX4_addEntry 119 = .ok (.iload_n 1, 1) := by decide +kernel
theorem dX4_addEntry_120 : decode cX4_addEntry 120 = .ok (.aload_n 0, 1) := by decide +kernel
theorem dX4_addEntry_121 : decode cX4_addEntry 121 = .ok (.getfield 69, 3) := by decide +kernel
theorem dX4_addEntry_124 : decode cX4_addEntry 124 = .ok (.invokevirtual 148, 3) := by decide +kernel
theorem dX4_addEntry_127 : decode cX4_addEntry 127 = .ok (.iinc 1 1, 3) := by decide +kernel
theorem dX4_addEntry_130 : decode cX4_addEntry 130 = .ok (.goto (-117), 3) := by decide +kernel
theorem dX4_addEntry_50 : decode cX4_addEntry 50 = .ok (.iconst 1, 1) := by decide +kernel
theorem dX4_addEntry_51 : decode cX4_addEntry 51 = .ok (.goto 4, 3) := by decide +kernel
theorem dX4_addEntry_60 : decode cX4_addEntry 60 = .ok (.aload_n 0, 1) := by decide +kernel
theorem dX4_addEntry_61 : decode cX4_addEntry 61 = .ok (.iload_n 2, 1) := by decide +kernel
theorem dX4_addEntry_62 : decode cX4_addEntry 62 = .ok (.aload_n 0, 1) := by decide +kernel
theorem dX4_addEntry_63 : decode cX4_addEntry 63 = .ok (.getfield 9, 3) := by decide +kernel
theorem dX4_addEntry_66 : decode cX4_addEntry 66 = .ok (.iconst 2, 1) := by decide +kernel
theorem dX4_addEntry_67 : decode cX4_addEntry 67 = .ok (.iload_n 1, 1) := by decide +kernel
theorem dX4_addEntry_68 : decode cX4_addEntry 68 = .ok (.imul, 1) := by decide +kernel
theorem dX4_addEntry_69 : decode cX4_addEntry 69 = .ok (.invokestatic 128, 3) := by decide +kernel
theorem dX4_addEntry_72 : decode cX4_addEntry 72 = .ok (.aload_n 0, 1) := by decide +kernel
theorem dX4_addEntry_73 : decode cX4_addEntry 73 = .ok (.getfield 9, 3) := by decide +kernel
theorem dX4_addEntry_76 : decode cX4_addEntry 76 = .ok (.iconst 2, 1) := by decide +kernel
theorem dX4_addEntry_77 : decode cX4_addEntry 77 = .ok (.iload_n 1, 1) := by decide +kernel
theorem dX4_addEntry_78 : decode cX4_addEntry 78 = .ok (.imul, 1) := by decide +kernel
theorem dX4_addEntry_79 : decode cX4_addEntry 79 = .ok (.iconst 1, 1) := by decide +kernel
theorem dX4_addEntry_80 : decode cX4_addEntry 80 = .ok (.iadd, 1) := by decide +kernel
theorem dX4_addEntry_81 : decode cX4_addEntry 81 = .ok (.invokestatic 128, 3) := by decide +kernel
theorem dX4_addEntry_84 : decode cX4_addEntry 84 = .ok (.invokevirtual 151, 3) := by decide +kernel
theorem dX4_addEntry_99 : decode cX4_addEntry 99 = .ok (.iconst 2, 1) := by decide +kernel
theorem dX4_addEntry_100 : decode cX4_addEntry 100 = .ok (.goto 4, 3) := by decide +kernel
theorem dX4_addEntry_108 : decode cX4_addEntry 108 = .ok (.iload_n 2, 1) := by decide +kernel
theorem dX4_addEntry_109 : decode cX4_addEntry 109 = .ok (.goto 4, 3) := by decide +kernel
set_option maxRecDepth 20000 in
theorem l_X4_addEntry_13 (d : Nat) {T : CT} {σ0 : MS} {a : Nat} {post : Option Value → CT → MS → Prop} (h_a : OB T a 4) (hw0 : WT T σ0) (hh : 0 ≤ σ0.2.1 25 a) (hg : 0 ≤ σ0.2.1 26 a) (hx_133 : ∀ (i1 : Int) (σ : MS) , (WT T σ) → (FrC T [32] σ0 σ) → (0 ≤ i1 ∧ i1 ≤ 2147483647) → Tn (d + 4) m_X4_addEntry 133 T σ [(0, .ref a), (1, .int (iI i1))] [] post) : ∀ (n : Nat) (i1 : Int) (σ : MS) , (WT T σ) → (FrC T [32] σ0 σ) → (0 ≤ i1 ∧ i1 ≤ 2147483647) → (2147483700 - i1).toNat = n → Tn (d + 4) m_X4_addEntry 13 T σ [(0, .ref a), (1, .int (iI i1))] [] post := by
  intro n
  induction n using Nat.strongRecOn with
  | _ n ih =>
    intro i1 σ hw hF r_i1 hm
    refine tn_iload_n dX4_addEntry_13 rfl 1 rfl ?_
    refine tn_aload_n dX4_addEntry_14 rfl 0 rfl ?_
    have nn8 : 0 ≤ σ0.2.1 26 a := (by omega)
    obtain ⟨x5, hx6, hk7⟩ := (wf_26 hw0 h_a).resolve_left (by omega)
    have hk7o : OB T x5 1 := ⟨by omega, by rw [hk7]; rfl, by omega⟩
    refine tn_getR (ci := 4) (i := 3) (n := 26) (x := x5) dX4_addEntry_15 rfl lay_4 (by decide) fl4_33 h_a rfl rfl (rc_F hF (Or.inl (by decide)) (by decide) (hx6)) ?_
    refine tn_getI (ci := 1) (i := 2) (n := 7) (t := σ0.2.1 7 x5) dX4_addEntry_18 rfl lay_1 (by decide) fl4_105 hk7o rfl rfl (rc_F hF (Or.inl (by decide)) (by decide) (rfl)) ?_
    have g9 : ((0 : Int) ≤ σ0.2.1 7 x5 ∧ σ0.2.1 7 x5 ≤ 12) := wf_7 hw0 hk7o
    refine tn_icmp_ge (tgt := 133) dX4_addEntry_21 (by decide) ⟨by omega, by omega⟩ ⟨by omega, by omega⟩ (fun h10 => ?_) (fun h10 => ?_)
    · exact tn_sub [0, 1] rfl (hx_133 (i1) σ hw (FrC.rfl.trans (FrC.sub hF (by decide))) (by omega))
    · refine tn_aload_n dX4_addEntry_24 rfl 0 rfl ?_
      refine tn_getI (ci := 4) (i := 4) (n := 27) (t := σ0.2.1 27 a) dX4_addEntry_25 rfl lay_4 (by decide) fl4_57 h_a rfl rfl (rc_F hF (Or.inl (by decide)) (by decide) (rfl)) ?_
      have g11 : ((-2147483648 : Int) ≤ σ0.2.1 27 a ∧ σ0.2.1 27 a ≤ 2147483647) := wf_27 hw0 h_a
      refine tn_aload_n dX4_addEntry_28 rfl 0 rfl ?_
      refine tn_getR (ci := 4) (i := 3) (n := 26) (x := x5) dX4_addEntry_29 rfl lay_4 (by decide) fl4_33 h_a rfl rfl (rc_F hF (Or.inl (by decide)) (by decide) (hx6)) ?_
      refine tn_iconst dX4_addEntry_32 ?_
      refine tn_iload_n dX4_addEntry_33 rfl 1 rfl ?_
      refine tn_callV (M := m_X4_addEntry) (pc := 34) (ix := 122) (ci := 1) (M' := m_X1_homeOf) (As := [.int (iI 0), .int (iI i1)]) (rest := [.int (iI (σ0.2.1 27 a))]) dX4_addEntry_34 ok_X1_homeOf im_X1_homeOf se_X1_homeOf ml4_122 np_X1_homeOf rfl rfl hk7o rfl (Nat.le_of_ble_eq_true rfl) (Nat.le_of_ble_eq_true rfl) rfl (k_X1_homeOf (d + 1) (T := T) (σ := σ) (a := x5) (f := 0) (m := i1) hk7o (by decide) (by omega) hw ) (fun r12 T14 σ13 gt15 hp => ?_)
      obtain ⟨v17, rfl, rfl, rfl, f16⟩ := hp
      clear gt15
      show Tn _ _ 37 T σ [(0, .ref a), (1, .int (iI i1))] [.int (iI v17), .int (iI (σ0.2.1 27 a))] _
      refine tn_iadd dX4_addEntry_37 ?_
      refine tn_any (fun z18 g19 => ?_)
      have g19r : -2147483648 ≤ z18 ∧ z18 ≤ 2147483647 := g19
      refine tn_istore_n (L' := [(2, .int (iI z18)), (0, .ref a), (1, .int (iI i1))]) dX4_addEntry_38 rfl (by decide) rfl ?_
      refine tn_iload_n dX4_addEntry_39 rfl 2 rfl ?_
      refine tn_aload_n dX4_addEntry_40 rfl 1 rfl ?_
      refine tn_getR (ci := 4) (i := 3) (n := 26) (x := x5) dX4_addEntry_41 rfl lay_4 (by decide) fl4_33 h_a rfl rfl (rc_F hF (Or.inl (by decide)) (by decide) (hx6)) ?_
      refine tn_getI (ci := 1) (i := 3) (n := 8) (t := σ0.2.1 8 x5) dX4_addEntry_44 rfl lay_1 (by decide) fl4_108 hk7o rfl rfl (rc_F hF (Or.inl (by decide)) (by decide) (rfl)) ?_
      have g20 : ((0 : Int) ≤ σ0.2.1 8 x5 ∧ σ0.2.1 8 x5 ≤ 4) := wf_8 hw0 hk7o
      refine tn_icmp_ge (tgt := 54) dX4_addEntry_47 (by decide) ⟨by omega, by omega⟩ ⟨by omega, by omega⟩ (fun h21 => ?_) (fun h21 => ?_)
      · refine tn_iconst dX4_addEntry_54 ?_
        refine tn_istore_n (L' := [(3, .int (iI 0)), (2, .int (iI z18)), (0, .ref a), (1, .int (iI i1))]) dX4_addEntry_55 rfl (by decide) rfl ?_
        refine tn_iload_n dX4_addEntry_56 rfl 0 rfl ?_
        refine tn_if_eq (tgt := 87) dX4_addEntry_57 (by decide) ⟨by decide, by decide⟩ (fun _ => ?_) (fun h => absurd h (by decide))
        refine tn_aload_n dX4_addEntry_87 rfl 2 rfl ?_
        have nn30 : 0 ≤ σ0.2.1 25 a := (by omega)
        obtain ⟨x27, hx28, hk29⟩ := (wf_25 hw0 h_a).resolve_left (by omega)
        have hk29o : OB T x27 1 := ⟨by omega, by rw [hk29]; rfl, by omega⟩
        refine tn_getR (ci := 4) (i := 2) (n := 25) (x := x27) dX4_addEntry_88 rfl lay_4 (by decide) fl4_19 h_a rfl rfl (rc_F hF (Or.inl (by decide)) (by decide) (hx28)) ?_
        refine tn_aload_n dX4_addEntry_91 rfl 2 rfl ?_
        refine tn_getI (ci := 4) (i := 9) (n := 32) (t := σ.2.1 32 a) dX4_addEntry_92 rfl lay_4 (by decide) fl4_96 h_a rfl rfl (rfl) ?_
        have g31 : ((-2147483648 : Int) ≤ σ.2.1 32 a ∧ σ.2.1 32 a ≤ 2147483647) := wf_32 hw h_a
        refine tn_iload_n dX4_addEntry_95 rfl 0 rfl ?_
        refine tn_if_eq (tgt := 103) dX4_addEntry_96 (by decide) ⟨by decide, by decide⟩ (fun _ => ?_) (fun h => absurd h (by decide))
        refine tn_iconst dX4_addEntry_103 ?_
        refine tn_iload_n dX4_addEntry_104 rfl 0 rfl ?_
        refine tn_if_eq (tgt := 112) dX4_addEntry_105 (by decide) ⟨by decide, by decide⟩ (fun _ => ?_) (fun h => absurd h (by decide))
        refine tn_iconst dX4_addEntry_112 ?_
        refine tn_callV (M := m_X4_addEntry) (pc := 113) (ix := 154) (ci := 1) (M' := m_X1_setWhere) (As := [.int (iI (σ.2.1 32 a)), .int (iI 1), .int (iI 0)]) (rest := []) dX4_addEntry_113 ok_X1_setWhere im_X1_setWhere se_X1_setWhere ml4_154 np_X1_setWhere rfl rfl hk29o rfl (Nat.le_of_ble_eq_true rfl) (Nat.le_of_ble_eq_true rfl) rfl (k_X1_setWhere (d + 1) (T := T) (σ := σ) (a := x27) (k := σ.2.1 32 a) (y := 1) (z := 0) hk29o (by omega) (by decide) (by decide) hw ) (fun r34 T36 σ35 gt37 hp => ?_)
        obtain ⟨rfl, rfl, w39, F40⟩ := hp
        clear gt37
        show Tn _ _ 116 T σ35 [(3, .int (iI 0)), (2, .int (iI z18)), (0, .ref a), (1, .int (iI i1))] [] _
        refine tn_aload_n dX4_addEntry_116 rfl 2 rfl ?_
        refine tn_bipush dX4_addEntry_117 (by decide) ?_
        refine tn_iload_n dX4_addEntry_119 rfl 3 rfl ?_
        refine tn_aload_n dX4_addEntry_120 rfl 2 rfl ?_
        refine tn_getI (ci := 4) (i := 6) (n := 29) (t := σ0.2.1 29 a) dX4_addEntry_121 rfl lay_4 (by decide) fl4_69 h_a rfl rfl (rc_F F40 (Or.inl (by decide)) (by decide) (rc_F hF (Or.inl (by decide)) (by decide) (rfl))) ?_
        have g41 : ((-2147483648 : Int) ≤ σ0.2.1 29 a ∧ σ0.2.1 29 a ≤ 2147483647) := wf_29 hw0 h_a
        refine tn_callV (M := m_X4_addEntry) (pc := 124) (ix := 148) (ci := 4) (M' := m_X4_addRow) (As := [.int (iI 12), .int (iI i1), .int (iI (σ0.2.1 29 a))]) (rest := []) dX4_addEntry_124 ok_X4_addRow im_X4_addRow se_X4_addRow ml4_148 np_X4_addRow rfl rfl h_a rfl (Nat.le_of_ble_eq_true rfl) (Nat.le_of_ble_eq_true rfl) rfl (k_X4_addRow (d + 1) (T := T) (σ := σ35) (a := a) (p1 := 12) (p2 := i1) (p3 := σ0.2.1 29 a) h_a (by decide) (by omega) (by omega) w39 (by rw [show σ35.2.1 25 a = σ0.2.1 25 a from rc_F F40 (Or.inl (by decide)) (by decide) (rc_F hF (Or.inl (by decide)) (by decide) (rfl))]; omega)) (fun r42 T44 σ43 gt45 hp => ?_)
        obtain ⟨rfl, rfl, w47, F48⟩ := hp
        clear gt45
        show Tn _ _ 127 T σ43 [(3, .int (iI 0)), (2, .int (iI z18)), (0, .ref a), (1, .int (iI i1))] [] _
        refine tn_iinc (q0 := 3) (L' := [(1, .int (iI (i1 + 1))), (3, .int (iI 0)), (2, .int (iI z18)), (0, .ref a)]) dX4_addEntry_127 rfl (by decide) rfl ?_
        refine tn_goto (tgt := 13) dX4_addEntry_130 (by decide) ?_
        exact tn_sub [3, 0] rfl (ih _ (by omega) (i1 + 1) σ43 w47 (((FrC.rfl.trans (FrC.sub hF (by decide))).trans (FrC.sub F40 (by decide))).trans (FrC.sub F48 (by decide))) (by omega) rfl)
      · refine tn_iconst dX4_addEntry_50 ?_
        refine tn_goto (tgt := 55) dX4_addEntry_51 (by decide) ?_
        refine tn_istore_n (L' := [(3, .int (iI 1)), (2, .int (iI z18)), (0, .ref a), (1, .int (iI i1))]) dX4_addEntry_55 rfl (by decide) rfl ?_
        refine tn_iload_n dX4_addEntry_56 rfl 0 rfl ?_
        refine tn_if_eq (tgt := 87) dX4_addEntry_57 (by decide) ⟨by decide, by decide⟩ (fun h => absurd h (by decide)) (fun _ => ?_)
        refine tn_aload_n dX4_addEntry_60 rfl 2 rfl ?_
        refine tn_iload_n dX4_addEntry_61 rfl 1 rfl ?_
        refine tn_aload_n dX4_addEntry_62 rfl 2 rfl ?_
        obtain ⟨x50, hx51, hk52, hl53⟩ : ∃ x : Nat, σ0.2.1 24 a = (x : Int) ∧ AR T x 1 8 8 := wf_24 hw0 h_a
        have hk52i : IA T x50 := by unfold IA; omega
        refine tn_getR (ci := 4) (i := 1) (n := 24) (x := x50) dX4_addEntry_63 rfl lay_4 (by decide) fl4_9 h_a rfl rfl (rc_F hF (Or.inl (by decide)) (by decide) (hx51)) ?_
        refine tn_iconst dX4_addEntry_66 ?_
        refine tn_iload_n dX4_addEntry_67 rfl 3 rfl ?_
        refine tn_imul dX4_addEntry_68 ?_
        refine tn_callSN (M := m_X4_addEntry) (pc := 69) (ix := 128) (M' := m_X11_at) (As := [.ref x50, .int (iI (2 * i1))]) (rest := [.int (iI z18), .ref a]) dX4_addEntry_69 ok_X11_at stt_X11_at nl4_128 np_X11_at rfl (Nat.le_of_ble_eq_true rfl) (Nat.le_of_ble_eq_true rfl) rfl (k_X11_at (d + 2) (T := T) (σ := σ) (x := x50) (i := 2 * i1) hk52i (by omega) (by omega) hw ) (fun r54 T56 σ55 gt57 hp => ?_)
        obtain ⟨v61, rfl, rfl, rfl, f58, f59, f60⟩ := hp
        clear gt57
        clear f59 f60
        show Tn _ _ 72 T σ [(3, .int (iI 1)), (2, .int (iI z18)), (0, .ref a), (1, .int (iI i1))] [.int (iI v61), .int (iI z18), .ref a] _
        refine tn_aload_n dX4_addEntry_72 rfl 2 rfl ?_
        refine tn_getR (ci := 4) (i := 1) (n := 24) (x := x50) dX4_addEntry_73 rfl lay_4 (by decide) fl4_9 h_a rfl rfl (rc_F hF (Or.inl (by decide)) (by decide) (hx51)) ?_
        refine tn_iconst dX4_addEntry_76 ?_
        refine tn_iload_n dX4_addEntry_77 rfl 3 rfl ?_
        refine tn_imul dX4_addEntry_78 ?_
        refine tn_iconst dX4_addEntry_79 ?_
        refine tn_iadd dX4_addEntry_80 ?_
        refine tn_callSN (M := m_X4_addEntry) (pc := 81) (ix := 128) (M' := m_X11_at) (As := [.ref x50, .int (iI ((2 * i1) + 1))]) (rest := [.int (iI v61), .int (iI z18), .ref a]) dX4_addEntry_81 ok_X11_at stt_X11_at nl4_128 np_X11_at rfl (Nat.le_of_ble_eq_true rfl) (Nat.le_of_ble_eq_true rfl) rfl (k_X11_at (d + 2) (T := T) (σ := σ) (x := x50) (i := (2 * i1) + 1) hk52i (by omega) (by omega) hw ) (fun r62 T64 σ63 gt65 hp => ?_)
        obtain ⟨v69, rfl, rfl, rfl, f66, f67, f68⟩ := hp
        clear gt65
        clear f67 f68
        show Tn _ _ 84 T σ [(3, .int (iI 1)), (2, .int (iI z18)), (0, .ref a), (1, .int (iI i1))] [.int (iI v69), .int (iI v61), .int (iI z18), .ref a] _
        refine tn_callV (M := m_X4_addEntry) (pc := 84) (ix := 151) (ci := 4) (M' := m_X4_addCopy) (As := [.int (iI z18), .int (iI v61), .int (iI v69)]) (rest := []) dX4_addEntry_84 ok_X4_addCopy im_X4_addCopy se_X4_addCopy ml4_151 np_X4_addCopy rfl rfl h_a rfl (Nat.le_of_ble_eq_true rfl) (Nat.le_of_ble_eq_true rfl) rfl (k_X4_addCopy (d) (T := T) (σ := σ) (a := a) (p1 := z18) (p2 := v61) (p3 := v69) h_a (by omega) (by omega) (by omega) hw (by rw [show σ.2.1 25 a = σ0.2.1 25 a from rc_F hF (Or.inl (by decide)) (by decide) (rfl)]; omega)) (fun r70 T72 σ71 gt73 hp => ?_)
        obtain ⟨rfl, rfl, w75, F76⟩ := hp
        clear gt73
        show Tn _ _ 87 T σ71 [(3, .int (iI 1)), (2, .int (iI z18)), (0, .ref a), (1, .int (iI i1))] [] _
        refine tn_aload_n dX4_addEntry_87 rfl 2 rfl ?_
        have nn84 : 0 ≤ σ0.2.1 25 a := (by omega)
        obtain ⟨x81, hx82, hk83⟩ := (wf_25 hw0 h_a).resolve_left (by omega)
        have hk83o : OB T x81 1 := ⟨by omega, by rw [hk83]; rfl, by omega⟩
        refine tn_getR (ci := 4) (i := 2) (n := 25) (x := x81) dX4_addEntry_88 rfl lay_4 (by decide) fl4_19 h_a rfl rfl (rc_F F76 (Or.inl (by decide)) (by decide) (rc_F hF (Or.inl (by decide)) (by decide) (hx82))) ?_
        refine tn_aload_n dX4_addEntry_91 rfl 2 rfl ?_
        refine tn_getI (ci := 4) (i := 9) (n := 32) (t := σ71.2.1 32 a) dX4_addEntry_92 rfl lay_4 (by decide) fl4_96 h_a rfl rfl (rfl) ?_
        have g85 : ((-2147483648 : Int) ≤ σ71.2.1 32 a ∧ σ71.2.1 32 a ≤ 2147483647) := wf_32 w75 h_a
        refine tn_iload_n dX4_addEntry_95 rfl 0 rfl ?_
        refine tn_if_eq (tgt := 103) dX4_addEntry_96 (by decide) ⟨by decide, by decide⟩ (fun h => absurd h (by decide)) (fun _ => ?_)
        refine tn_iconst dX4_addEntry_99 ?_
        refine tn_goto (tgt := 104) dX4_addEntry_100 (by decide) ?_
        refine tn_iload_n dX4_addEntry_104 rfl 0 rfl ?_
        refine tn_if_eq (tgt := 112) dX4_addEntry_105 (by decide) ⟨by decide, by decide⟩ (fun h => absurd h (by decide)) (fun _ => ?_)
        refine tn_iload_n dX4_addEntry_108 rfl 1 rfl ?_
        refine tn_goto (tgt := 113) dX4_addEntry_109 (by decide) ?_
        refine tn_callV (M := m_X4_addEntry) (pc := 113) (ix := 154) (ci := 1) (M' := m_X1_setWhere) (As := [.int (iI (σ71.2.1 32 a)), .int (iI 2), .int (iI z18)]) (rest := []) dX4_addEntry_113 ok_X1_setWhere im_X1_setWhere se_X1_setWhere ml4_154 np_X1_setWhere rfl rfl hk83o rfl (Nat.le_of_ble_eq_true rfl) (Nat.le_of_ble_eq_true rfl) rfl (k_X1_setWhere (d + 1) (T := T) (σ := σ71) (a := x81) (k := σ71.2.1 32 a) (y := 2) (z := z18) hk83o (by omega) (by decide) (by omega) w75 ) (fun r88 T90 σ89 gt91 hp => ?_)
        obtain ⟨rfl, rfl, w93, F94⟩ := hp
        clear gt91
        show Tn _ _ 116 T σ89 [(3, .int (iI 1)), (2, .int (iI z18)), (0, .ref a), (1, .int (iI i1))] [] _
        refine tn_aload_n dX4_addEntry_116 rfl 2 rfl ?_
        refine tn_bipush dX4_addEntry_117 (by decide) ?_
        refine tn_iload_n dX4_addEntry_119 rfl 3 rfl ?_
        refine tn_aload_n dX4_addEntry_120 rfl 2 rfl ?_
        refine tn_getI (ci := 4) (i := 6) (n := 29) (t := σ0.2.1 29 a) dX4_addEntry_121 rfl lay_4 (by decide) fl4_69 h_a rfl rfl (rc_F F94 (Or.inl (by decide)) (by decide) (rc_F F76 (Or.inl (by decide)) (by decide) (rc_F hF (Or.inl (by decide)) (by decide) (rfl)))) ?_
        have g95 : ((-2147483648 : Int) ≤ σ0.2.1 29 a ∧ σ0.2.1 29 a ≤ 2147483647) := wf_29 hw0 h_a
        refine tn_callV (M := m_X4_addEntry) (pc := 124) (ix := 148) (ci := 4) (M' := m_X4_addRow) (As := [.int (iI 12), .int (iI i1), .int (iI (σ0.2.1 29 a))]) (rest := []) dX4_addEntry_124 ok_X4_addRow im_X4_addRow se_X4_addRow ml4_148 np_X4_addRow rfl rfl h_a rfl (Nat.le_of_ble_eq_true rfl) (Nat.le_of_ble_eq_true rfl) rfl (k_X4_addRow (d + 1) (T := T) (σ := σ89) (a := a) (p1 := 12) (p2 := i1) (p3 := σ0.2.1 29 a) h_a (by decide) (by omega) (by omega) w93 (by rw [show σ89.2.1 25 a = σ0.2.1 25 a from rc_F F94 (Or.inl (by decide)) (by decide) (rc_F F76 (Or.inl (by decide)) (by decide) (rc_F hF (Or.inl (by decide)) (by decide) (rfl)))]; omega)) (fun r96 T98 σ97 gt99 hp => ?_)
        obtain ⟨rfl, rfl, w101, F102⟩ := hp
        clear gt99
        show Tn _ _ 127 T σ97 [(3, .int (iI 1)), (2, .int (iI z18)), (0, .ref a), (1, .int (iI i1))] [] _
        refine tn_iinc (q0 := 3) (L' := [(1, .int (iI (i1 + 1))), (3, .int (iI 1)), (2, .int (iI z18)), (0, .ref a)]) dX4_addEntry_127 rfl (by decide) rfl ?_
        refine tn_goto (tgt := 13) dX4_addEntry_130 (by decide) ?_
        exact tn_sub [3, 0] rfl (ih _ (by omega) (i1 + 1) σ97 w101 ((((FrC.rfl.trans (FrC.sub hF (by decide))).trans (FrC.sub F76 (by decide))).trans (FrC.sub F94 (by decide))).trans (FrC.sub F102 (by decide))) (by omega) rfl)
theorem dX4_addEntry_133 : decode cX4_addEntry 133 = .ok (.iconst 0, 1) := by decide +kernel
theorem dX4_addEntry_134 : decode cX4_addEntry 134 = .ok (.istore_n 1, 1) := by decide +kernel
theorem dX4_addEntry_135 : decode cX4_addEntry 135 = .ok (.iload_n 1, 1) := by decide +kernel
theorem dX4_addEntry_136 : decode cX4_addEntry 136 = .ok (.sipush 192, 3) := by decide +kernel
theorem dX4_addEntry_139 : decode cX4_addEntry 139 = .ok (.if_icmp .ge 29, 3) := by decide +kernel
theorem dX4_addEntry_142 : decode cX4_addEntry 142 = .ok (.aload_n 0, 1) := by decide +kernel
theorem dX4_addEntry_143 : decode cX4_addEntry 143 = .ok (.iload_n 1, 1) := by decide +kernel
theorem dX4_addEntry_144 : decode cX4_addEntry 144 = .ok (.invokevirtual 111, 3) := by decide +kernel
theorem dX4_addEntry_147 : decode cX4_addEntry 147 = .ok (.ifCond .eq 15, 3) := by decide +kernel
theorem dX4_addEntry_162 : decode cX4_addEntry 162 = .ok (.iinc 1 1, 3) := by decide +kernel
theorem dX4_addEntry_165 : decode cX4_addEntry 165 = .ok (.goto (-30), 3) := by decide +kernel
theorem dX4_addEntry_150 : decode cX4_addEntry 150 = .ok (.aload_n 0, 1) := by decide +kernel
theorem dX4_addEntry_151 : decode cX4_addEntry 151 = .ok (.aload_n 0, 1) := by decide +kernel
theorem dX4_addEntry_152 : decode cX4_addEntry 152 = .ok (.getfield 57, 3) := by decide +kernel
theorem dX4_addEntry_155 : decode cX4_addEntry 155 = .ok (.iload_n 1, 1) := by decide +kernel
theorem dX4_addEntry_156 : decode cX4_addEntry 156 = .ok (.iadd, 1) := by decide +kernel
theorem dX4_addEntry_157 : decode cX4_addEntry 157 = .ok (.iconst 1, 1) := by decide +kernel
theorem dX4_addEntry_158 : decode cX4_addEntry 158 = .ok (.iconst 0, 1) := by decide +kernel
theorem dX4_addEntry_159 : decode cX4_addEntry 159 = .ok (.invokevirtual 151, 3) := by decide +kernel
set_option maxRecDepth 20000 in
theorem l_X4_addEntry_135 (d : Nat) {T : CT} {σ0 : MS} {a : Nat} {post : Option Value → CT → MS → Prop} (h_a : OB T a 4) (hw0 : WT T σ0) (hh : 0 ≤ σ0.2.1 25 a) (hg : 0 ≤ σ0.2.1 26 a) (hx_168 : ∀ (i1 : Int) (σ : MS) , (WT T σ) → (FrC T [32] σ0 σ) → (0 ≤ i1 ∧ i1 ≤ 2147483647) → Tn (d + 4) m_X4_addEntry 168 T σ [(0, .ref a), (1, .int (iI i1))] [] post) : ∀ (n : Nat) (i1 : Int) (σ : MS) , (WT T σ) → (FrC T [32] σ0 σ) → (0 ≤ i1 ∧ i1 ≤ 2147483647) → (2147483700 - i1).toNat = n → Tn (d + 4) m_X4_addEntry 135 T σ [(0, .ref a), (1, .int (iI i1))] [] post := by
  intro n
  induction n using Nat.strongRecOn with
  | _ n ih =>
    intro i1 σ hw hF r_i1 hm
    refine tn_iload_n dX4_addEntry_135 rfl 1 rfl ?_
    refine tn_sipush dX4_addEntry_136 (by decide) ?_
    refine tn_icmp_ge (tgt := 168) dX4_addEntry_139 (by decide) ⟨by omega, by omega⟩ ⟨by decide, by decide⟩ (fun h1 => ?_) (fun h1 => ?_)
    · exact tn_sub [0, 1] rfl (hx_168 (i1) σ hw (FrC.rfl.trans (FrC.sub hF (by decide))) (by omega))
    · refine tn_aload_n dX4_addEntry_142 rfl 0 rfl ?_
      refine tn_iload_n dX4_addEntry_143 rfl 1 rfl ?_
      refine tn_callV (M := m_X4_addEntry) (pc := 144) (ix := 111) (ci := 4) (M' := m_X4_needsNought) (As := [.int (iI i1)]) (rest := []) dX4_addEntry_144 ok_X4_needsNought im_X4_needsNought se_X4_needsNought ml4_111 np_X4_needsNought rfl rfl h_a rfl (Nat.le_of_ble_eq_true rfl) (Nat.le_of_ble_eq_true rfl) rfl (k_X4_needsNought (d) (T := T) (σ := σ) (a := a) (p1 := i1) h_a (by omega) hw (by rw [show σ.2.1 26 a = σ0.2.1 26 a from rc_F hF (Or.inl (by decide)) (by decide) (rfl)]; omega)) (fun r2 T4 σ3 gt5 hp => ?_)
      obtain ⟨v7, rfl, rfl, rfl, f6⟩ := hp
      clear gt5
      show Tn _ _ 147 T σ [(0, .ref a), (1, .int (iI i1))] [.int (iI v7)] _
      refine tn_if_eq (tgt := 162) dX4_addEntry_147 (by decide) ⟨by omega, by omega⟩ (fun h8 => ?_) (fun h8 => ?_)
      · refine tn_iinc (q0 := 1) (L' := [(1, .int (iI (i1 + 1))), (0, .ref a)]) dX4_addEntry_162 rfl (by decide) rfl ?_
        refine tn_goto (tgt := 135) dX4_addEntry_165 (by decide) ?_
        exact tn_sub [1, 0] rfl (ih _ (by omega) (i1 + 1) σ hw (FrC.rfl.trans (FrC.sub hF (by decide))) (by omega) rfl)
      · refine tn_aload_n dX4_addEntry_150 rfl 0 rfl ?_
        refine tn_aload_n dX4_addEntry_151 rfl 0 rfl ?_
        refine tn_getI (ci := 4) (i := 4) (n := 27) (t := σ0.2.1 27 a) dX4_addEntry_152 rfl lay_4 (by decide) fl4_57 h_a rfl rfl (rc_F hF (Or.inl (by decide)) (by decide) (rfl)) ?_
        have g9 : ((-2147483648 : Int) ≤ σ0.2.1 27 a ∧ σ0.2.1 27 a ≤ 2147483647) := wf_27 hw0 h_a
        refine tn_iload_n dX4_addEntry_155 rfl 1 rfl ?_
        refine tn_iadd dX4_addEntry_156 ?_
        refine tn_any (fun z10 g11 => ?_)
        have g11r : -2147483648 ≤ z10 ∧ z10 ≤ 2147483647 := g11
        refine tn_iconst dX4_addEntry_157 ?_
        refine tn_iconst dX4_addEntry_158 ?_
        refine tn_callV (M := m_X4_addEntry) (pc := 159) (ix := 151) (ci := 4) (M' := m_X4_addCopy) (As := [.int (iI z10), .int (iI 1), .int (iI 0)]) (rest := []) dX4_addEntry_159 ok_X4_addCopy im_X4_addCopy se_X4_addCopy ml4_151 np_X4_addCopy rfl rfl h_a rfl (Nat.le_of_ble_eq_true rfl) (Nat.le_of_ble_eq_true rfl) rfl (k_X4_addCopy (d) (T := T) (σ := σ) (a := a) (p1 := z10) (p2 := 1) (p3 := 0) h_a (by omega) (by decide) (by decide) hw (by rw [show σ.2.1 25 a = σ0.2.1 25 a from rc_F hF (Or.inl (by decide)) (by decide) (rfl)]; omega)) (fun r12 T14 σ13 gt15 hp => ?_)
        obtain ⟨rfl, rfl, w17, F18⟩ := hp
        clear gt15
        show Tn _ _ 162 T σ13 [(0, .ref a), (1, .int (iI i1))] [] _
        refine tn_iinc (q0 := 1) (L' := [(1, .int (iI (i1 + 1))), (0, .ref a)]) dX4_addEntry_162 rfl (by decide) rfl ?_
        refine tn_goto (tgt := 135) dX4_addEntry_165 (by decide) ?_
        exact tn_sub [1, 0] rfl (ih _ (by omega) (i1 + 1) σ13 w17 ((FrC.rfl.trans (FrC.sub hF (by decide))).trans (FrC.sub F18 (by decide))) (by omega) rfl)
theorem dX4_addEntry_168 : decode cX4_addEntry 168 = .ok (.return_, 1) := by decide +kernel
set_option maxRecDepth 20000 in
theorem k_X4_addEntry (d : Nat) {T : CT} {σ : MS} {a : Nat} (ha : OB T a 4) (hw : WT T σ) (hh : 0 ≤ σ.2.1 25 a) (hg : 0 ≤ σ.2.1 26 a) : Tn (d + 4) m_X4_addEntry 0 T σ [(0, .ref a)] [] (fun ro T2 σ2 => ro = none ∧ T = T2 ∧ WT T2 σ2 ∧ FrC T [32] σ σ2) := by
  refine tn_aload_n dX4_addEntry_0 rfl 0 rfl ?_
  refine tn_bipush dX4_addEntry_1 (by decide) ?_
  refine tn_aload_n dX4_addEntry_3 rfl 0 rfl ?_
  refine tn_getI (ci := 4) (i := 6) (n := 29) (t := σ.2.1 29 a) dX4_addEntry_4 rfl lay_4 (by decide) fl4_69 ha rfl rfl (rfl) ?_
  have g1 : ((-2147483648 : Int) ≤ σ.2.1 29 a ∧ σ.2.1 29 a ≤ 2147483647) := wf_29 hw ha
  refine tn_iconst dX4_addEntry_7 ?_
  refine tn_callV (M := m_X4_addEntry) (pc := 8) (ix := 148) (ci := 4) (M' := m_X4_addRow) (As := [.int (iI 14), .int (iI (σ.2.1 29 a)), .int (iI 0)]) (rest := []) dX4_addEntry_8 ok_X4_addRow im_X4_addRow se_X4_addRow ml4_148 np_X4_addRow rfl rfl ha rfl (Nat.le_of_ble_eq_true rfl) (Nat.le_of_ble_eq_true rfl) rfl (k_X4_addRow (d + 1) (T := T) (σ := σ) (a := a) (p1 := 14) (p2 := σ.2.1 29 a) (p3 := 0) ha (by decide) (by omega) (by decide) hw (by omega)) (fun r2 T4 σ3 gt5 hp => ?_)
  obtain ⟨rfl, rfl, w7, F8⟩ := hp
  clear gt5
  show Tn _ _ 11 T σ3 [(0, .ref a)] [] _
  refine tn_iconst dX4_addEntry_11 ?_
  refine tn_istore_n (L' := [(1, .int (iI 0)), (0, .ref a)]) dX4_addEntry_12 rfl (by decide) rfl ?_
  refine tn_sub [1, 0] rfl (l_X4_addEntry_13 (d) (T := T) (σ0 := σ3) (a := a) ha w7 (by rw [show σ3.2.1 25 a = σ.2.1 25 a from rc_F F8 (Or.inl (by decide)) (by decide) (rfl)]; omega) (by rw [show σ3.2.1 26 a = σ.2.1 26 a from rc_F F8 (Or.inl (by decide)) (by decide) (rfl)]; omega) (fun i19 σ10 w13 F14 r15 => ?_) _ (0) σ3 w7 FrC.rfl (by omega) rfl)
  show Tn _ _ 133 T σ10 [(0, .ref a), (1, .int (iI i19))] [] _
  refine tn_iconst dX4_addEntry_133 ?_
  refine tn_istore_n (L' := [(1, .int (iI 0)), (0, .ref a)]) dX4_addEntry_134 rfl (by decide) rfl ?_
  refine tn_sub [1, 0] rfl (l_X4_addEntry_135 (d) (T := T) (σ0 := σ10) (a := a) ha w13 (by rw [show σ10.2.1 25 a = σ.2.1 25 a from rc_F F14 (Or.inl (by decide)) (by decide) (rc_F F8 (Or.inl (by decide)) (by decide) (rfl))]; omega) (by rw [show σ10.2.1 26 a = σ.2.1 26 a from rc_F F14 (Or.inl (by decide)) (by decide) (rc_F F8 (Or.inl (by decide)) (by decide) (rfl))]; omega) (fun i116 σ17 w20 F21 r22 => ?_) _ (0) σ10 w13 FrC.rfl (by omega) rfl)
  show Tn _ _ 168 T σ17 [(0, .ref a), (1, .int (iI i116))] [] _
  exact tn_vret rfl dX4_addEntry_168 ⟨rfl, rfl, w20, (((FrC.rfl.trans (FrC.sub F8 (by decide))).trans (FrC.sub F14 (by decide))).trans (FrC.sub F21 (by decide)))⟩
