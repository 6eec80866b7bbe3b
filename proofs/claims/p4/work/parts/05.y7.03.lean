theorem cd_X3_settleAhead : Cond.code yX3_settleAhead cX3_settleAhead 7 (some .boolean) ∈ pWW := pw5 (List.mem_of_getElem? (i := 46) rfl) rfl
abbrev m_X3_settleAhead : MT := (yX3_settleAhead, cX3_settleAhead, 7, (some .boolean))
theorem ok_X3_settleAhead : pOk m_X3_settleAhead := ⟨⟨cd_X3_settleAhead, ini_3⟩, by decide +kernel, ⟨by decide +kernel, by decide +kernel⟩, Nat.le_of_ble_eq_true rfl⟩
theorem np_X3_settleAhead : (parseMethodDescriptor yX3_settleAhead.desc).map (fun d => d.parameters.length) = some 2 := by decide +kernel
theorem im_X3_settleAhead : Cond.instanceMethod yX3_settleAhead ∈ pWW := pw5 (List.mem_of_getElem? (i := 45) rfl) rfl
theorem se_X3_settleAhead : Cond.selects RX3 yX3_settleAhead yX3_settleAhead ∈ pWW := pws (List.mem_map.mpr ⟨_, lw_pin 53 rfl, rfl⟩) rfl
theorem ml3_64 : Cond.methodLink RX3 64 yX1_writtenBy ∈ pWW := pw5 (List.mem_of_getElem? (i := 14) rfl) rfl
theorem nl3_67 : (RX3, 67, yX11_exclude, "LineKeeper") ∈ nst_M := List.mem_of_getElem? (i := 27) rfl
theorem ml3_71 : Cond.methodLink RX3 71 yX1_kindAt ∈ pWW := pw5 (List.mem_of_getElem? (i := 53) rfl) rfl
theorem nl3_74 : (RX3, 74, yX11_isAct, "LineKeeper") ∈ nst_M := List.mem_of_getElem? (i := 28) rfl
theorem dX3_settleAhead_0 : decode cX3_settleAhead 0 = .ok (.aload_n 0, 1) := by decide +kernel
theorem dX3_settleAhead_1 : decode cX3_settleAhead 1 = .ok (.getfield 15, 3) := by decide +kernel
theorem dX3_settleAhead_4 : decode cX3_settleAhead 4 = .ok (.iconst 0, 1) := by decide +kernel
theorem dX3_settleAhead_5 : decode cX3_settleAhead 5 = .ok (.aload_n 1, 1) := by decide +kernel
theorem dX3_settleAhead_6 : decode cX3_settleAhead 6 = .ok (.iload_n 2, 1) := by decide +kernel
theorem dX3_settleAhead_7 : decode cX3_settleAhead 7 = .ok (.invokevirtual 64, 3) := by decide +kernel
theorem dX3_settleAhead_10 : decode cX3_settleAhead 10 = .ok (.invokestatic 67, 3) := by decide +kernel
theorem dX3_settleAhead_13 : decode cX3_settleAhead 13 = .ok (.aload_n 1, 1) := by decide +kernel
theorem dX3_settleAhead_14 : decode cX3_settleAhead 14 = .ok (.iload_n 2, 1) := by decide +kernel
theorem dX3_settleAhead_15 : decode cX3_settleAhead 15 = .ok (.invokevirtual 71, 3) := by decide +kernel
theorem dX3_settleAhead_18 : decode cX3_settleAhead 18 = .ok (.invokestatic 74, 3) := by decide +kernel
theorem dX3_settleAhead_21 : decode cX3_settleAhead 21 = .ok (.ifCond .eq 43, 3) := by decide +kernel
theorem dX3_settleAhead_64 : decode cX3_settleAhead 64 = .ok (.iconst 0, 1) := by decide +kernel
theorem dX3_settleAhead_65 : decode cX3_settleAhead 65 = .ok (.istore_n 3, 1) := by decide +kernel
theorem dX3_settleAhead_66 : decode cX3_settleAhead 66 = .ok (.iconst 0, 1) := by decide +kernel
theorem dX3_settleAhead_67 : decode cX3_settleAhead 67 = .ok (.istore 4, 2) := by decide +kernel
theorem dX3_settleAhead_69 : decode cX3_settleAhead 69 = .ok (.iload 4, 2) := by decide +kernel
theorem dX3_settleAhead_71 : decode cX3_settleAhead 71 = .ok (.iconst 3, 1) := by decide +kernel
theorem dX3_settleAhead_72 : decode cX3_settleAhead 72 = .ok (.if_icmp .ge 56, 3) := by decide +kernel
theorem dX3_settleAhead_75 : decode cX3_settleAhead 75 = .ok (.aload_n 0, 1) := by decide +kernel
theorem dX3_settleAhead_76 : decode cX3_settleAhead 76 = .ok (.getfield 15, 3) := by decide +kernel
theorem dX3_settleAhead_79 : decode cX3_settleAhead 79 = .ok (.iload 4, 2) := by decide +kernel
theorem dX3_settleAhead_81 : decode cX3_settleAhead 81 = .ok (.invokestatic 56, 3) := by decide +kernel
theorem dX3_settleAhead_84 : decode cX3_settleAhead 84 = .ok (.lstore 5, 2) := by decide +kernel
theorem dX3_settleAhead_86 : decode cX3_settleAhead 86 = .ok (.lload 5, 2) := by decide +kernel
theorem dX3_settleAhead_88 : decode cX3_settleAhead 88 = .ok (.aload_n 0, 1) := by decide +kernel
theorem dX3_settleAhead_89 : decode cX3_settleAhead 89 = .ok (.getfield 9, 3) := by decide +kernel
theorem dX3_settleAhead_92 : decode cX3_settleAhead 92 = .ok (.iload_n 2, 1) := by decide +kernel
theorem dX3_settleAhead_93 : decode cX3_settleAhead 93 = .ok (.iconst 3, 1) := by decide +kernel
theorem dX3_settleAhead_94 : decode cX3_settleAhead 94 = .ok (.imul, 1) := by decide +kernel
theorem dX3_settleAhead_95 : decode cX3_settleAhead 95 = .ok (.iload 4, 2) := by decide +kernel
theorem dX3_settleAhead_97 : decode cX3_settleAhead 97 = .ok (.iadd, 1) := by decide +kernel
theorem dX3_settleAhead_98 : decode cX3_settleAhead 98 = .ok (.invokestatic 56, 3) := by decide +kernel
theorem dX3_settleAhead_101 : decode cX3_settleAhead 101 = .ok (.lcmp, 1) := by decide +kernel
theorem dX3_settleAhead_102 : decode cX3_settleAhead 102 = .ok (.ifCond .eq 20, 3) := by decide +kernel
theorem dX3_settleAhead_122 : decode cX3_settleAhead 122 = .ok (.iinc 4 1, 3) := by decide +kernel
theorem dX3_settleAhead_125 : decode cX3_settleAhead 125 = .ok (.goto (-56), 3) := by decide +kernel
theorem dX3_settleAhead_105 : decode cX3_settleAhead 105 = .ok (.aload_n 0, 1) := by decide +kernel
theorem dX3_settleAhead_106 : decode cX3_settleAhead 106 = .ok (.getfield 9, 3) := by decide +kernel
theorem dX3_settleAhead_109 : decode cX3_settleAhead 109 = .ok (.iload_n 2, 1) := by decide +kernel
theorem dX3_settleAhead_110 : decode cX3_settleAhead 110 = .ok (.iconst 3, 1) := by decide +kernel
theorem dX3_settleAhead_111 : decode cX3_settleAhead 111 = .ok (.imul, 1) := by decide +kernel
theorem dX3_settleAhead_112 : decode cX3_settleAhead 112 = .ok (.iload 4, 2) := by decide +kernel
theorem dX3_settleAhead_114 : decode cX3_settleAhead 114 = .ok (.iadd, 1) := by decide +kernel
theorem dX3_settleAhead_115 : decode cX3_settleAhead 115 = .ok (.lload 5, 2) := by decide +kernel
theorem dX3_settleAhead_117 : decode cX3_settleAhead 117 = .ok (.invokestatic 60, 3) := by decide +kernel
theorem dX3_settleAhead_120 : decode cX3_settleAhead 120 = .ok (.iconst 1, 1) := by decide +kernel
theorem dX3_settleAhead_121 : decode cX3_settleAhead 121 = .ok (.istore_n 3, 1) := by decide +kernel
set_option maxRecDepth 20000 in
theorem l_X3_settleAhead_69 (d : Nat) {T : CT} {σ0 : MS} {a : Nat} {c2 : Int} {post : Option Value → CT → MS → Prop} (h_a : OB T a 3) (r_c2 : -2147483648 ≤ c2 ∧ c2 ≤ 2147483647) (hw0 : WT T σ0) (hx_128 : ∀ (i3 : Int) (i4 : Int) (σ : MS) , (WT T σ) → (FrC T [] σ0 σ) → (0 ≤ i3 ∧ i3 ≤ 1) → (0 ≤ i4 ∧ i4 ≤ 2147483647) → Tn (d + 3) m_X3_settleAhead 128 T σ [(0, .ref a), (2, .int (iI c2)), (3, .int (iI i3)), (4, .int (iI i4))] [] post) : ∀ (n : Nat) (i3 : Int) (i4 : Int) (σ : MS) , (WT T σ) → (FrC T [] σ0 σ) → (0 ≤ i3 ∧ i3 ≤ 1) → (0 ≤ i4 ∧ i4 ≤ 2147483647) → (2147483700 - i4).toNat = n → Tn (d + 3) m_X3_settleAhead 69 T σ [(0, .ref a), (2, .int (iI c2)), (3, .int (iI i3)), (4, .int (iI i4))] [] post := by
  intro n
  induction n using Nat.strongRecOn with
  | _ n ih =>
    intro i3 i4 σ hw hF r_i3 r_i4 hm
    refine tn_iload dX3_settleAhead_69 3 rfl ?_
    refine tn_iconst dX3_settleAhead_71 ?_
    refine tn_icmp_ge (tgt := 128) dX3_settleAhead_72 (by decide) ⟨by omega, by omega⟩ ⟨by decide, by decide⟩ (fun h1 => ?_) (fun h1 => ?_)
    · exact tn_sub [0, 1, 2, 3] rfl (hx_128 (i3) (i4) σ hw (FrC.rfl.trans (FrC.sub hF (by decide))) (by omega) (by omega))
    · refine tn_aload_n dX3_settleAhead_75 rfl 0 rfl ?_
      obtain ⟨x2, hx3, hk4, hl5⟩ : ∃ x : Nat, σ0.2.1 19 a = (x : Int) ∧ AR T x 3 3 3 := wf_19 hw0 h_a
      refine tn_getR (ci := 3) (i := 1) (n := 19) (x := x2) dX3_settleAhead_76 rfl lay_3 (by decide) fl3_15 h_a rfl rfl (rc_F hF (Or.inl (by decide)) (by decide) (hx3)) ?_
      refine tn_iload dX3_settleAhead_79 3 rfl ?_
      refine tn_callSN (M := m_X3_settleAhead) (pc := 81) (ix := 56) (M' := m_X11_bitsAt) (As := [.ref x2, .int (iI i4)]) (rest := []) dX3_settleAhead_81 ok_X11_bitsAt stt_X11_bitsAt nl3_56 np_X11_bitsAt rfl (Nat.le_of_ble_eq_true rfl) (Nat.le_of_ble_eq_true rfl) rfl (k_X11_bitsAt (d + 1) (T := T) (σ := σ) (x := x2) (i := i4) hk4 (by omega) (by omega) hw ) (fun r6 T8 σ7 gt9 hp => ?_)
      obtain ⟨v10, rfl, rfl, rfl⟩ := hp
      clear gt9
      show Tn _ _ 84 T σ [(0, .ref a), (2, .int (iI c2)), (3, .int (iI i3)), (4, .int (iI i4))] [.long (v10)] _
      refine tn_lstore (L' := [(5, .long (v10)), (0, .ref a), (2, .int (iI c2)), (3, .int (iI i3)), (4, .int (iI i4))]) dX3_settleAhead_84 (by decide) rfl ?_
      refine tn_lload dX3_settleAhead_86 0 rfl ?_
      refine tn_aload_n dX3_settleAhead_88 rfl 1 rfl ?_
      obtain ⟨x11, hx12, hk13, hl14⟩ : ∃ x : Nat, σ0.2.1 18 a = (x : Int) ∧ AR T x 3 603 603 := wf_18 hw0 h_a
      refine tn_getR (ci := 3) (i := 0) (n := 18) (x := x11) dX3_settleAhead_89 rfl lay_3 (by decide) fl3_9 h_a rfl rfl (rc_F hF (Or.inl (by decide)) (by decide) (hx12)) ?_
      refine tn_iload_n dX3_settleAhead_92 rfl 2 rfl ?_
      refine tn_iconst dX3_settleAhead_93 ?_
      refine tn_imul dX3_settleAhead_94 ?_
      refine tn_any (fun z15 g16 => ?_)
      have g16r : -2147483648 ≤ z15 ∧ z15 ≤ 2147483647 := g16
      refine tn_iload dX3_settleAhead_95 4 rfl ?_
      refine tn_iadd dX3_settleAhead_97 ?_
      refine tn_any (fun z17 g18 => ?_)
      have g18r : -2147483648 ≤ z17 ∧ z17 ≤ 2147483647 := g18
      refine tn_callSN (M := m_X3_settleAhead) (pc := 98) (ix := 56) (M' := m_X11_bitsAt) (As := [.ref x11, .int (iI z17)]) (rest := [.long (v10)]) dX3_settleAhead_98 ok_X11_bitsAt stt_X11_bitsAt nl3_56 np_X11_bitsAt rfl (Nat.le_of_ble_eq_true rfl) (Nat.le_of_ble_eq_true rfl) rfl (k_X11_bitsAt (d + 1) (T := T) (σ := σ) (x := x11) (i := z17) hk13 (by omega) (by omega) hw ) (fun r19 T21 σ20 gt22 hp => ?_)
      obtain ⟨v23, rfl, rfl, rfl⟩ := hp
      clear gt22
      show Tn _ _ 101 T σ [(5, .long (v10)), (0, .ref a), (2, .int (iI c2)), (3, .int (iI i3)), (4, .int (iI i4))] [.long (v23), .long (v10)] _
      refine tn_lcmpX dX3_settleAhead_101 ?_
      refine tn_anyI (fun z24 g25 => ?_)
      have g25r : -2147483648 ≤ z24 ∧ z24 ≤ 2147483647 := g25
      refine tn_if_eq (tgt := 122) dX3_settleAhead_102 (by decide) ⟨by omega, by omega⟩ (fun h26 => ?_) (fun h26 => ?_)
      · refine tn_iinc (q0 := 4) (L' := [(4, .int (iI (i4 + 1))), (5, .long (v10)), (0, .ref a), (2, .int (iI c2)), (3, .int (iI i3))]) dX3_settleAhead_122 rfl (by decide) rfl ?_
        refine tn_goto (tgt := 69) dX3_settleAhead_125 (by decide) ?_
        exact tn_sub [2, 3, 4, 0] rfl (ih _ (by omega) (i3) (i4 + 1) σ hw (FrC.rfl.trans (FrC.sub hF (by decide))) (by omega) (by omega) rfl)
      · refine tn_aload_n dX3_settleAhead_105 rfl 1 rfl ?_
        refine tn_getR (ci := 3) (i := 0) (n := 18) (x := x11) dX3_settleAhead_106 rfl lay_3 (by decide) fl3_9 h_a rfl rfl (rc_F hF (Or.inl (by decide)) (by decide) (hx12)) ?_
        refine tn_iload_n dX3_settleAhead_109 rfl 2 rfl ?_
        refine tn_iconst dX3_settleAhead_110 ?_
        refine tn_imul dX3_settleAhead_111 ?_
        refine tn_any (fun z27 g28 => ?_)
        have g28r : -2147483648 ≤ z27 ∧ z27 ≤ 2147483647 := g28
        refine tn_iload dX3_settleAhead_112 4 rfl ?_
        refine tn_iadd dX3_settleAhead_114 ?_
        refine tn_any (fun z29 g30 => ?_)
        have g30r : -2147483648 ≤ z29 ∧ z29 ≤ 2147483647 := g30
        refine tn_lload dX3_settleAhead_115 0 rfl ?_
        refine tn_callSN (M := m_X3_settleAhead) (pc := 117) (ix := 60) (M' := m_X11_putBits) (As := [.ref x11, .int (iI z29), .long (v10)]) (rest := []) dX3_settleAhead_117 ok_X11_putBits stt_X11_putBits nl3_60 np_X11_putBits rfl (Nat.le_of_ble_eq_true rfl) (Nat.le_of_ble_eq_true rfl) rfl (k_X11_putBits (d + 1) (T := T) (σ := σ) (x := x11) (i := z29) (w := v10) hk13 (by omega) (by omega) hw ) (fun r31 T33 σ32 gt34 hp => ?_)
        obtain ⟨rfl, rfl, w36, F37⟩ := hp
        clear gt34
        show Tn _ _ 120 T σ32 [(5, .long (v10)), (0, .ref a), (2, .int (iI c2)), (3, .int (iI i3)), (4, .int (iI i4))] [] _
        refine tn_iconst dX3_settleAhead_120 ?_
        refine tn_istore_n (L' := [(3, .int (iI 1)), (5, .long (v10)), (0, .ref a), (2, .int (iI c2)), (4, .int (iI i4))]) dX3_settleAhead_121 rfl (by decide) rfl ?_
        refine tn_iinc (q0 := 4) (L' := [(4, .int (iI (i4 + 1))), (3, .int (iI 1)), (5, .long (v10)), (0, .ref a), (2, .int (iI c2))]) dX3_settleAhead_122 rfl (by decide) rfl ?_
        refine tn_goto (tgt := 69) dX3_settleAhead_125 (by decide) ?_
        exact tn_sub [3, 4, 1, 0] rfl (ih _ (by omega) (1) (i4 + 1) σ32 w36 ((FrC.rfl.trans (FrC.sub hF (by decide))).trans (FrC.sub F37 (by decide))) (by decide) (by omega) rfl)
theorem ml3_77 : Cond.methodLink RX3 77 yX1_get ∈ pWW := pw5 (List.mem_of_getElem? (i := 55) rfl) rfl
theorem nl3_81 : (RX3, 81, yX11_include, "LineKeeper") ∈ nst_M := List.mem_of_getElem? (i := 29) rfl
theorem dX3_settleAhead_128 : decode cX3_settleAhead 128 = .ok (.iload_n 3, 1) := by decide +kernel
theorem dX3_settleAhead_129 : decode cX3_settleAhead 129 = .ok (.ireturn, 1) := by decide +kernel
theorem dX3_settleAhead_24 : decode cX3_settleAhead 24 = .ok (.iconst 3, 1) := by decide +kernel
theorem dX3_settleAhead_25 : decode cX3_settleAhead 25 = .ok (.istore_n 3, 1) := by decide +kernel
theorem dX3_settleAhead_26 : decode cX3_settleAhead 26 = .ok (.iload_n 3, 1) := by decide +kernel
theorem dX3_settleAhead_27 : decode cX3_settleAhead 27 = .ok (.bipush 11, 2) := by decide +kernel
theorem dX3_settleAhead_29 : decode cX3_settleAhead 29 = .ok (.if_icmp .ge 35, 3) := by decide +kernel
theorem dX3_settleAhead_32 : decode cX3_settleAhead 32 = .ok (.aload_n 1, 1) := by decide +kernel
theorem dX3_settleAhead_33 : decode cX3_settleAhead 33 = .ok (.iload_n 2, 1) := by decide +kernel
theorem dX3_settleAhead_34 : decode cX3_settleAhead 34 = .ok (.iload_n 3, 1) := by decide +kernel
theorem dX3_settleAhead_35 : decode cX3_settleAhead 35 = .ok (.invokevirtual 77, 3) := by decide +kernel
theorem dX3_settleAhead_38 : decode cX3_settleAhead 38 = .ok (.iconst 2, 1) := by decide +kernel
theorem dX3_settleAhead_39 : decode cX3_settleAhead 39 = .ok (.if_icmp .ne 19, 3) := by decide +kernel
theorem dX3_settleAhead_58 : decode cX3_settleAhead 58 = .ok (.iinc 3 2, 3) := by decide +kernel
theorem dX3_settleAhead_61 : decode cX3_settleAhead 61 = .ok (.goto (-35), 3) := by decide +kernel
theorem dX3_settleAhead_42 : decode cX3_settleAhead 42 = .ok (.aload_n 0, 1) := by decide +kernel
theorem dX3_settleAhead_43 : decode cX3_settleAhead 43 = .ok (.getfield 15, 3) := by decide +kernel
theorem dX3_settleAhead_46 : decode cX3_settleAhead 46 = .ok (.iconst 0, 1) := by decide +kernel
theorem dX3_settleAhead_47 : decode cX3_settleAhead 47 = .ok (.aload_n 1, 1) := by decide +kernel
theorem dX3_settleAhead_48 : decode cX3_settleAhead 48 = .ok (.iload_n 2, 1) := by decide +kernel
theorem dX3_settleAhead_49 : decode cX3_settleAhead 49 = .ok (.iload_n 3, 1) := by decide +kernel
theorem dX3_settleAhead_50 : decode cX3_settleAhead 50 = .ok (.iconst 1, 1) := by decide +kernel
theorem dX3_settleAhead_51 : decode cX3_settleAhead 51 = .ok (.iadd, 1) := by decide +kernel
theorem dX3_settleAhead_52 : decode cX3_settleAhead 52 = .ok (.invokevirtual 77, 3) := by decide +kernel
theorem dX3_settleAhead_55 : decode cX3_settleAhead 55 = .ok (.invokestatic 81, 3) := by decide +kernel
set_option maxRecDepth 20000 in
theorem l_X3_settleAhead_26 (d : Nat) {T : CT} {σ0 : MS} {a : Nat} {rx1 : Nat} {c2 : Int} {post : Option Value → CT → MS → Prop} (h_a : OB T a 3) (h_rx1 : OB T rx1 1) (r_c2 : -2147483648 ≤ c2 ∧ c2 ≤ 2147483647) (hw0 : WT T σ0) (hx_64 : ∀ (i3 : Int) (σ : MS) , (WT T σ) → (FrC T [] σ0 σ) → (3 ≤ i3 ∧ i3 ≤ 2147483647) → Tn (d + 3) m_X3_settleAhead 64 T σ [(0, .ref a), (1, .ref rx1), (2, .int (iI c2)), (3, .int (iI i3))] [] post) : ∀ (n : Nat) (i3 : Int) (σ : MS) , (WT T σ) → (FrC T [] σ0 σ) → (3 ≤ i3 ∧ i3 ≤ 2147483647) → (2147483700 - i3).toNat = n → Tn (d + 3) m_X3_settleAhead 26 T σ [(0, .ref a), (1, .ref rx1), (2, .int (iI c2)), (3, .int (iI i3))] [] post := by
  intro n
  induction n using Nat.strongRecOn with
  | _ n ih =>
    intro i3 σ hw hF r_i3 hm
    refine tn_iload_n dX3_settleAhead_26 rfl 3 rfl ?_
    refine tn_bipush dX3_settleAhead_27 (by decide) ?_
    refine tn_icmp_ge (tgt := 64) dX3_settleAhead_29 (by decide) ⟨by omega, by omega⟩ ⟨by decide, by decide⟩ (fun h1 => ?_) (fun h1 => ?_)
    · exact tn_sub [0, 1, 2, 3] rfl (hx_64 (i3) σ hw (FrC.rfl.trans (FrC.sub hF (by decide))) (by omega))
    · refine tn_aload_n dX3_settleAhead_32 rfl 1 rfl ?_
      refine tn_iload_n dX3_settleAhead_33 rfl 2 rfl ?_
      refine tn_iload_n dX3_settleAhead_34 rfl 3 rfl ?_
      refine tn_callV (M := m_X3_settleAhead) (pc := 35) (ix := 77) (ci := 1) (M' := m_X1_get) (As := [.int (iI c2), .int (iI i3)]) (rest := []) dX3_settleAhead_35 ok_X1_get im_X1_get se_X1_get ml3_77 np_X1_get rfl rfl h_rx1 rfl (Nat.le_of_ble_eq_true rfl) (Nat.le_of_ble_eq_true rfl) rfl (k_X1_get (d + 1) (T := T) (σ := σ) (a := rx1) (k := c2) (c := i3) h_rx1 (by omega) (by omega) hw (by omega)) (fun r2 T4 σ3 gt5 hp => ?_)
      obtain ⟨v7, rfl, rfl, rfl, f6⟩ := hp
      clear gt5
      show Tn _ _ 38 T σ [(0, .ref a), (1, .ref rx1), (2, .int (iI c2)), (3, .int (iI i3))] [.int (iI v7)] _
      refine tn_iconst dX3_settleAhead_38 ?_
      refine tn_icmp_ne (tgt := 58) dX3_settleAhead_39 (by decide) ⟨by omega, by omega⟩ ⟨by decide, by decide⟩ (fun h8 => ?_) (fun h8 => ?_)
      · refine tn_iinc (q0 := 3) (L' := [(3, .int (iI (i3 + 2))), (0, .ref a), (1, .ref rx1), (2, .int (iI c2))]) dX3_settleAhead_58 rfl (by decide) rfl ?_
        refine tn_goto (tgt := 26) dX3_settleAhead_61 (by decide) ?_
        exact tn_sub [1, 2, 3, 0] rfl (ih _ (by omega) (i3 + 2) σ hw (FrC.rfl.trans (FrC.sub hF (by decide))) (by omega) rfl)
      · refine tn_aload_n dX3_settleAhead_42 rfl 0 rfl ?_
        obtain ⟨x9, hx10, hk11, hl12⟩ : ∃ x : Nat, σ0.2.1 19 a = (x : Int) ∧ AR T x 3 3 3 := wf_19 hw0 h_a
        refine tn_getR (ci := 3) (i := 1) (n := 19) (x := x9) dX3_settleAhead_43 rfl lay_3 (by decide) fl3_15 h_a rfl rfl (rc_F hF (Or.inl (by decide)) (by decide) (hx10)) ?_
        refine tn_iconst dX3_settleAhead_46 ?_
        refine tn_aload_n dX3_settleAhead_47 rfl 1 rfl ?_
        refine tn_iload_n dX3_settleAhead_48 rfl 2 rfl ?_
        refine tn_iload_n dX3_settleAhead_49 rfl 3 rfl ?_
        refine tn_iconst dX3_settleAhead_50 ?_
        refine tn_iadd dX3_settleAhead_51 ?_
        refine tn_callV (M := m_X3_settleAhead) (pc := 52) (ix := 77) (ci := 1) (M' := m_X1_get) (As := [.int (iI c2), .int (iI (i3 + 1))]) (rest := [.int (iI 0), .ref x9]) dX3_settleAhead_52 ok_X1_get im_X1_get se_X1_get ml3_77 np_X1_get rfl rfl h_rx1 rfl (Nat.le_of_ble_eq_true rfl) (Nat.le_of_ble_eq_true rfl) rfl (k_X1_get (d + 1) (T := T) (σ := σ) (a := rx1) (k := c2) (c := i3 + 1) h_rx1 (by omega) (by omega) hw (by omega)) (fun r13 T15 σ14 gt16 hp => ?_)
        obtain ⟨v18, rfl, rfl, rfl, f17⟩ := hp
        clear gt16
        show Tn _ _ 55 T σ [(0, .ref a), (1, .ref rx1), (2, .int (iI c2)), (3, .int (iI i3))] [.int (iI v18), .int (iI 0), .ref x9] _
        refine tn_callSN (M := m_X3_settleAhead) (pc := 55) (ix := 81) (M' := m_X11_include) (As := [.ref x9, .int (iI 0), .int (iI v18)]) (rest := []) dX3_settleAhead_55 ok_X11_include stt_X11_include nl3_81 np_X11_include rfl (Nat.le_of_ble_eq_true rfl) (Nat.le_of_ble_eq_true rfl) rfl (k_X11_include (d) (T := T) (σ := σ) (x := x9) (k := 0) (r := v18) hk11 (by omega) (by decide) (by omega) hw ) (fun r19 T21 σ20 gt22 hp => ?_)
        obtain ⟨rfl, rfl, w24, F25⟩ := hp
        clear gt22
        show Tn _ _ 58 T σ20 [(0, .ref a), (1, .ref rx1), (2, .int (iI c2)), (3, .int (iI i3))] [] _
        refine tn_iinc (q0 := 3) (L' := [(3, .int (iI (i3 + 2))), (0, .ref a), (1, .ref rx1), (2, .int (iI c2))]) dX3_settleAhead_58 rfl (by decide) rfl ?_
        refine tn_goto (tgt := 26) dX3_settleAhead_61 (by decide) ?_
        exact tn_sub [1, 2, 3, 0] rfl (ih _ (by omega) (i3 + 2) σ20 w24 ((FrC.rfl.trans (FrC.sub hF (by decide))).trans (FrC.sub F25 (by decide))) (by omega) rfl)
set_option maxRecDepth 20000 in
theorem k_X3_settleAhead (d : Nat) {T : CT} {σ : MS} {a : Nat} {p1 : Nat} {p2 : Int} (ha : OB T a 3) (h_p1 : OB T p1 1) (h_p2 : -2147483648 ≤ p2 ∧ p2 ≤ 2147483647) (hw : WT T σ) : Tn (d + 3) m_X3_settleAhead 0 T σ [(0, .ref a), (1, .ref p1), (2, .int (iI p2))] [] (fun ro T2 σ2 => ∃ v : Int, ro = some (.int (iI v)) ∧ T = T2 ∧ WT T2 σ2 ∧ FrC T [] σ σ2 ∧ (v = 0 ∨ v = 1)) := by
  refine tn_aload_n dX3_settleAhead_0 rfl 0 rfl ?_
  obtain ⟨x1, hx2, hk3, hl4⟩ : ∃ x : Nat, σ.2.1 19 a = (x : Int) ∧ AR T x 3 3 3 := wf_19 hw ha
  refine tn_getR (ci := 3) (i := 1) (n := 19) (x := x1) dX3_settleAhead_1 rfl lay_3 (by decide) fl3_15 ha rfl rfl (hx2) ?_
  refine tn_iconst dX3_settleAhead_4 ?_
  refine tn_aload_n dX3_settleAhead_5 rfl 1 rfl ?_
  refine tn_iload_n dX3_settleAhead_6 rfl 2 rfl ?_
  refine tn_callV (M := m_X3_settleAhead) (pc := 7) (ix := 64) (ci := 1) (M' := m_X1_writtenBy) (As := [.int (iI p2)]) (rest := [.int (iI 0), .ref x1]) dX3_settleAhead_7 ok_X1_writtenBy im_X1_writtenBy se_X1_writtenBy ml3_64 np_X1_writtenBy rfl rfl h_p1 rfl (Nat.le_of_ble_eq_true rfl) (Nat.le_of_ble_eq_true rfl) rfl (k_X1_writtenBy (d) (T := T) (σ := σ) (a := p1) (k := p2) h_p1 (by omega) hw ) (fun r5 T7 σ6 gt8 hp => ?_)
  obtain ⟨v10, rfl, rfl, rfl, f9⟩ := hp
  clear gt8
  show Tn _ _ 10 T σ [(0, .ref a), (1, .ref p1), (2, .int (iI p2))] [.int (iI v10), .int (iI 0), .ref x1] _
  refine tn_callSN (M := m_X3_settleAhead) (pc := 10) (ix := 67) (M' := m_X11_exclude) (As := [.ref x1, .int (iI 0), .int (iI v10)]) (rest := []) dX3_settleAhead_10 ok_X11_exclude stt_X11_exclude nl3_67 np_X11_exclude rfl (Nat.le_of_ble_eq_true rfl) (Nat.le_of_ble_eq_true rfl) rfl (k_X11_exclude (d) (T := T) (σ := σ) (x := x1) (k := 0) (r := v10) hk3 (by omega) (by decide) (by omega) hw ) (fun r11 T13 σ12 gt14 hp => ?_)
  obtain ⟨rfl, rfl, w16, F17⟩ := hp
  clear gt14
  show Tn _ _ 13 T σ12 [(0, .ref a), (1, .ref p1), (2, .int (iI p2))] [] _
  refine tn_aload_n dX3_settleAhead_13 rfl 1 rfl ?_
  refine tn_iload_n dX3_settleAhead_14 rfl 2 rfl ?_
  refine tn_callV (M := m_X3_settleAhead) (pc := 15) (ix := 71) (ci := 1) (M' := m_X1_kindAt) (As := [.int (iI p2)]) (rest := []) dX3_settleAhead_15 ok_X1_kindAt im_X1_kindAt se_X1_kindAt ml3_71 np_X1_kindAt rfl rfl h_p1 rfl (Nat.le_of_ble_eq_true rfl) (Nat.le_of_ble_eq_true rfl) rfl (k_X1_kindAt (d + 1) (T := T) (σ := σ12) (a := p1) (k := p2) h_p1 (by omega) w16 ) (fun r18 T20 σ19 gt21 hp => ?_)
  obtain ⟨v24, rfl, rfl, rfl, f22, f23⟩ := hp
  clear gt21
  clear f23
  show Tn _ _ 18 T σ12 [(0, .ref a), (1, .ref p1), (2, .int (iI p2))] [.int (iI v24)] _
  refine tn_callSN (M := m_X3_settleAhead) (pc := 18) (ix := 74) (M' := m_X11_isAct) (As := [.int (iI v24)]) (rest := []) dX3_settleAhead_18 ok_X11_isAct stt_X11_isAct nl3_74 np_X11_isAct rfl (Nat.le_of_ble_eq_true rfl) (Nat.le_of_ble_eq_true rfl) rfl (k_X11_isAct (d + 1) (T := T) (σ := σ12) (k := v24) (by omega) w16 ) (fun r25 T27 σ26 gt28 hp => ?_)
  obtain ⟨v30, rfl, rfl, rfl, f29⟩ := hp
  clear gt28
  show Tn _ _ 21 T σ12 [(0, .ref a), (1, .ref p1), (2, .int (iI p2))] [.int (iI v30)] _
  refine tn_if_eq (tgt := 64) dX3_settleAhead_21 (by decide) ⟨by omega, by omega⟩ (fun h31 => ?_) (fun h31 => ?_)
  · refine tn_iconst dX3_settleAhead_64 ?_
    refine tn_istore_n (L' := [(3, .int (iI 0)), (0, .ref a), (1, .ref p1), (2, .int (iI p2))]) dX3_settleAhead_65 rfl (by decide) rfl ?_
    refine tn_iconst dX3_settleAhead_66 ?_
    refine tn_istore (L' := [(4, .int (iI 0)), (3, .int (iI 0)), (0, .ref a), (1, .ref p1), (2, .int (iI p2))]) dX3_settleAhead_67 (by decide) rfl ?_
    refine tn_sub [2, 4, 1, 0] rfl (l_X3_settleAhead_69 (d) (T := T) (σ0 := σ12) (a := a) (c2 := p2) ha (by omega) w16 (fun i332 i433 σ34 w37 F38 r39 r40 => ?_) _ (0) (0) σ12 w16 FrC.rfl (by omega) (by omega) rfl)
    show Tn _ _ 128 T σ34 [(0, .ref a), (2, .int (iI p2)), (3, .int (iI i332)), (4, .int (iI i433))] [] _
    refine tn_iload_n dX3_settleAhead_128 rfl 2 rfl ?_
    exact tn_zret (v := i332) rfl (by omega) dX3_settleAhead_129 ⟨_, rfl, rfl, w37, ((FrC.rfl.trans (FrC.sub F17 (by decide))).trans (FrC.sub F38 (by decide))), by omega⟩
  · refine tn_iconst dX3_settleAhead_24 ?_
    refine tn_istore_n (L' := [(3, .int (iI 3)), (0, .ref a), (1, .ref p1), (2, .int (iI p2))]) dX3_settleAhead_25 rfl (by decide) rfl ?_
    refine tn_sub [1, 2, 3, 0] rfl (l_X3_settleAhead_26 (d) (T := T) (σ0 := σ12) (a := a) (rx1 := p1) (c2 := p2) ha h_p1 (by omega) w16 (fun i341 σ42 w45 F46 r47 => ?_) _ (3) σ12 w16 FrC.rfl (by omega) rfl)
    show Tn _ _ 64 T σ42 [(0, .ref a), (1, .ref p1), (2, .int (iI p2)), (3, .int (iI i341))] [] _
    refine tn_iconst dX3_settleAhead_64 ?_
    refine tn_istore_n (L' := [(3, .int (iI 0)), (0, .ref a), (1, .ref p1), (2, .int (iI p2))]) dX3_settleAhead_65 rfl (by decide) rfl ?_
    refine tn_iconst dX3_settleAhead_66 ?_
    refine tn_istore (L' := [(4, .int (iI 0)), (3, .int (iI 0)), (0, .ref a), (1, .ref p1), (2, .int (iI p2))]) dX3_settleAhead_67 (by decide) rfl ?_
    refine tn_sub [2, 4, 1, 0] rfl (l_X3_settleAhead_69 (d) (T := T) (σ0 := σ42) (a := a) (c2 := p2) ha (by omega) w45 (fun i348 i449 σ50 w53 F54 r55 r56 => ?_) _ (0) (0) σ42 w45 FrC.rfl (by omega) (by omega) rfl)
    show Tn _ _ 128 T σ50 [(0, .ref a), (2, .int (iI p2)), (3, .int (iI i348)), (4, .int (iI i449))] [] _
    refine tn_iload_n dX3_settleAhead_128 rfl 2 rfl ?_
    exact tn_zret (v := i348) rfl (by omega) dX3_settleAhead_129 ⟨_, rfl, rfl, w53, (((FrC.rfl.trans (FrC.sub F17 (by decide))).trans (FrC.sub F46 (by decide))).trans (FrC.sub F54 (by decide))), by omega⟩
