theorem cd_X0_sameNames : Cond.code yX0_sameNames cX0_sameNames 9 (some .boolean) ∈ pWW := pw6 (List.mem_of_getElem? (i := 225) rfl) rfl
abbrev m_X0_sameNames : MT := (yX0_sameNames, cX0_sameNames, 9, (some .boolean))
theorem ok_X0_sameNames : pOk m_X0_sameNames := ⟨⟨cd_X0_sameNames, ini_0⟩, by decide +kernel, ⟨by decide +kernel, by decide +kernel⟩, Nat.le_of_ble_eq_true rfl⟩
theorem np_X0_sameNames : (parseMethodDescriptor yX0_sameNames.desc).map (fun d => d.parameters.length) = some 1 := by decide +kernel
theorem im_X0_sameNames : Cond.instanceMethod yX0_sameNames ∈ pWW := pw6 (List.mem_of_getElem? (i := 224) rfl) rfl
theorem se_X0_sameNames : Cond.selects RX0 yX0_sameNames yX0_sameNames ∈ pWW := pws (List.mem_map.mpr ⟨_, lw_pin 99 rfl, rfl⟩) rfl
theorem ml0_77 : Cond.methodLink RX0 77 yX7_foundCode ∈ pWW := pw6 (List.mem_of_getElem? (i := 226) rfl) rfl
theorem ml0_81 : Cond.methodLink RX0 81 yX7_foundSource ∈ pWW := pw6 (List.mem_of_getElem? (i := 227) rfl) rfl
theorem ml0_84 : Cond.methodLink RX0 84 yX7_foundSlot ∈ pWW := pw6 (List.mem_of_getElem? (i := 228) rfl) rfl
theorem ml0_88 : Cond.methodLink RX0 88 yX7_foundNames ∈ pWW := pw6 (List.mem_of_getElem? (i := 229) rfl) rfl
theorem ml0_91 : Cond.methodLink RX0 91 yX10_idIn ∈ pWW := pw6 (List.mem_of_getElem? (i := 230) rfl) rfl
theorem fl0_27 : Cond.fieldLink RX0 27 (TX0 3).1 (TX0 3).2.1 (TX0 3).2.2.1 ∈ pWW := pw6 (List.mem_of_getElem? (i := 186) rfl) rfl
theorem dX0_sameNames_0 : decode cX0_sameNames 0 = .ok (.iconst 1, 1) := by decide +kernel
theorem dX0_sameNames_1 : decode cX0_sameNames 1 = .ok (.istore_n 2, 1) := by decide +kernel
theorem dX0_sameNames_2 : decode cX0_sameNames 2 = .ok (.aload_n 0, 1) := by decide +kernel
theorem dX0_sameNames_3 : decode cX0_sameNames 3 = .ok (.getfield 14, 3) := by decide +kernel
theorem dX0_sameNames_6 : decode cX0_sameNames 6 = .ok (.invokevirtual 77, 3) := by decide +kernel
theorem dX0_sameNames_9 : decode cX0_sameNames 9 = .ok (.astore_n 3, 1) := by decide +kernel
theorem dX0_sameNames_10 : decode cX0_sameNames 10 = .ok (.aload_n 0, 1) := by decide +kernel
theorem dX0_sameNames_11 : decode cX0_sameNames 11 = .ok (.getfield 14, 3) := by decide +kernel
theorem dX0_sameNames_14 : decode cX0_sameNames 14 = .ok (.invokevirtual 81, 3) := by decide +kernel
theorem dX0_sameNames_17 : decode cX0_sameNames 17 = .ok (.istore 4, 2) := by decide +kernel
theorem dX0_sameNames_19 : decode cX0_sameNames 19 = .ok (.aload_n 0, 1) := by decide +kernel
theorem dX0_sameNames_20 : decode cX0_sameNames 20 = .ok (.getfield 14, 3) := by decide +kernel
theorem dX0_sameNames_23 : decode cX0_sameNames 23 = .ok (.aload_n 1, 1) := by decide +kernel
theorem dX0_sameNames_24 : decode cX0_sameNames 24 = .ok (.invokevirtual 84, 3) := by decide +kernel
theorem dX0_sameNames_27 : decode cX0_sameNames 27 = .ok (.istore 5, 2) := by decide +kernel
theorem dX0_sameNames_29 : decode cX0_sameNames 29 = .ok (.aload_n 0, 1) := by decide +kernel
theorem dX0_sameNames_30 : decode cX0_sameNames 30 = .ok (.getfield 14, 3) := by decide +kernel
theorem dX0_sameNames_33 : decode cX0_sameNames 33 = .ok (.invokevirtual 88, 3) := by decide +kernel
theorem dX0_sameNames_36 : decode cX0_sameNames 36 = .ok (.istore 6, 2) := by decide +kernel
theorem dX0_sameNames_38 : decode cX0_sameNames 38 = .ok (.iconst 0, 1) := by decide +kernel
theorem dX0_sameNames_39 : decode cX0_sameNames 39 = .ok (.istore 7, 2) := by decide +kernel
theorem dX0_sameNames_41 : decode cX0_sameNames 41 = .ok (.iload 7, 2) := by decide +kernel
theorem dX0_sameNames_43 : decode cX0_sameNames 43 = .ok (.iload 6, 2) := by decide +kernel
theorem dX0_sameNames_45 : decode cX0_sameNames 45 = .ok (.if_icmp .ge 91, 3) := by decide +kernel
theorem dX0_sameNames_48 : decode cX0_sameNames 48 = .ok (.aload_n 1, 1) := by decide +kernel
theorem dX0_sameNames_49 : decode cX0_sameNames 49 = .ok (.iload 4, 2) := by decide +kernel
theorem dX0_sameNames_51 : decode cX0_sameNames 51 = .ok (.iload 5, 2) := by decide +kernel
theorem dX0_sameNames_53 : decode cX0_sameNames 53 = .ok (.iload 7, 2) := by decide +kernel
theorem dX0_sameNames_55 : decode cX0_sameNames 55 = .ok (.iadd, 1) := by decide +kernel
theorem dX0_sameNames_56 : decode cX0_sameNames 56 = .ok (.invokevirtual 91, 3) := by decide +kernel
theorem dX0_sameNames_59 : decode cX0_sameNames 59 = .ok (.istore 8, 2) := by decide +kernel
theorem dX0_sameNames_61 : decode cX0_sameNames 61 = .ok (.aload_n 3, 1) := by decide +kernel
theorem dX0_sameNames_62 : decode cX0_sameNames 62 = .ok (.ifnull 15, 3) := by decide +kernel
theorem dX0_sameNames_77 : decode cX0_sameNames 77 = .ok (.aload_n 0, 1) := by decide +kernel
theorem dX0_sameNames_78 : decode cX0_sameNames 78 = .ok (.dup, 1) := by decide +kernel
theorem dX0_sameNames_79 : decode cX0_sameNames 79 = .ok (.getfield 27, 3) := by decide +kernel
theorem dX0_sameNames_82 : decode cX0_sameNames 82 = .ok (.iconst 1, 1) := by decide +kernel
theorem dX0_sameNames_83 : decode cX0_sameNames 83 = .ok (.iadd, 1) := by decide +kernel
theorem dX0_sameNames_84 : decode cX0_sameNames 84 = .ok (.putfield 27, 3) := by decide +kernel
theorem dX0_sameNames_87 : decode cX0_sameNames 87 = .ok (.goto 43, 3) := by decide +kernel
theorem dX0_sameNames_130 : decode cX0_sameNames 130 = .ok (.iinc 7 1, 3) := by decide +kernel
theorem dX0_sameNames_133 : decode cX0_sameNames 133 = .ok (.goto (-92), 3) := by decide +kernel
set_option maxRecDepth 20000 in
theorem l_X0_sameNames_41 (d : Nat) {T : CT} {σ0 : MS} {a : Nat} {rx1 : Nat} {c4 : Int} {c5 : Int} {c6 : Int} {post : Option Value → CT → MS → Prop} (h_a : OB T a 0) (h_rx1 : OB T rx1 10) (r_c4 : -2147483648 ≤ c4 ∧ c4 ≤ 2147483647) (r_c5 : -2147483648 ≤ c5 ∧ c5 ≤ 2147483647) (r_c6 : 0 ≤ c6 ∧ c6 ≤ 12) (hw0 : WT T σ0) (hx_136 : ∀ (i2 : Int) (i7 : Int) (σ : MS) , (WT T σ) → (FrC T [2, 3] σ0 σ) → (0 ≤ i2 ∧ i2 ≤ 1) → (0 ≤ i7 ∧ i7 ≤ 2147483647) → Tn (d + 5) m_X0_sameNames 136 T σ [(0, .ref a), (1, .ref rx1), (2, .int (iI i2)), (3, .null), (4, .int (iI c4)), (5, .int (iI c5)), (6, .int (iI c6)), (7, .int (iI i7))] [] post) : ∀ (n : Nat) (i2 : Int) (i7 : Int) (σ : MS) , (WT T σ) → (FrC T [2, 3] σ0 σ) → (0 ≤ i2 ∧ i2 ≤ 1) → (0 ≤ i7 ∧ i7 ≤ 2147483647) → (2147483700 - i7).toNat = n → Tn (d + 5) m_X0_sameNames 41 T σ [(0, .ref a), (1, .ref rx1), (2, .int (iI i2)), (3, .null), (4, .int (iI c4)), (5, .int (iI c5)), (6, .int (iI c6)), (7, .int (iI i7))] [] post := by
  intro n
  induction n using Nat.strongRecOn with
  | _ n ih =>
    intro i2 i7 σ hw hF r_i2 r_i7 hm
    refine tn_iload dX0_sameNames_41 7 rfl ?_
    refine tn_iload dX0_sameNames_43 6 rfl ?_
    refine tn_icmp_ge (tgt := 136) dX0_sameNames_45 (by decide) ⟨by omega, by omega⟩ ⟨by omega, by omega⟩ (fun h1 => ?_) (fun h1 => ?_)
    · exact tn_sub [0, 1, 2, 3, 4, 5, 6, 7] rfl (hx_136 (i2) (i7) σ hw (FrC.rfl.trans (FrC.sub hF (by decide))) (by omega) (by omega))
    · refine tn_aload_n dX0_sameNames_48 rfl 1 rfl ?_
      refine tn_iload dX0_sameNames_49 4 rfl ?_
      refine tn_iload dX0_sameNames_51 5 rfl ?_
      refine tn_iload dX0_sameNames_53 7 rfl ?_
      refine tn_iadd dX0_sameNames_55 ?_
      refine tn_any (fun z2 g3 => ?_)
      have g3r : -2147483648 ≤ z2 ∧ z2 ≤ 2147483647 := g3
      refine tn_callV (M := m_X0_sameNames) (pc := 56) (ix := 91) (ci := 10) (M' := m_X10_idIn) (As := [.int (iI c4), .int (iI z2)]) (rest := []) dX0_sameNames_56 ok_X10_idIn im_X10_idIn se_X10_idIn ml0_91 np_X10_idIn rfl rfl h_rx1 rfl (Nat.le_of_ble_eq_true rfl) (Nat.le_of_ble_eq_true rfl) rfl (k_X10_idIn (d + 2) (T := T) (σ := σ) (a := rx1) (p1 := c4) (p2 := z2) h_rx1 (by omega) (by omega) hw ) (fun r4 T6 σ5 gt7 hp => ?_)
      obtain ⟨v9, rfl, rfl, rfl, f8⟩ := hp
      clear gt7
      show Tn _ _ 59 T σ [(0, .ref a), (1, .ref rx1), (2, .int (iI i2)), (3, .null), (4, .int (iI c4)), (5, .int (iI c5)), (6, .int (iI c6)), (7, .int (iI i7))] [.int (iI v9)] _
      refine tn_istore (L' := [(8, .int (iI v9)), (0, .ref a), (1, .ref rx1), (2, .int (iI i2)), (3, .null), (4, .int (iI c4)), (5, .int (iI c5)), (6, .int (iI c6)), (7, .int (iI i7))]) dX0_sameNames_59 (by decide) rfl ?_
      refine tn_aload_nN dX0_sameNames_61 rfl 4 rfl ?_
      refine tn_ifnullN (tgt := 77) dX0_sameNames_62 (by decide) ?_
      refine tn_aload_n dX0_sameNames_77 rfl 1 rfl ?_
      refine tn_dup dX0_sameNames_78 rfl ?_
      refine tn_getI (ci := 0) (i := 3) (n := 3) (t := σ.2.1 3 a) dX0_sameNames_79 rfl lay_0 (by decide) fl0_27 h_a rfl rfl (rfl) ?_
      have g10 : ((-2147483648 : Int) ≤ σ.2.1 3 a ∧ σ.2.1 3 a ≤ 2147483647) := wf_3 hw h_a
      refine tn_iconst dX0_sameNames_82 ?_
      refine tn_iadd dX0_sameNames_83 ?_
      refine tn_any (fun z11 g12 => ?_)
      have g12r : -2147483648 ≤ z11 ∧ z11 ≤ 2147483647 := g12
      refine tn_putV (ci := 0) (i := 3) (n := 3) (r := false) (v := z11) tyX0 tyX0_ok nmX0 dX0_sameNames_84 rfl lay_0 (by decide) fl0_27 rfl (tyX0_ok 3 (by decide)) rfl rfl rfl h_a rfl rfl ?_
      refine tn_goto (tgt := 130) dX0_sameNames_87 (by decide) ?_
      refine tn_iinc (q0 := 8) (L' := [(7, .int (iI (i7 + 1))), (8, .int (iI v9)), (0, .ref a), (1, .ref rx1), (2, .int (iI i2)), (3, .null), (4, .int (iI c4)), (5, .int (iI c5)), (6, .int (iI c6))]) dX0_sameNames_130 rfl (by decide) rfl ?_
      refine tn_goto (tgt := 41) dX0_sameNames_133 (by decide) ?_
      exact tn_sub [2, 3, 4, 5, 6, 7, 8, 0] rfl (ih _ (by omega) (i2) (i7 + 1) (sA 3 a (z11) σ) (hw.put (by decide) (by decide) (fo_3 (by omega))) ((FrC.rfl.trans (FrC.sub hF (by decide))).put (by decide) (by decide)) (by omega) (by omega) rfl)
theorem ml0_97 : Cond.methodLink RX0 97 yX10_whereOf ∈ pWW := pw6 (List.mem_of_getElem? (i := 231) rfl) rfl
theorem fl0_23 : Cond.fieldLink RX0 23 (TX0 2).1 (TX0 2).2.1 (TX0 2).2.2.1 ∈ pWW := pw6 (List.mem_of_getElem? (i := 184) rfl) rfl
theorem ml0_101 : Cond.methodLink RX0 101 yX7_foundValue ∈ pWW := pw6 (List.mem_of_getElem? (i := 232) rfl) rfl
theorem ml0_105 : Cond.methodLink RX0 105 yX7_foundRegister ∈ pWW := pw6 (List.mem_of_getElem? (i := 233) rfl) rfl
theorem dX0_sameNames_136 : decode cX0_sameNames 136 = .ok (.iload_n 2, 1) := by decide +kernel
theorem dX0_sameNames_137 : decode cX0_sameNames 137 = .ok (.ireturn, 1) := by decide +kernel
theorem dX0_sameNames_65 : decode cX0_sameNames 65 = .ok (.aload_n 1, 1) := by decide +kernel
theorem dX0_sameNames_66 : decode cX0_sameNames 66 = .ok (.aload_n 3, 1) := by decide +kernel
theorem dX0_sameNames_67 : decode cX0_sameNames 67 = .ok (.iload 8, 2) := by decide +kernel
theorem dX0_sameNames_69 : decode cX0_sameNames 69 = .ok (.invokevirtual 97, 3) := by decide +kernel
theorem dX0_sameNames_72 : decode cX0_sameNames 72 = .ok (.bipush 10, 2) := by decide +kernel
theorem dX0_sameNames_74 : decode cX0_sameNames 74 = .ok (.if_icmp .lt 16, 3) := by decide +kernel
theorem dX0_sameNames_90 : decode cX0_sameNames 90 = .ok (.aload_n 0, 1) := by decide +kernel
theorem dX0_sameNames_91 : decode cX0_sameNames 91 = .ok (.dup, 1) := by decide +kernel
theorem dX0_sameNames_92 : decode cX0_sameNames 92 = .ok (.getfield 23, 3) := by decide +kernel
theorem dX0_sameNames_95 : decode cX0_sameNames 95 = .ok (.iconst 1, 1) := by decide +kernel
theorem dX0_sameNames_96 : decode cX0_sameNames 96 = .ok (.iadd, 1) := by decide +kernel
theorem dX0_sameNames_97 : decode cX0_sameNames 97 = .ok (.putfield 23, 3) := by decide +kernel
theorem dX0_sameNames_100 : decode cX0_sameNames 100 = .ok (.iload_n 2, 1) := by decide +kernel
theorem dX0_sameNames_101 : decode cX0_sameNames 101 = .ok (.aload_n 0, 1) := by decide +kernel
theorem dX0_sameNames_102 : decode cX0_sameNames 102 = .ok (.getfield 14, 3) := by decide +kernel
theorem dX0_sameNames_105 : decode cX0_sameNames 105 = .ok (.aload_n 1, 1) := by decide +kernel
theorem dX0_sameNames_106 : decode cX0_sameNames 106 = .ok (.iload 8, 2) := by decide +kernel
theorem dX0_sameNames_108 : decode cX0_sameNames 108 = .ok (.invokevirtual 101, 3) := by decide +kernel
theorem dX0_sameNames_111 : decode cX0_sameNames 111 = .ok (.aload_n 0, 1) := by decide +kernel
theorem dX0_sameNames_112 : decode cX0_sameNames 112 = .ok (.getfield 20, 3) := by decide +kernel
theorem dX0_sameNames_115 : decode cX0_sameNames 115 = .ok (.iload 7, 2) := by decide +kernel
theorem dX0_sameNames_117 : decode cX0_sameNames 117 = .ok (.invokevirtual 105, 3) := by decide +kernel
theorem dX0_sameNames_120 : decode cX0_sameNames 120 = .ok (.if_icmp .ne 7, 3) := by decide +kernel
theorem dX0_sameNames_127 : decode cX0_sameNames 127 = .ok (.iconst 0, 1) := by decide +kernel
theorem dX0_sameNames_128 : decode cX0_sameNames 128 = .ok (.iand, 1) := by decide +kernel
theorem dX0_sameNames_129 : decode cX0_sameNames 129 = .ok (.istore_n 2, 1) := by decide +kernel
theorem dX0_sameNames_123 : decode cX0_sameNames 123 = .ok (.iconst 1, 1) := by decide +kernel
theorem dX0_sameNames_124 : decode cX0_sameNames 124 = .ok (.goto 4, 3) := by decide +kernel
set_option maxRecDepth 20000 in
theorem l_X0_sameNames_41_1 (d : Nat) {T : CT} {σ0 : MS} {a : Nat} {rx1 : Nat} {rx3 : Nat} {c4 : Int} {c5 : Int} {c6 : Int} {post : Option Value → CT → MS → Prop} (h_a : OB T a 0) (h_rx1 : OB T rx1 10) (h_rx3 : OB T rx3 1) (r_c4 : -2147483648 ≤ c4 ∧ c4 ≤ 2147483647) (r_c5 : -2147483648 ≤ c5 ∧ c5 ≤ 2147483647) (r_c6 : 0 ≤ c6 ∧ c6 ≤ 12) (hw0 : WT T σ0) (hx_136 : ∀ (i2 : Int) (i7 : Int) (σ : MS) , (WT T σ) → (FrC T [2, 3] σ0 σ) → (0 ≤ i2 ∧ i2 ≤ 1) → (0 ≤ i7 ∧ i7 ≤ 2147483647) → Tn (d + 5) m_X0_sameNames 136 T σ [(0, .ref a), (1, .ref rx1), (2, .int (iI i2)), (3, .ref rx3), (4, .int (iI c4)), (5, .int (iI c5)), (6, .int (iI c6)), (7, .int (iI i7))] [] post) : ∀ (n : Nat) (i2 : Int) (i7 : Int) (σ : MS) , (WT T σ) → (FrC T [2, 3] σ0 σ) → (0 ≤ i2 ∧ i2 ≤ 1) → (0 ≤ i7 ∧ i7 ≤ 2147483647) → (2147483700 - i7).toNat = n → Tn (d + 5) m_X0_sameNames 41 T σ [(0, .ref a), (1, .ref rx1), (2, .int (iI i2)), (3, .ref rx3), (4, .int (iI c4)), (5, .int (iI c5)), (6, .int (iI c6)), (7, .int (iI i7))] [] post := by
  intro n
  induction n using Nat.strongRecOn with
  | _ n ih =>
    intro i2 i7 σ hw hF r_i2 r_i7 hm
    refine tn_iload dX0_sameNames_41 7 rfl ?_
    refine tn_iload dX0_sameNames_43 6 rfl ?_
    refine tn_icmp_ge (tgt := 136) dX0_sameNames_45 (by decide) ⟨by omega, by omega⟩ ⟨by omega, by omega⟩ (fun h1 => ?_) (fun h1 => ?_)
    · exact tn_sub [0, 1, 2, 3, 4, 5, 6, 7] rfl (hx_136 (i2) (i7) σ hw (FrC.rfl.trans (FrC.sub hF (by decide))) (by omega) (by omega))
    · refine tn_aload_n dX0_sameNames_48 rfl 1 rfl ?_
      refine tn_iload dX0_sameNames_49 4 rfl ?_
      refine tn_iload dX0_sameNames_51 5 rfl ?_
      refine tn_iload dX0_sameNames_53 7 rfl ?_
      refine tn_iadd dX0_sameNames_55 ?_
      refine tn_any (fun z2 g3 => ?_)
      have g3r : -2147483648 ≤ z2 ∧ z2 ≤ 2147483647 := g3
      refine tn_callV (M := m_X0_sameNames) (pc := 56) (ix := 91) (ci := 10) (M' := m_X10_idIn) (As := [.int (iI c4), .int (iI z2)]) (rest := []) dX0_sameNames_56 ok_X10_idIn im_X10_idIn se_X10_idIn ml0_91 np_X10_idIn rfl rfl h_rx1 rfl (Nat.le_of_ble_eq_true rfl) (Nat.le_of_ble_eq_true rfl) rfl (k_X10_idIn (d + 2) (T := T) (σ := σ) (a := rx1) (p1 := c4) (p2 := z2) h_rx1 (by omega) (by omega) hw ) (fun r4 T6 σ5 gt7 hp => ?_)
      obtain ⟨v9, rfl, rfl, rfl, f8⟩ := hp
      clear gt7
      show Tn _ _ 59 T σ [(0, .ref a), (1, .ref rx1), (2, .int (iI i2)), (3, .ref rx3), (4, .int (iI c4)), (5, .int (iI c5)), (6, .int (iI c6)), (7, .int (iI i7))] [.int (iI v9)] _
      refine tn_istore (L' := [(8, .int (iI v9)), (0, .ref a), (1, .ref rx1), (2, .int (iI i2)), (3, .ref rx3), (4, .int (iI c4)), (5, .int (iI c5)), (6, .int (iI c6)), (7, .int (iI i7))]) dX0_sameNames_59 (by decide) rfl ?_
      refine tn_aload_n dX0_sameNames_61 rfl 4 rfl ?_
      refine tn_ifnull dX0_sameNames_62 ?_
      refine tn_aload_n dX0_sameNames_65 rfl 2 rfl ?_
      refine tn_aload_n dX0_sameNames_66 rfl 4 rfl ?_
      refine tn_iload dX0_sameNames_67 0 rfl ?_
      refine tn_callV (M := m_X0_sameNames) (pc := 69) (ix := 97) (ci := 10) (M' := m_X10_whereOf) (As := [.ref rx3, .int (iI v9)]) (rest := []) dX0_sameNames_69 ok_X10_whereOf im_X10_whereOf se_X10_whereOf ml0_97 np_X10_whereOf rfl rfl h_rx1 rfl (Nat.le_of_ble_eq_true rfl) (Nat.le_of_ble_eq_true rfl) rfl (k_X10_whereOf (d + 2) (T := T) (σ := σ) (a := rx1) (c := rx3) (i := v9) h_rx1 h_rx3 (by omega) hw ) (fun r10 T12 σ11 gt13 hp => ?_)
      obtain ⟨v15, rfl, rfl, rfl, f14⟩ := hp
      clear gt13
      show Tn _ _ 72 T σ [(8, .int (iI v9)), (0, .ref a), (1, .ref rx1), (2, .int (iI i2)), (3, .ref rx3), (4, .int (iI c4)), (5, .int (iI c5)), (6, .int (iI c6)), (7, .int (iI i7))] [.int (iI v15)] _
      refine tn_bipush dX0_sameNames_72 (by decide) ?_
      refine tn_icmp_lt (tgt := 90) dX0_sameNames_74 (by decide) ⟨by omega, by omega⟩ ⟨by decide, by decide⟩ (fun h16 => ?_) (fun h16 => ?_)
      · refine tn_aload_n dX0_sameNames_90 rfl 1 rfl ?_
        refine tn_dup dX0_sameNames_91 rfl ?_
        refine tn_getI (ci := 0) (i := 2) (n := 2) (t := σ.2.1 2 a) dX0_sameNames_92 rfl lay_0 (by decide) fl0_23 h_a rfl rfl (rfl) ?_
        have g17 : ((-2147483648 : Int) ≤ σ.2.1 2 a ∧ σ.2.1 2 a ≤ 2147483647) := wf_2 hw h_a
        refine tn_iconst dX0_sameNames_95 ?_
        refine tn_iadd dX0_sameNames_96 ?_
        refine tn_any (fun z18 g19 => ?_)
        have g19r : -2147483648 ≤ z18 ∧ z18 ≤ 2147483647 := g19
        refine tn_putV (ci := 0) (i := 2) (n := 2) (r := false) (v := z18) tyX0 tyX0_ok nmX0 dX0_sameNames_97 rfl lay_0 (by decide) fl0_23 rfl (tyX0_ok 2 (by decide)) rfl rfl rfl h_a rfl rfl ?_
        refine tn_iload_n dX0_sameNames_100 rfl 3 rfl ?_
        refine tn_aload_n dX0_sameNames_101 rfl 1 rfl ?_
        obtain ⟨x20, hx21, hk22⟩ : ∃ x : Nat, σ0.2.1 0 a = (x : Int) ∧ (T x).1 = 37 := wf_0 hw0 h_a
        have hk22o : OB T x20 7 := ⟨by omega, by rw [hk22]; rfl, by omega⟩
        refine tn_getR (ci := 0) (i := 0) (n := 0) (x := x20) dX0_sameNames_102 rfl lay_0 (by decide) fl0_14 h_a rfl rfl (rc_o (by decide) (rc_F hF (Or.inl (by decide)) (by decide) (hx21))) ?_
        refine tn_aload_n dX0_sameNames_105 rfl 2 rfl ?_
        refine tn_iload dX0_sameNames_106 0 rfl ?_
        refine tn_callV (M := m_X0_sameNames) (pc := 108) (ix := 101) (ci := 7) (M' := m_X7_foundValue) (As := [.ref rx1, .int (iI v9)]) (rest := [.int (iI i2)]) dX0_sameNames_108 ok_X7_foundValue im_X7_foundValue se_X7_foundValue ml0_101 np_X7_foundValue rfl rfl hk22o rfl (Nat.le_of_ble_eq_true rfl) (Nat.le_of_ble_eq_true rfl) rfl (k_X7_foundValue (d) (T := T) (σ := (sA 2 a (z18) σ)) (a := x20) (p1 := rx1) (p2 := v9) hk22o h_rx1 (by omega) (hw.put (by decide) (by decide) (fo_2 (by omega))) ) (fun r24 T26 σ25 gt27 hp => ?_)
        obtain ⟨v29, rfl, rfl, rfl, f28⟩ := hp
        clear gt27
        show Tn _ _ 111 T (sA 2 a (z18) σ) [(8, .int (iI v9)), (0, .ref a), (1, .ref rx1), (2, .int (iI i2)), (3, .ref rx3), (4, .int (iI c4)), (5, .int (iI c5)), (6, .int (iI c6)), (7, .int (iI i7))] [.int (iI v29), .int (iI i2)] _
        refine tn_aload_n dX0_sameNames_111 rfl 1 rfl ?_
        obtain ⟨x30, hx31, hk32⟩ : ∃ x : Nat, σ0.2.1 1 a = (x : Int) ∧ (T x).1 = 57 := wf_1 hw0 h_a
        have hk32o : OB T x30 7 := ⟨by omega, by rw [hk32]; rfl, by omega⟩
        refine tn_getR (ci := 0) (i := 1) (n := 1) (x := x30) dX0_sameNames_112 rfl lay_0 (by decide) fl0_20 h_a rfl rfl (rc_o (by decide) (rc_F hF (Or.inl (by decide)) (by decide) (hx31))) ?_
        refine tn_iload dX0_sameNames_115 8 rfl ?_
        refine tn_callV (M := m_X0_sameNames) (pc := 117) (ix := 105) (ci := 7) (M' := m_X7_foundRegister) (As := [.int (iI i7)]) (rest := [.int (iI v29), .int (iI i2)]) dX0_sameNames_117 ok_X7_foundRegister im_X7_foundRegister se_X7_foundRegister ml0_105 np_X7_foundRegister rfl rfl hk32o rfl (Nat.le_of_ble_eq_true rfl) (Nat.le_of_ble_eq_true rfl) rfl (k_X7_foundRegister (d + 2) (T := T) (σ := (sA 2 a (z18) σ)) (a := x30) (p1 := i7) hk32o (by omega) (hw.put (by decide) (by decide) (fo_2 (by omega))) ) (fun r34 T36 σ35 gt37 hp => ?_)
        obtain ⟨v39, rfl, rfl, rfl, f38⟩ := hp
        clear gt37
        show Tn _ _ 120 T (sA 2 a (z18) σ) [(8, .int (iI v9)), (0, .ref a), (1, .ref rx1), (2, .int (iI i2)), (3, .ref rx3), (4, .int (iI c4)), (5, .int (iI c5)), (6, .int (iI c6)), (7, .int (iI i7))] [.int (iI v39), .int (iI v29), .int (iI i2)] _
        refine tn_icmp_ne (tgt := 127) dX0_sameNames_120 (by decide) ⟨by omega, by omega⟩ ⟨by omega, by omega⟩ (fun h40 => ?_) (fun h40 => ?_)
        · refine tn_iconst dX0_sameNames_127 ?_
          refine tn_iand dX0_sameNames_128 ?_
          refine tn_band (x := i2) (y := 0) (by omega) (by omega) (fun z43 g44 => ?_)
          refine tn_istore_n (L' := [(2, .int (iI z43)), (8, .int (iI v9)), (0, .ref a), (1, .ref rx1), (3, .ref rx3), (4, .int (iI c4)), (5, .int (iI c5)), (6, .int (iI c6)), (7, .int (iI i7))]) dX0_sameNames_129 rfl (by decide) rfl ?_
          refine tn_iinc (q0 := 8) (L' := [(7, .int (iI (i7 + 1))), (2, .int (iI z43)), (8, .int (iI v9)), (0, .ref a), (1, .ref rx1), (3, .ref rx3), (4, .int (iI c4)), (5, .int (iI c5)), (6, .int (iI c6))]) dX0_sameNames_130 rfl (by decide) rfl ?_
          refine tn_goto (tgt := 41) dX0_sameNames_133 (by decide) ?_
          exact tn_sub [3, 4, 1, 5, 6, 7, 8, 0] rfl (ih _ (by omega) (z43) (i7 + 1) (sA 2 a (z18) σ) (hw.put (by decide) (by decide) (fo_2 (by omega))) ((FrC.rfl.trans (FrC.sub hF (by decide))).put (by decide) (by decide)) (by omega) (by omega) rfl)
        · refine tn_iconst dX0_sameNames_123 ?_
          refine tn_goto (tgt := 128) dX0_sameNames_124 (by decide) ?_
          refine tn_iand dX0_sameNames_128 ?_
          refine tn_band (x := i2) (y := 1) (by omega) (by omega) (fun z47 g48 => ?_)
          refine tn_istore_n (L' := [(2, .int (iI z47)), (8, .int (iI v9)), (0, .ref a), (1, .ref rx1), (3, .ref rx3), (4, .int (iI c4)), (5, .int (iI c5)), (6, .int (iI c6)), (7, .int (iI i7))]) dX0_sameNames_129 rfl (by decide) rfl ?_
          refine tn_iinc (q0 := 8) (L' := [(7, .int (iI (i7 + 1))), (2, .int (iI z47)), (8, .int (iI v9)), (0, .ref a), (1, .ref rx1), (3, .ref rx3), (4, .int (iI c4)), (5, .int (iI c5)), (6, .int (iI c6))]) dX0_sameNames_130 rfl (by decide) rfl ?_
          refine tn_goto (tgt := 41) dX0_sameNames_133 (by decide) ?_
          exact tn_sub [3, 4, 1, 5, 6, 7, 8, 0] rfl (ih _ (by omega) (z47) (i7 + 1) (sA 2 a (z18) σ) (hw.put (by decide) (by decide) (fo_2 (by omega))) ((FrC.rfl.trans (FrC.sub hF (by decide))).put (by decide) (by decide)) (by omega) (by omega) rfl)
      · refine tn_aload_n dX0_sameNames_77 rfl 1 rfl ?_
        refine tn_dup dX0_sameNames_78 rfl ?_
        refine tn_getI (ci := 0) (i := 3) (n := 3) (t := σ.2.1 3 a) dX0_sameNames_79 rfl lay_0 (by decide) fl0_27 h_a rfl rfl (rfl) ?_
        have g49 : ((-2147483648 : Int) ≤ σ.2.1 3 a ∧ σ.2.1 3 a ≤ 2147483647) := wf_3 hw h_a
        refine tn_iconst dX0_sameNames_82 ?_
        refine tn_iadd dX0_sameNames_83 ?_
        refine tn_any (fun z50 g51 => ?_)
        have g51r : -2147483648 ≤ z50 ∧ z50 ≤ 2147483647 := g51
        refine tn_putV (ci := 0) (i := 3) (n := 3) (r := false) (v := z50) tyX0 tyX0_ok nmX0 dX0_sameNames_84 rfl lay_0 (by decide) fl0_27 rfl (tyX0_ok 3 (by decide)) rfl rfl rfl h_a rfl rfl ?_
        refine tn_goto (tgt := 130) dX0_sameNames_87 (by decide) ?_
        refine tn_iinc (q0 := 8) (L' := [(7, .int (iI (i7 + 1))), (8, .int (iI v9)), (0, .ref a), (1, .ref rx1), (2, .int (iI i2)), (3, .ref rx3), (4, .int (iI c4)), (5, .int (iI c5)), (6, .int (iI c6))]) dX0_sameNames_130 rfl (by decide) rfl ?_
        refine tn_goto (tgt := 41) dX0_sameNames_133 (by decide) ?_
        exact tn_sub [2, 3, 4, 5, 6, 7, 8, 0] rfl (ih _ (by omega) (i2) (i7 + 1) (sA 3 a (z50) σ) (hw.put (by decide) (by decide) (fo_3 (by omega))) ((FrC.rfl.trans (FrC.sub hF (by decide))).put (by decide) (by decide)) (by omega) (by omega) rfl)
set_option maxRecDepth 20000 in
theorem k_X0_sameNames (d : Nat) {T : CT} {σ : MS} {a : Nat} {p1 : Nat} (ha : OB T a 0) (h_p1 : OB T p1 10) (hw : WT T σ) : Tn (d + 5) m_X0_sameNames 0 T σ [(0, .ref a), (1, .ref p1)] [] (fun ro T2 σ2 => ∃ v : Int, ro = some (.int (iI v)) ∧ T = T2 ∧ WT T2 σ2 ∧ FrC T [2, 3] σ σ2 ∧ (v = 0 ∨ v = 1)) := by
  refine tn_iconst dX0_sameNames_0 ?_
  refine tn_istore_n (L' := [(2, .int (iI 1)), (0, .ref a), (1, .ref p1)]) dX0_sameNames_1 rfl (by decide) rfl ?_
  refine tn_aload_n dX0_sameNames_2 rfl 1 rfl ?_
  obtain ⟨x1, hx2, hk3⟩ : ∃ x : Nat, σ.2.1 0 a = (x : Int) ∧ (T x).1 = 37 := wf_0 hw ha
  have hk3o : OB T x1 7 := ⟨by omega, by rw [hk3]; rfl, by omega⟩
  refine tn_getR (ci := 0) (i := 0) (n := 0) (x := x1) dX0_sameNames_3 rfl lay_0 (by decide) fl0_14 ha rfl rfl (hx2) ?_
  refine tn_callV (M := m_X0_sameNames) (pc := 6) (ix := 77) (ci := 7) (M' := m_X7_foundCode) (As := []) (rest := []) dX0_sameNames_6 ok_X7_foundCode im_X7_foundCode se_X7_foundCode ml0_77 np_X7_foundCode rfl rfl hk3o rfl (Nat.le_of_ble_eq_true rfl) (Nat.le_of_ble_eq_true rfl) rfl (k_X7_foundCode (d + 2) (T := T) (σ := σ) (a := x1) hk3o hw ) (fun r5 T7 σ6 gt8 hp => ?_)
  obtain ⟨v10, rfl, rfl, rfl, rv11, f9⟩ := hp
  clear gt8
  clear f9
  rcases rv11 with rv11 | ⟨x12, rfl, hk13⟩
  · show Tn _ _ 9 T σ [(2, .int (iI 1)), (0, .ref a), (1, .ref p1)] (vl true v10 :: []) _
    rw [vl_null rv11]
    refine tn_astore_nN (L' := [(3, .null), (2, .int (iI 1)), (0, .ref a), (1, .ref p1)]) dX0_sameNames_9 rfl (by decide) rfl ?_
    refine tn_aload_n dX0_sameNames_10 rfl 2 rfl ?_
    refine tn_getR (ci := 0) (i := 0) (n := 0) (x := x1) dX0_sameNames_11 rfl lay_0 (by decide) fl0_14 ha rfl rfl (hx2) ?_
    refine tn_callV (M := m_X0_sameNames) (pc := 14) (ix := 81) (ci := 7) (M' := m_X7_foundSource) (As := []) (rest := []) dX0_sameNames_14 ok_X7_foundSource im_X7_foundSource se_X7_foundSource ml0_81 np_X7_foundSource rfl rfl hk3o rfl (Nat.le_of_ble_eq_true rfl) (Nat.le_of_ble_eq_true rfl) rfl (k_X7_foundSource (d + 2) (T := T) (σ := σ) (a := x1) hk3o hw ) (fun r14 T16 σ15 gt17 hp => ?_)
    obtain ⟨v19, rfl, rfl, rfl, f18⟩ := hp
    clear gt17
    show Tn _ _ 17 T σ [(3, .null), (2, .int (iI 1)), (0, .ref a), (1, .ref p1)] [.int (iI v19)] _
    refine tn_istore (L' := [(4, .int (iI v19)), (3, .null), (2, .int (iI 1)), (0, .ref a), (1, .ref p1)]) dX0_sameNames_17 (by decide) rfl ?_
    refine tn_aload_n dX0_sameNames_19 rfl 3 rfl ?_
    refine tn_getR (ci := 0) (i := 0) (n := 0) (x := x1) dX0_sameNames_20 rfl lay_0 (by decide) fl0_14 ha rfl rfl (hx2) ?_
    refine tn_aload_n dX0_sameNames_23 rfl 4 rfl ?_
    refine tn_callV (M := m_X0_sameNames) (pc := 24) (ix := 84) (ci := 7) (M' := m_X7_foundSlot) (As := [.ref p1]) (rest := []) dX0_sameNames_24 ok_X7_foundSlot im_X7_foundSlot se_X7_foundSlot ml0_84 np_X7_foundSlot rfl rfl hk3o rfl (Nat.le_of_ble_eq_true rfl) (Nat.le_of_ble_eq_true rfl) rfl (k_X7_foundSlot (d + 1) (T := T) (σ := σ) (a := x1) (p1 := p1) hk3o h_p1 hw ) (fun r20 T22 σ21 gt23 hp => ?_)
    obtain ⟨v25, rfl, rfl, rfl, f24⟩ := hp
    clear gt23
    show Tn _ _ 27 T σ [(4, .int (iI v19)), (3, .null), (2, .int (iI 1)), (0, .ref a), (1, .ref p1)] [.int (iI v25)] _
    refine tn_istore (L' := [(5, .int (iI v25)), (4, .int (iI v19)), (3, .null), (2, .int (iI 1)), (0, .ref a), (1, .ref p1)]) dX0_sameNames_27 (by decide) rfl ?_
    refine tn_aload_n dX0_sameNames_29 rfl 4 rfl ?_
    refine tn_getR (ci := 0) (i := 0) (n := 0) (x := x1) dX0_sameNames_30 rfl lay_0 (by decide) fl0_14 ha rfl rfl (hx2) ?_
    refine tn_callV (M := m_X0_sameNames) (pc := 33) (ix := 88) (ci := 7) (M' := m_X7_foundNames) (As := []) (rest := []) dX0_sameNames_33 ok_X7_foundNames im_X7_foundNames se_X7_foundNames ml0_88 np_X7_foundNames rfl rfl hk3o rfl (Nat.le_of_ble_eq_true rfl) (Nat.le_of_ble_eq_true rfl) rfl (k_X7_foundNames (d + 1) (T := T) (σ := σ) (a := x1) hk3o hw ) (fun r26 T28 σ27 gt29 hp => ?_)
    obtain ⟨v31, rfl, rfl, rfl, f30⟩ := hp
    clear gt29
    show Tn _ _ 36 T σ [(5, .int (iI v25)), (4, .int (iI v19)), (3, .null), (2, .int (iI 1)), (0, .ref a), (1, .ref p1)] [.int (iI v31)] _
    refine tn_istore (L' := [(6, .int (iI v31)), (5, .int (iI v25)), (4, .int (iI v19)), (3, .null), (2, .int (iI 1)), (0, .ref a), (1, .ref p1)]) dX0_sameNames_36 (by decide) rfl ?_
    refine tn_iconst dX0_sameNames_38 ?_
    refine tn_istore (L' := [(7, .int (iI 0)), (6, .int (iI v31)), (5, .int (iI v25)), (4, .int (iI v19)), (3, .null), (2, .int (iI 1)), (0, .ref a), (1, .ref p1)]) dX0_sameNames_39 (by decide) rfl ?_
    refine tn_sub [6, 7, 5, 4, 3, 2, 1, 0] rfl (l_X0_sameNames_41 (d) (T := T) (σ0 := σ) (a := a) (rx1 := p1) (c4 := v19) (c5 := v25) (c6 := v31) ha h_p1 (by omega) (by omega) (by omega) hw (fun i232 i733 σ34 w37 F38 r39 r40 => ?_) _ (1) (0) σ hw FrC.rfl (by omega) (by omega) rfl)
    show Tn _ _ 136 T σ34 [(0, .ref a), (1, .ref p1), (2, .int (iI i232)), (3, .null), (4, .int (iI v19)), (5, .int (iI v25)), (6, .int (iI v31)), (7, .int (iI i733))] [] _
    refine tn_iload_n dX0_sameNames_136 rfl 2 rfl ?_
    exact tn_zret (v := i232) rfl (by omega) dX0_sameNames_137 ⟨_, rfl, rfl, w37, (FrC.rfl.trans (FrC.sub F38 (by decide))), by omega⟩
  · show Tn _ _ 9 T σ [(2, .int (iI 1)), (0, .ref a), (1, .ref p1)] (vl true (x12 : Int) :: []) _
    rw [vl_ref rfl]
    have hk13o : OB T x12 1 := hk13.1
    refine tn_astore_n (L' := [(3, .ref x12), (2, .int (iI 1)), (0, .ref a), (1, .ref p1)]) dX0_sameNames_9 rfl (by decide) rfl ?_
    refine tn_aload_n dX0_sameNames_10 rfl 2 rfl ?_
    refine tn_getR (ci := 0) (i := 0) (n := 0) (x := x1) dX0_sameNames_11 rfl lay_0 (by decide) fl0_14 ha rfl rfl (hx2) ?_
    refine tn_callV (M := m_X0_sameNames) (pc := 14) (ix := 81) (ci := 7) (M' := m_X7_foundSource) (As := []) (rest := []) dX0_sameNames_14 ok_X7_foundSource im_X7_foundSource se_X7_foundSource ml0_81 np_X7_foundSource rfl rfl hk3o rfl (Nat.le_of_ble_eq_true rfl) (Nat.le_of_ble_eq_true rfl) rfl (k_X7_foundSource (d + 2) (T := T) (σ := σ) (a := x1) hk3o hw ) (fun r41 T43 σ42 gt44 hp => ?_)
    obtain ⟨v46, rfl, rfl, rfl, f45⟩ := hp
    clear gt44
    show Tn _ _ 17 T σ [(3, .ref x12), (2, .int (iI 1)), (0, .ref a), (1, .ref p1)] [.int (iI v46)] _
    refine tn_istore (L' := [(4, .int (iI v46)), (3, .ref x12), (2, .int (iI 1)), (0, .ref a), (1, .ref p1)]) dX0_sameNames_17 (by decide) rfl ?_
    refine tn_aload_n dX0_sameNames_19 rfl 3 rfl ?_
    refine tn_getR (ci := 0) (i := 0) (n := 0) (x := x1) dX0_sameNames_20 rfl lay_0 (by decide) fl0_14 ha rfl rfl (hx2) ?_
    refine tn_aload_n dX0_sameNames_23 rfl 4 rfl ?_
    refine tn_callV (M := m_X0_sameNames) (pc := 24) (ix := 84) (ci := 7) (M' := m_X7_foundSlot) (As := [.ref p1]) (rest := []) dX0_sameNames_24 ok_X7_foundSlot im_X7_foundSlot se_X7_foundSlot ml0_84 np_X7_foundSlot rfl rfl hk3o rfl (Nat.le_of_ble_eq_true rfl) (Nat.le_of_ble_eq_true rfl) rfl (k_X7_foundSlot (d + 1) (T := T) (σ := σ) (a := x1) (p1 := p1) hk3o h_p1 hw ) (fun r47 T49 σ48 gt50 hp => ?_)
    obtain ⟨v52, rfl, rfl, rfl, f51⟩ := hp
    clear gt50
    show Tn _ _ 27 T σ [(4, .int (iI v46)), (3, .ref x12), (2, .int (iI 1)), (0, .ref a), (1, .ref p1)] [.int (iI v52)] _
    refine tn_istore (L' := [(5, .int (iI v52)), (4, .int (iI v46)), (3, .ref x12), (2, .int (iI 1)), (0, .ref a), (1, .ref p1)]) dX0_sameNames_27 (by decide) rfl ?_
    refine tn_aload_n dX0_sameNames_29 rfl 4 rfl ?_
    refine tn_getR (ci := 0) (i := 0) (n := 0) (x := x1) dX0_sameNames_30 rfl lay_0 (by decide) fl0_14 ha rfl rfl (hx2) ?_
    refine tn_callV (M := m_X0_sameNames) (pc := 33) (ix := 88) (ci := 7) (M' := m_X7_foundNames) (As := []) (rest := []) dX0_sameNames_33 ok_X7_foundNames im_X7_foundNames se_X7_foundNames ml0_88 np_X7_foundNames rfl rfl hk3o rfl (Nat.le_of_ble_eq_true rfl) (Nat.le_of_ble_eq_true rfl) rfl (k_X7_foundNames (d + 1) (T := T) (σ := σ) (a := x1) hk3o hw ) (fun r53 T55 σ54 gt56 hp => ?_)
    obtain ⟨v58, rfl, rfl, rfl, f57⟩ := hp
    clear gt56
    show Tn _ _ 36 T σ [(5, .int (iI v52)), (4, .int (iI v46)), (3, .ref x12), (2, .int (iI 1)), (0, .ref a), (1, .ref p1)] [.int (iI v58)] _
    refine tn_istore (L' := [(6, .int (iI v58)), (5, .int (iI v52)), (4, .int (iI v46)), (3, .ref x12), (2, .int (iI 1)), (0, .ref a), (1, .ref p1)]) dX0_sameNames_36 (by decide) rfl ?_
    refine tn_iconst dX0_sameNames_38 ?_
    refine tn_istore (L' := [(7, .int (iI 0)), (6, .int (iI v58)), (5, .int (iI v52)), (4, .int (iI v46)), (3, .ref x12), (2, .int (iI 1)), (0, .ref a), (1, .ref p1)]) dX0_sameNames_39 (by decide) rfl ?_
    refine tn_sub [6, 7, 5, 4, 3, 2, 1, 0] rfl (l_X0_sameNames_41_1 (d) (T := T) (σ0 := σ) (a := a) (rx1 := p1) (rx3 := x12) (c4 := v46) (c5 := v52) (c6 := v58) ha h_p1 hk13o (by omega) (by omega) (by omega) hw (fun i259 i760 σ61 w64 F65 r66 r67 => ?_) _ (1) (0) σ hw FrC.rfl (by omega) (by omega) rfl)
    show Tn _ _ 136 T σ61 [(0, .ref a), (1, .ref p1), (2, .int (iI i259)), (3, .ref x12), (4, .int (iI v46)), (5, .int (iI v52)), (6, .int (iI v58)), (7, .int (iI i760))] [] _
    refine tn_iload_n dX0_sameNames_136 rfl 2 rfl ?_
    exact tn_zret (v := i259) rfl (by omega) dX0_sameNames_137 ⟨_, rfl, rfl, w64, (FrC.rfl.trans (FrC.sub F65 (by decide))), by omega⟩
