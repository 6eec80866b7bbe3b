section
set_option maxHeartbeats 1000000 in
set_option maxRecDepth 20000 in
theorem l_X0_sameNames_h_41 (d : Nat) {T : CT} {σ0 : MS} {a : Nat} {rx1 : Nat} {c4 : Int} {c5 : Int} {c6 : Int} {post : Option Value → CT → MS → Prop} (h_a : OB T a 0) (h_rx1 : OB T rx1 10) (r_c4 : -2147483648 ≤ c4 ∧ c4 ≤ 2147483647) (r_c5 : -2147483648 ≤ c5 ∧ c5 ≤ 2147483647) (r_c6 : 0 ≤ c6 ∧ c6 ≤ 12) (hw0 : WT T σ0) (hx_136 : ∀ (i2 : Int) (i7 : Int) (σ : MS) , (WT T σ) → (FrC T [2, 3] σ0 σ) → (0 ≤ i2 ∧ i2 ≤ 1) → (0 ≤ i7 ∧ i7 ≤ 2147483647) → (CHX [(2, a), (3, a)] [] [] σ0 σ) → Tn (d + 5) m_X0_sameNames 136 T σ [(0, .ref a), (1, .ref rx1), (2, .int (iI i2)), (3, .null), (4, .int (iI c4)), (5, .int (iI c5)), (6, .int (iI c6)), (7, .int (iI i7))] [] post) : ∀ (nq9 : Nat) (i2 : Int) (i7 : Int) (σ : MS) , (WT T σ) → (FrC T [2, 3] σ0 σ) → (0 ≤ i2 ∧ i2 ≤ 1) → (0 ≤ i7 ∧ i7 ≤ 2147483647) → (CHX [(2, a), (3, a)] [] [] σ0 σ) → (2147483700 - i7).toNat = nq9 → Tn (d + 5) m_X0_sameNames 41 T σ [(0, .ref a), (1, .ref rx1), (2, .int (iI i2)), (3, .null), (4, .int (iI c4)), (5, .int (iI c5)), (6, .int (iI c6)), (7, .int (iI i7))] [] post := by
  intro nq9
  induction nq9 using Nat.strongRecOn with
  | _ nq9 ih =>
    intro i2 i7 σ hw hF r_i2 r_i7 hC hm
    refine tn_iload dX0_sameNames_41 7 rfl ?_
    refine tn_iload dX0_sameNames_43 6 rfl ?_
    refine tn_icmp_ge (tgt := 136) dX0_sameNames_45 (by decide) ⟨by omega, by omega⟩ ⟨by omega, by omega⟩ (fun h1 => ?_) (fun h1 => ?_)
    · exact tn_sub [0, 1, 2, 3, 4, 5, 6, 7] rfl (hx_136 (i2) (i7) σ hw (FrC.rfl.trans (FrC.sub hF (by decide))) (by omega) (by omega) hC)
    · refine tn_aload_n dX0_sameNames_48 rfl 1 rfl ?_
      refine tn_iload dX0_sameNames_49 4 rfl ?_
      refine tn_iload dX0_sameNames_51 5 rfl ?_
      refine tn_iload dX0_sameNames_53 7 rfl ?_
      refine tn_iadd dX0_sameNames_55 ?_
      refine tn_any (fun z2 g3 => ?_)
      have g3r : -2147483648 ≤ z2 ∧ z2 ≤ 2147483647 := g3
      refine tn_callV (M := m_X0_sameNames) (pc := 56) (ix := 91) (ci := 10) (M' := m_X10_idIn) (As := [.int (iI c4), .int (iI z2)]) (rest := []) dX0_sameNames_56 ok_X10_idIn im_X10_idIn se_X10_idIn ml0_91 np_X10_idIn rfl rfl h_rx1 rfl (Nat.le_of_ble_eq_true rfl) (Nat.le_of_ble_eq_true rfl) rfl (k_X10_idIn (d + 2) (T := T) (σ := σ) (a := rx1) (p1 := c4) (p2 := z2) h_rx1 (by omega) (by omega) hw ) (fun r4 T6 σ5 gt7 hp => ?_)
      obtain ⟨v9, rfl, rfl, rfl, f8⟩ := hp
      clear gt7
      show Tn _ _ 59 T σ [(0, .ref a), (1, .ref rx1), (2, .int (iI i2)), (3, .null), (4, .int (iI c4)), (5, .int (iI c5)), (6, .int (iI c6)), (7, .int (iI i7))] [.int (iI v9)] _
      refine tn_istore (L' := [(8, .int (iI v9)), (0, .ref a), (1, .ref rx1), (2, .int (iI i2)), (3, .null), (4, .int (iI c4)), (5, .int (iI c5)), (6, .int (iI c6)), (7, .int (iI i7))]) dX0_sameNames_59 (by decide) rfl ?_
      refine tn_aload_nN dX0_sameNames_61 rfl 4 rfl ?_
      refine tn_ifnullN (tgt := 77) dX0_sameNames_62 (by decide) ?_
      refine tn_aload_n dX0_sameNames_77 rfl 1 rfl ?_
      refine tn_dup dX0_sameNames_78 rfl ?_
      refine tn_getI (ci := 0) (i := 3) (n := 3) (t := σ.2.1 3 a) dX0_sameNames_79 rfl lay_0 (by decide) fl0_27 h_a rfl rfl (rfl) ?_
      have g10 : ((-2147483648 : Int) ≤ σ.2.1 3 a ∧ σ.2.1 3 a ≤ 2147483647) := wf_3 hw h_a
      refine tn_iconst dX0_sameNames_82 ?_
      refine tn_iadd dX0_sameNames_83 ?_
      refine tn_any (fun z11 g12 => ?_)
      have g12r : -2147483648 ≤ z11 ∧ z11 ≤ 2147483647 := g12
      refine tn_putV (ci := 0) (i := 3) (n := 3) (r := false) (v := z11) tyX0 tyX0_ok nmX0 dX0_sameNames_84 rfl lay_0 (by decide) fl0_27 rfl (tyX0_ok 3 (by decide)) rfl rfl rfl h_a rfl rfl ?_
      refine tn_goto (tgt := 130) dX0_sameNames_87 (by decide) ?_
      refine tn_iinc (q0 := 8) (L' := [(7, .int (iI (i7 + 1))), (8, .int (iI v9)), (0, .ref a), (1, .ref rx1), (2, .int (iI i2)), (3, .null), (4, .int (iI c4)), (5, .int (iI c5)), (6, .int (iI c6))]) dX0_sameNames_130 rfl (by decide) rfl ?_
      refine tn_goto (tgt := 41) dX0_sameNames_133 (by decide) ?_
      exact tn_sub [2, 3, 4, 5, 6, 7, 8, 0] rfl (ih _ (by omega) (i2) (i7 + 1) (sA 3 a (z11) σ) (hw.put (by decide) (by decide) (fo_3 (by omega))) ((FrC.rfl.trans (FrC.sub hF (by decide))).put (by decide) (by decide)) (by omega) (by omega) (hC.fld (by simp) (by decide)) rfl)
set_option maxHeartbeats 1000000 in
set_option maxRecDepth 20000 in
theorem l_X0_sameNames_h_41_1 (d : Nat) {T : CT} {σ0 : MS} {a : Nat} {rx1 : Nat} {rx3 : Nat} {c4 : Int} {c5 : Int} {c6 : Int} {post : Option Value → CT → MS → Prop} (h_a : OB T a 0) (h_rx1 : OB T rx1 10) (h_rx3 : OB T rx3 1) (r_c4 : -2147483648 ≤ c4 ∧ c4 ≤ 2147483647) (r_c5 : -2147483648 ≤ c5 ∧ c5 ≤ 2147483647) (r_c6 : 0 ≤ c6 ∧ c6 ≤ 12) (hw0 : WT T σ0) (hx_136 : ∀ (i2 : Int) (i7 : Int) (σ : MS) , (WT T σ) → (FrC T [2, 3] σ0 σ) → (0 ≤ i2 ∧ i2 ≤ 1) → (0 ≤ i7 ∧ i7 ≤ 2147483647) → (CHX [(2, a), (3, a)] [] [] σ0 σ) → Tn (d + 5) m_X0_sameNames 136 T σ [(0, .ref a), (1, .ref rx1), (2, .int (iI i2)), (3, .ref rx3), (4, .int (iI c4)), (5, .int (iI c5)), (6, .int (iI c6)), (7, .int (iI i7))] [] post) : ∀ (nq9 : Nat) (i2 : Int) (i7 : Int) (σ : MS) , (WT T σ) → (FrC T [2, 3] σ0 σ) → (0 ≤ i2 ∧ i2 ≤ 1) → (0 ≤ i7 ∧ i7 ≤ 2147483647) → (CHX [(2, a), (3, a)] [] [] σ0 σ) → (2147483700 - i7).toNat = nq9 → Tn (d + 5) m_X0_sameNames 41 T σ [(0, .ref a), (1, .ref rx1), (2, .int (iI i2)), (3, .ref rx3), (4, .int (iI c4)), (5, .int (iI c5)), (6, .int (iI c6)), (7, .int (iI i7))] [] post := by
  intro nq9
  induction nq9 using Nat.strongRecOn with
  | _ nq9 ih =>
    intro i2 i7 σ hw hF r_i2 r_i7 hC hm
    refine tn_iload dX0_sameNames_41 7 rfl ?_
    refine tn_iload dX0_sameNames_43 6 rfl ?_
    refine tn_icmp_ge (tgt := 136) dX0_sameNames_45 (by decide) ⟨by omega, by omega⟩ ⟨by omega, by omega⟩ (fun h1 => ?_) (fun h1 => ?_)
    · exact tn_sub [0, 1, 2, 3, 4, 5, 6, 7] rfl (hx_136 (i2) (i7) σ hw (FrC.rfl.trans (FrC.sub hF (by decide))) (by omega) (by omega) hC)
    · refine tn_aload_n dX0_sameNames_48 rfl 1 rfl ?_
      refine tn_iload dX0_sameNames_49 4 rfl ?_
      refine tn_iload dX0_sameNames_51 5 rfl ?_
      refine tn_iload dX0_sameNames_53 7 rfl ?_
      refine tn_iadd dX0_sameNames_55 ?_
      refine tn_any (fun z2 g3 => ?_)
      have g3r : -2147483648 ≤ z2 ∧ z2 ≤ 2147483647 := g3
      refine tn_callV (M := m_X0_sameNames) (pc := 56) (ix := 91) (ci := 10) (M' := m_X10_idIn) (As := [.int (iI c4), .int (iI z2)]) (rest := []) dX0_sameNames_56 ok_X10_idIn im_X10_idIn se_X10_idIn ml0_91 np_X10_idIn rfl rfl h_rx1 rfl (Nat.le_of_ble_eq_true rfl) (Nat.le_of_ble_eq_true rfl) rfl (k_X10_idIn (d + 2) (T := T) (σ := σ) (a := rx1) (p1 := c4) (p2 := z2) h_rx1 (by omega) (by omega) hw ) (fun r4 T6 σ5 gt7 hp => ?_)
      obtain ⟨v9, rfl, rfl, rfl, f8⟩ := hp
      clear gt7
      show Tn _ _ 59 T σ [(0, .ref a), (1, .ref rx1), (2, .int (iI i2)), (3, .ref rx3), (4, .int (iI c4)), (5, .int (iI c5)), (6, .int (iI c6)), (7, .int (iI i7))] [.int (iI v9)] _
      refine tn_istore (L' := [(8, .int (iI v9)), (0, .ref a), (1, .ref rx1), (2, .int (iI i2)), (3, .ref rx3), (4, .int (iI c4)), (5, .int (iI c5)), (6, .int (iI c6)), (7, .int (iI i7))]) dX0_sameNames_59 (by decide) rfl ?_
      refine tn_aload_n dX0_sameNames_61 rfl 4 rfl ?_
      refine tn_ifnull dX0_sameNames_62 ?_
      refine tn_aload_n dX0_sameNames_65 rfl 2 rfl ?_
      refine tn_aload_n dX0_sameNames_66 rfl 4 rfl ?_
      refine tn_iload dX0_sameNames_67 0 rfl ?_
      refine tn_callV (M := m_X0_sameNames) (pc := 69) (ix := 97) (ci := 10) (M' := m_X10_whereOf) (As := [.ref rx3, .int (iI v9)]) (rest := []) dX0_sameNames_69 ok_X10_whereOf im_X10_whereOf se_X10_whereOf ml0_97 np_X10_whereOf rfl rfl h_rx1 rfl (Nat.le_of_ble_eq_true rfl) (Nat.le_of_ble_eq_true rfl) rfl (k_X10_whereOf (d + 2) (T := T) (σ := σ) (a := rx1) (c := rx3) (i := v9) h_rx1 h_rx3 (by omega) hw ) (fun r10 T12 σ11 gt13 hp => ?_)
      obtain ⟨v15, rfl, rfl, rfl, f14⟩ := hp
      clear gt13
      show Tn _ _ 72 T σ [(8, .int (iI v9)), (0, .ref a), (1, .ref rx1), (2, .int (iI i2)), (3, .ref rx3), (4, .int (iI c4)), (5, .int (iI c5)), (6, .int (iI c6)), (7, .int (iI i7))] [.int (iI v15)] _
      refine tn_bipush dX0_sameNames_72 (by decide) ?_
      refine tn_icmp_lt (tgt := 90) dX0_sameNames_74 (by decide) ⟨by omega, by omega⟩ ⟨by decide, by decide⟩ (fun h16 => ?_) (fun h16 => ?_)
      · refine tn_aload_n dX0_sameNames_90 rfl 1 rfl ?_
        refine tn_dup dX0_sameNames_91 rfl ?_
        refine tn_getI (ci := 0) (i := 2) (n := 2) (t := σ.2.1 2 a) dX0_sameNames_92 rfl lay_0 (by decide) fl0_23 h_a rfl rfl (rfl) ?_
        have g17 : ((-2147483648 : Int) ≤ σ.2.1 2 a ∧ σ.2.1 2 a ≤ 2147483647) := wf_2 hw h_a
        refine tn_iconst dX0_sameNames_95 ?_
        refine tn_iadd dX0_sameNames_96 ?_
        refine tn_any (fun z18 g19 => ?_)
        have g19r : -2147483648 ≤ z18 ∧ z18 ≤ 2147483647 := g19
        refine tn_putV (ci := 0) (i := 2) (n := 2) (r := false) (v := z18) tyX0 tyX0_ok nmX0 dX0_sameNames_97 rfl lay_0 (by decide) fl0_23 rfl (tyX0_ok 2 (by decide)) rfl rfl rfl h_a rfl rfl ?_
        refine tn_iload_n dX0_sameNames_100 rfl 3 rfl ?_
        refine tn_aload_n dX0_sameNames_101 rfl 1 rfl ?_
        obtain ⟨xq20, hx21, hk22⟩ : ∃ x : Nat, σ0.2.1 0 a = (x : Int) ∧ (T x).1 = 37 := wf_0 hw0 h_a
        have hk22o : OB T xq20 7 := ⟨by omega, by rw [hk22]; rfl, by omega⟩
        refine tn_getR (ci := 0) (i := 0) (n := 0) (x := xq20) dX0_sameNames_102 rfl lay_0 (by decide) fl0_14 h_a rfl rfl (rc_o (by decide) (rc_F hF (Or.inl (by decide)) (by decide) (hx21))) ?_
        refine tn_aload_n dX0_sameNames_105 rfl 2 rfl ?_
        refine tn_iload dX0_sameNames_106 0 rfl ?_
        refine tn_callV (M := m_X0_sameNames) (pc := 108) (ix := 101) (ci := 7) (M' := m_X7_foundValue) (As := [.ref rx1, .int (iI v9)]) (rest := [.int (iI i2)]) dX0_sameNames_108 ok_X7_foundValue im_X7_foundValue se_X7_foundValue ml0_101 np_X7_foundValue rfl rfl hk22o rfl (Nat.le_of_ble_eq_true rfl) (Nat.le_of_ble_eq_true rfl) rfl (k_X7_foundValue (d) (T := T) (σ := (sA 2 a (z18) σ)) (a := xq20) (p1 := rx1) (p2 := v9) hk22o h_rx1 (by omega) (hw.put (by decide) (by decide) (fo_2 (by omega))) ) (fun r24 T26 σ25 gt27 hp => ?_)
        obtain ⟨v29, rfl, rfl, rfl, f28⟩ := hp
        clear gt27
        show Tn _ _ 111 T (sA 2 a (z18) σ) [(8, .int (iI v9)), (0, .ref a), (1, .ref rx1), (2, .int (iI i2)), (3, .ref rx3), (4, .int (iI c4)), (5, .int (iI c5)), (6, .int (iI c6)), (7, .int (iI i7))] [.int (iI v29), .int (iI i2)] _
        refine tn_aload_n dX0_sameNames_111 rfl 1 rfl ?_
        obtain ⟨xq30, hx31, hk32⟩ : ∃ x : Nat, σ0.2.1 1 a = (x : Int) ∧ (T x).1 = 57 := wf_1 hw0 h_a
        have hk32o : OB T xq30 7 := ⟨by omega, by rw [hk32]; rfl, by omega⟩
        refine tn_getR (ci := 0) (i := 1) (n := 1) (x := xq30) dX0_sameNames_112 rfl lay_0 (by decide) fl0_20 h_a rfl rfl (rc_o (by decide) (rc_F hF (Or.inl (by decide)) (by decide) (hx31))) ?_
        refine tn_iload dX0_sameNames_115 8 rfl ?_
        refine tn_callV (M := m_X0_sameNames) (pc := 117) (ix := 105) (ci := 7) (M' := m_X7_foundRegister) (As := [.int (iI i7)]) (rest := [.int (iI v29), .int (iI i2)]) dX0_sameNames_117 ok_X7_foundRegister im_X7_foundRegister se_X7_foundRegister ml0_105 np_X7_foundRegister rfl rfl hk32o rfl (Nat.le_of_ble_eq_true rfl) (Nat.le_of_ble_eq_true rfl) rfl (k_X7_foundRegister (d + 2) (T := T) (σ := (sA 2 a (z18) σ)) (a := xq30) (p1 := i7) hk32o (by omega) (hw.put (by decide) (by decide) (fo_2 (by omega))) ) (fun r34 T36 σ35 gt37 hp => ?_)
        obtain ⟨v39, rfl, rfl, rfl, f38⟩ := hp
        clear gt37
        show Tn _ _ 120 T (sA 2 a (z18) σ) [(8, .int (iI v9)), (0, .ref a), (1, .ref rx1), (2, .int (iI i2)), (3, .ref rx3), (4, .int (iI c4)), (5, .int (iI c5)), (6, .int (iI c6)), (7, .int (iI i7))] [.int (iI v39), .int (iI v29), .int (iI i2)] _
        refine tn_icmp_ne (tgt := 127) dX0_sameNames_120 (by decide) ⟨by omega, by omega⟩ ⟨by omega, by omega⟩ (fun h40 => ?_) (fun h40 => ?_)
        · refine tn_iconst dX0_sameNames_127 ?_
          refine tn_iand dX0_sameNames_128 ?_
          refine tn_bandX (x := i2) (y := 0) (by omega) (by omega) (fun z43 g44 g44w => ?_)
          refine tn_istore_n (L' := [(2, .int (iI z43)), (8, .int (iI v9)), (0, .ref a), (1, .ref rx1), (3, .ref rx3), (4, .int (iI c4)), (5, .int (iI c5)), (6, .int (iI c6)), (7, .int (iI i7))]) dX0_sameNames_129 rfl (by decide) rfl ?_
          refine tn_iinc (q0 := 8) (L' := [(7, .int (iI (i7 + 1))), (2, .int (iI z43)), (8, .int (iI v9)), (0, .ref a), (1, .ref rx1), (3, .ref rx3), (4, .int (iI c4)), (5, .int (iI c5)), (6, .int (iI c6))]) dX0_sameNames_130 rfl (by decide) rfl ?_
          refine tn_goto (tgt := 41) dX0_sameNames_133 (by decide) ?_
          exact tn_sub [3, 4, 1, 5, 6, 7, 8, 0] rfl (ih _ (by omega) (z43) (i7 + 1) (sA 2 a (z18) σ) (hw.put (by decide) (by decide) (fo_2 (by omega))) ((FrC.rfl.trans (FrC.sub hF (by decide))).put (by decide) (by decide)) (by omega) (by omega) (hC.fld (by simp) (by decide)) rfl)
        · refine tn_iconst dX0_sameNames_123 ?_
          refine tn_goto (tgt := 128) dX0_sameNames_124 (by decide) ?_
          refine tn_iand dX0_sameNames_128 ?_
          refine tn_bandX (x := i2) (y := 1) (by omega) (by omega) (fun z47 g48 g48w => ?_)
          refine tn_istore_n (L' := [(2, .int (iI z47)), (8, .int (iI v9)), (0, .ref a), (1, .ref rx1), (3, .ref rx3), (4, .int (iI c4)), (5, .int (iI c5)), (6, .int (iI c6)), (7, .int (iI i7))]) dX0_sameNames_129 rfl (by decide) rfl ?_
          refine tn_iinc (q0 := 8) (L' := [(7, .int (iI (i7 + 1))), (2, .int (iI z47)), (8, .int (iI v9)), (0, .ref a), (1, .ref rx1), (3, .ref rx3), (4, .int (iI c4)), (5, .int (iI c5)), (6, .int (iI c6))]) dX0_sameNames_130 rfl (by decide) rfl ?_
          refine tn_goto (tgt := 41) dX0_sameNames_133 (by decide) ?_
          exact tn_sub [3, 4, 1, 5, 6, 7, 8, 0] rfl (ih _ (by omega) (z47) (i7 + 1) (sA 2 a (z18) σ) (hw.put (by decide) (by decide) (fo_2 (by omega))) ((FrC.rfl.trans (FrC.sub hF (by decide))).put (by decide) (by decide)) (by omega) (by omega) (hC.fld (by simp) (by decide)) rfl)
      · refine tn_aload_n dX0_sameNames_77 rfl 1 rfl ?_
        refine tn_dup dX0_sameNames_78 rfl ?_
        refine tn_getI (ci := 0) (i := 3) (n := 3) (t := σ.2.1 3 a) dX0_sameNames_79 rfl lay_0 (by decide) fl0_27 h_a rfl rfl (rfl) ?_
        have g49 : ((-2147483648 : Int) ≤ σ.2.1 3 a ∧ σ.2.1 3 a ≤ 2147483647) := wf_3 hw h_a
        refine tn_iconst dX0_sameNames_82 ?_
        refine tn_iadd dX0_sameNames_83 ?_
        refine tn_any (fun z50 g51 => ?_)
        have g51r : -2147483648 ≤ z50 ∧ z50 ≤ 2147483647 := g51
        refine tn_putV (ci := 0) (i := 3) (n := 3) (r := false) (v := z50) tyX0 tyX0_ok nmX0 dX0_sameNames_84 rfl lay_0 (by decide) fl0_27 rfl (tyX0_ok 3 (by decide)) rfl rfl rfl h_a rfl rfl ?_
        refine tn_goto (tgt := 130) dX0_sameNames_87 (by decide) ?_
        refine tn_iinc (q0 := 8) (L' := [(7, .int (iI (i7 + 1))), (8, .int (iI v9)), (0, .ref a), (1, .ref rx1), (2, .int (iI i2)), (3, .ref rx3), (4, .int (iI c4)), (5, .int (iI c5)), (6, .int (iI c6))]) dX0_sameNames_130 rfl (by decide) rfl ?_
        refine tn_goto (tgt := 41) dX0_sameNames_133 (by decide) ?_
        exact tn_sub [2, 3, 4, 5, 6, 7, 8, 0] rfl (ih _ (by omega) (i2) (i7 + 1) (sA 3 a (z50) σ) (hw.put (by decide) (by decide) (fo_3 (by omega))) ((FrC.rfl.trans (FrC.sub hF (by decide))).put (by decide) (by decide)) (by omega) (by omega) (hC.fld (by simp) (by decide)) rfl)
set_option maxHeartbeats 1000000 in
set_option maxRecDepth 20000 in
theorem k_X0_sameNames_h (d : Nat) {T : CT} {σ : MS} {a : Nat} {p1 : Nat} (ha : OB T a 0) (h_p1 : OB T p1 10) (hw : WT T σ) : Tn (d + 5) m_X0_sameNames 0 T σ [(0, .ref a), (1, .ref p1)] [] (fun ro T2 σ2 => ∃ v : Int, ro = some (.int (iI v)) ∧ T = T2 ∧ WT T2 σ2 ∧ FrC T [2, 3] σ σ2 ∧ (v = 0 ∨ v = 1) ∧ (CHX [(2, a), (3, a)] [] [] σ σ2)) := by
  refine tn_iconst dX0_sameNames_0 ?_
  refine tn_istore_n (L' := [(2, .int (iI 1)), (0, .ref a), (1, .ref p1)]) dX0_sameNames_1 rfl (by decide) rfl ?_
  refine tn_aload_n dX0_sameNames_2 rfl 1 rfl ?_
  obtain ⟨xq1, hx2, hk3⟩ : ∃ x : Nat, σ.2.1 0 a = (x : Int) ∧ (T x).1 = 37 := wf_0 hw ha
  have hk3o : OB T xq1 7 := ⟨by omega, by rw [hk3]; rfl, by omega⟩
  refine tn_getR (ci := 0) (i := 0) (n := 0) (x := xq1) dX0_sameNames_3 rfl lay_0 (by decide) fl0_14 ha rfl rfl (hx2) ?_
  refine tn_callV (M := m_X0_sameNames) (pc := 6) (ix := 77) (ci := 7) (M' := m_X7_foundCode) (As := []) (rest := []) dX0_sameNames_6 ok_X7_foundCode im_X7_foundCode se_X7_foundCode ml0_77 np_X7_foundCode rfl rfl hk3o rfl (Nat.le_of_ble_eq_true rfl) (Nat.le_of_ble_eq_true rfl) rfl (k_X7_foundCode (d + 2) (T := T) (σ := σ) (a := xq1) hk3o hw ) (fun r5 T7 σ6 gt8 hp => ?_)
  obtain ⟨v10, rfl, rfl, rfl, rv11, f9⟩ := hp
  clear gt8
  clear f9
  rcases rv11 with rv11 | ⟨xq12, rfl, hk13⟩
  · show Tn _ _ 9 T σ [(2, .int (iI 1)), (0, .ref a), (1, .ref p1)] (vl true v10 :: []) _
    rw [vl_null rv11]
    refine tn_astore_nN (L' := [(3, .null), (2, .int (iI 1)), (0, .ref a), (1, .ref p1)]) dX0_sameNames_9 rfl (by decide) rfl ?_
    refine tn_aload_n dX0_sameNames_10 rfl 2 rfl ?_
    refine tn_getR (ci := 0) (i := 0) (n := 0) (x := xq1) dX0_sameNames_11 rfl lay_0 (by decide) fl0_14 ha rfl rfl (hx2) ?_
    refine tn_callV (M := m_X0_sameNames) (pc := 14) (ix := 81) (ci := 7) (M' := m_X7_foundSource) (As := []) (rest := []) dX0_sameNames_14 ok_X7_foundSource im_X7_foundSource se_X7_foundSource ml0_81 np_X7_foundSource rfl rfl hk3o rfl (Nat.le_of_ble_eq_true rfl) (Nat.le_of_ble_eq_true rfl) rfl (k_X7_foundSource (d + 2) (T := T) (σ := σ) (a := xq1) hk3o hw ) (fun r14 T16 σ15 gt17 hp => ?_)
    obtain ⟨v19, rfl, rfl, rfl, f18⟩ := hp
    clear gt17
    show Tn _ _ 17 T σ [(3, .null), (2, .int (iI 1)), (0, .ref a), (1, .ref p1)] [.int (iI v19)] _
    refine tn_istore (L' := [(4, .int (iI v19)), (3, .null), (2, .int (iI 1)), (0, .ref a), (1, .ref p1)]) dX0_sameNames_17 (by decide) rfl ?_
    refine tn_aload_n dX0_sameNames_19 rfl 3 rfl ?_
    refine tn_getR (ci := 0) (i := 0) (n := 0) (x := xq1) dX0_sameNames_20 rfl lay_0 (by decide) fl0_14 ha rfl rfl (hx2) ?_
    refine tn_aload_n dX0_sameNames_23 rfl 4 rfl ?_
    refine tn_callV (M := m_X0_sameNames) (pc := 24) (ix := 84) (ci := 7) (M' := m_X7_foundSlot) (As := [.ref p1]) (rest := []) dX0_sameNames_24 ok_X7_foundSlot im_X7_foundSlot se_X7_foundSlot ml0_84 np_X7_foundSlot rfl rfl hk3o rfl (Nat.le_of_ble_eq_true rfl) (Nat.le_of_ble_eq_true rfl) rfl (k_X7_foundSlot (d + 1) (T := T) (σ := σ) (a := xq1) (p1 := p1) hk3o h_p1 hw ) (fun r20 T22 σ21 gt23 hp => ?_)
    obtain ⟨v25, rfl, rfl, rfl, f24⟩ := hp
    clear gt23
    show Tn _ _ 27 T σ [(4, .int (iI v19)), (3, .null), (2, .int (iI 1)), (0, .ref a), (1, .ref p1)] [.int (iI v25)] _
    refine tn_istore (L' := [(5, .int (iI v25)), (4, .int (iI v19)), (3, .null), (2, .int (iI 1)), (0, .ref a), (1, .ref p1)]) dX0_sameNames_27 (by decide) rfl ?_
    refine tn_aload_n dX0_sameNames_29 rfl 4 rfl ?_
    refine tn_getR (ci := 0) (i := 0) (n := 0) (x := xq1) dX0_sameNames_30 rfl lay_0 (by decide) fl0_14 ha rfl rfl (hx2) ?_
    refine tn_callV (M := m_X0_sameNames) (pc := 33) (ix := 88) (ci := 7) (M' := m_X7_foundNames) (As := []) (rest := []) dX0_sameNames_33 ok_X7_foundNames im_X7_foundNames se_X7_foundNames ml0_88 np_X7_foundNames rfl rfl hk3o rfl (Nat.le_of_ble_eq_true rfl) (Nat.le_of_ble_eq_true rfl) rfl (k_X7_foundNames (d + 1) (T := T) (σ := σ) (a := xq1) hk3o hw ) (fun r26 T28 σ27 gt29 hp => ?_)
    obtain ⟨v31, rfl, rfl, rfl, f30⟩ := hp
    clear gt29
    show Tn _ _ 36 T σ [(5, .int (iI v25)), (4, .int (iI v19)), (3, .null), (2, .int (iI 1)), (0, .ref a), (1, .ref p1)] [.int (iI v31)] _
    refine tn_istore (L' := [(6, .int (iI v31)), (5, .int (iI v25)), (4, .int (iI v19)), (3, .null), (2, .int (iI 1)), (0, .ref a), (1, .ref p1)]) dX0_sameNames_36 (by decide) rfl ?_
    refine tn_iconst dX0_sameNames_38 ?_
    refine tn_istore (L' := [(7, .int (iI 0)), (6, .int (iI v31)), (5, .int (iI v25)), (4, .int (iI v19)), (3, .null), (2, .int (iI 1)), (0, .ref a), (1, .ref p1)]) dX0_sameNames_39 (by decide) rfl ?_
    refine tn_sub [6, 7, 5, 4, 3, 2, 1, 0] rfl (l_X0_sameNames_h_41 (d) (T := T) (σ0 := σ) (a := a) (rx1 := p1) (c4 := v19) (c5 := v25) (c6 := v31) ha h_p1 (by omega) (by omega) (by omega) hw (fun i232 i733 σ34 w37 F38 r39 r40 f41 => ?_) _ (1) (0) σ hw FrC.rfl (by omega) (by omega) CHX.rfl rfl)
    show Tn _ _ 136 T σ34 [(0, .ref a), (1, .ref p1), (2, .int (iI i232)), (3, .null), (4, .int (iI v19)), (5, .int (iI v25)), (6, .int (iI v31)), (7, .int (iI i733))] [] _
    refine tn_iload_n dX0_sameNames_136 rfl 2 rfl ?_
    exact tn_zret (v := i232) rfl (by omega) dX0_sameNames_137 ⟨_, rfl, rfl, w37, (FrC.rfl.trans (FrC.sub F38 (by decide))), by omega, (CHX.rfl.trans (CHX.sub f41 (by simp) (by simp) (by simp)))⟩
  · show Tn _ _ 9 T σ [(2, .int (iI 1)), (0, .ref a), (1, .ref p1)] (vl true (xq12 : Int) :: []) _
    rw [vl_ref rfl]
    have hk13o : OB T xq12 1 := hk13.1
    refine tn_astore_n (L' := [(3, .ref xq12), (2, .int (iI 1)), (0, .ref a), (1, .ref p1)]) dX0_sameNames_9 rfl (by decide) rfl ?_
    refine tn_aload_n dX0_sameNames_10 rfl 2 rfl ?_
    refine tn_getR (ci := 0) (i := 0) (n := 0) (x := xq1) dX0_sameNames_11 rfl lay_0 (by decide) fl0_14 ha rfl rfl (hx2) ?_
    refine tn_callV (M := m_X0_sameNames) (pc := 14) (ix := 81) (ci := 7) (M' := m_X7_foundSource) (As := []) (rest := []) dX0_sameNames_14 ok_X7_foundSource im_X7_foundSource se_X7_foundSource ml0_81 np_X7_foundSource rfl rfl hk3o rfl (Nat.le_of_ble_eq_true rfl) (Nat.le_of_ble_eq_true rfl) rfl (k_X7_foundSource (d + 2) (T := T) (σ := σ) (a := xq1) hk3o hw ) (fun r42 T44 σ43 gt45 hp => ?_)
    obtain ⟨v47, rfl, rfl, rfl, f46⟩ := hp
    clear gt45
    show Tn _ _ 17 T σ [(3, .ref xq12), (2, .int (iI 1)), (0, .ref a), (1, .ref p1)] [.int (iI v47)] _
    refine tn_istore (L' := [(4, .int (iI v47)), (3, .ref xq12), (2, .int (iI 1)), (0, .ref a), (1, .ref p1)]) dX0_sameNames_17 (by decide) rfl ?_
    refine tn_aload_n dX0_sameNames_19 rfl 3 rfl ?_
    refine tn_getR (ci := 0) (i := 0) (n := 0) (x := xq1) dX0_sameNames_20 rfl lay_0 (by decide) fl0_14 ha rfl rfl (hx2) ?_
    refine tn_aload_n dX0_sameNames_23 rfl 4 rfl ?_
    refine tn_callV (M := m_X0_sameNames) (pc := 24) (ix := 84) (ci := 7) (M' := m_X7_foundSlot) (As := [.ref p1]) (rest := []) dX0_sameNames_24 ok_X7_foundSlot im_X7_foundSlot se_X7_foundSlot ml0_84 np_X7_foundSlot rfl rfl hk3o rfl (Nat.le_of_ble_eq_true rfl) (Nat.le_of_ble_eq_true rfl) rfl (k_X7_foundSlot (d + 1) (T := T) (σ := σ) (a := xq1) (p1 := p1) hk3o h_p1 hw ) (fun r48 T50 σ49 gt51 hp => ?_)
    obtain ⟨v53, rfl, rfl, rfl, f52⟩ := hp
    clear gt51
    show Tn _ _ 27 T σ [(4, .int (iI v47)), (3, .ref xq12), (2, .int (iI 1)), (0, .ref a), (1, .ref p1)] [.int (iI v53)] _
    refine tn_istore (L' := [(5, .int (iI v53)), (4, .int (iI v47)), (3, .ref xq12), (2, .int (iI 1)), (0, .ref a), (1, .ref p1)]) dX0_sameNames_27 (by decide) rfl ?_
    refine tn_aload_n dX0_sameNames_29 rfl 4 rfl ?_
    refine tn_getR (ci := 0) (i := 0) (n := 0) (x := xq1) dX0_sameNames_30 rfl lay_0 (by decide) fl0_14 ha rfl rfl (hx2) ?_
    refine tn_callV (M := m_X0_sameNames) (pc := 33) (ix := 88) (ci := 7) (M' := m_X7_foundNames) (As := []) (rest := []) dX0_sameNames_33 ok_X7_foundNames im_X7_foundNames se_X7_foundNames ml0_88 np_X7_foundNames rfl rfl hk3o rfl (Nat.le_of_ble_eq_true rfl) (Nat.le_of_ble_eq_true rfl) rfl (k_X7_foundNames (d + 1) (T := T) (σ := σ) (a := xq1) hk3o hw ) (fun r54 T56 σ55 gt57 hp => ?_)
    obtain ⟨v59, rfl, rfl, rfl, f58⟩ := hp
    clear gt57
    show Tn _ _ 36 T σ [(5, .int (iI v53)), (4, .int (iI v47)), (3, .ref xq12), (2, .int (iI 1)), (0, .ref a), (1, .ref p1)] [.int (iI v59)] _
    refine tn_istore (L' := [(6, .int (iI v59)), (5, .int (iI v53)), (4, .int (iI v47)), (3, .ref xq12), (2, .int (iI 1)), (0, .ref a), (1, .ref p1)]) dX0_sameNames_36 (by decide) rfl ?_
    refine tn_iconst dX0_sameNames_38 ?_
    refine tn_istore (L' := [(7, .int (iI 0)), (6, .int (iI v59)), (5, .int (iI v53)), (4, .int (iI v47)), (3, .ref xq12), (2, .int (iI 1)), (0, .ref a), (1, .ref p1)]) dX0_sameNames_39 (by decide) rfl ?_
    refine tn_sub [6, 7, 5, 4, 3, 2, 1, 0] rfl (l_X0_sameNames_h_41_1 (d) (T := T) (σ0 := σ) (a := a) (rx1 := p1) (rx3 := xq12) (c4 := v47) (c5 := v53) (c6 := v59) ha h_p1 hk13o (by omega) (by omega) (by omega) hw (fun i260 i761 σ62 w65 F66 r67 r68 f69 => ?_) _ (1) (0) σ hw FrC.rfl (by omega) (by omega) CHX.rfl rfl)
    show Tn _ _ 136 T σ62 [(0, .ref a), (1, .ref p1), (2, .int (iI i260)), (3, .ref xq12), (4, .int (iI v47)), (5, .int (iI v53)), (6, .int (iI v59)), (7, .int (iI i761))] [] _
    refine tn_iload_n dX0_sameNames_136 rfl 2 rfl ?_
    exact tn_zret (v := i260) rfl (by omega) dX0_sameNames_137 ⟨_, rfl, rfl, w65, (FrC.rfl.trans (FrC.sub F66 (by decide))), by omega, (CHX.rfl.trans (CHX.sub f69 (by simp) (by simp) (by simp)))⟩
end
section

def QF (f : Nat) : Prop := (2 ≤ f ∧ f ≤ 4) ∨ (56 ≤ f ∧ f ≤ 58) ∨ (65 ≤ f ∧ f ≤ 71) ∨ (92 ≤ f ∧ f ≤ 94) ∨ f = 96 ∨ f = 900
def QRW (f : Nat) : Prop := (59 ≤ f ∧ f ≤ 64) ∨ (89 ≤ f ∧ f ≤ 91) ∨ f = 95
def QFR (S : Nat → Prop) (T : CT) (σ σ2 : MS) : Prop := (∀ (f : Nat) (b : Int), f < 1000 → ¬ QF f → σ2.2.1 f b = σ.2.1 f b) ∧ (∀ f b, f ∈ AFL → ¬ QRW f → S b → OB T b (cls f) → σ2.2.1 (1000 + adN σ f b) = σ.2.1 (1000 + adN σ f b)) ∧ ∀ x, (T x).1 = 4 ∨ (T x).1 = 5 → σ2.2.1 (1000 + x) = σ.2.1 (1000 + x)
def TBJ (S : Nat → Prop) (T : CT) (σ : MS) : Prop := ∀ i (t : Nat), 0 ≤ i → i < 6 → σ.2.1 900 i = (t : Int) → ∀ f b, f ∈ AFL → S b → OB T b (cls f) → t ≠ adN σ f b
section QFRS
variable {S : Nat → Prop} {T T1 T2 : CT} {σ σ1 σ2 : MS} {a b t : Nat} {ks : List (Nat × Nat)} {rs ls : List Nat} {C E M : Int → Nat} {r : Int} {xs xb xf : Nat}
theorem afl_q {f : Nat} (h : f ∈ AFL) : ¬ QF f ∧ f < 1000 := by
  simp only [List.mem_cons, List.not_mem_nil, or_false] at h
  unfold QF
  omega
theorem QFR.rf : QFR S T σ σ := ⟨fun _ _ _ _ => Eq.refl _, fun _ _ _ _ _ _ => Eq.refl _, fun _ _ => Eq.refl _⟩
theorem QFR.eq (h : σ2.2.1 = σ.2.1) : QFR S T σ σ2 := ⟨fun _ _ _ _ => by rw [h], fun _ _ _ _ _ _ => by rw [h], fun _ _ => by rw [h]⟩
theorem QFR.ad (h : QFR S T σ σ2) {f : Nat} (hf : f < 1000) (hq : ¬ QF f) : adN σ2 f b = adN σ f b := by unfold adN; rw [h.1 f b hf hq]
theorem QFR.trans (h : QFR S T σ σ1) (gt : GT T T1) (g : QFR S T1 σ1 σ2) : QFR S T σ σ2 := ⟨fun f b hf hq => (g.1 f b hf hq).trans (h.1 f b hf hq), fun f b hf hq sb ob => by
  have z := g.2.1 f b hf hq sb (gt.ob ob)
  rw [h.ad (afl_q hf).2 (afl_q hf).1] at z
  exact z.trans (h.2.1 f b hf hq sb ob), fun x hx => (g.2.2 x (by rw [gt x (by omega) (by omega)]; exact hx)).trans (h.2.2 x hx)⟩
theorem QFR.chx (hI : INJ S T σ) (hw : WT T σ) (ch : CHX ks rs ls σ σ2) (hk : ∀ p, p ∈ ks → QF p.1) (hr : ∀ x, x ∈ rs → ∃ f b, f ∈ AFL ∧ QRW f ∧ S b ∧ OB T b (cls f) ∧ x = adN σ f b) : QFR S T σ σ2 := ⟨fun f b hf hq => ch.1 f b hf (fun p hp e => absurd (hk p hp) (by rw [e]; exact hq)), fun f b hf hq sb ob => ch.2.1 _ (fun q => by
  obtain ⟨g, c, hg, qg, sc, oc, e⟩ := hr _ q
  have z := (hI.2 f g b c hf hg sb sc ob oc e).1
  rw [z] at hq
  exact hq qg), fun x hx => ch.2.1 x (fun q => by
  obtain ⟨g, c, hg, qg, sc, oc, e⟩ := hr _ q
  exact r45 hw hx hg oc e)⟩
theorem afk_t (hw : WT T σ) {f : Nat} (hf : f ∈ AFL) (ob : OB T b (cls f)) : (T (adN σ f b)).1 ≠ 0 ∧ (T (adN σ f b)).1 < 80 := by
  have z := (af_k hw hf ob).2
  unfold AFK at z
  omega
theorem QFR.chn (hI : INJ S T σ) (hw : WT T σ) (ch : CHN T ks rs ls σ σ2) (hk : ∀ p, p ∈ ks → QF p.1) (hr : ∀ x, x ∈ rs → (∃ f b, f ∈ AFL ∧ QRW f ∧ S b ∧ OB T b (cls f) ∧ x = adN σ f b) ∨ ((∀ f b, f ∈ AFL → S b → OB T b (cls f) → x ≠ adN σ f b) ∧ ¬ ((T x).1 = 4 ∨ (T x).1 = 5))) : QFR S T σ σ2 := ⟨fun f b hf hq => ch.1 f b hf (fun p hp e => absurd (hk p hp) (by rw [e]; exact hq)), fun f b hf hq sb ob => ch.2.1 _ (fun q => by
  rcases hr _ q with ⟨g, c, hg, qg, sc, oc, e⟩ | z
  · have z := (hI.2 f g b c hf hg sb sc ob oc e).1
    rw [z] at hq
    exact hq qg
  · exact z.1 f b hf sb ob (Eq.refl _)) (afk_t hw hf ob), fun x hx => ch.2.1 x (fun q => by
  rcases hr _ q with ⟨g, c, hg, qg, sc, oc, e⟩ | z
  · exact r45 hw hx hg oc e
  · exact z.2 hx) (by omega)⟩
theorem INJ.q (hI : INJ S T σ) (gt : GT T T2) (h : QFR S T σ σ2) : INJ S T2 σ2 := by
  have e : ∀ b, S b → T2 b = T b := fun b sb => gt b (by have z := hI.1 b sb; omega) (hI.1 b sb).2
  refine ⟨fun b sb => by rw [e b sb]; exact hI.1 b sb, fun f g a b hf hg sa sb oa ob q => ?_⟩
  rw [h.ad (afl_q hf).2 (afl_q hf).1, h.ad (afl_q hg).2 (afl_q hg).1] at q
  exact hI.2 f g a b hf hg sa sb (by unfold OB at *; rw [e a sa] at oa; exact oa) (by unfold OB at *; rw [e b sb] at ob; exact ob) q
theorem CSM.q (h : QFR S T σ σ2) (sb : S b) (ob : OB T b 1) : CSM σ σ2 b := ⟨fun f h0 h1 => h.1 f b (by omega) (by unfold QF; omega), fun f hf => by
  have c1 : f ∈ AFL ∧ ¬ QRW f ∧ cls f = 1 := by
    simp only [List.mem_cons, List.not_mem_nil, or_false] at hf
    rcases hf with rfl | rfl | rfl | rfl | rfl | rfl <;> exact ⟨by decide, by unfold QRW; omega, by decide⟩
  exact h.2.1 f b c1.1 c1.2.1 sb (by rw [c1.2.2]; exact ob)⟩
theorem tb_tag (hw : WT T σ) {i : Int} (i0 : 0 ≤ i) (i1 : i < 6) (h : σ.2.1 900 i = (t : Int)) : (T t).1 = 1 := by
  rcases hw.2.2.2.2.1.2 i i0 i1 with z | ⟨x, hx, hk, hl⟩
  · omega
  · rw [show t = x by omega]; exact hk
theorem TBJ.q (hI : INJ S T σ) (hb : TBJ S T σ) (gt : GT T T2) (hq : QFR S T σ σ2) (h9 : ∀ i, 0 ≤ i → i < 6 → σ2.2.1 900 i = σ.2.1 900 i) : TBJ S T2 σ2 := fun i t i0 i1 q f b hf sb ob => by
  rw [h9 i i0 i1] at q
  rw [hq.ad (afl_q hf).2 (afl_q hf).1]
  have e : T2 b = T b := gt b (by have z := hI.1 b sb; omega) (hI.1 b sb).2
  exact hb i t i0 i1 q f b hf sb (by unfold OB at *; rw [e] at ob; exact ob)
theorem TBJ.rfq (hI : INJ S T σ) (hw : WT T σ) (hb : TBJ S T σ) (gt : GT T T2) (sa : S a) (oa : OB T a 10) (e0 : σ.2.1 90 a = (xb : Int)) (e1 : σ.2.1 91 a = (xs : Int)) (e2 : σ.2.1 89 a = (xf : Int)) (h : RFQ T σ σ2 a r xs xb xf) : QFR S T σ σ2 ∧ TBJ S T2 σ2 := by
  rcases h with h | ⟨r0, t, h1, h2, h3⟩
  · have hq : QFR S T σ σ2 := QFR.eq h.1
    exact ⟨hq, hb.q hI gt hq (fun i _ _ => by rw [h.1])⟩
  · have ht : (∀ f b, f ∈ AFL → S b → OB T b (cls f) → t ≠ adN σ f b) ∧ ¬ ((T t).1 = 4 ∨ (T t).1 = 5) := by
      rcases h1 with q | q
      · exact ⟨hb r t r0.1 r0.2 q, by have z := tb_tag hw r0.1 r0.2 q; omega⟩
      · exact ⟨fun f b hf sb ob e => by have z := (afk_t hw hf ob).1; rw [← e] at z; exact z q, by omega⟩
    have hq : QFR S T σ σ2 := QFR.chn hI hw h3 (fun p hp => by
      simp only [List.mem_cons, List.not_mem_nil, or_false] at hp
      rcases hp with rfl | rfl | rfl | rfl <;> (unfold QF; simp)) (fun x hx => by
      simp only [List.mem_cons, List.not_mem_nil, or_false] at hx
      rcases hx with rfl | rfl | rfl | rfl
      · exact Or.inr ht
      · exact Or.inl ⟨91, a, by decide, by unfold QRW; omega, sa, oa, (adN_of e1).symm⟩
      · exact Or.inl ⟨90, a, by decide, by unfold QRW; omega, sa, oa, (adN_of e0).symm⟩
      · exact Or.inl ⟨89, a, by decide, by unfold QRW; omega, sa, oa, (adN_of e2).symm⟩)
    refine ⟨hq, fun i t2 i0 i1 q f b hf sb ob => ?_⟩
    have za : adN σ2 f b = adN σ f b := hq.ad (afl_q hf).2 (afl_q hf).1
    have e : T2 b = T b := gt b (by have z := hI.1 b sb; omega) (hI.1 b sb).2
    have ob1 : OB T b (cls f) := by unfold OB at *; rw [e] at ob; exact ob
    rw [za]
    by_cases ei : i = r
    · rw [ei, h2] at q
      have e9 : t2 = t := by omega
      rw [e9]
      exact ht.1 f b hf sb ob1
    · have q2 : σ2.2.1 900 i = σ.2.1 900 i := h3.1 900 i (by decide) (fun p hp e => by
        simp only [List.mem_cons, List.not_mem_nil, or_false] at hp
        rcases hp with rfl | rfl | rfl | rfl <;> simp only at e <;> omega)
      rw [q2] at q
      exact hb i t2 i0 i1 q f b hf sb ob1
theorem KEM.q (h : KEM S T σ a C E M) (oa : OB T a 11) (hw : WT T σ) (gt : GT T T2) (g : QFR S T σ σ2) : KEM S T2 σ2 a C E M := by
  obtain ⟨⟨hI, hS, hX⟩, h1, h2, h3⟩ := h
  have ad : ∀ f b, f < 1000 → ¬ QF f → adN σ2 f b = adN σ f b := fun f b hf hq => g.ad hf hq
  have te : ∀ b, S b → T2 b = T b := fun b sb => gt b (by have z := hI.1 b sb; omega) (hI.1 b sb).2
  have n98 : (T (adN σ 98 a)).1 = 4 := ((ad_ex (Q := fun x => AR T x 4 6 6) (wf_98 hw oa)).2).1
  have n99 : (T (adN σ 99 a)).1 = 5 := ((ad_ex (Q := fun x => AR T x 5 6 6) (wf_99 hw oa)).2).1
  have o100 : OB T (adN σ 100 a) 5 := by
    have z := (ad_ex (Q := fun x => (T x).1 = 35) (wf_100 hw oa)).2
    exact ⟨by omega, by rw [z]; rfl, by omega⟩
  have n34 : (T (adN σ 34 (adN σ 100 a))).1 = 4 := ((ad_ex (Q := fun x => AR T x 4 7 7) (wf_34 hw o100)).2).1
  refine ⟨⟨hI.q gt g, ?_, ?_⟩, fun q q0 q1 => ?_, h2, h3⟩
  · unfold KST at hS ⊢
    rw [ad 106 a (by decide) (by unfold QF; omega), ad 107 a (by decide) (by unfold QF; omega), ad 108 a (by decide) (by unfold QF; omega), ad 109 a (by decide) (by unfold QF; omega), ad 102 a (by decide) (by unfold QF; omega), ad 17 _ (by decide) (by unfold QF; omega), ad 23 _ (by decide) (by unfold QF; omega), ad 72 _ (by decide) (by unfold QF; omega)]
    exact hS
  · unfold SPX at hX ⊢
    rw [ad 100 a (by decide) (by unfold QF; omega), ad 34 _ (by decide) (by unfold QF; omega)]
    refine ⟨hX.1, fun q q0 q1 => ?_, hX.2.2⟩
    have z := hX.2.1 q q0 q1
    rw [g.2.2 _ (Or.inl n34), te _ z.2.1]
    exact z
  · have z := h1 q q0 q1
    rw [ad 99 a (by decide) (by unfold QF; omega), ad 98 a (by decide) (by unfold QF; omega), g.2.2 _ (Or.inr n99), g.2.2 _ (Or.inl n98), te _ z.1.2.1, te _ z.2.2.1]
    exact z
end QFRS
end
section

def BSQ (S : Nat → Prop) (T : CT) (σ : MS) (a : Nat) : Prop := INJ S T σ ∧ TBJ S T σ ∧ S (adN σ 102 a) ∧ ∀ p : Nat, σ.2.1 110 a = (p : Int) → S (adN σ 0 p) ∧ S (adN σ 1 p)
section BSQS
variable {S : Nat → Prop} {T T1 T2 : CT} {σ σ1 σ2 : MS} {a b t : Nat} {ks : List (Nat × Nat)} {rs ls : List Nat} {r : Int} {xs xb xf tl : Nat}
theorem BSQ.st (h : BSQ S T σ a) (gt : GT T T2) (g : QFR S T σ σ2) (hb : TBJ S T2 σ2) : BSQ S T2 σ2 a := by
  refine ⟨h.1.q gt g, hb, ?_, fun p hp => ?_⟩
  · rw [g.ad (by decide) (by unfold QF; omega)]; exact h.2.2.1
  · rw [g.1 110 a (by decide) (by unfold QF; omega)] at hp
    rw [g.ad (f := 0) (by decide) (by unfold QF; omega), g.ad (f := 1) (by decide) (by unfold QF; omega)]
    exact h.2.2.2 p hp
theorem BSQ.rf (h : BSQ S T σ a) (hw : WT T σ) (gt : GT T T2) (e : σ.2.1 102 a = (tl : Int)) (ot : OB T tl 10) (e0 : σ.2.1 90 tl = (xb : Int)) (e1 : σ.2.1 91 tl = (xs : Int)) (e2 : σ.2.1 89 tl = (xf : Int)) (q : RFQ T σ σ2 tl r xs xb xf) : QFR S T σ σ2 ∧ BSQ S T2 σ2 a := by
  have st : S tl := by have z := h.2.2.1; rw [adN_of e] at z; exact z
  have w := TBJ.rfq h.1 hw h.2.1 gt st ot e0 e1 e2 q
  exact ⟨w.1, h.st gt w.1 w.2⟩
theorem BSQ.chx (h : BSQ S T σ a) (hw : WT T σ) (ch : CHX ks rs ls σ σ2) (hk : ∀ p, p ∈ ks → QF p.1 ∧ p.1 ≠ 900) (hr : ∀ x, x ∈ rs → ∃ f b, f ∈ AFL ∧ QRW f ∧ S b ∧ OB T b (cls f) ∧ x = adN σ f b) : QFR S T σ σ2 ∧ BSQ S T σ2 a := by
  have w := QFR.chx h.1 hw ch (fun p hp => (hk p hp).1) hr
  exact ⟨w, h.st GT.rfl w (h.2.1.q h.1 GT.rfl w (fun i _ _ => ch.1 900 i (by decide) (fun p hp e => absurd e (hk p hp).2)))⟩
def RN6 (S : Nat → Prop) (T : CT) (σ : MS) (o : Nat) (l : List Nat) : Prop := S o ∧ OB T o 7 ∧ l = [adN σ 59 o, adN σ 60 o, adN σ 61 o, adN σ 62 o, adN σ 63 o, adN σ 64 o]
theorem RN6.own {o x : Nat} {l : List Nat} (h : RN6 S T σ o l) (hx : x ∈ l) : ∃ f b, f ∈ AFL ∧ QRW f ∧ S b ∧ OB T b (cls f) ∧ x = adN σ f b := by
  obtain ⟨so, oo, e⟩ := h
  rw [e] at hx
  simp only [List.mem_cons, List.not_mem_nil, or_false] at hx
  rcases hx with q | q | q | q | q | q
  · exact ⟨59, o, by decide, by unfold QRW; omega, so, oo, q⟩
  · exact ⟨60, o, by decide, by unfold QRW; omega, so, oo, q⟩
  · exact ⟨61, o, by decide, by unfold QRW; omega, so, oo, q⟩
  · exact ⟨62, o, by decide, by unfold QRW; omega, so, oo, q⟩
  · exact ⟨63, o, by decide, by unfold QRW; omega, so, oo, q⟩
  · exact ⟨64, o, by decide, by unfold QRW; omega, so, oo, q⟩
theorem RN6.mk {o xa xb xc xd xe xf : Nat} (so : S o) (oo : OB T o 7) (h1 : σ.2.1 59 o = (xa : Int)) (h2 : σ.2.1 60 o = (xb : Int)) (h3 : σ.2.1 61 o = (xc : Int)) (h4 : σ.2.1 62 o = (xd : Int)) (h5 : σ.2.1 63 o = (xe : Int)) (h6 : σ.2.1 64 o = (xf : Int)) : RN6 S T σ o [xa, xb, xc, xd, xe, xf] := ⟨so, oo, by rw [adN_of h1, adN_of h2, adN_of h3, adN_of h4, adN_of h5, adN_of h6]⟩
theorem BSQ.run {o : Nat} {l : List Nat} (h : BSQ S T σ a) (hw : WT T σ) (n : RN6 S T σ o l) (ch : CHX [(56, o), (57, o), (58, o), (65, o), (66, o), (67, o), (68, o), (69, o), (70, o), (71, o)] l [] σ σ2) : QFR S T σ σ2 ∧ BSQ S T σ2 a := h.chx hw ch (fun p hp => by
  simp only [List.mem_cons, List.not_mem_nil, or_false] at hp
  rcases hp with rfl | rfl | rfl | rfl | rfl | rfl | rfl | rfl | rfl | rfl <;> simp [QF]) (fun x hx => n.own hx)
theorem BSQ.two {o o2 p9 : Nat} {l l2 : List Nat} (h : BSQ S T σ a) (hw : WT T σ) (n : RN6 S T σ o l) (n2 : RN6 S T σ o2 l2) (ch : CHX [(2, p9), (3, p9), (4, p9), (56, o), (57, o), (58, o), (65, o), (66, o), (67, o), (68, o), (69, o), (70, o), (71, o), (56, o2), (57, o2), (58, o2), (65, o2), (66, o2), (67, o2), (68, o2), (69, o2), (70, o2), (71, o2)] (l ++ l2) [] σ σ2) : QFR S T σ σ2 ∧ BSQ S T σ2 a := h.chx hw ch (fun p hp => by
  simp only [List.mem_cons, List.not_mem_nil, or_false] at hp
  rcases hp with rfl | rfl | rfl | rfl | rfl | rfl | rfl | rfl | rfl | rfl | rfl | rfl | rfl | rfl | rfl | rfl | rfl | rfl | rfl | rfl | rfl | rfl | rfl <;> simp [QF]) (fun x hx => (List.mem_append.mp hx).elim n.own n2.own)
end BSQS
def RK7 (σ σ2 : MS) (a : Nat) : Prop := σ2.2.1 103 a = σ.2.1 103 a ∧ σ2.2.1 99 a = σ.2.1 99 a ∧ ∀ rn : Nat, σ.2.1 103 a = (rn : Int) → (∀ f : Nat, 55 ≤ f → f < 70 → σ2.2.1 f rn = σ.2.1 f rn) ∧ ∀ f, f ∈ RN59 → σ2.2.1 (1000 + adN σ f rn) = σ.2.1 (1000 + adN σ f rn)
theorem RK7.rf {σ : MS} {a : Nat} : RK7 σ σ a := ⟨Eq.refl _, Eq.refl _, fun _ _ => ⟨fun _ _ _ => Eq.refl _, fun _ _ => Eq.refl _⟩⟩
theorem RK7.eq {σ σ2 : MS} {a : Nat} (h : σ2.2.1 = σ.2.1) : RK7 σ σ2 a := by unfold RK7; rw [h]; exact ⟨Eq.refl _, Eq.refl _, fun _ _ => ⟨fun _ _ _ => Eq.refl _, fun _ _ => Eq.refl _⟩⟩
theorem rn_lt {f : Nat} (hf : f ∈ RN59) : (59 ≤ f ∧ f ≤ 64) ∧ f ∈ AFL ∧ cls f = 7 := by
  simp only [List.mem_cons, List.not_mem_nil, or_false] at hf
  rcases hf with e | e | e | e | e | e <;> rw [e] <;> exact ⟨by decide, by decide, Eq.refl _⟩
theorem RK7.trans {σ σ1 σ2 : MS} {a : Nat} (h : RK7 σ σ1 a) (g : RK7 σ1 σ2 a) : RK7 σ σ2 a := ⟨g.1.trans h.1, g.2.1.trans h.2.1, fun rn e => by
  have h3 := h.2.2 rn e
  have g3 := g.2.2 rn (h.1.trans e)
  refine ⟨fun f f0 f1 => (g3.1 f f0 f1).trans (h3.1 f f0 f1), fun f hf => ?_⟩
  have f5 := (rn_lt hf).1
  have q := g3.2 f hf
  rw [show adN σ1 f rn = adN σ f rn by unfold adN; rw [h3.1 f (by omega) (by omega)]] at q
  exact q.trans (h3.2 f hf)⟩
theorem RK7.of {σ σ2 : MS} {a rn : Nat} {ks : List (Nat × Nat)} {rs ls : List Nat} (hrn : σ.2.1 103 a = (rn : Int)) (ch : CHX ks rs ls σ σ2) (hk : ∀ p, p ∈ ks → (p.1 ≠ 103 ∧ p.1 ≠ 99) ∧ (p.2 = rn → 70 ≤ p.1)) (hr : ∀ x, x ∈ rs → ∀ f, f ∈ RN59 → x ≠ adN σ f rn) : RK7 σ σ2 a := ⟨ch.1 103 a (by decide) (fun p hp e => absurd e (hk p hp).1.1), ch.1 99 a (by decide) (fun p hp e => absurd e (hk p hp).1.2), fun r e => by
  have er : r = rn := by omega
  subst er
  exact ⟨fun f f0 f1 => ch.1 f r (by omega) (fun p hp e w => by have := (hk p hp).2 (by omega); omega), fun f hf => ch.r (fun q => hr _ q f hf (Eq.refl _))⟩⟩
section RK7S
variable {S : Nat → Prop} {T T2 : CT} {σ σ2 : MS} {a rn o o2 p9 : Nat} {l l2 : List Nat} {r : Int} {xs xb xf tl : Nat}
theorem RN6.ow7 {x : Nat} (h : RN6 S T σ o l) (hx : x ∈ l) : ∃ g, g ∈ AFL ∧ OB T o (cls g) ∧ x = adN σ g o := by
  obtain ⟨so, oo, e⟩ := h
  rw [e] at hx
  simp only [List.mem_cons, List.not_mem_nil, or_false] at hx
  rcases hx with q | q | q | q | q | q
  · exact ⟨59, by decide, oo, q⟩
  · exact ⟨60, by decide, oo, q⟩
  · exact ⟨61, by decide, oo, q⟩
  · exact ⟨62, by decide, oo, q⟩
  · exact ⟨63, by decide, oo, q⟩
  · exact ⟨64, by decide, oo, q⟩
theorem RN6.ne7 {x : Nat} (h : RN6 S T σ o l) (hI : INJ S T σ) (sr : S rn) (or : OB T rn 7) (ne : rn ≠ o) (hx : x ∈ l) (f : Nat) (hf : f ∈ RN59) : x ≠ adN σ f rn := fun e => by
  obtain ⟨g, hg, oo, q⟩ := h.ow7 hx
  obtain ⟨-, fa, fc⟩ := rn_lt hf
  exact hI.ne sr h.1 (by rw [fc]; exact or) oo fa hg (Or.inr ne) (e.symm.trans q)
theorem BSQ.runk (h : BSQ S T σ a) (n : RN6 S T σ o l) (hrn : σ.2.1 103 a = (rn : Int)) (sr : S rn) (or : OB T rn 7) (ne : rn ≠ o) (ch : CHX [(56, o), (57, o), (58, o), (65, o), (66, o), (67, o), (68, o), (69, o), (70, o), (71, o)] l [] σ σ2) : RK7 σ σ2 a := RK7.of hrn ch (fun p hp => by
  simp only [List.mem_cons, List.not_mem_nil, or_false] at hp
  rcases hp with rfl | rfl | rfl | rfl | rfl | rfl | rfl | rfl | rfl | rfl <;> exact ⟨⟨by simp, by simp⟩, fun e => absurd e.symm ne⟩) (fun x hx f hf => n.ne7 h.1 sr or ne hx f hf)
theorem BSQ.twok (h : BSQ S T σ a) (n : RN6 S T σ o l) (n2 : RN6 S T σ o2 l2) (hrn : σ.2.1 103 a = (rn : Int)) (sr : S rn) (or : OB T rn 7) (ne : rn ≠ o) (ne2 : rn ≠ o2) (np : rn ≠ p9) (ch : CHX [(2, p9), (3, p9), (4, p9), (56, o), (57, o), (58, o), (65, o), (66, o), (67, o), (68, o), (69, o), (70, o), (71, o), (56, o2), (57, o2), (58, o2), (65, o2), (66, o2), (67, o2), (68, o2), (69, o2), (70, o2), (71, o2)] (l ++ l2) [] σ σ2) : RK7 σ σ2 a := RK7.of hrn ch (fun p hp => by
  simp only [List.mem_cons, List.not_mem_nil, or_false] at hp
  rcases hp with rfl | rfl | rfl | rfl | rfl | rfl | rfl | rfl | rfl | rfl | rfl | rfl | rfl | rfl | rfl | rfl | rfl | rfl | rfl | rfl | rfl | rfl | rfl <;> exact ⟨⟨by simp, by simp⟩, fun e => by first | exact absurd e.symm ne | exact absurd e.symm ne2 | exact absurd e.symm np⟩) (fun x hx f hf => (List.mem_append.mp hx).elim (fun q => n.ne7 h.1 sr or ne q f hf) (fun q => n2.ne7 h.1 sr or ne2 q f hf))
theorem BSQ.rfk (h : BSQ S T σ a) (hw : WT T σ) (e : σ.2.1 102 a = (tl : Int)) (ot : OB T tl 10) (e0 : σ.2.1 90 tl = (xb : Int)) (e1 : σ.2.1 91 tl = (xs : Int)) (e2 : σ.2.1 89 tl = (xf : Int)) (hrn : σ.2.1 103 a = (rn : Int)) (sr : S rn) (or : OB T rn 7) (q : RFQ T σ σ2 tl r xs xb xf) : RK7 σ σ2 a := by
  rcases q with q | ⟨r0, t, h1, h2, h3⟩
  · exact RK7.eq q.1
  · have st : S tl := by have z := h.2.2.1; rw [adN_of e] at z; exact z
    have ne : rn ≠ tl := fun z => by
      have w := or.2.1
      rw [z, ot.2.1] at w
      exact absurd w (by decide)
    have ht : ∀ f, f ∈ RN59 → t ≠ adN σ f rn := fun f hf => by
      obtain ⟨-, fa, fc⟩ := rn_lt hf
      have ob : OB T rn (cls f) := by rw [fc]; exact or
      rcases h1 with w | w
      · exact h.2.1 r t r0.1 r0.2 w f rn fa sr ob
      · intro z
        have y := (afk_t hw fa ob).1
        rw [← z] at y
        exact y w
    have hr : ∀ x, x ∈ [t, xs, xb, xf] → ∀ f, f ∈ RN59 → x ≠ adN σ f rn := fun x hx f hf => by
      obtain ⟨-, fa, fc⟩ := rn_lt hf
      have ob : OB T rn (cls f) := by rw [fc]; exact or
      simp only [List.mem_cons, List.not_mem_nil, or_false] at hx
      rcases hx with z | z | z | z
      · rw [z]; exact ht f hf
      · rw [z, ← adN_of e1]; exact h.1.ne st sr ot ob (by decide) fa (Or.inr (fun w => ne w.symm))
      · rw [z, ← adN_of e0]; exact h.1.ne st sr ot ob (by decide) fa (Or.inr (fun w => ne w.symm))
      · rw [z, ← adN_of e2]; exact h.1.ne st sr ot ob (by decide) fa (Or.inr (fun w => ne w.symm))
    have hk : ∀ p, p ∈ [(92, tl), (93, tl), (94, tl), (900, r.toNat)] → (p.1 ≠ 103 ∧ p.1 ≠ 99) ∧ 70 ≤ p.1 := fun p hp => by
      simp only [List.mem_cons, List.not_mem_nil, or_false] at hp
      rcases hp with rfl | rfl | rfl | rfl <;> exact ⟨⟨by simp, by simp⟩, by simp⟩
    refine ⟨h3.1 103 a (by decide) (fun p hp z => absurd z (hk p hp).1.1), h3.1 99 a (by decide) (fun p hp z => absurd z (hk p hp).1.2), fun r9 z9 => ?_⟩
    have er : r9 = rn := by omega
    subst er
    refine ⟨fun f f0 f1 => h3.1 f r9 (by omega) (fun p hp z => by have := (hk p hp).2; omega), fun f hf => h3.2.1 _ (fun z => hr _ z f hf (Eq.refl _)) ?_⟩
    obtain ⟨-, fa, fc⟩ := rn_lt hf
    exact afk_t hw fa (by rw [fc]; exact or)
end RK7S
end
section

theorem gd_some {l : List Nat} {p : Nat} (hp : p < l.length) : l[p]? = some (l.getD p 0) := by
  rw [List.getD_eq_getElem?_getD, List.getElem?_eq_getElem hp]
  rfl
theorem DS.inj {l : List Nat} (h : DS l) {p q : Nat} (hp : p < l.length) (hq : q < l.length) (e : l.getD p 0 = l.getD q 0) : p = q := by
  by_cases c : p = q
  · exact c
  · exact absurd e (h p q _ _ (gd_some hp) (gd_some hq) c)
theorem KEM.first {T : CT} {σ : MS} {a : Nat} (hw : WT T σ) (oa : OB T a 11) (hi : INJT (fun _ => True) T σ) (hc : KCL a σ) : ∃ C E M, KEM (fun b => FIN T b ∧ True) T σ a C E M := by
  obtain ⟨r, q, x, y, LE, LM, LC, ⟨e1, e2, e3, e4⟩, ⟨l1, l2, l3⟩, ⟨d1, d2, d3, d4⟩, r1, r2, r3⟩ := hc
  have a100 : adN σ 100 a = r := adN_of e1
  have a34 : adN σ 34 r = q := adN_of e2
  have a98 : adN σ 98 a = x := adN_of e3
  have a99 : adN σ 99 a = y := adN_of e4
  have t100 : (T r).1 = 35 := by have z := (ad_ex (Q := fun x => (T x).1 = 35) (wf_100 hw oa)).2; rw [a100] at z; exact z
  have or : OB T r 5 := ⟨by omega, by rw [t100]; rfl, by omega⟩
  have t34 : AR T q 4 7 7 := by have z := (ad_ex (Q := fun x => AR T x 4 7 7) (wf_34 hw or)).2; rw [a34] at z; exact z
  have t98 : AR T x 4 6 6 := by have z := (ad_ex (Q := fun x => AR T x 4 6 6) (wf_98 hw oa)).2; rw [a98] at z; exact z
  have t99 : AR T y 5 6 6 := by have z := (ad_ex (Q := fun x => AR T x 5 6 6) (wf_99 hw oa)).2; rw [a99] at z; exact z
  have fin : ∀ b k, (T b).1 = k → 30 ≤ k → k < 80 → FIN T b ∧ True := fun b k h1 h2 h3 => ⟨⟨by omega, by omega⟩, trivial⟩
  have rw4 : ∀ (z : Nat) (N : Nat) (L : List Nat), AR T z 4 N N → (∀ i : Nat, i < N → σ.2.1 (1000 + z) (i : Int) = ((L.getD i 0 : Nat) : Int)) → ∀ i : Int, 0 ≤ i → i < (N : Int) → σ.2.1 (1000 + z) i = ((L.getD i.toNat 0 : Nat) : Int) ∧ (FIN T (L.getD i.toNat 0) ∧ True) ∧ (T (L.getD i.toNat 0)).1 = 31 := fun z N L hz hL i i0 i1 => by
    have w := hL i.toNat (by omega)
    rw [Int.toNat_of_nonneg i0] at w
    obtain ⟨u, u1, u2⟩ := hw.2.2.2.1.1 z hz.1 i i0 (by have := hz.2.1; omega)
    have e : L.getD i.toNat 0 = u := by omega
    rw [e] at w ⊢
    exact ⟨w, fin u 31 u2 (by decide) (by decide), u2⟩
  have rw5 : ∀ i : Int, 0 ≤ i → i < 6 → σ.2.1 (1000 + y) i = ((LC.getD i.toNat 0 : Nat) : Int) ∧ (FIN T (LC.getD i.toNat 0) ∧ True) ∧ (T (LC.getD i.toNat 0)).1 = 50 := fun i i0 i1 => by
    have w := r3 i.toNat (by omega)
    rw [Int.toNat_of_nonneg i0] at w
    obtain ⟨u, u1, u2⟩ := hw.2.2.2.1.2 y t99.1 i i0 (by have := t99.2.1; omega)
    have e : LC.getD i.toNat 0 = u := by omega
    rw [e] at w ⊢
    exact ⟨w, fin u 50 u2 (by decide) (by decide), u2⟩
  have o107 := (ad_ex (Q := fun x => (T x).1 = 32) (wf_107 hw oa)).2
  have o108 := (ad_ex (Q := fun x => (T x).1 = 34) (wf_108 hw oa)).2
  have o109 := (ad_ex (Q := fun x => (T x).1 = 38) (wf_109 hw oa)).2
  refine ⟨fun i => LC.getD i.toNat 0, fun i => LE.getD i.toNat 0, fun i => LM.getD i.toNat 0, ⟨hi, ?_, ?_⟩, fun i i0 i1 => ?_, fun i j i0 i1 j0 j1 => ⟨fun e => ?_, fun e => ?_⟩, fun i j i0 i1 j0 j1 => ?_⟩
  · refine ⟨fin _ 36 (ad_ex (Q := fun x => (T x).1 = 36) (wf_106 hw oa)).2 (by decide) (by decide), fin _ 32 o107 (by decide) (by decide), fin _ 34 o108 (by decide) (by decide), fin _ 38 o109 (by decide) (by decide), fin _ 33 (ad_ex (Q := fun x => (T x).1 = 33) (wf_17 hw ⟨by omega, by rw [o107]; rfl, by omega⟩)).2 (by decide) (by decide), fin _ 33 (ad_ex (Q := fun x => (T x).1 = 33) (wf_23 hw ⟨by omega, by rw [o108]; rfl, by omega⟩)).2 (by decide) (by decide), fin _ 33 (ad_ex (Q := fun x => (T x).1 = 33) (wf_72 hw ⟨by omega, by rw [o109]; rfl, by omega⟩)).2 (by decide) (by decide), fin _ 40 (ad_ex (Q := fun x => (T x).1 = 40) (wf_102 hw oa)).2 (by decide) (by decide)⟩
  · unfold SPX
    rw [a100, a34]
    refine ⟨fin r 35 t100 (by decide) (by decide), fun i i0 i1 => rw4 q 7 LE t34 r1 i i0 i1, fun i j i0 i1 j0 j1 e => ?_⟩
    have w := d1.inj (p := i.toNat) (q := j.toNat) (by omega) (by omega) e
    omega
  · rw [a99, a98]
    exact ⟨rw5 i i0 i1, rw4 x 6 LM t98 r2 i i0 i1⟩
  · have w := d3.inj (p := i.toNat) (q := j.toNat) (by omega) (by omega) e
    omega
  · have w := d2.inj (p := i.toNat) (q := j.toNat) (by omega) (by omega) e
    omega
  · exact d4 _ (List.mem_of_getElem? (gd_some (by omega))) _ (List.mem_of_getElem? (gd_some (by omega)))
end
section
section RTQ
variable {T : CT} {σ : MS} {a c : Nat} {NM : Int → Int}
theorem k_acts_c (d : Nat) (ha : OB T a 1) (hw : WT T σ) (hN : σ.2.1 6 a ≤ 200) (hwok : WOK (cdW σ a) (σ.2.1 6 a)) : Tn (d + 2) m_X1_acts 0 T σ [(0, .ref a)] [] (fun ro T2 σ2 => ∃ v : Int, ro = some (.int (iI v)) ∧ T = T2 ∧ σ = σ2 ∧ (0 ≤ v ∧ v ≤ 200) ∧ (v = cN (fun j => cdW σ a j 0 ≤ 10) 0 (σ.2.1 6 a).toNat)) := k_X1_acts_x d ha hw (ad_1 hw ha 5 (by decide)) rfl rfl hN hwok
theorem k_registers_c (d : Nat) (ha : OB T a 1) (hw : WT T σ) (hN : σ.2.1 6 a ≤ 200) (hwok : WOK (cdW σ a) (σ.2.1 6 a)) (hna : HNO (rwF σ 14 a) (rwF σ 15 a) (σ.2.1 10 a)) : Tn (d + 4) m_X1_registers 0 T σ [(0, .ref a)] [] (fun ro T2 σ2 => ∃ v : Int, ro = some (.int (iI v)) ∧ T = T2 ∧ σ = σ2 ∧ (0 ≤ v ∧ v ≤ 192) ∧ (mxV (rgV (vW (cdW σ a)) (σ.2.1 6 a) (hmC (σ.2.1 10 a) (rwF σ 14 a) (rwF σ 15 a))) v)) := k_X1_registers_x d ha hw (ad_1 hw ha 5 (by decide)) rfl rfl rfl (ad_1 hw ha 14 (by decide)) rfl (ad_1 hw ha 15 (by decide)) rfl hN hwok hna
theorem k_homeOf_c (d : Nat) {f m : Int} (ha : OB T a 1) (h_f : -2147483648 ≤ f ∧ f ≤ 2147483647) (h_m : -2147483648 ≤ m ∧ m ≤ 2147483647) (hw : WT T σ) (hfm : (-10000 ≤ f ∧ f ≤ 10000) ∧ -10000 ≤ m ∧ m ≤ 10000) : Tn (d + 2) m_X1_homeOf 0 T σ [(0, .ref a), (1, .int (iI f)), (2, .int (iI m))] [] (fun ro T2 σ2 => ∃ v : Int, ro = some (.int (iI v)) ∧ T = T2 ∧ σ = σ2 ∧ (-2147483648 ≤ v ∧ v ≤ 2147483647) ∧ (ATQ (rwF σ 15 a) 144 (12 * f + m) v)) := k_X1_homeOf_x d ha h_f h_m hw (ad_1 hw ha 15 (by decide)) rfl hfm
def CGW (σ : MS) (c : Nat) (NM : Int → Int) : Prop := ∃ R, cdG σ c NM R
theorem CGW.n (h : CGW σ c NM) : 0 ≤ σ.2.1 6 c ∧ σ.2.1 6 c ≤ 200 := by
  obtain ⟨R, h⟩ := h
  exact h.1.1
theorem CGW.w (h : CGW σ c NM) : WOK (cdW σ c) (σ.2.1 6 c) := by
  obtain ⟨R, h⟩ := h
  exact h.1.2.2.1.w
theorem CGW.h (h : CGW σ c NM) : HNO (rwF σ 14 c) (rwF σ 15 c) (σ.2.1 10 c) := by
  obtain ⟨R, h⟩ := h
  exact h.1.2.2.2.1
theorem rta_1 {v : Int} (h : v = cN (fun j => cdW σ c j 0 ≤ 10) 0 (σ.2.1 6 c).toNat) : v = cN (fun j => (cdS σ c).V j 0 ≤ 10) 0 (cdS σ c).n.toNat := by
  rw [h]
  show _ = cN (fun j => vW (cdW σ c) j 0 ≤ 10) 0 (σ.2.1 6 c).toNat
  simp only [vW_0]
theorem rta_4 {v : Int} {NM : Int → Int} (g : CGW σ c NM) (h : mxV (rgV (vW (cdW σ c)) (σ.2.1 6 c) (hmC (σ.2.1 10 c) (rwF σ 14 c) (rwF σ 15 c))) v) : mxV (rgV (cdS σ c).V (cdS σ c).n (hmS (cdS σ c) NM)) v := by
  obtain ⟨R, g⟩ := g
  have e : rgV (cdS σ c).V (cdS σ c).n (hmS (cdS σ c) NM) = rgV (vW (cdW σ c)) (σ.2.1 6 c) (hmC (σ.2.1 10 c) (rwF σ 14 c) (rwF σ 15 c)) := funext (fun B => propext (rgV_c (fun q => hm_c (fun f x y => (g.1.2.2.2.2.1 f x y).2))))
  rw [e]
  exact h
theorem rta_7 {v w : Int} {NM : Int → Int} (g : CGW σ c NM) (h7 : 7 ≤ w) (h8 : w - 7 < σ.2.1 7 c) (h : ATQ (rwF σ 15 c) 144 (12 * 0 + (w - 7)) v) : v = (cdS σ c).na 0 (w - 7) := by
  obtain ⟨R, g⟩ := g
  have e1 : rwF σ 14 c 0 = σ.2.1 7 c := g.2.2.2.2.2.2
  have e2 := g.1.2.1
  have e3 := g.2.2.2.2.2.1.2
  show v = if ((0 : Int) ≤ 0 ∧ (0 : Int) < σ.2.1 10 c) ∧ 0 ≤ w - 7 ∧ w - 7 < rwF σ 14 c 0 then rwF σ 15 c (12 * 0 + (w - 7)) else 0
  rw [if_pos ⟨⟨by omega, by omega⟩, by omega, by omega⟩]
  rcases h with ⟨a, b⟩ | ⟨a, b⟩
  · exact b
  · omega
theorem fra_0 {v f : Int} {NM : Int → Int} (g : CGW σ c NM) (hf : 0 ≤ f ∧ f < σ.2.1 10 c) {N : Int} (hN : 12 ≤ N) (h : ATQ (rwF σ 11 c) N f v) : v = (cdS σ c).fo f := by
  obtain ⟨R, g⟩ := g
  have e2 := g.1.2.1
  show v = if 0 ≤ f ∧ f < σ.2.1 10 c then rwF σ 11 c f else 0
  rw [if_pos hf]
  rcases h with ⟨a, b⟩ | ⟨a, b⟩
  · exact b
  · omega
theorem fra_2 {v f : Int} {NM : Int → Int} (g : CGW σ c NM) (hf : 0 ≤ f ∧ f < σ.2.1 10 c) {N : Int} (hN : 12 ≤ N) (h : ATQ (rwF σ 13 c) N f v) : v = (cdS σ c).fl f := by
  obtain ⟨R, g⟩ := g
  have e2 := g.1.2.1
  show v = if 0 ≤ f ∧ f < σ.2.1 10 c then rwF σ 13 c f else 0
  rw [if_pos hf]
  rcases h with ⟨a, b⟩ | ⟨a, b⟩
  · exact b
  · omega
theorem fra_1 {v f : Int} {NM : Int → Int} (g : CGW σ c NM) (hf : 0 ≤ f ∧ f < σ.2.1 10 c) {N : Int} (hN : 12 ≤ N) (h : ATQ (rwF σ 12 c) N f v) : v = (cdS σ c).fi f := by
  obtain ⟨R, g⟩ := g
  have e2 := g.1.2.1
  show v = if 0 ≤ f ∧ f < σ.2.1 10 c then rwF σ 12 c f else 0
  rw [if_pos hf]
  rcases h with ⟨a, b⟩ | ⟨a, b⟩
  · exact b
  · omega
end RTQ

def FRB9 (C : Int) (H : RTS) (r f w v : Int) : Prop := (¬ ((0 ≤ r ∧ r < C) ∧ 0 ≤ f ∧ f < H.F) ∧ v = -1) ∨ (((0 ≤ r ∧ r < C) ∧ 0 ≤ f ∧ f < H.F) ∧ ((w = 0 ∧ v = H.fo f) ∨ (w = 1 ∧ f = 0 ∧ v = -1) ∨ (w = 1 ∧ f ≠ 0 ∧ v = H.fi f) ∨ (w = 2 ∧ v = H.fl f) ∨ ((w < 0 ∨ 2 < w) ∧ v = -1)))
end
section
set_option maxHeartbeats 1000000 in
set_option maxRecDepth 20000 in
theorem k_X11_routine_x (d : Nat) {T : CT} {σ : MS} {a : Nat} {r : Int} {w : Int} {S : Nat → Prop} {C : Int → Nat} {NM PM : Int → Int} (ha : OB T a 11) (h_r : -2147483648 ≤ r ∧ r ≤ 2147483647) (h_w : -2147483648 ≤ w ∧ w ≤ 2147483647) (hw : WT T σ) (hK : KOK S T σ a C NM PM) : Tn (d + 5) m_X11_routine 0 T σ [(0, .ref a), (1, .int (iI r)), (2, .int (iI w))] [] (fun ro T2 σ2 => ∃ v : Int, ro = some (.int (iI v)) ∧ T = T2 ∧ σ = σ2 ∧ (-2147483648 ≤ v ∧ v ≤ 2147483647) ∧ (RTA (σ.2.1 97 a) (cdS σ (C r)) (σ.2.1 8 (C r)) (σ.2.1 7 (C r)) (σ.2.1 9 (C r)) NM r w v)) := by
  refine tn_aload_n dX11_routine_0 rfl 0 rfl ?_
  refine tn_iload_n dX11_routine_1 rfl 1 rfl ?_
  refine tn_callV (M := m_X11_routine) (pc := 2) (ix := 123) (ci := 11) (M' := m_X11_codeOf) (As := [.int (iI r)]) (rest := []) dX11_routine_2 ok_X11_codeOf im_X11_codeOf se_X11_codeOf ml11_123 np_X11_codeOf rfl rfl ha rfl (Nat.le_of_ble_eq_true rfl) (Nat.le_of_ble_eq_true rfl) rfl (k_X11_codeOf_x (d + 3) (T := T) (σ := σ) (a := a) (r := r) ha (by omega) hw ) (fun r1 T3 σ2 gt4 hp => ?_)
  obtain ⟨v6, rfl, rfl, rfl, rv7, f5⟩ := hp
  clear gt4
  rcases rv7 with rv7 | ⟨xq8, rfl, hk9⟩
  · show Tn _ _ 5 T σ [(0, .ref a), (1, .int (iI r)), (2, .int (iI w))] (vl true v6 :: []) _
    rw [vl_null rv7]
    have cd9 := f5
    unfold CDF at cd9
    have hR9 := hK.2.2.1.1
    refine tn_astore_nN (L' := [(3, .null), (0, .ref a), (1, .int (iI r)), (2, .int (iI w))]) dX11_routine_5 rfl (by decide) rfl ?_
    refine tn_aload_nN dX11_routine_6 rfl 0 rfl ?_
    refine tn_ifnullN (tgt := 14) dX11_routine_7 (by decide) ?_
    refine tn_iconst dX11_routine_14 ?_
    exact tn_iret rfl dX11_routine_15 ⟨_, rfl, rfl, rfl, by omega, (by by_cases hh : 0 ≤ r ∧ r < σ.2.1 97 a; have q := (hK.2.2.1.2.1 r hh.1 (by omega)).1; exact Or.inr ⟨hh, by (first | (exfalso; omega) | (refine Or.inr (Or.inr (Or.inr (Or.inr (Or.inr (Or.inr (Or.inr (Or.inr ⟨?_, ?_⟩))))))); omega; omega))⟩; exact Or.inl ⟨hh, by omega⟩)⟩
  · show Tn _ _ 5 T σ [(0, .ref a), (1, .int (iI r)), (2, .int (iI w))] (vl true (xq8 : Int) :: []) _
    rw [vl_ref rfl]
    have hk9o : OB T xq8 1 := ⟨by omega, by rw [hk9]; rfl, by omega⟩
    have cd9 := f5
    unfold CDF at cd9
    have hR9 := hK.2.2.1.1
    refine tn_astore_n (L' := [(3, .ref xq8), (0, .ref a), (1, .int (iI r)), (2, .int (iI w))]) dX11_routine_5 rfl (by decide) rfl ?_
    refine tn_aload_n dX11_routine_6 rfl 0 rfl ?_
    refine tn_ifnull dX11_routine_7 ?_
    refine tn_iload_n dX11_routine_10 rfl 3 rfl ?_
    refine tn_if_ge (tgt := 16) dX11_routine_11 (by decide) ⟨by omega, by omega⟩ (fun h10 => ?_) (fun h10 => ?_)
    · have rr9 : 0 ≤ r ∧ r < σ.2.1 97 a := by omega
      have hcr9 : xq8 = C r := by have z := (hK.2.2.1.2.1 r rr9.1 (by omega)).1; omega
      have g9 : CGW σ xq8 NM := by rw [hcr9]; exact ⟨_, (hK.2.2.2 r rr9.1 rr9.2).1⟩
      refine tn_iload_n dX11_routine_16 rfl 3 rfl ?_
      by_cases h11 : w < 0 ∨ 6 < w
      · refine tn_tableOut (tgt := 95) dX11_routine_17 (x := w) ⟨by omega, by omega⟩ h11 (by decide) ?_
        refine tn_iload_n dX11_routine_95 rfl 3 rfl ?_
        refine tn_bipush dX11_routine_96 (by decide) ?_
        refine tn_isub dX11_routine_98 ?_
        refine tn_aload_n dX11_routine_99 rfl 0 rfl ?_
        refine tn_getI (ci := 1) (i := 2) (n := 7) (t := σ.2.1 7 xq8) dX11_routine_100 rfl lay_1 (by decide) fl11_134 hk9o rfl rfl (rfl) ?_
        have g12 : ((0 : Int) ≤ σ.2.1 7 xq8 ∧ σ.2.1 7 xq8 ≤ 12) := wf_7 hw hk9o
        refine tn_icmp_ge (tgt := 118) dX11_routine_103 (by decide) ⟨by omega, by omega⟩ ⟨by omega, by omega⟩ (fun h13 => ?_) (fun h13 => ?_)
        · refine tn_iconst dX11_routine_118 ?_
          exact tn_iret rfl dX11_routine_119 ⟨_, rfl, rfl, rfl, by omega, (by rw [← hcr9]; refine Or.inr ⟨rr9, ?_⟩; first | (refine Or.inl ⟨?_, ?_⟩; omega; exact rfl) | (refine Or.inr (Or.inl ⟨?_, ?_⟩); omega; exact rta_1 f5) | (refine Or.inr (Or.inr (Or.inl ⟨?_, ?_⟩)); omega; exact rfl) | (refine Or.inr (Or.inr (Or.inr (Or.inl ⟨?_, ?_⟩))); omega; exact rfl) | (refine Or.inr (Or.inr (Or.inr (Or.inr (Or.inl ⟨?_, ?_⟩)))); omega; exact rta_4 g9 f5) | (refine Or.inr (Or.inr (Or.inr (Or.inr (Or.inr (Or.inl ⟨?_, ?_⟩))))); omega; exact rfl) | (refine Or.inr (Or.inr (Or.inr (Or.inr (Or.inr (Or.inr (Or.inl ⟨?_, ?_⟩)))))); omega; exact rfl) | (refine Or.inr (Or.inr (Or.inr (Or.inr (Or.inr (Or.inr (Or.inr (Or.inl ⟨?_, ?_⟩))))))); omega; exact rta_7 g9 (by omega) (by omega) f5) | (refine Or.inr (Or.inr (Or.inr (Or.inr (Or.inr (Or.inr (Or.inr (Or.inr (⟨?_, ?_⟩)))))))); omega; exact rfl))⟩
        · refine tn_aload_n dX11_routine_106 rfl 0 rfl ?_
          refine tn_iconst dX11_routine_107 ?_
          refine tn_iload_n dX11_routine_108 rfl 3 rfl ?_
          refine tn_bipush dX11_routine_109 (by decide) ?_
          refine tn_isub dX11_routine_111 ?_
          refine tn_callV (M := m_X11_routine) (pc := 112) (ix := 149) (ci := 1) (M' := m_X1_homeOf) (As := [.int (iI 0), .int (iI (w - 7))]) (rest := []) dX11_routine_112 ok_X1_homeOf im_X1_homeOf se_X1_homeOf ml11_149 np_X1_homeOf rfl rfl hk9o rfl (Nat.le_of_ble_eq_true rfl) (Nat.le_of_ble_eq_true rfl) rfl (k_homeOf_c (d + 2) (T := T) (σ := σ) (a := xq8) (f := 0) (m := w - 7) hk9o (by decide) (by omega) hw (by omega)) (fun r14 T16 σ15 gt17 hp => ?_)
          obtain ⟨v20, rfl, rfl, rfl, f18, f19⟩ := hp
          clear gt17
          show Tn _ _ 115 T σ [(3, .ref xq8), (0, .ref a), (1, .int (iI r)), (2, .int (iI w))] [.int (iI v20)] _
          refine tn_goto (tgt := 119) dX11_routine_115 (by decide) ?_
          exact tn_iret rfl dX11_routine_119 ⟨_, rfl, rfl, rfl, by omega, (by rw [← hcr9]; refine Or.inr ⟨rr9, ?_⟩; first | (refine Or.inl ⟨?_, ?_⟩; omega; exact rfl) | (refine Or.inr (Or.inl ⟨?_, ?_⟩); omega; exact rta_1 f19) | (refine Or.inr (Or.inr (Or.inl ⟨?_, ?_⟩)); omega; exact rfl) | (refine Or.inr (Or.inr (Or.inr (Or.inl ⟨?_, ?_⟩))); omega; exact rfl) | (refine Or.inr (Or.inr (Or.inr (Or.inr (Or.inl ⟨?_, ?_⟩)))); omega; exact rta_4 g9 f19) | (refine Or.inr (Or.inr (Or.inr (Or.inr (Or.inr (Or.inl ⟨?_, ?_⟩))))); omega; exact rfl) | (refine Or.inr (Or.inr (Or.inr (Or.inr (Or.inr (Or.inr (Or.inl ⟨?_, ?_⟩)))))); omega; exact rfl) | (refine Or.inr (Or.inr (Or.inr (Or.inr (Or.inr (Or.inr (Or.inr (Or.inl ⟨?_, ?_⟩))))))); omega; exact rta_7 g9 (by omega) (by omega) f19) | (refine Or.inr (Or.inr (Or.inr (Or.inr (Or.inr (Or.inr (Or.inr (Or.inr (⟨?_, ?_⟩)))))))); omega; exact rfl))⟩
      · have h21 : w = 0 ∨ w = 1 ∨ w = 2 ∨ w = 3 ∨ w = 4 ∨ w = 5 ∨ w = 6 := by omega
        rcases h21 with h21 | h21 | h21 | h21 | h21 | h21 | h21
        · refine tn_tableIn (tgt := 60) (off := 43) dX11_routine_17 (x := w) ⟨by omega, by omega⟩ (by omega) (by omega) (by rw [h21]; rfl) (by decide) ?_
          refine tn_aload_n dX11_routine_60 rfl 0 rfl ?_
          refine tn_getI (ci := 1) (i := 1) (n := 6) (t := σ.2.1 6 xq8) dX11_routine_61 rfl lay_1 (by decide) fl11_127 hk9o rfl rfl (rfl) ?_
          have g22 : ((0 : Int) ≤ σ.2.1 6 xq8 ∧ σ.2.1 6 xq8 ≤ 5000) ∧ ((T xq8).1 = 50 → σ.2.1 6 xq8 ≤ 200) := wf_6 hw hk9o
          have g22x := g22.2
          replace g22 := g22.1
          have g22x := g22x hk9
          exact tn_iret rfl dX11_routine_64 ⟨_, rfl, rfl, rfl, by omega, (by rw [← hcr9]; refine Or.inr ⟨rr9, ?_⟩; first | (refine Or.inl ⟨?_, ?_⟩; omega; exact rfl) | (refine Or.inr (Or.inl ⟨?_, ?_⟩); omega; exact rta_1 f5) | (refine Or.inr (Or.inr (Or.inl ⟨?_, ?_⟩)); omega; exact rfl) | (refine Or.inr (Or.inr (Or.inr (Or.inl ⟨?_, ?_⟩))); omega; exact rfl) | (refine Or.inr (Or.inr (Or.inr (Or.inr (Or.inl ⟨?_, ?_⟩)))); omega; exact rta_4 g9 f5) | (refine Or.inr (Or.inr (Or.inr (Or.inr (Or.inr (Or.inl ⟨?_, ?_⟩))))); omega; exact rfl) | (refine Or.inr (Or.inr (Or.inr (Or.inr (Or.inr (Or.inr (Or.inl ⟨?_, ?_⟩)))))); omega; exact rfl) | (refine Or.inr (Or.inr (Or.inr (Or.inr (Or.inr (Or.inr (Or.inr (Or.inl ⟨?_, ?_⟩))))))); omega; exact rta_7 g9 (by omega) (by omega) f5) | (refine Or.inr (Or.inr (Or.inr (Or.inr (Or.inr (Or.inr (Or.inr (Or.inr (⟨?_, ?_⟩)))))))); omega; exact rfl))⟩
        · refine tn_tableIn (tgt := 65) (off := 48) dX11_routine_17 (x := w) ⟨by omega, by omega⟩ (by omega) (by omega) (by rw [h21]; rfl) (by decide) ?_
          refine tn_aload_n dX11_routine_65 rfl 0 rfl ?_
          refine tn_callV (M := m_X11_routine) (pc := 66) (ix := 130) (ci := 1) (M' := m_X1_acts) (As := []) (rest := []) dX11_routine_66 ok_X1_acts im_X1_acts se_X1_acts ml11_130 np_X1_acts rfl rfl hk9o rfl (Nat.le_of_ble_eq_true rfl) (Nat.le_of_ble_eq_true rfl) rfl (k_acts_c (d + 2) (T := T) (σ := σ) (a := xq8) hk9o hw g9.n.2 g9.w) (fun r23 T25 σ24 gt26 hp => ?_)
          obtain ⟨v29, rfl, rfl, rfl, f27, f28⟩ := hp
          clear gt26
          show Tn _ _ 69 T σ [(3, .ref xq8), (0, .ref a), (1, .int (iI r)), (2, .int (iI w))] [.int (iI v29)] _
          exact tn_iret rfl dX11_routine_69 ⟨_, rfl, rfl, rfl, by omega, (by rw [← hcr9]; refine Or.inr ⟨rr9, ?_⟩; first | (refine Or.inl ⟨?_, ?_⟩; omega; exact rfl) | (refine Or.inr (Or.inl ⟨?_, ?_⟩); omega; exact rta_1 f28) | (refine Or.inr (Or.inr (Or.inl ⟨?_, ?_⟩)); omega; exact rfl) | (refine Or.inr (Or.inr (Or.inr (Or.inl ⟨?_, ?_⟩))); omega; exact rfl) | (refine Or.inr (Or.inr (Or.inr (Or.inr (Or.inl ⟨?_, ?_⟩)))); omega; exact rta_4 g9 f28) | (refine Or.inr (Or.inr (Or.inr (Or.inr (Or.inr (Or.inl ⟨?_, ?_⟩))))); omega; exact rfl) | (refine Or.inr (Or.inr (Or.inr (Or.inr (Or.inr (Or.inr (Or.inl ⟨?_, ?_⟩)))))); omega; exact rfl) | (refine Or.inr (Or.inr (Or.inr (Or.inr (Or.inr (Or.inr (Or.inr (Or.inl ⟨?_, ?_⟩))))))); omega; exact rta_7 g9 (by omega) (by omega) f28) | (refine Or.inr (Or.inr (Or.inr (Or.inr (Or.inr (Or.inr (Or.inr (Or.inr (⟨?_, ?_⟩)))))))); omega; exact rfl))⟩
        · refine tn_tableIn (tgt := 70) (off := 53) dX11_routine_17 (x := w) ⟨by omega, by omega⟩ (by omega) (by omega) (by rw [h21]; rfl) (by decide) ?_
          refine tn_aload_n dX11_routine_70 rfl 0 rfl ?_
          refine tn_getI (ci := 1) (i := 2) (n := 7) (t := σ.2.1 7 xq8) dX11_routine_71 rfl lay_1 (by decide) fl11_134 hk9o rfl rfl (rfl) ?_
          have g30 : ((0 : Int) ≤ σ.2.1 7 xq8 ∧ σ.2.1 7 xq8 ≤ 12) := wf_7 hw hk9o
          exact tn_iret rfl dX11_routine_74 ⟨_, rfl, rfl, rfl, by omega, (by rw [← hcr9]; refine Or.inr ⟨rr9, ?_⟩; first | (refine Or.inl ⟨?_, ?_⟩; omega; exact rfl) | (refine Or.inr (Or.inl ⟨?_, ?_⟩); omega; exact rta_1 f5) | (refine Or.inr (Or.inr (Or.inl ⟨?_, ?_⟩)); omega; exact rfl) | (refine Or.inr (Or.inr (Or.inr (Or.inl ⟨?_, ?_⟩))); omega; exact rfl) | (refine Or.inr (Or.inr (Or.inr (Or.inr (Or.inl ⟨?_, ?_⟩)))); omega; exact rta_4 g9 f5) | (refine Or.inr (Or.inr (Or.inr (Or.inr (Or.inr (Or.inl ⟨?_, ?_⟩))))); omega; exact rfl) | (refine Or.inr (Or.inr (Or.inr (Or.inr (Or.inr (Or.inr (Or.inl ⟨?_, ?_⟩)))))); omega; exact rfl) | (refine Or.inr (Or.inr (Or.inr (Or.inr (Or.inr (Or.inr (Or.inr (Or.inl ⟨?_, ?_⟩))))))); omega; exact rta_7 g9 (by omega) (by omega) f5) | (refine Or.inr (Or.inr (Or.inr (Or.inr (Or.inr (Or.inr (Or.inr (Or.inr (⟨?_, ?_⟩)))))))); omega; exact rfl))⟩
        · refine tn_tableIn (tgt := 75) (off := 58) dX11_routine_17 (x := w) ⟨by omega, by omega⟩ (by omega) (by omega) (by rw [h21]; rfl) (by decide) ?_
          refine tn_aload_n dX11_routine_75 rfl 0 rfl ?_
          refine tn_getI (ci := 1) (i := 3) (n := 8) (t := σ.2.1 8 xq8) dX11_routine_76 rfl lay_1 (by decide) fl11_137 hk9o rfl rfl (rfl) ?_
          have g31 : ((0 : Int) ≤ σ.2.1 8 xq8 ∧ σ.2.1 8 xq8 ≤ 4) := wf_8 hw hk9o
          exact tn_iret rfl dX11_routine_79 ⟨_, rfl, rfl, rfl, by omega, (by rw [← hcr9]; refine Or.inr ⟨rr9, ?_⟩; first | (refine Or.inl ⟨?_, ?_⟩; omega; exact rfl) | (refine Or.inr (Or.inl ⟨?_, ?_⟩); omega; exact rta_1 f5) | (refine Or.inr (Or.inr (Or.inl ⟨?_, ?_⟩)); omega; exact rfl) | (refine Or.inr (Or.inr (Or.inr (Or.inl ⟨?_, ?_⟩))); omega; exact rfl) | (refine Or.inr (Or.inr (Or.inr (Or.inr (Or.inl ⟨?_, ?_⟩)))); omega; exact rta_4 g9 f5) | (refine Or.inr (Or.inr (Or.inr (Or.inr (Or.inr (Or.inl ⟨?_, ?_⟩))))); omega; exact rfl) | (refine Or.inr (Or.inr (Or.inr (Or.inr (Or.inr (Or.inr (Or.inl ⟨?_, ?_⟩)))))); omega; exact rfl) | (refine Or.inr (Or.inr (Or.inr (Or.inr (Or.inr (Or.inr (Or.inr (Or.inl ⟨?_, ?_⟩))))))); omega; exact rta_7 g9 (by omega) (by omega) f5) | (refine Or.inr (Or.inr (Or.inr (Or.inr (Or.inr (Or.inr (Or.inr (Or.inr (⟨?_, ?_⟩)))))))); omega; exact rfl))⟩
        · refine tn_tableIn (tgt := 80) (off := 63) dX11_routine_17 (x := w) ⟨by omega, by omega⟩ (by omega) (by omega) (by rw [h21]; rfl) (by decide) ?_
          refine tn_aload_n dX11_routine_80 rfl 0 rfl ?_
          refine tn_callV (M := m_X11_routine) (pc := 81) (ix := 140) (ci := 1) (M' := m_X1_registers) (As := []) (rest := []) dX11_routine_81 ok_X1_registers im_X1_registers se_X1_registers ml11_140 np_X1_registers rfl rfl hk9o rfl (Nat.le_of_ble_eq_true rfl) (Nat.le_of_ble_eq_true rfl) rfl (k_registers_c (d) (T := T) (σ := σ) (a := xq8) hk9o hw g9.n.2 g9.w g9.h) (fun r32 T34 σ33 gt35 hp => ?_)
          obtain ⟨v38, rfl, rfl, rfl, f36, f37⟩ := hp
          clear gt35
          show Tn _ _ 84 T σ [(3, .ref xq8), (0, .ref a), (1, .int (iI r)), (2, .int (iI w))] [.int (iI v38)] _
          exact tn_iret rfl dX11_routine_84 ⟨_, rfl, rfl, rfl, by omega, (by rw [← hcr9]; refine Or.inr ⟨rr9, ?_⟩; first | (refine Or.inl ⟨?_, ?_⟩; omega; exact rfl) | (refine Or.inr (Or.inl ⟨?_, ?_⟩); omega; exact rta_1 f37) | (refine Or.inr (Or.inr (Or.inl ⟨?_, ?_⟩)); omega; exact rfl) | (refine Or.inr (Or.inr (Or.inr (Or.inl ⟨?_, ?_⟩))); omega; exact rfl) | (refine Or.inr (Or.inr (Or.inr (Or.inr (Or.inl ⟨?_, ?_⟩)))); omega; exact rta_4 g9 f37) | (refine Or.inr (Or.inr (Or.inr (Or.inr (Or.inr (Or.inl ⟨?_, ?_⟩))))); omega; exact rfl) | (refine Or.inr (Or.inr (Or.inr (Or.inr (Or.inr (Or.inr (Or.inl ⟨?_, ?_⟩)))))); omega; exact rfl) | (refine Or.inr (Or.inr (Or.inr (Or.inr (Or.inr (Or.inr (Or.inr (Or.inl ⟨?_, ?_⟩))))))); omega; exact rta_7 g9 (by omega) (by omega) f37) | (refine Or.inr (Or.inr (Or.inr (Or.inr (Or.inr (Or.inr (Or.inr (Or.inr (⟨?_, ?_⟩)))))))); omega; exact rfl))⟩
        · refine tn_tableIn (tgt := 85) (off := 68) dX11_routine_17 (x := w) ⟨by omega, by omega⟩ (by omega) (by omega) (by rw [h21]; rfl) (by decide) ?_
          refine tn_aload_n dX11_routine_85 rfl 0 rfl ?_
          refine tn_getI (ci := 1) (i := 5) (n := 10) (t := σ.2.1 10 xq8) dX11_routine_86 rfl lay_1 (by decide) fl11_143 hk9o rfl rfl (rfl) ?_
          have g39 : ((0 : Int) ≤ σ.2.1 10 xq8 ∧ σ.2.1 10 xq8 ≤ 12) := wf_10 hw hk9o
          exact tn_iret rfl dX11_routine_89 ⟨_, rfl, rfl, rfl, by omega, (by rw [← hcr9]; refine Or.inr ⟨rr9, ?_⟩; first | (refine Or.inl ⟨?_, ?_⟩; omega; exact rfl) | (refine Or.inr (Or.inl ⟨?_, ?_⟩); omega; exact rta_1 f5) | (refine Or.inr (Or.inr (Or.inl ⟨?_, ?_⟩)); omega; exact rfl) | (refine Or.inr (Or.inr (Or.inr (Or.inl ⟨?_, ?_⟩))); omega; exact rfl) | (refine Or.inr (Or.inr (Or.inr (Or.inr (Or.inl ⟨?_, ?_⟩)))); omega; exact rta_4 g9 f5) | (refine Or.inr (Or.inr (Or.inr (Or.inr (Or.inr (Or.inl ⟨?_, ?_⟩))))); omega; exact rfl) | (refine Or.inr (Or.inr (Or.inr (Or.inr (Or.inr (Or.inr (Or.inl ⟨?_, ?_⟩)))))); omega; exact rfl) | (refine Or.inr (Or.inr (Or.inr (Or.inr (Or.inr (Or.inr (Or.inr (Or.inl ⟨?_, ?_⟩))))))); omega; exact rta_7 g9 (by omega) (by omega) f5) | (refine Or.inr (Or.inr (Or.inr (Or.inr (Or.inr (Or.inr (Or.inr (Or.inr (⟨?_, ?_⟩)))))))); omega; exact rfl))⟩
        · refine tn_tableIn (tgt := 90) (off := 73) dX11_routine_17 (x := w) ⟨by omega, by omega⟩ (by omega) (by omega) (by rw [h21]; rfl) (by decide) ?_
          refine tn_aload_n dX11_routine_90 rfl 0 rfl ?_
          refine tn_getI (ci := 1) (i := 4) (n := 9) (t := σ.2.1 9 xq8) dX11_routine_91 rfl lay_1 (by decide) fl11_146 hk9o rfl rfl (rfl) ?_
          have g40 : ((-2147483648 : Int) ≤ σ.2.1 9 xq8 ∧ σ.2.1 9 xq8 ≤ 2147483647) := wf_9 hw hk9o
          exact tn_iret rfl dX11_routine_94 ⟨_, rfl, rfl, rfl, by omega, (by rw [← hcr9]; refine Or.inr ⟨rr9, ?_⟩; first | (refine Or.inl ⟨?_, ?_⟩; omega; exact rfl) | (refine Or.inr (Or.inl ⟨?_, ?_⟩); omega; exact rta_1 f5) | (refine Or.inr (Or.inr (Or.inl ⟨?_, ?_⟩)); omega; exact rfl) | (refine Or.inr (Or.inr (Or.inr (Or.inl ⟨?_, ?_⟩))); omega; exact rfl) | (refine Or.inr (Or.inr (Or.inr (Or.inr (Or.inl ⟨?_, ?_⟩)))); omega; exact rta_4 g9 f5) | (refine Or.inr (Or.inr (Or.inr (Or.inr (Or.inr (Or.inl ⟨?_, ?_⟩))))); omega; exact rfl) | (refine Or.inr (Or.inr (Or.inr (Or.inr (Or.inr (Or.inr (Or.inl ⟨?_, ?_⟩)))))); omega; exact rfl) | (refine Or.inr (Or.inr (Or.inr (Or.inr (Or.inr (Or.inr (Or.inr (Or.inl ⟨?_, ?_⟩))))))); omega; exact rta_7 g9 (by omega) (by omega) f5) | (refine Or.inr (Or.inr (Or.inr (Or.inr (Or.inr (Or.inr (Or.inr (Or.inr (⟨?_, ?_⟩)))))))); omega; exact rfl))⟩
    · refine tn_iconst dX11_routine_14 ?_
      exact tn_iret rfl dX11_routine_15 ⟨_, rfl, rfl, rfl, by omega, (by by_cases hh : 0 ≤ r ∧ r < σ.2.1 97 a; have q := (hK.2.2.1.2.1 r hh.1 (by omega)).1; exact Or.inr ⟨hh, by (first | (exfalso; omega) | (refine Or.inr (Or.inr (Or.inr (Or.inr (Or.inr (Or.inr (Or.inr (Or.inr ⟨?_, ?_⟩))))))); omega; omega))⟩; exact Or.inl ⟨hh, by omega⟩)⟩
end
section
set_option maxHeartbeats 1000000 in
set_option maxRecDepth 20000 in
theorem k_X11_frame_x (d : Nat) {T : CT} {σ : MS} {a : Nat} {r : Int} {f : Int} {w : Int} {S : Nat → Prop} {C : Int → Nat} {NM PM : Int → Int} (ha : OB T a 11) (h_r : -2147483648 ≤ r ∧ r ≤ 2147483647) (h_f : -2147483648 ≤ f ∧ f ≤ 2147483647) (h_w : -2147483648 ≤ w ∧ w ≤ 2147483647) (hw : WT T σ) (hK : KOK S T σ a C NM PM) : Tn (d + 2) m_X11_frame 0 T σ [(0, .ref a), (1, .int (iI r)), (2, .int (iI f)), (3, .int (iI w))] [] (fun ro T2 σ2 => ∃ v : Int, ro = some (.int (iI v)) ∧ T = T2 ∧ σ = σ2 ∧ (-2147483648 ≤ v ∧ v ≤ 2147483647) ∧ (FRB9 (σ.2.1 97 a) (cdS σ (C r)) r f w v)) := by
  refine tn_aload_n dX11_frame_0 rfl 0 rfl ?_
  refine tn_iload_n dX11_frame_1 rfl 1 rfl ?_
  refine tn_callV (M := m_X11_frame) (pc := 2) (ix := 123) (ci := 11) (M' := m_X11_codeOf) (As := [.int (iI r)]) (rest := []) dX11_frame_2 ok_X11_codeOf im_X11_codeOf se_X11_codeOf ml11_123 np_X11_codeOf rfl rfl ha rfl (Nat.le_of_ble_eq_true rfl) (Nat.le_of_ble_eq_true rfl) rfl (k_X11_codeOf_x (d) (T := T) (σ := σ) (a := a) (r := r) ha (by omega) hw ) (fun r1 T3 σ2 gt4 hp => ?_)
  obtain ⟨v6, rfl, rfl, rfl, rv7, f5⟩ := hp
  clear gt4
  rcases rv7 with rv7 | ⟨xq8, rfl, hk9⟩
  · show Tn _ _ 5 T σ [(0, .ref a), (1, .int (iI r)), (2, .int (iI f)), (3, .int (iI w))] (vl true v6 :: []) _
    rw [vl_null rv7]
    have cd9 := f5
    unfold CDF at cd9
    have hR9 := hK.2.2.1.1
    refine tn_astoreN (L' := [(4, .null), (0, .ref a), (1, .int (iI r)), (2, .int (iI f)), (3, .int (iI w))]) dX11_frame_5 (by decide) rfl ?_
    refine tn_aloadN dX11_frame_7 0 rfl ?_
    refine tn_ifnullN (tgt := 25) dX11_frame_9 (by decide) ?_
    refine tn_iconst dX11_frame_25 ?_
    exact tn_iret rfl dX11_frame_26 ⟨_, rfl, rfl, rfl, by omega, (by exact Or.inl ⟨fun hh => by have q := (hK.2.2.1.2.1 r hh.1.1 (by omega)).1; omega, rfl⟩)⟩
  · show Tn _ _ 5 T σ [(0, .ref a), (1, .int (iI r)), (2, .int (iI f)), (3, .int (iI w))] (vl true (xq8 : Int) :: []) _
    rw [vl_ref rfl]
    have hk9o : OB T xq8 1 := ⟨by omega, by rw [hk9]; rfl, by omega⟩
    have cd9 := f5
    unfold CDF at cd9
    have hR9 := hK.2.2.1.1
    refine tn_astore (L' := [(4, .ref xq8), (0, .ref a), (1, .int (iI r)), (2, .int (iI f)), (3, .int (iI w))]) dX11_frame_5 (by decide) rfl ?_
    refine tn_aload dX11_frame_7 0 rfl ?_
    refine tn_ifnull dX11_frame_9 ?_
    have rr9 : 0 ≤ r ∧ r < σ.2.1 97 a := by omega
    have hcr9 : xq8 = C r := by have z := (hK.2.2.1.2.1 r rr9.1 (by omega)).1; omega
    have g9 : CGW σ xq8 NM := by rw [hcr9]; exact ⟨_, (hK.2.2.2 r rr9.1 rr9.2).1⟩
    refine tn_iload_n dX11_frame_12 rfl 3 rfl ?_
    refine tn_if_lt (tgt := 25) dX11_frame_13 (by decide) ⟨by omega, by omega⟩ (fun h10 => ?_) (fun h10 => ?_)
    · refine tn_iconst dX11_frame_25 ?_
      exact tn_iret rfl dX11_frame_26 ⟨_, rfl, rfl, rfl, by omega, (by rw [← hcr9]; exact Or.inl ⟨fun z => by have z2 : f < σ.2.1 10 xq8 := z.2.2; omega, rfl⟩)⟩
    · refine tn_iload_n dX11_frame_16 rfl 3 rfl ?_
      refine tn_aload dX11_frame_17 0 rfl ?_
      refine tn_getI (ci := 1) (i := 5) (n := 10) (t := σ.2.1 10 xq8) dX11_frame_19 rfl lay_1 (by decide) fl11_143 hk9o rfl rfl (rfl) ?_
      have g11 : ((0 : Int) ≤ σ.2.1 10 xq8 ∧ σ.2.1 10 xq8 ≤ 12) := wf_10 hw hk9o
      refine tn_icmp_lt (tgt := 27) dX11_frame_22 (by decide) ⟨by omega, by omega⟩ ⟨by omega, by omega⟩ (fun h12 => ?_) (fun h12 => ?_)
      · have ff9 : 0 ≤ f ∧ f < σ.2.1 10 xq8 := ⟨by omega, by omega⟩
        refine tn_iload_n dX11_frame_27 rfl 4 rfl ?_
        by_cases h13 : w < 0 ∨ 2 < w
        · refine tn_tableOut (tgt := 94) dX11_frame_28 (x := w) ⟨by omega, by omega⟩ h13 (by decide) ?_
          refine tn_iconst dX11_frame_94 ?_
          exact tn_iret rfl dX11_frame_95 ⟨_, rfl, rfl, rfl, by omega, (by rw [← hcr9]; refine Or.inr ⟨⟨rr9, ff9⟩, ?_⟩; first | (refine Or.inl ⟨?_, ?_⟩; omega; exact fra_0 g9 ff9 (by omega) f5) | (refine Or.inr (Or.inl ⟨?_, ?_, ?_⟩); omega; omega; exact rfl) | (refine Or.inr (Or.inr (Or.inl ⟨?_, ?_, ?_⟩)); omega; omega; exact fra_1 g9 ff9 (by omega) f5) | (refine Or.inr (Or.inr (Or.inr (Or.inl ⟨?_, ?_⟩))); omega; exact fra_2 g9 ff9 (by omega) f5) | (refine Or.inr (Or.inr (Or.inr (Or.inr (⟨?_, ?_⟩)))); omega; exact rfl))⟩
        · have h14 : w = 0 ∨ w = 1 ∨ w = 2 := by omega
          rcases h14 with h14 | h14 | h14
          · refine tn_tableIn (tgt := 56) (off := 28) dX11_frame_28 (x := w) ⟨by omega, by omega⟩ (by omega) (by omega) (by rw [h14]; rfl) (by decide) ?_
            refine tn_aload dX11_frame_56 0 rfl ?_
            obtain ⟨xq15, hx16, hk17, hl18⟩ : ∃ x : Nat, σ.2.1 11 xq8 = (x : Int) ∧ AR T x 1 12 12 := wf_11 hw hk9o
            have hk17i : IA T xq15 := by unfold IA; omega
            refine tn_getR (ci := 1) (i := 6) (n := 11) (x := xq15) dX11_frame_58 rfl lay_1 (by decide) fl11_159 hk9o rfl rfl (hx16) ?_
            refine tn_iload_n dX11_frame_61 rfl 3 rfl ?_
            refine tn_callS (M := m_X11_frame) (pc := 62) (ix := 162) (M' := m_X11_at) (As := [.ref xq15, .int (iI f)]) (rest := []) dX11_frame_62 ok_X11_at stt_X11_at ml11_162 np_X11_at rfl (Nat.le_of_ble_eq_true rfl) (Nat.le_of_ble_eq_true rfl) rfl (k_X11_at_x (d) (T := T) (σ := σ) (x := xq15) (i := f) (R := σ.2.1 (1000 + xq15)) hk17i (by omega) (by omega) hw rfl) (fun r19 T21 σ20 gt22 hp => ?_)
            obtain ⟨v26, rfl, rfl, rfl, f23, f24, f25⟩ := hp
            clear gt22
            clear f24
            have f25u := f25
            unfold ATQ at f25u
            show Tn _ _ 65 T σ [(4, .ref xq8), (0, .ref a), (1, .int (iI r)), (2, .int (iI f)), (3, .int (iI w))] [.int (iI v26)] _
            have fq27 := f25
            rw [show σ.2.1 (1000 + xq15) = rwF σ 11 xq8 by unfold rwF; rw [adN_of hx16]] at fq27
            exact tn_iret rfl dX11_frame_65 ⟨_, rfl, rfl, rfl, by omega, (by rw [← hcr9]; refine Or.inr ⟨⟨rr9, ff9⟩, ?_⟩; first | (refine Or.inl ⟨?_, ?_⟩; omega; exact fra_0 g9 ff9 (by omega) fq27) | (refine Or.inr (Or.inl ⟨?_, ?_, ?_⟩); omega; omega; exact rfl) | (refine Or.inr (Or.inr (Or.inl ⟨?_, ?_, ?_⟩)); omega; omega; exact fra_1 g9 ff9 (by omega) fq27) | (refine Or.inr (Or.inr (Or.inr (Or.inl ⟨?_, ?_⟩))); omega; exact fra_2 g9 ff9 (by omega) fq27) | (refine Or.inr (Or.inr (Or.inr (Or.inr (⟨?_, ?_⟩)))); omega; exact rfl))⟩
          · refine tn_tableIn (tgt := 66) (off := 38) dX11_frame_28 (x := w) ⟨by omega, by omega⟩ (by omega) (by omega) (by rw [h14]; rfl) (by decide) ?_
            refine tn_iload_n dX11_frame_66 rfl 3 rfl ?_
            refine tn_if_ne (tgt := 74) dX11_frame_67 (by decide) ⟨by omega, by omega⟩ (fun h28 => ?_) (fun h28 => ?_)
            · refine tn_aload dX11_frame_74 0 rfl ?_
              obtain ⟨xq29, hx30, hk31, hl32⟩ : ∃ x : Nat, σ.2.1 12 xq8 = (x : Int) ∧ AR T x 1 12 12 := wf_12 hw hk9o
              have hk31i : IA T xq29 := by unfold IA; omega
              refine tn_getR (ci := 1) (i := 7) (n := 12) (x := xq29) dX11_frame_76 rfl lay_1 (by decide) fl11_166 hk9o rfl rfl (hx30) ?_
              refine tn_iload_n dX11_frame_79 rfl 3 rfl ?_
              refine tn_callS (M := m_X11_frame) (pc := 80) (ix := 162) (M' := m_X11_at) (As := [.ref xq29, .int (iI f)]) (rest := []) dX11_frame_80 ok_X11_at stt_X11_at ml11_162 np_X11_at rfl (Nat.le_of_ble_eq_true rfl) (Nat.le_of_ble_eq_true rfl) rfl (k_X11_at_x (d) (T := T) (σ := σ) (x := xq29) (i := f) (R := σ.2.1 (1000 + xq29)) hk31i (by omega) (by omega) hw rfl) (fun r33 T35 σ34 gt36 hp => ?_)
              obtain ⟨v40, rfl, rfl, rfl, f37, f38, f39⟩ := hp
              clear gt36
              clear f38
              have f39u := f39
              unfold ATQ at f39u
              show Tn _ _ 83 T σ [(4, .ref xq8), (0, .ref a), (1, .int (iI r)), (2, .int (iI f)), (3, .int (iI w))] [.int (iI v40)] _
              have fq41 := f39
              rw [show σ.2.1 (1000 + xq29) = rwF σ 12 xq8 by unfold rwF; rw [adN_of hx30]] at fq41
              exact tn_iret rfl dX11_frame_83 ⟨_, rfl, rfl, rfl, by omega, (by rw [← hcr9]; refine Or.inr ⟨⟨rr9, ff9⟩, ?_⟩; first | (refine Or.inl ⟨?_, ?_⟩; omega; exact fra_0 g9 ff9 (by omega) fq41) | (refine Or.inr (Or.inl ⟨?_, ?_, ?_⟩); omega; omega; exact rfl) | (refine Or.inr (Or.inr (Or.inl ⟨?_, ?_, ?_⟩)); omega; omega; exact fra_1 g9 ff9 (by omega) fq41) | (refine Or.inr (Or.inr (Or.inr (Or.inl ⟨?_, ?_⟩))); omega; exact fra_2 g9 ff9 (by omega) fq41) | (refine Or.inr (Or.inr (Or.inr (Or.inr (⟨?_, ?_⟩)))); omega; exact rfl))⟩
            · refine tn_iconst dX11_frame_70 ?_
              refine tn_goto (tgt := 83) dX11_frame_71 (by decide) ?_
              exact tn_iret rfl dX11_frame_83 ⟨_, rfl, rfl, rfl, by omega, (by rw [← hcr9]; refine Or.inr ⟨⟨rr9, ff9⟩, ?_⟩; first | (refine Or.inl ⟨?_, ?_⟩; omega; exact fra_0 g9 ff9 (by omega) f5) | (refine Or.inr (Or.inl ⟨?_, ?_, ?_⟩); omega; omega; exact rfl) | (refine Or.inr (Or.inr (Or.inl ⟨?_, ?_, ?_⟩)); omega; omega; exact fra_1 g9 ff9 (by omega) f5) | (refine Or.inr (Or.inr (Or.inr (Or.inl ⟨?_, ?_⟩))); omega; exact fra_2 g9 ff9 (by omega) f5) | (refine Or.inr (Or.inr (Or.inr (Or.inr (⟨?_, ?_⟩)))); omega; exact rfl))⟩
          · refine tn_tableIn (tgt := 84) (off := 56) dX11_frame_28 (x := w) ⟨by omega, by omega⟩ (by omega) (by omega) (by rw [h14]; rfl) (by decide) ?_
            refine tn_aload dX11_frame_84 0 rfl ?_
            obtain ⟨xq42, hx43, hk44, hl45⟩ : ∃ x : Nat, σ.2.1 13 xq8 = (x : Int) ∧ AR T x 1 12 12 := wf_13 hw hk9o
            have hk44i : IA T xq42 := by unfold IA; omega
            refine tn_getR (ci := 1) (i := 8) (n := 13) (x := xq42) dX11_frame_86 rfl lay_1 (by decide) fl11_169 hk9o rfl rfl (hx43) ?_
            refine tn_iload_n dX11_frame_89 rfl 3 rfl ?_
            refine tn_callS (M := m_X11_frame) (pc := 90) (ix := 162) (M' := m_X11_at) (As := [.ref xq42, .int (iI f)]) (rest := []) dX11_frame_90 ok_X11_at stt_X11_at ml11_162 np_X11_at rfl (Nat.le_of_ble_eq_true rfl) (Nat.le_of_ble_eq_true rfl) rfl (k_X11_at_x (d) (T := T) (σ := σ) (x := xq42) (i := f) (R := σ.2.1 (1000 + xq42)) hk44i (by omega) (by omega) hw rfl) (fun r46 T48 σ47 gt49 hp => ?_)
            obtain ⟨v53, rfl, rfl, rfl, f50, f51, f52⟩ := hp
            clear gt49
            clear f51
            have f52u := f52
            unfold ATQ at f52u
            show Tn _ _ 93 T σ [(4, .ref xq8), (0, .ref a), (1, .int (iI r)), (2, .int (iI f)), (3, .int (iI w))] [.int (iI v53)] _
            have fq54 := f52
            rw [show σ.2.1 (1000 + xq42) = rwF σ 13 xq8 by unfold rwF; rw [adN_of hx43]] at fq54
            exact tn_iret rfl dX11_frame_93 ⟨_, rfl, rfl, rfl, by omega, (by rw [← hcr9]; refine Or.inr ⟨⟨rr9, ff9⟩, ?_⟩; first | (refine Or.inl ⟨?_, ?_⟩; omega; exact fra_0 g9 ff9 (by omega) fq54) | (refine Or.inr (Or.inl ⟨?_, ?_, ?_⟩); omega; omega; exact rfl) | (refine Or.inr (Or.inr (Or.inl ⟨?_, ?_, ?_⟩)); omega; omega; exact fra_1 g9 ff9 (by omega) fq54) | (refine Or.inr (Or.inr (Or.inr (Or.inl ⟨?_, ?_⟩))); omega; exact fra_2 g9 ff9 (by omega) fq54) | (refine Or.inr (Or.inr (Or.inr (Or.inr (⟨?_, ?_⟩)))); omega; exact rfl))⟩
      · refine tn_iconst dX11_frame_25 ?_
        exact tn_iret rfl dX11_frame_26 ⟨_, rfl, rfl, rfl, by omega, (by rw [← hcr9]; exact Or.inl ⟨fun z => by have z2 : f < σ.2.1 10 xq8 := z.2.2; omega, rfl⟩)⟩
end
section
set_option maxHeartbeats 1000000 in
theorem af_t2 {T : CT} {σ : MS} {f b : Nat} (hw : WT T σ) (hf : f ∈ AFL) (h95 : f ≠ 95) (ob : OB T b (cls f)) : (T (adN σ f b)).1 ≠ 2 := by
  simp only [List.mem_cons, List.not_mem_nil, or_false] at hf
  rcases hf with rfl | rfl | rfl | rfl | rfl | rfl | rfl | rfl | rfl | rfl | rfl | rfl | rfl | rfl | rfl | rfl | rfl | rfl | rfl | rfl | rfl | rfl | rfl | rfl | rfl | rfl | rfl | rfl | rfl | rfl | rfl | rfl | rfl | rfl | rfl | rfl | rfl | rfl | rfl | rfl | rfl | rfl
  · have z := (ad_ex (Q := fun x => (208 ≤ (T x).2 ∧ (T x).2 ≤ 2600) ∧ ((T b).1 = 50 → (T x).1 = 1) ∧ ((T b).1 ≠ 50 → (T x).1 = 13)) (wf_5 hw ob)).2.2
    omega
  · have z := (ad_ex (Q := fun x => AR T x 1 12 12) (wf_11 hw ob)).2.1
    omega
  · have z := (ad_ex (Q := fun x => AR T x 1 12 12) (wf_12 hw ob)).2.1
    omega
  · have z := (ad_ex (Q := fun x => AR T x 1 12 12) (wf_13 hw ob)).2.1
    omega
  · have z := (ad_ex (Q := fun x => AR T x 11 12 12) (wf_14 hw ob)).2.1
    omega
  · have z := (ad_ex (Q := fun x => AR T x 1 144 144) (wf_15 hw ob)).2.1
    omega
  · have z := (ad_ex (Q := fun x => AR T x 1 13 13) (wf_16 hw ob)).2.1
    omega
  · have z := (ad_ex (Q := fun x => AR T x 3 603 603) (wf_18 hw ob)).2.1
    omega
  · have z := (ad_ex (Q := fun x => AR T x 3 3 3) (wf_19 hw ob)).2.1
    omega
  · have z := (ad_ex (Q := fun x => AR T x 1 201 201) (wf_20 hw ob)).2.1
    omega
  · have z := (ad_ex (Q := fun x => AR T x 1 201 201) (wf_21 hw ob)).2.1
    omega
  · have z := (ad_ex (Q := fun x => AR T x 1 8 8) (wf_24 hw ob)).2.1
    omega
  · have z := (ad_ex (Q := fun x => AR T x 16 256 256) (wf_36 hw ob)).2.1
    omega
  · have z := (ad_ex (Q := fun x => AR T x 17 256 256) (wf_37 hw ob)).2.1
    omega
  · have z := (ad_ex (Q := fun x => AR T x 18 256 256) (wf_39 hw ob)).2.1
    omega
  · have z := (ad_ex (Q := fun x => AR T x 19 256 256) (wf_40 hw ob)).2.1
    omega
  · have z := (ad_ex (Q := fun x => AR T x 20 256 256) (wf_41 hw ob)).2.1
    omega
  · have z := (ad_ex (Q := fun x => AR T x 21 12 12) (wf_48 hw ob)).2.1
    omega
  · have z := (ad_ex (Q := fun x => AR T x 1 8 8) (wf_49 hw ob)).2.1
    omega
  · have z := (ad_ex (Q := fun x => AR T x 1 192 192) (wf_52 hw ob)).2.1
    omega
  · have z := (ad_ex (Q := fun x => AR T x 1 192 192) (wf_53 hw ob)).2.1
    omega
  · have z := (ad_ex (Q := fun x => AR T x 3 3 3) (wf_54 hw ob)).2.1
    omega
  · have z := (ad_ex (Q := fun x => AR T x 15 9 9) (wf_59 hw ob)).2.1
    omega
  · have z := (ad_ex (Q := fun x => AR T x 1 9 9) (wf_60 hw ob)).2.1
    omega
  · have z := (ad_ex (Q := fun x => (T x).2 = 9 ∧ ((T b).1 = 57 → (T x).1 = 14) ∧ ((T b).1 ≠ 57 → (T x).1 = 1)) (wf_61 hw ob)).2.2
    omega
  · have z := (ad_ex (Q := fun x => AR T x 1 108 108) (wf_62 hw ob)).2.1
    omega
  · have z := (ad_ex (Q := fun x => AR T x 1 1728 1728) (wf_63 hw ob)).2.1
    omega
  · have z := (ad_ex (Q := fun x => AR T x 1 200 200) (wf_64 hw ob)).2.1
    omega
  · have z := (ad_ex (Q := fun x => AR T x 3 576 576) (wf_73 hw ob)).2.1
    omega
  · have z := (ad_ex (Q := fun x => AR T x 3 3 3) (wf_74 hw ob)).2.1
    omega
  · have z := (ad_ex (Q := fun x => AR T x 1 192 192) (wf_75 hw ob)).2.1
    omega
  · have z := (ad_ex (Q := fun x => AR T x 3 576 576) (wf_76 hw ob)).2.1
    omega
  · have z := (ad_ex (Q := fun x => AR T x 3 603 603) (wf_77 hw ob)).2.1
    omega
  · have z := (ad_ex (Q := fun x => AR T x 1 201 201) (wf_78 hw ob)).2.1
    omega
  · have z := (ad_ex (Q := fun x => AR T x 3 3 3) (wf_79 hw ob)).2.1
    omega
  · have z := (ad_ex (Q := fun x => AR T x 12 1201 1201) (wf_81 hw ob)).2.1
    omega
  · have z := (ad_ex (Q := fun x => AR T x 22 1201 1201) (wf_82 hw ob)).2.1
    omega
  · have z := (ad_ex (Q := fun x => AR T x 23 1201 1201) (wf_83 hw ob)).2.1
    omega
  · have z := (ad_ex (Q := fun x => AR T x 1 6 6) (wf_89 hw ob)).2.1
    omega
  · have z := (ad_ex (Q := fun x => AR T x 1 200 200) (wf_90 hw ob)).2.1
    omega
  · have z := (ad_ex (Q := fun x => AR T x 1 145 145) (wf_91 hw ob)).2.1
    omega
  · exact absurd rfl h95
def KB6 (S : Nat → Prop) (T : CT) (σ : MS) (a : Nat) (C E M : Int → Nat) : Prop := KEM S T σ a C E M ∧ BSQ S T σ a ∧ S (adN σ 103 a)
def PR5 (σ : MS) (a : Nat) : Prop := ∀ p : Nat, σ.2.1 110 a = (p : Int) → σ.2.1 55 (adN σ 0 p) = σ.2.1 99 a ∧ σ.2.1 55 (adN σ 1 p) = σ.2.1 98 a
theorem PR5.keep {σ σ2 : MS} {a : Nat} (h : PR5 σ a) (k : ∀ f, f ∈ [0, 1, 55, 98, 99, 110] → ∀ b : Int, σ2.2.1 f b = σ.2.1 f b) : PR5 σ2 a := fun p hp => by
  rw [k 110 (by decide)] at hp
  have z := h p hp
  have a0 : adN σ2 0 p = adN σ 0 p := by unfold adN; rw [k 0 (by decide)]
  have a1 : adN σ2 1 p = adN σ 1 p := by unfold adN; rw [k 1 (by decide)]
  rw [a0, a1, k 55 (by decide), k 55 (by decide), k 98 (by decide), k 99 (by decide)]
  exact z
theorem PR5.q {S : Nat → Prop} {T : CT} {σ σ2 : MS} {a : Nat} (q : QFR S T σ σ2) (h : PR5 σ a) : PR5 σ2 a := h.keep (fun f hf b => q.1 f b (by simp only [List.mem_cons, List.not_mem_nil, or_false] at hf; omega) (by
  simp only [List.mem_cons, List.not_mem_nil, or_false] at hf
  unfold QF
  omega))
theorem PR5.frc {T : CT} {σ σ2 : MS} {a : Nat} {ks : List Nat} (fr : FrC T ks σ σ2) (hk : ∀ f ∈ [0, 1, 55, 98, 99, 110], f ∉ ks) (h : PR5 σ a) : PR5 σ2 a := h.keep (fun f hf b => congrFun (fr.1 f (Or.inl (by simp only [List.mem_cons, List.not_mem_nil, or_false] at hf; omega)) (hk f hf)) b)
theorem KB6.csq {S : Nat → Prop} {T : CT} {σ σ2 : MS} {a : Nat} {C E M : Int → Nat} (h : KB6 S T σ a C E M) (q : QFR S T σ σ2) {r : Int} (r0 : 0 ≤ r) (r6 : r < 6) : CSM σ σ2 (M r) := CSM.q q (h.1.2.1 r r0 r6).2.2.1 ⟨by have := (h.1.2.1 r r0 r6).2.2.2; omega, by rw [(h.1.2.1 r r0 r6).2.2.2]; rfl, by have := (h.1.2.1 r r0 r6).2.2.2; omega⟩
def L6Q (T : CT) (σ : MS) (T2 : CT) (σ2 : MS) (a : Nat) : Prop := ∀ S C E M, KB6 S T σ a C E M → ∃ S2, KB6 S2 T2 σ2 a C E M ∧ (∀ r, 0 ≤ r → r < 6 → CSM σ σ2 (C r) ∧ CSM σ σ2 (M r)) ∧ (PR5 σ a → PR5 σ2 a)
section L6S
variable {S : Nat → Prop} {T T1 T2 : CT} {σ σ1 σ2 : MS} {a rn : Nat} {ks : List (Nat × Nat)} {rs ls : List Nat} {C E M : Int → Nat}
theorem L6Q.rf : L6Q T σ T σ a := fun S C E M h => ⟨S, h, fun _ _ _ => ⟨CSM.rf, CSM.rf⟩, id⟩
theorem L6Q.trans (h : L6Q T σ T1 σ1 a) (g : L6Q T1 σ1 T2 σ2 a) : L6Q T σ T2 σ2 a := fun S C E M k => by
  obtain ⟨S1, k1, c1, d1⟩ := h S C E M k
  obtain ⟨S2, k2, c2, d2⟩ := g S1 C E M k1
  exact ⟨S2, k2, fun r x y => ⟨(c1 r x y).1.trans (c2 r x y).1, (c1 r x y).2.trans (c2 r x y).2⟩, fun z => d2 (d1 z)⟩
theorem KB6.co (h : KB6 S T σ a C E M) {r : Int} (r0 : 0 ≤ r) (r6 : r < 6) : S (C r) ∧ (T (C r)).1 = 50 := ⟨(h.1.2.1 r r0 r6).1.2.1, (h.1.2.1 r r0 r6).1.2.2⟩
theorem L6Q.of (oa : OB T a 11) (hw : WT T σ) (gt : GT T T2) (h : ∀ S C E M, KB6 S T σ a C E M → QFR S T σ σ2 ∧ BSQ S T2 σ2 a) : L6Q T σ T2 σ2 a := fun S C E M k => by
  obtain ⟨q, b⟩ := h S C E M k
  refine ⟨S, ⟨k.1.q oa hw gt q, b, ?_⟩, fun r x y => ⟨CSM.q q (k.co x y).1 (ob50 (k.co x y).2), k.csq q x y⟩, PR5.q q⟩
  rw [q.ad (by decide) (by unfold QF; omega)]
  exact k.2.2
theorem L6Q.run (oa : OB T a 11) (hw : WT T σ) {xa xb xc xd xe xf : Nat} (hrn : σ.2.1 103 a = (rn : Int)) (h1 : σ.2.1 59 rn = (xa : Int)) (h2 : σ.2.1 60 rn = (xb : Int)) (h3 : σ.2.1 61 rn = (xc : Int)) (h4 : σ.2.1 62 rn = (xd : Int)) (h5 : σ.2.1 63 rn = (xe : Int)) (h6 : σ.2.1 64 rn = (xf : Int)) (ch : CHX [(56, rn), (57, rn), (58, rn), (65, rn), (66, rn), (67, rn), (68, rn), (69, rn), (70, rn), (71, rn)] [xa, xb, xc, xd, xe, xf] [] σ σ2) : L6Q T σ T σ2 a := L6Q.of oa hw GT.rfl (fun S C E M k => by
  have z := (ad_ex (Q := fun x => (T x).1 = 37) (wf_103 hw oa)).2
  rw [adN_of hrn] at z
  have on : OB T rn 7 := ⟨by omega, by rw [z]; rfl, by omega⟩
  have sn := k.2.2
  rw [adN_of hrn] at sn
  exact k.2.1.run hw (RN6.mk sn on h1 h2 h3 h4 h5 h6) ch)
theorem L6Q.fnd (oa : OB T a 11) (hw : WT T σ) (ch : CHX [(70, rn), (71, rn)] [] [] σ σ2) : L6Q T σ T σ2 a := L6Q.of oa hw GT.rfl (fun S C E M k => k.2.1.chx hw ch (fun p hp => by
  simp only [List.mem_cons, List.not_mem_nil, or_false] at hp
  rcases hp with rfl | rfl <;> simp [QF]) (fun x hx => absurd hx (by simp)))
theorem L6Q.tape (oa : OB T a 11) (hw : WT T σ) {xt : Nat} (hxt : σ.2.1 95 a = (xt : Int)) (ch : CHX [(96, a)] [xt] [] σ σ2) : L6Q T σ T σ2 a := fun S C E M k => by
  have tt : (T xt).1 = 2 := by
    have z := (ad_ex (Q := fun x => AR T x 2 1200 1200) (wf_95 hw oa)).2
    rw [adN_of hxt] at z
    exact z.1
  have nf : ∀ f b, f ∈ AFL → f ≠ 95 → OB T b (cls f) → xt ≠ adN σ f b := fun f b hf h95 ob e => af_t2 hw hf h95 ob (by rw [← e]; exact tt)
  have q : QFR S T σ σ2 := ⟨fun f b hf hq => ch.1 f b hf (fun p hp e => by
    rw [List.mem_singleton.mp hp] at e
    exact fun _ => hq (by rw [← e]; unfold QF; omega)), fun f b hf hq sb ob => ch.2.1 _ (fun y => by
    exact nf f b hf (fun e => hq (by rw [e]; unfold QRW; omega)) ob (List.mem_singleton.mp y).symm), fun x hx => ch.2.1 x (fun y => by
    rw [List.mem_singleton.mp y, tt] at hx
    omega)⟩
  refine ⟨S, ⟨k.1.q oa hw GT.rfl q, k.2.1.st GT.rfl q (k.2.1.2.1.q k.2.1.1 GT.rfl q (fun i _ _ => ch.1 900 i (by decide) (fun p hp e => by rw [List.mem_singleton.mp hp] at e; exact absurd e (by show ¬ (96 : Nat) = 900; decide)))), ?_⟩, fun r x y => ⟨CSM.q q (k.co x y).1 (ob50 (k.co x y).2), k.csq q x y⟩, PR5.q q⟩
  rw [q.ad (by decide) (by unfold QF; omega)]
  exact k.2.2
theorem L6Q.fld (oa : OB T a 11) (hw : WT T σ) (ch : CHX [(96, a)] [] [] σ σ2) : L6Q T σ T σ2 a := L6Q.of oa hw GT.rfl (fun S C E M k => k.2.1.chx hw ch (fun p hp => by
  rw [List.mem_singleton.mp hp]
  exact ⟨by unfold QF; omega, by show (96 : Nat) ≠ 900; decide⟩) (fun x hx => absurd hx (by simp)))
theorem L6Q.tlq (oa : OB T a 11) (hw : WT T σ) (gt : GT T T2) (h : TLQ T σ σ2 a) : L6Q T σ T2 σ2 a := L6Q.of oa hw gt (fun S C E M k => by
  rcases h with ⟨e1, e2⟩ | ⟨tl, xs, xb, xf, r, ⟨q1, q2, q3, q4⟩, q⟩
  · have q : QFR S T σ σ2 := QFR.eq e1
    exact ⟨q, k.2.1.st gt q (k.2.1.2.1.q k.2.1.1 gt q (fun i _ _ => by rw [e1]))⟩
  · have z := (ad_ex (Q := fun x => (T x).1 = 40) (wf_102 hw oa)).2
    rw [adN_of q1] at z
    exact k.2.1.rf hw gt q1 ⟨by omega, by rw [z]; rfl, by omega⟩ q2 q3 q4 q)
theorem L6Q.knq (oa : OB T a 11) (hw : WT T σ) (gt : GT T T2) (h : KNQ T σ σ2 a) : L6Q T σ T2 σ2 a := by
  obtain ⟨σ1, rn, e, ch, hw1, q⟩ := h
  exact (L6Q.fnd oa hw ch).trans (L6Q.tlq oa hw1 gt q)
end L6S
end
section
set_option maxHeartbeats 1000000 in
set_option maxRecDepth 20000 in
theorem kj_X7_init_57 (d : Nat) {T : CT} {σ : MS} {a : Nat} {K : List Nat} {cs : Nat} (hraw : T a = (80 + 7, 0)) (hb : WTn T σ) (hcd : CD K T) (hdf : ∀ j, j < 200 → σ.2.1 j (a : Int) = dfF j) {S0 : Nat → Prop} (hij : INJT S0 T σ) (h_cs : T cs = (4, 6)) : Tn (d + 1) m_X7_init 0 T σ [(0, .ref a), (1, .ref cs)] [] (fun ro T2 σ2 => ro = none ∧ T2 a = (57, 0) ∧ WTn T2 σ2 ∧ CD K T2 ∧ KPx a T σ T2 σ2 ∧ σ2.1 0 = σ.1 0 + (2063 : Nat) ∧ σ2.1 1 = σ.1 1 + (6 : Nat) ∧ INJT S0 T2 σ2 ∧ FRN T T2 σ2 ∧ NX 7 a T T2 ∧ NX 41 a T T2 ∧ σ2.2.1 57 (a : Int) = 0 ∧ σ2.2.1 55 (a : Int) = (cs : Int) ∧ σ2.2.1 56 (a : Int) = 0) := by
  have cx0 : CX a 7 K 0 0 T σ T σ := CX.begin hraw hb hcd
  have cj : CXJ S0 a 7 T T σ := CXJ.begin hraw (fun f9 h9 c9 => (hdf f9 (by have := afl_lt h9; omega)).trans ((by decide : ∀ f ∈ AFL, dfF f = -1) f9 h9)) hij
  have nx7 : NX 7 a T T := NX.begin (by decide)
  have nx41 : NX 41 a T T := NX.begin (by decide)
  have f55 : σ.2.1 55 a = -1 := (hdf 55 (by decide)).trans (by decide)
  have f56 : σ.2.1 56 a = 0 := (hdf 56 (by decide)).trans (by decide)
  have f57 : σ.2.1 57 a = 0 := (hdf 57 (by decide)).trans (by decide)
  have f58 : σ.2.1 58 a = 0 := (hdf 58 (by decide)).trans (by decide)
  have f59 : σ.2.1 59 a = -1 := (hdf 59 (by decide)).trans (by decide)
  have f60 : σ.2.1 60 a = -1 := (hdf 60 (by decide)).trans (by decide)
  have f61 : σ.2.1 61 a = -1 := (hdf 61 (by decide)).trans (by decide)
  have f62 : σ.2.1 62 a = -1 := (hdf 62 (by decide)).trans (by decide)
  have f63 : σ.2.1 63 a = -1 := (hdf 63 (by decide)).trans (by decide)
  have f64 : σ.2.1 64 a = -1 := (hdf 64 (by decide)).trans (by decide)
  have f65 : σ.2.1 65 a = 0 := (hdf 65 (by decide)).trans (by decide)
  have f66 : σ.2.1 66 a = 0 := (hdf 66 (by decide)).trans (by decide)
  have f67 : σ.2.1 67 a = 0 := (hdf 67 (by decide)).trans (by decide)
  have f68 : σ.2.1 68 a = 0 := (hdf 68 (by decide)).trans (by decide)
  have f69 : σ.2.1 69 a = -1 := (hdf 69 (by decide)).trans (by decide)
  have f70 : σ.2.1 70 a = 0 := (hdf 70 (by decide)).trans (by decide)
  have f71 : σ.2.1 71 a = 0 := (hdf 71 (by decide)).trans (by decide)
  refine tn_aload_n dX7_init_0 rfl 0 rfl ?_
  refine tn_objInit dX7_init_1 mlo7_3 oiI oiC (by omega) (Nat.le_of_ble_eq_true rfl) ?_
  refine tn_aload_n dX7_init_4 rfl 0 rfl ?_
  refine tn_bipush dX7_init_5 (by decide) ?_
  refine tn_newI (N := 9) (k := 15) dX7_init_7 arC_int (by decide) rfl (by decide) (fun x1 hx2 => ?_)
  have ne3 := cx0.ne hx2
  have ne3z := (cx0.fresh hx2).resolve_right (fun e => ne3 e.symm)
  have ne3j := CXJ.new (T2 := (tT T x1 15 9)) (σ2 := (rowS (1000 + x1) (fun _ => 0) (gh 9 σ))) cj cx0.1 cx0.2.1 hx2 (by rw [tT_eq]; decide) (fun b9 e9 => tT_ne e9) (fun n9 c9 hn9 hc9 => by rw [rowS_ne (by omega)]; rfl)
  obtain ⟨T4, σ5, eT6, eS7, cx8, f55, f56, f57, f58, f59, f60, f61, f62, f63, f64, f65, f66, f67, f68, f69, f70, f71, o9, o10, nx7, nx41, cj, un⟩ : ∃ (T4 : CT) (σ5 : MS), T4 = (tT T x1 15 9) ∧ σ5 = (rowS (1000 + x1) (fun _ => 0) (gh 9 σ)) ∧ CX a 7 K 9 1 T σ T4 σ5 ∧ (σ5.2.1 55 a = -1) ∧ (σ5.2.1 56 a = 0) ∧ (σ5.2.1 57 a = 0) ∧ (σ5.2.1 58 a = 0) ∧ (σ5.2.1 59 a = -1) ∧ (σ5.2.1 60 a = -1) ∧ (σ5.2.1 61 a = -1) ∧ (σ5.2.1 62 a = -1) ∧ (σ5.2.1 63 a = -1) ∧ (σ5.2.1 64 a = -1) ∧ (σ5.2.1 65 a = 0) ∧ (σ5.2.1 66 a = 0) ∧ (σ5.2.1 67 a = 0) ∧ (σ5.2.1 68 a = 0) ∧ (σ5.2.1 69 a = -1) ∧ (σ5.2.1 70 a = 0) ∧ (σ5.2.1 71 a = 0) ∧ (T4 cs = (4, 6)) ∧ (T4 x1 = (15, 9)) ∧ NX 7 a T T4 ∧ NX 41 a T T4 ∧ CXJ S0 a 7 T T4 σ5 ∧ UNF a 7 x1 T4 σ5 := ⟨_, _, rfl, rfl, (cx0.newI hx2 (by decide)), (by rw [rowS_ne (by omega)]; exact f55), (by rw [rowS_ne (by omega)]; exact f56), (by rw [rowS_ne (by omega)]; exact f57), (by rw [rowS_ne (by omega)]; exact f58), (by rw [rowS_ne (by omega)]; exact f59), (by rw [rowS_ne (by omega)]; exact f60), (by rw [rowS_ne (by omega)]; exact f61), (by rw [rowS_ne (by omega)]; exact f62), (by rw [rowS_ne (by omega)]; exact f63), (by rw [rowS_ne (by omega)]; exact f64), (by rw [rowS_ne (by omega)]; exact f65), (by rw [rowS_ne (by omega)]; exact f66), (by rw [rowS_ne (by omega)]; exact f67), (by rw [rowS_ne (by omega)]; exact f68), (by rw [rowS_ne (by omega)]; exact f69), (by rw [rowS_ne (by omega)]; exact f70), (by rw [rowS_ne (by omega)]; exact f71), (tk_keep h_cs (by decide) hx2), tT_eq, (nx7.mk9 (by decide)), (nx41.mk9 (by decide)), ne3j.1, ne3j.2⟩
  rw [← eT6]
  rw [← eS7]
  refine tn_putFr (ci := 7) (i := 4) (n := 59) (r := true) (v := (x1 : Int)) tyX7 tyX7_ok nmX7 dX7_init_9 rfl lay_7 (by decide) fl7_9 rfl rfl rfl (tyX7_ok 4 (by decide)) (vl_ref rfl).symm rfl rfl (cx8.r (by decide)) rfl rfl ?_
  obtain ⟨σ12, eS14, cx15, f55, f56, f57, f58, f59, f60, f61, f62, f63, f64, f65, f66, f67, f68, f69, f70, f71, cj⟩ : ∃ (σ12 : MS), σ12 = (sA 59 a ((x1 : Int)) σ5) ∧ CX a 7 K 9 1 T σ T4 σ12 ∧ (σ12.2.1 55 a = -1) ∧ (σ12.2.1 56 a = 0) ∧ (σ12.2.1 57 a = 0) ∧ (σ12.2.1 58 a = 0) ∧ (σ12.2.1 59 a = (x1 : Int)) ∧ (σ12.2.1 60 a = -1) ∧ (σ12.2.1 61 a = -1) ∧ (σ12.2.1 62 a = -1) ∧ (σ12.2.1 63 a = -1) ∧ (σ12.2.1 64 a = -1) ∧ (σ12.2.1 65 a = 0) ∧ (σ12.2.1 66 a = 0) ∧ (σ12.2.1 67 a = 0) ∧ (σ12.2.1 68 a = 0) ∧ (σ12.2.1 69 a = -1) ∧ (σ12.2.1 70 a = 0) ∧ (σ12.2.1 71 a = 0) ∧ CXJ S0 a 7 T T4 σ12 := ⟨_, rfl, (cx8.put (by decide)), (rc_o (by decide) f55), (rc_o (by decide) f56), (rc_o (by decide) f57), (rc_o (by decide) f58), ra_eq, (rc_o (by decide) f60), (rc_o (by decide) f61), (rc_o (by decide) f62), (rc_o (by decide) f63), (rc_o (by decide) f64), (rc_o (by decide) f65), (rc_o (by decide) f66), (rc_o (by decide) f67), (rc_o (by decide) f68), (rc_o (by decide) f69), (rc_o (by decide) f70), (rc_o (by decide) f71), (CXJ.putA cj cx8.1 (by decide) rfl un (by rw [o10]; decide) ne3z)⟩
  rw [← eS14]
  refine tn_aload_n dX7_init_12 rfl 0 rfl ?_
  refine tn_bipush dX7_init_13 (by decide) ?_
  refine tn_newI (N := 9) (k := 1) dX7_init_15 arC_int (by decide) rfl (by decide) (fun x16 hx17 => ?_)
  have ne18 := cx15.ne hx17
  have ne18z := (cx15.fresh hx17).resolve_right (fun e => ne18 e.symm)
  have ne18j := CXJ.new (T2 := (tT T4 x16 1 9)) (σ2 := (rowS (1000 + x16) (fun _ => 0) (gh 9 σ12))) cj cx15.1 cx15.2.1 hx17 (by rw [tT_eq]; decide) (fun b9 e9 => tT_ne e9) (fun n9 c9 hn9 hc9 => by rw [rowS_ne (by omega)]; rfl)
  obtain ⟨T19, σ20, eT21, eS22, cx23, f55, f56, f57, f58, f59, f60, f61, f62, f63, f64, f65, f66, f67, f68, f69, f70, f71, o24, o25, o26, nx7, nx41, cj, un⟩ : ∃ (T19 : CT) (σ20 : MS), T19 = (tT T4 x16 1 9) ∧ σ20 = (rowS (1000 + x16) (fun _ => 0) (gh 9 σ12)) ∧ CX a 7 K 18 2 T σ T19 σ20 ∧ (σ20.2.1 55 a = -1) ∧ (σ20.2.1 56 a = 0) ∧ (σ20.2.1 57 a = 0) ∧ (σ20.2.1 58 a = 0) ∧ (σ20.2.1 59 a = (x1 : Int)) ∧ (σ20.2.1 60 a = -1) ∧ (σ20.2.1 61 a = -1) ∧ (σ20.2.1 62 a = -1) ∧ (σ20.2.1 63 a = -1) ∧ (σ20.2.1 64 a = -1) ∧ (σ20.2.1 65 a = 0) ∧ (σ20.2.1 66 a = 0) ∧ (σ20.2.1 67 a = 0) ∧ (σ20.2.1 68 a = 0) ∧ (σ20.2.1 69 a = -1) ∧ (σ20.2.1 70 a = 0) ∧ (σ20.2.1 71 a = 0) ∧ (T19 cs = (4, 6)) ∧ (T19 x1 = (15, 9)) ∧ (T19 x16 = (1, 9)) ∧ NX 7 a T T19 ∧ NX 41 a T T19 ∧ CXJ S0 a 7 T T19 σ20 ∧ UNF a 7 x16 T19 σ20 := ⟨_, _, rfl, rfl, (cx15.newI hx17 (by decide)), (by rw [rowS_ne (by omega)]; exact f55), (by rw [rowS_ne (by omega)]; exact f56), (by rw [rowS_ne (by omega)]; exact f57), (by rw [rowS_ne (by omega)]; exact f58), (by rw [rowS_ne (by omega)]; exact f59), (by rw [rowS_ne (by omega)]; exact f60), (by rw [rowS_ne (by omega)]; exact f61), (by rw [rowS_ne (by omega)]; exact f62), (by rw [rowS_ne (by omega)]; exact f63), (by rw [rowS_ne (by omega)]; exact f64), (by rw [rowS_ne (by omega)]; exact f65), (by rw [rowS_ne (by omega)]; exact f66), (by rw [rowS_ne (by omega)]; exact f67), (by rw [rowS_ne (by omega)]; exact f68), (by rw [rowS_ne (by omega)]; exact f69), (by rw [rowS_ne (by omega)]; exact f70), (by rw [rowS_ne (by omega)]; exact f71), (tk_keep o9 (by decide) hx17), (tk_keep o10 (by decide) hx17), tT_eq, (nx7.mk9 (by decide)), (nx41.mk9 (by decide)), ne18j.1, ne18j.2⟩
  rw [← eT21]
  rw [← eS22]
  refine tn_putFr (ci := 7) (i := 5) (n := 60) (r := true) (v := (x16 : Int)) tyX7 tyX7_ok nmX7 dX7_init_17 rfl lay_7 (by decide) fl7_15 rfl rfl rfl (tyX7_ok 5 (by decide)) (vl_ref rfl).symm rfl rfl (cx23.r (by decide)) rfl rfl ?_
  obtain ⟨σ28, eS30, cx31, f55, f56, f57, f58, f59, f60, f61, f62, f63, f64, f65, f66, f67, f68, f69, f70, f71, cj⟩ : ∃ (σ28 : MS), σ28 = (sA 60 a ((x16 : Int)) σ20) ∧ CX a 7 K 18 2 T σ T19 σ28 ∧ (σ28.2.1 55 a = -1) ∧ (σ28.2.1 56 a = 0) ∧ (σ28.2.1 57 a = 0) ∧ (σ28.2.1 58 a = 0) ∧ (σ28.2.1 59 a = (x1 : Int)) ∧ (σ28.2.1 60 a = (x16 : Int)) ∧ (σ28.2.1 61 a = -1) ∧ (σ28.2.1 62 a = -1) ∧ (σ28.2.1 63 a = -1) ∧ (σ28.2.1 64 a = -1) ∧ (σ28.2.1 65 a = 0) ∧ (σ28.2.1 66 a = 0) ∧ (σ28.2.1 67 a = 0) ∧ (σ28.2.1 68 a = 0) ∧ (σ28.2.1 69 a = -1) ∧ (σ28.2.1 70 a = 0) ∧ (σ28.2.1 71 a = 0) ∧ CXJ S0 a 7 T T19 σ28 := ⟨_, rfl, (cx23.put (by decide)), (rc_o (by decide) f55), (rc_o (by decide) f56), (rc_o (by decide) f57), (rc_o (by decide) f58), (rc_o (by decide) f59), ra_eq, (rc_o (by decide) f61), (rc_o (by decide) f62), (rc_o (by decide) f63), (rc_o (by decide) f64), (rc_o (by decide) f65), (rc_o (by decide) f66), (rc_o (by decide) f67), (rc_o (by decide) f68), (rc_o (by decide) f69), (rc_o (by decide) f70), (rc_o (by decide) f71), (CXJ.putA cj cx23.1 (by decide) rfl un (by rw [o26]; decide) ne18z)⟩
  rw [← eS30]
  refine tn_aload_n dX7_init_20 rfl 0 rfl ?_
  refine tn_bipush dX7_init_21 (by decide) ?_
  refine tn_newI (N := 9) (k := 14) dX7_init_23 arC_int (by decide) rfl (by decide) (fun x32 hx33 => ?_)
  have ne34 := cx31.ne hx33
  have ne34z := (cx31.fresh hx33).resolve_right (fun e => ne34 e.symm)
  have ne34j := CXJ.new (T2 := (tT T19 x32 14 9)) (σ2 := (rowS (1000 + x32) (fun _ => 0) (gh 9 σ28))) cj cx31.1 cx31.2.1 hx33 (by rw [tT_eq]; decide) (fun b9 e9 => tT_ne e9) (fun n9 c9 hn9 hc9 => by rw [rowS_ne (by omega)]; rfl)
  obtain ⟨T35, σ36, eT37, eS38, cx39, f55, f56, f57, f58, f59, f60, f61, f62, f63, f64, f65, f66, f67, f68, f69, f70, f71, o40, o41, o42, o43, nx7, nx41, cj, un⟩ : ∃ (T35 : CT) (σ36 : MS), T35 = (tT T19 x32 14 9) ∧ σ36 = (rowS (1000 + x32) (fun _ => 0) (gh 9 σ28)) ∧ CX a 7 K 27 3 T σ T35 σ36 ∧ (σ36.2.1 55 a = -1) ∧ (σ36.2.1 56 a = 0) ∧ (σ36.2.1 57 a = 0) ∧ (σ36.2.1 58 a = 0) ∧ (σ36.2.1 59 a = (x1 : Int)) ∧ (σ36.2.1 60 a = (x16 : Int)) ∧ (σ36.2.1 61 a = -1) ∧ (σ36.2.1 62 a = -1) ∧ (σ36.2.1 63 a = -1) ∧ (σ36.2.1 64 a = -1) ∧ (σ36.2.1 65 a = 0) ∧ (σ36.2.1 66 a = 0) ∧ (σ36.2.1 67 a = 0) ∧ (σ36.2.1 68 a = 0) ∧ (σ36.2.1 69 a = -1) ∧ (σ36.2.1 70 a = 0) ∧ (σ36.2.1 71 a = 0) ∧ (T35 cs = (4, 6)) ∧ (T35 x1 = (15, 9)) ∧ (T35 x16 = (1, 9)) ∧ (T35 x32 = (14, 9)) ∧ NX 7 a T T35 ∧ NX 41 a T T35 ∧ CXJ S0 a 7 T T35 σ36 ∧ UNF a 7 x32 T35 σ36 := ⟨_, _, rfl, rfl, (cx31.newI hx33 (by decide)), (by rw [rowS_ne (by omega)]; exact f55), (by rw [rowS_ne (by omega)]; exact f56), (by rw [rowS_ne (by omega)]; exact f57), (by rw [rowS_ne (by omega)]; exact f58), (by rw [rowS_ne (by omega)]; exact f59), (by rw [rowS_ne (by omega)]; exact f60), (by rw [rowS_ne (by omega)]; exact f61), (by rw [rowS_ne (by omega)]; exact f62), (by rw [rowS_ne (by omega)]; exact f63), (by rw [rowS_ne (by omega)]; exact f64), (by rw [rowS_ne (by omega)]; exact f65), (by rw [rowS_ne (by omega)]; exact f66), (by rw [rowS_ne (by omega)]; exact f67), (by rw [rowS_ne (by omega)]; exact f68), (by rw [rowS_ne (by omega)]; exact f69), (by rw [rowS_ne (by omega)]; exact f70), (by rw [rowS_ne (by omega)]; exact f71), (tk_keep o24 (by decide) hx33), (tk_keep o25 (by decide) hx33), (tk_keep o26 (by decide) hx33), tT_eq, (nx7.mk9 (by decide)), (nx41.mk9 (by decide)), ne34j.1, ne34j.2⟩
  rw [← eT37]
  rw [← eS38]
  refine tn_putFr (ci := 7) (i := 6) (n := 61) (r := true) (v := (x32 : Int)) tyX7 tyX7_ok nmX7 dX7_init_25 rfl lay_7 (by decide) fl7_18 rfl rfl rfl (tyX7_ok 6 (by decide)) (vl_ref rfl).symm rfl rfl (cx39.r (by decide)) rfl rfl ?_
  obtain ⟨σ45, eS47, cx48, f55, f56, f57, f58, f59, f60, f61, f62, f63, f64, f65, f66, f67, f68, f69, f70, f71, cj⟩ : ∃ (σ45 : MS), σ45 = (sA 61 a ((x32 : Int)) σ36) ∧ CX a 7 K 27 3 T σ T35 σ45 ∧ (σ45.2.1 55 a = -1) ∧ (σ45.2.1 56 a = 0) ∧ (σ45.2.1 57 a = 0) ∧ (σ45.2.1 58 a = 0) ∧ (σ45.2.1 59 a = (x1 : Int)) ∧ (σ45.2.1 60 a = (x16 : Int)) ∧ (σ45.2.1 61 a = (x32 : Int)) ∧ (σ45.2.1 62 a = -1) ∧ (σ45.2.1 63 a = -1) ∧ (σ45.2.1 64 a = -1) ∧ (σ45.2.1 65 a = 0) ∧ (σ45.2.1 66 a = 0) ∧ (σ45.2.1 67 a = 0) ∧ (σ45.2.1 68 a = 0) ∧ (σ45.2.1 69 a = -1) ∧ (σ45.2.1 70 a = 0) ∧ (σ45.2.1 71 a = 0) ∧ CXJ S0 a 7 T T35 σ45 := ⟨_, rfl, (cx39.put (by decide)), (rc_o (by decide) f55), (rc_o (by decide) f56), (rc_o (by decide) f57), (rc_o (by decide) f58), (rc_o (by decide) f59), (rc_o (by decide) f60), ra_eq, (rc_o (by decide) f62), (rc_o (by decide) f63), (rc_o (by decide) f64), (rc_o (by decide) f65), (rc_o (by decide) f66), (rc_o (by decide) f67), (rc_o (by decide) f68), (rc_o (by decide) f69), (rc_o (by decide) f70), (rc_o (by decide) f71), (CXJ.putA cj cx39.1 (by decide) rfl un (by rw [o43]; decide) ne34z)⟩
  rw [← eS47]
  refine tn_aload_n dX7_init_28 rfl 0 rfl ?_
  refine tn_bipush dX7_init_29 (by decide) ?_
  refine tn_newI (N := 108) (k := 1) dX7_init_31 arC_int (by decide) rfl (by decide) (fun x49 hx50 => ?_)
  have ne51 := cx48.ne hx50
  have ne51z := (cx48.fresh hx50).resolve_right (fun e => ne51 e.symm)
  have ne51j := CXJ.new (T2 := (tT T35 x49 1 108)) (σ2 := (rowS (1000 + x49) (fun _ => 0) (gh 108 σ45))) cj cx48.1 cx48.2.1 hx50 (by rw [tT_eq]; decide) (fun b9 e9 => tT_ne e9) (fun n9 c9 hn9 hc9 => by rw [rowS_ne (by omega)]; rfl)
  obtain ⟨T52, σ53, eT54, eS55, cx56, f55, f56, f57, f58, f59, f60, f61, f62, f63, f64, f65, f66, f67, f68, f69, f70, f71, o57, o58, o59, o60, o61, nx7, nx41, cj, un⟩ : ∃ (T52 : CT) (σ53 : MS), T52 = (tT T35 x49 1 108) ∧ σ53 = (rowS (1000 + x49) (fun _ => 0) (gh 108 σ45)) ∧ CX a 7 K 135 4 T σ T52 σ53 ∧ (σ53.2.1 55 a = -1) ∧ (σ53.2.1 56 a = 0) ∧ (σ53.2.1 57 a = 0) ∧ (σ53.2.1 58 a = 0) ∧ (σ53.2.1 59 a = (x1 : Int)) ∧ (σ53.2.1 60 a = (x16 : Int)) ∧ (σ53.2.1 61 a = (x32 : Int)) ∧ (σ53.2.1 62 a = -1) ∧ (σ53.2.1 63 a = -1) ∧ (σ53.2.1 64 a = -1) ∧ (σ53.2.1 65 a = 0) ∧ (σ53.2.1 66 a = 0) ∧ (σ53.2.1 67 a = 0) ∧ (σ53.2.1 68 a = 0) ∧ (σ53.2.1 69 a = -1) ∧ (σ53.2.1 70 a = 0) ∧ (σ53.2.1 71 a = 0) ∧ (T52 cs = (4, 6)) ∧ (T52 x1 = (15, 9)) ∧ (T52 x16 = (1, 9)) ∧ (T52 x32 = (14, 9)) ∧ (T52 x49 = (1, 108)) ∧ NX 7 a T T52 ∧ NX 41 a T T52 ∧ CXJ S0 a 7 T T52 σ53 ∧ UNF a 7 x49 T52 σ53 := ⟨_, _, rfl, rfl, (cx48.newI hx50 (by decide)), (by rw [rowS_ne (by omega)]; exact f55), (by rw [rowS_ne (by omega)]; exact f56), (by rw [rowS_ne (by omega)]; exact f57), (by rw [rowS_ne (by omega)]; exact f58), (by rw [rowS_ne (by omega)]; exact f59), (by rw [rowS_ne (by omega)]; exact f60), (by rw [rowS_ne (by omega)]; exact f61), (by rw [rowS_ne (by omega)]; exact f62), (by rw [rowS_ne (by omega)]; exact f63), (by rw [rowS_ne (by omega)]; exact f64), (by rw [rowS_ne (by omega)]; exact f65), (by rw [rowS_ne (by omega)]; exact f66), (by rw [rowS_ne (by omega)]; exact f67), (by rw [rowS_ne (by omega)]; exact f68), (by rw [rowS_ne (by omega)]; exact f69), (by rw [rowS_ne (by omega)]; exact f70), (by rw [rowS_ne (by omega)]; exact f71), (tk_keep o40 (by decide) hx50), (tk_keep o41 (by decide) hx50), (tk_keep o42 (by decide) hx50), (tk_keep o43 (by decide) hx50), tT_eq, (nx7.mk9 (by decide)), (nx41.mk9 (by decide)), ne51j.1, ne51j.2⟩
  rw [← eT54]
  rw [← eS55]
  refine tn_putFr (ci := 7) (i := 7) (n := 62) (r := true) (v := (x49 : Int)) tyX7 tyX7_ok nmX7 dX7_init_33 rfl lay_7 (by decide) fl7_21 rfl rfl rfl (tyX7_ok 7 (by decide)) (vl_ref rfl).symm rfl rfl (cx56.r (by decide)) rfl rfl ?_
  obtain ⟨σ63, eS65, cx66, f55, f56, f57, f58, f59, f60, f61, f62, f63, f64, f65, f66, f67, f68, f69, f70, f71, cj⟩ : ∃ (σ63 : MS), σ63 = (sA 62 a ((x49 : Int)) σ53) ∧ CX a 7 K 135 4 T σ T52 σ63 ∧ (σ63.2.1 55 a = -1) ∧ (σ63.2.1 56 a = 0) ∧ (σ63.2.1 57 a = 0) ∧ (σ63.2.1 58 a = 0) ∧ (σ63.2.1 59 a = (x1 : Int)) ∧ (σ63.2.1 60 a = (x16 : Int)) ∧ (σ63.2.1 61 a = (x32 : Int)) ∧ (σ63.2.1 62 a = (x49 : Int)) ∧ (σ63.2.1 63 a = -1) ∧ (σ63.2.1 64 a = -1) ∧ (σ63.2.1 65 a = 0) ∧ (σ63.2.1 66 a = 0) ∧ (σ63.2.1 67 a = 0) ∧ (σ63.2.1 68 a = 0) ∧ (σ63.2.1 69 a = -1) ∧ (σ63.2.1 70 a = 0) ∧ (σ63.2.1 71 a = 0) ∧ CXJ S0 a 7 T T52 σ63 := ⟨_, rfl, (cx56.put (by decide)), (rc_o (by decide) f55), (rc_o (by decide) f56), (rc_o (by decide) f57), (rc_o (by decide) f58), (rc_o (by decide) f59), (rc_o (by decide) f60), (rc_o (by decide) f61), ra_eq, (rc_o (by decide) f63), (rc_o (by decide) f64), (rc_o (by decide) f65), (rc_o (by decide) f66), (rc_o (by decide) f67), (rc_o (by decide) f68), (rc_o (by decide) f69), (rc_o (by decide) f70), (rc_o (by decide) f71), (CXJ.putA cj cx56.1 (by decide) rfl un (by rw [o61]; decide) ne51z)⟩
  rw [← eS65]
  refine tn_aload_n dX7_init_36 rfl 0 rfl ?_
  refine tn_sipush dX7_init_37 (by decide) ?_
  refine tn_newI (N := 1728) (k := 1) dX7_init_40 arC_int (by decide) rfl (by decide) (fun x67 hx68 => ?_)
  have ne69 := cx66.ne hx68
  have ne69z := (cx66.fresh hx68).resolve_right (fun e => ne69 e.symm)
  have ne69j := CXJ.new (T2 := (tT T52 x67 1 1728)) (σ2 := (rowS (1000 + x67) (fun _ => 0) (gh 1728 σ63))) cj cx66.1 cx66.2.1 hx68 (by rw [tT_eq]; decide) (fun b9 e9 => tT_ne e9) (fun n9 c9 hn9 hc9 => by rw [rowS_ne (by omega)]; rfl)
  obtain ⟨T70, σ71, eT72, eS73, cx74, f55, f56, f57, f58, f59, f60, f61, f62, f63, f64, f65, f66, f67, f68, f69, f70, f71, o75, o76, o77, o78, o79, o80, nx7, nx41, cj, un⟩ : ∃ (T70 : CT) (σ71 : MS), T70 = (tT T52 x67 1 1728) ∧ σ71 = (rowS (1000 + x67) (fun _ => 0) (gh 1728 σ63)) ∧ CX a 7 K 1863 5 T σ T70 σ71 ∧ (σ71.2.1 55 a = -1) ∧ (σ71.2.1 56 a = 0) ∧ (σ71.2.1 57 a = 0) ∧ (σ71.2.1 58 a = 0) ∧ (σ71.2.1 59 a = (x1 : Int)) ∧ (σ71.2.1 60 a = (x16 : Int)) ∧ (σ71.2.1 61 a = (x32 : Int)) ∧ (σ71.2.1 62 a = (x49 : Int)) ∧ (σ71.2.1 63 a = -1) ∧ (σ71.2.1 64 a = -1) ∧ (σ71.2.1 65 a = 0) ∧ (σ71.2.1 66 a = 0) ∧ (σ71.2.1 67 a = 0) ∧ (σ71.2.1 68 a = 0) ∧ (σ71.2.1 69 a = -1) ∧ (σ71.2.1 70 a = 0) ∧ (σ71.2.1 71 a = 0) ∧ (T70 cs = (4, 6)) ∧ (T70 x1 = (15, 9)) ∧ (T70 x16 = (1, 9)) ∧ (T70 x32 = (14, 9)) ∧ (T70 x49 = (1, 108)) ∧ (T70 x67 = (1, 1728)) ∧ NX 7 a T T70 ∧ NX 41 a T T70 ∧ CXJ S0 a 7 T T70 σ71 ∧ UNF a 7 x67 T70 σ71 := ⟨_, _, rfl, rfl, (cx66.newI hx68 (by decide)), (by rw [rowS_ne (by omega)]; exact f55), (by rw [rowS_ne (by omega)]; exact f56), (by rw [rowS_ne (by omega)]; exact f57), (by rw [rowS_ne (by omega)]; exact f58), (by rw [rowS_ne (by omega)]; exact f59), (by rw [rowS_ne (by omega)]; exact f60), (by rw [rowS_ne (by omega)]; exact f61), (by rw [rowS_ne (by omega)]; exact f62), (by rw [rowS_ne (by omega)]; exact f63), (by rw [rowS_ne (by omega)]; exact f64), (by rw [rowS_ne (by omega)]; exact f65), (by rw [rowS_ne (by omega)]; exact f66), (by rw [rowS_ne (by omega)]; exact f67), (by rw [rowS_ne (by omega)]; exact f68), (by rw [rowS_ne (by omega)]; exact f69), (by rw [rowS_ne (by omega)]; exact f70), (by rw [rowS_ne (by omega)]; exact f71), (tk_keep o57 (by decide) hx68), (tk_keep o58 (by decide) hx68), (tk_keep o59 (by decide) hx68), (tk_keep o60 (by decide) hx68), (tk_keep o61 (by decide) hx68), tT_eq, (nx7.mk9 (by decide)), (nx41.mk9 (by decide)), ne69j.1, ne69j.2⟩
  rw [← eT72]
  rw [← eS73]
  refine tn_putFr (ci := 7) (i := 8) (n := 63) (r := true) (v := (x67 : Int)) tyX7 tyX7_ok nmX7 dX7_init_42 rfl lay_7 (by decide) fl7_24 rfl rfl rfl (tyX7_ok 8 (by decide)) (vl_ref rfl).symm rfl rfl (cx74.r (by decide)) rfl rfl ?_
  obtain ⟨σ82, eS84, cx85, f55, f56, f57, f58, f59, f60, f61, f62, f63, f64, f65, f66, f67, f68, f69, f70, f71, cj⟩ : ∃ (σ82 : MS), σ82 = (sA 63 a ((x67 : Int)) σ71) ∧ CX a 7 K 1863 5 T σ T70 σ82 ∧ (σ82.2.1 55 a = -1) ∧ (σ82.2.1 56 a = 0) ∧ (σ82.2.1 57 a = 0) ∧ (σ82.2.1 58 a = 0) ∧ (σ82.2.1 59 a = (x1 : Int)) ∧ (σ82.2.1 60 a = (x16 : Int)) ∧ (σ82.2.1 61 a = (x32 : Int)) ∧ (σ82.2.1 62 a = (x49 : Int)) ∧ (σ82.2.1 63 a = (x67 : Int)) ∧ (σ82.2.1 64 a = -1) ∧ (σ82.2.1 65 a = 0) ∧ (σ82.2.1 66 a = 0) ∧ (σ82.2.1 67 a = 0) ∧ (σ82.2.1 68 a = 0) ∧ (σ82.2.1 69 a = -1) ∧ (σ82.2.1 70 a = 0) ∧ (σ82.2.1 71 a = 0) ∧ CXJ S0 a 7 T T70 σ82 := ⟨_, rfl, (cx74.put (by decide)), (rc_o (by decide) f55), (rc_o (by decide) f56), (rc_o (by decide) f57), (rc_o (by decide) f58), (rc_o (by decide) f59), (rc_o (by decide) f60), (rc_o (by decide) f61), (rc_o (by decide) f62), ra_eq, (rc_o (by decide) f64), (rc_o (by decide) f65), (rc_o (by decide) f66), (rc_o (by decide) f67), (rc_o (by decide) f68), (rc_o (by decide) f69), (rc_o (by decide) f70), (rc_o (by decide) f71), (CXJ.putA cj cx74.1 (by decide) rfl un (by rw [o80]; decide) ne69z)⟩
  rw [← eS84]
  refine tn_aload_n dX7_init_45 rfl 0 rfl ?_
  refine tn_sipush dX7_init_46 (by decide) ?_
  refine tn_newI (N := 200) (k := 1) dX7_init_49 arC_int (by decide) rfl (by decide) (fun x86 hx87 => ?_)
  have ne88 := cx85.ne hx87
  have ne88z := (cx85.fresh hx87).resolve_right (fun e => ne88 e.symm)
  have ne88j := CXJ.new (T2 := (tT T70 x86 1 200)) (σ2 := (rowS (1000 + x86) (fun _ => 0) (gh 200 σ82))) cj cx85.1 cx85.2.1 hx87 (by rw [tT_eq]; decide) (fun b9 e9 => tT_ne e9) (fun n9 c9 hn9 hc9 => by rw [rowS_ne (by omega)]; rfl)
  obtain ⟨T89, σ90, eT91, eS92, cx93, f55, f56, f57, f58, f59, f60, f61, f62, f63, f64, f65, f66, f67, f68, f69, f70, f71, o94, o95, o96, o97, o98, o99, o100, nx7, nx41, cj, un⟩ : ∃ (T89 : CT) (σ90 : MS), T89 = (tT T70 x86 1 200) ∧ σ90 = (rowS (1000 + x86) (fun _ => 0) (gh 200 σ82)) ∧ CX a 7 K 2063 6 T σ T89 σ90 ∧ (σ90.2.1 55 a = -1) ∧ (σ90.2.1 56 a = 0) ∧ (σ90.2.1 57 a = 0) ∧ (σ90.2.1 58 a = 0) ∧ (σ90.2.1 59 a = (x1 : Int)) ∧ (σ90.2.1 60 a = (x16 : Int)) ∧ (σ90.2.1 61 a = (x32 : Int)) ∧ (σ90.2.1 62 a = (x49 : Int)) ∧ (σ90.2.1 63 a = (x67 : Int)) ∧ (σ90.2.1 64 a = -1) ∧ (σ90.2.1 65 a = 0) ∧ (σ90.2.1 66 a = 0) ∧ (σ90.2.1 67 a = 0) ∧ (σ90.2.1 68 a = 0) ∧ (σ90.2.1 69 a = -1) ∧ (σ90.2.1 70 a = 0) ∧ (σ90.2.1 71 a = 0) ∧ (T89 cs = (4, 6)) ∧ (T89 x1 = (15, 9)) ∧ (T89 x16 = (1, 9)) ∧ (T89 x32 = (14, 9)) ∧ (T89 x49 = (1, 108)) ∧ (T89 x67 = (1, 1728)) ∧ (T89 x86 = (1, 200)) ∧ NX 7 a T T89 ∧ NX 41 a T T89 ∧ CXJ S0 a 7 T T89 σ90 ∧ UNF a 7 x86 T89 σ90 := ⟨_, _, rfl, rfl, (cx85.newI hx87 (by decide)), (by rw [rowS_ne (by omega)]; exact f55), (by rw [rowS_ne (by omega)]; exact f56), (by rw [rowS_ne (by omega)]; exact f57), (by rw [rowS_ne (by omega)]; exact f58), (by rw [rowS_ne (by omega)]; exact f59), (by rw [rowS_ne (by omega)]; exact f60), (by rw [rowS_ne (by omega)]; exact f61), (by rw [rowS_ne (by omega)]; exact f62), (by rw [rowS_ne (by omega)]; exact f63), (by rw [rowS_ne (by omega)]; exact f64), (by rw [rowS_ne (by omega)]; exact f65), (by rw [rowS_ne (by omega)]; exact f66), (by rw [rowS_ne (by omega)]; exact f67), (by rw [rowS_ne (by omega)]; exact f68), (by rw [rowS_ne (by omega)]; exact f69), (by rw [rowS_ne (by omega)]; exact f70), (by rw [rowS_ne (by omega)]; exact f71), (tk_keep o75 (by decide) hx87), (tk_keep o76 (by decide) hx87), (tk_keep o77 (by decide) hx87), (tk_keep o78 (by decide) hx87), (tk_keep o79 (by decide) hx87), (tk_keep o80 (by decide) hx87), tT_eq, (nx7.mk9 (by decide)), (nx41.mk9 (by decide)), ne88j.1, ne88j.2⟩
  rw [← eT91]
  rw [← eS92]
  refine tn_putFr (ci := 7) (i := 9) (n := 64) (r := true) (v := (x86 : Int)) tyX7 tyX7_ok nmX7 dX7_init_51 rfl lay_7 (by decide) fl7_27 rfl rfl rfl (tyX7_ok 9 (by decide)) (vl_ref rfl).symm rfl rfl (cx93.r (by decide)) rfl rfl ?_
  obtain ⟨σ102, eS104, cx105, f55, f56, f57, f58, f59, f60, f61, f62, f63, f64, f65, f66, f67, f68, f69, f70, f71, cj⟩ : ∃ (σ102 : MS), σ102 = (sA 64 a ((x86 : Int)) σ90) ∧ CX a 7 K 2063 6 T σ T89 σ102 ∧ (σ102.2.1 55 a = -1) ∧ (σ102.2.1 56 a = 0) ∧ (σ102.2.1 57 a = 0) ∧ (σ102.2.1 58 a = 0) ∧ (σ102.2.1 59 a = (x1 : Int)) ∧ (σ102.2.1 60 a = (x16 : Int)) ∧ (σ102.2.1 61 a = (x32 : Int)) ∧ (σ102.2.1 62 a = (x49 : Int)) ∧ (σ102.2.1 63 a = (x67 : Int)) ∧ (σ102.2.1 64 a = (x86 : Int)) ∧ (σ102.2.1 65 a = 0) ∧ (σ102.2.1 66 a = 0) ∧ (σ102.2.1 67 a = 0) ∧ (σ102.2.1 68 a = 0) ∧ (σ102.2.1 69 a = -1) ∧ (σ102.2.1 70 a = 0) ∧ (σ102.2.1 71 a = 0) ∧ CXJ S0 a 7 T T89 σ102 := ⟨_, rfl, (cx93.put (by decide)), (rc_o (by decide) f55), (rc_o (by decide) f56), (rc_o (by decide) f57), (rc_o (by decide) f58), (rc_o (by decide) f59), (rc_o (by decide) f60), (rc_o (by decide) f61), (rc_o (by decide) f62), (rc_o (by decide) f63), ra_eq, (rc_o (by decide) f65), (rc_o (by decide) f66), (rc_o (by decide) f67), (rc_o (by decide) f68), (rc_o (by decide) f69), (rc_o (by decide) f70), (rc_o (by decide) f71), (CXJ.putA cj cx93.1 (by decide) rfl un (by rw [o100]; decide) ne88z)⟩
  rw [← eS104]
  refine tn_aload_n dX7_init_54 rfl 0 rfl ?_
  refine tn_aload_n dX7_init_55 rfl 1 rfl ?_
  refine tn_putFr (ci := 7) (i := 0) (n := 55) (r := true) (v := (cs : Int)) tyX7 tyX7_ok nmX7 dX7_init_56 rfl lay_7 (by decide) fl7_30 rfl rfl rfl (tyX7_ok 0 (by decide)) (vl_ref rfl).symm rfl rfl (cx105.r (by decide)) rfl rfl ?_
  obtain ⟨σ107, eS109, cx110, f55, f56, f57, f58, f59, f60, f61, f62, f63, f64, f65, f66, f67, f68, f69, f70, f71, cj⟩ : ∃ (σ107 : MS), σ107 = (sA 55 a ((cs : Int)) σ102) ∧ CX a 7 K 2063 6 T σ T89 σ107 ∧ (σ107.2.1 55 a = (cs : Int)) ∧ (σ107.2.1 56 a = 0) ∧ (σ107.2.1 57 a = 0) ∧ (σ107.2.1 58 a = 0) ∧ (σ107.2.1 59 a = (x1 : Int)) ∧ (σ107.2.1 60 a = (x16 : Int)) ∧ (σ107.2.1 61 a = (x32 : Int)) ∧ (σ107.2.1 62 a = (x49 : Int)) ∧ (σ107.2.1 63 a = (x67 : Int)) ∧ (σ107.2.1 64 a = (x86 : Int)) ∧ (σ107.2.1 65 a = 0) ∧ (σ107.2.1 66 a = 0) ∧ (σ107.2.1 67 a = 0) ∧ (σ107.2.1 68 a = 0) ∧ (σ107.2.1 69 a = -1) ∧ (σ107.2.1 70 a = 0) ∧ (σ107.2.1 71 a = 0) ∧ CXJ S0 a 7 T T89 σ107 := ⟨_, rfl, (cx105.put (by decide)), ra_eq, (rc_o (by decide) f56), (rc_o (by decide) f57), (rc_o (by decide) f58), (rc_o (by decide) f59), (rc_o (by decide) f60), (rc_o (by decide) f61), (rc_o (by decide) f62), (rc_o (by decide) f63), (rc_o (by decide) f64), (rc_o (by decide) f65), (rc_o (by decide) f66), (rc_o (by decide) f67), (rc_o (by decide) f68), (rc_o (by decide) f69), (rc_o (by decide) f70), (rc_o (by decide) f71), (CXJ.put cj cx105.1 cx105.2.1 (by decide))⟩
  rw [← eS109]
  refine tn_tag (ci := 7) (k := 57) (by decide) cx110.1 (by decide) ?_
  have hf9 : ∀ m, m < 111 → cls m = 7 → FO m 57 T89 (σ107.2.1 m a) := fun m hm9 hc9 => by
    have q9 := clsR_7 m hm9 hc9
    have q8 : m = 55 ∨ m = 56 ∨ m = 57 ∨ m = 58 ∨ m = 59 ∨ m = 60 ∨ m = 61 ∨ m = 62 ∨ m = 63 ∨ m = 64 ∨ m = 65 ∨ m = 66 ∨ m = 67 ∨ m = 68 ∨ m = 69 ∨ m = 70 ∨ m = 71 := by omega
    rcases q8 with q8 | q8 | q8 | q8 | q8 | q8 | q8 | q8 | q8 | q8 | q8 | q8 | q8 | q8 | q8 | q8 | q8
    · subst q8; rw [f55]; exact fo_55 ⟨_, rfl, by rw [o94], fun _ => tg1 o94, fun h => absurd rfl h⟩
    · subst q8; rw [f56]; exact fo_56 (by decide)
    · subst q8; rw [f57]; exact fo_57 (by decide)
    · subst q8; rw [f58]; exact fo_58 (by decide)
    · subst q8; rw [f59]; exact fo_59 (⟨_, rfl, AR.of o95 (by decide) (by decide)⟩)
    · subst q8; rw [f60]; exact fo_60 (⟨_, rfl, AR.of o96 (by decide) (by decide)⟩)
    · subst q8; rw [f61]; exact fo_61 ⟨_, rfl, by rw [o97], fun _ => tg1 o97, fun h => absurd rfl h⟩
    · subst q8; rw [f62]; exact fo_62 (⟨_, rfl, AR.of o98 (by decide) (by decide)⟩)
    · subst q8; rw [f63]; exact fo_63 (⟨_, rfl, AR.of o99 (by decide) (by decide)⟩)
    · subst q8; rw [f64]; exact fo_64 (⟨_, rfl, AR.of o100 (by decide) (by decide)⟩)
    · subst q8; rw [f65]; exact fo_65 (by decide)
    · subst q8; rw [f66]; exact fo_66 (by decide)
    · subst q8; rw [f67]; exact fo_67 (by decide)
    · subst q8; rw [f68]; exact fo_68 (by decide)
    · subst q8; rw [f69]; exact fo_69 (Or.inl (by decide))
    · subst q8; rw [f70]; exact fo_70 (by decide)
    · subst q8; rw [f71]; exact fo_71 (by decide)
  have jq9 : ∀ f ∈ AFL, cls f = 7 → f = 59 ∨ f = 60 ∨ f = 61 ∨ f = 62 ∨ f = 63 ∨ f = 64 := by decide
  have cjf := CXJ.fin (k := 57) cj cx110.1 (by decide) (fun f9 h9 c9 => by
    have q7 := jq9 f9 h9 c9
    rcases q7 with q7 | q7 | q7 | q7 | q7 | q7
    · subst q7; rw [f59]; exact Int.natCast_nonneg _
    · subst q7; rw [f60]; exact Int.natCast_nonneg _
    · subst q7; rw [f61]; exact Int.natCast_nonneg _
    · subst q7; rw [f62]; exact Int.natCast_nonneg _
    · subst q7; rw [f63]; exact Int.natCast_nonneg _
    · subst q7; rw [f64]; exact Int.natCast_nonneg _)
  exact tn_vret rfl dX7_init_59 ⟨rfl, tT_eq, cx110.2.1.tag cx110.1 (by decide) hf9 (fun h => absurd h (by decide)), cx110.2.2.1.tag (by rw [cx110.1]; decide) (by decide), cx110.2.2.2.1.tag, cx110.2.2.2.2.1, cx110.2.2.2.2.2, cjf.1, cjf.2, nx7.tag, nx41.tag, f57, f55, f56⟩
end
section
def PRQ (T : CT) (σ : MS) (T2 : CT) (σ2 : MS) (a : Nat) : Prop := (∀ (f b : Nat), f < 200 → (T b).1 ≠ 0 → ¬ (f = 110 ∧ b = a) → σ2.2.1 f (b : Int) = σ.2.1 f b) ∧ (∀ x : Nat, (T x).1 ≠ 0 → σ2.2.1 (1000 + x) = σ.2.1 (1000 + x)) ∧ σ2.2.1 900 = σ.2.1 900 ∧ GT T T2
section PRQS
variable {S : Nat → Prop} {T T1 T2 : CT} {σ S1 S2 σ2 : MS} {a x : Nat}
theorem PRQ.mk (hx : (T x).1 = 0) (hT1 : ∀ c, c ≠ x → T1 c = T c) (hf1 : ∀ n c, n < 200 → c ≠ x → S1.2.1 n (c : Int) = σ.2.1 n c) (h91 : S1.2.1 900 = σ.2.1 900) (eS : S1 = objS x (gh 5 σ)) (k1 : KPx x T1 S1 T2 S2) : PRQ T σ T2 (sA 110 a x S2) a := by
  refine ⟨fun f b hf hb hn => ?_, fun y hy => ?_, ?_, fun c z1 z2 => ?_⟩
  · have e : b ≠ x := fun e => hb (by rw [e]; exact hx)
    have k := k1.1 b (by rw [hT1 b e]; exact hb) e
    by_cases q : f = 110
    · rw [sA_ne (by omega), k.2.1 f hf, hf1 f b hf e]
    · rw [sA_k q, k.2.1 f hf, hf1 f b hf e]
  · have e : y ≠ x := fun e => hy (by rw [e]; exact hx)
    have k := k1.1 y (by rw [hT1 y e]; exact hy) e
    rw [sA_k (by omega), k.2.2, eS, objS_hi (by omega)]
    rfl
  · rw [sA_k (by omega), k1.2, h91]
  · have e : c ≠ x := fun e => z1 (by rw [e]; exact hx)
    exact ((k1.1 c (by rw [hT1 c e]; exact z1) e).1).trans (hT1 c e)
theorem inj_new (hI : INJ S T σ) (hT1 : ∀ c, c ≠ x → T1 c = T c) (hx1 : T1 x = (80, 0)) (hf1 : ∀ n c, n < 200 → c ≠ x → S1.2.1 n (c : Int) = σ.2.1 n c) : INJT (fun b => S b ∨ (T b).1 = 0) T1 S1 := by
  have nx : ∀ b, FIN T1 b → b ≠ x := fun b h e => by
    have z := h.2
    rw [e, hx1] at z
    exact absurd z (by decide)
  have sb : ∀ b, FIN T1 b ∧ (S b ∨ (T b).1 = 0) → S b ∧ T1 b = T b := fun b h => by
    have e := hT1 b (nx b h.1)
    refine ⟨h.2.resolve_right (fun z => ?_), e⟩
    have w := h.1.1
    rw [e] at w
    omega
  refine ⟨fun b h => h.1, fun f g a b hf hg ha hb oa ob e => ?_⟩
  have lf := afl_lt hf
  have lg := afl_lt hg
  have ea : adN S1 f a = adN σ f a := by unfold adN; rw [hf1 f a (by omega) (nx a ha.1)]
  have eb : adN S1 g b = adN σ g b := by unfold adN; rw [hf1 g b (by omega) (nx b hb.1)]
  rw [ea, eb] at e
  exact hI.2 f g a b hf hg (sb a ha).1 (sb b hb).1 (by unfold OB at *; rw [(sb a ha).2] at oa; exact oa) (by unfold OB at *; rw [(sb b hb).2] at ob; exact ob) e
def NW6 (S : Nat → Prop) (T T2 : CT) (b : Nat) : Prop := FIN T2 b ∧ (S b ∨ (T b).1 = 0)
def PRI (S : Nat → Prop) (T T2 : CT) (σ2 : MS) (a : Nat) : Prop := (∀ b, S b → NW6 S T T2 b) ∧ INJ (NW6 S T T2) T2 σ2 ∧ (∀ f b : Nat, f ∈ AFL → FIN T2 b → (T b).1 = 0 → OB T2 b (cls f) → (T (adN σ2 f b)).1 = 0) ∧ ∀ p : Nat, σ2.2.1 110 a = (p : Int) → ((T (adN σ2 0 p)).1 = 0 ∧ (T (adN σ2 1 p)).1 = 0)
theorem pair_inj {tt tt1 : Nat} (hI : INJ S T σ) (hx : (T x).1 = 0) (hT1 : ∀ c, c ≠ x → T1 c = T c) (k1 : KPx x T1 S1 T2 S2) (hx1 : T1 x = (80, 0)) (hij : INJT (fun b => S b ∨ (T b).1 = 0) T2 S2) (frn : FRN T1 T2 S2) (h0 : S2.2.1 0 (x : Int) = (tt : Int)) (h1 : S2.2.1 1 (x : Int) = (tt1 : Int)) (z0 : (T1 tt).1 = 0) (z1 : (T1 tt1).1 = 0) : PRI S T T2 (sA 110 a x S2) a := by
  have tz : ∀ c, (T1 c).1 = 0 → (T c).1 = 0 := fun c h => by
    by_cases e : c = x
    · rw [e]; exact hx
    · rw [← hT1 c e]; exact h
  refine ⟨fun b sb => ?_, ?_, fun f b hf fb tb ob => ?_, fun p hp => ?_⟩
  · have w := hI.1 b sb
    have e : b ≠ x := fun e => by rw [e] at w; omega
    have k := (k1.1 b (by rw [hT1 b e]; omega) e).1.trans (hT1 b e)
    exact ⟨by unfold FIN; rw [k]; exact w, Or.inl sb⟩
  · refine ⟨hij.1, fun f g c b hf hg hc hb oc ob e => hij.2 f g c b hf hg hc hb oc ob ?_⟩
    have lf := afl_lt hf
    have lg := afl_lt hg
    have nf : f ≠ 110 ∧ g ≠ 110 := by
      simp only [List.mem_cons, List.not_mem_nil, or_false] at hf hg
      omega
    unfold adN at e ⊢
    rw [sA_k nf.1, sA_k nf.2] at e
    exact e
  · have nf : f ≠ 110 := by
      simp only [List.mem_cons, List.not_mem_nil, or_false] at hf
      omega
    have n1 : ¬ FIN T1 b := fun z => by
      by_cases e : b = x
      · have z2 := z.2
        rw [e, hx1] at z2
        exact absurd z2 (by decide)
      · have z2 := z.1
        rw [hT1 b e] at z2
        omega
    have w := tz _ (frn f b hf fb n1 ob)
    unfold adN at w ⊢
    rw [sA_k nf]
    exact w
  · rw [show (sA 110 a x S2).2.1 110 a = (x : Int) from ra_eq] at hp
    have e9 : p = x := by omega
    subst e9
    unfold adN
    rw [sA_k (by omega), sA_k (by omega), h0, h1]
    exact ⟨tz tt z0, tz tt1 z1⟩
theorem PRQ.rk (q : PRQ T σ T2 σ2 a) (hw : WT T σ) (oa : OB T a 11) : RK7 σ σ2 a := by
  have na : (T a).1 ≠ 0 := by have := oa.1; omega
  refine ⟨q.1 103 a (by decide) na (fun w => absurd w.1 (by decide)), q.1 99 a (by decide) na (fun w => absurd w.1 (by decide)), fun rn e => ?_⟩
  have t := ob_of (wf_103 hw oa) e
  refine ⟨fun f f0 f1 => q.1 f rn (by omega) (by omega) (fun w => by omega), fun f hf => q.2.1 _ ?_⟩
  obtain ⟨-, fa, fc⟩ := rn_lt hf
  exact (afk_t hw fa (by rw [fc]; exact ⟨by omega, by rw [t]; rfl, by omega⟩)).1
theorem KB6.pair {C E M : Int → Nat} (h : KB6 S T σ a C E M) (oa : OB T a 11) (hw : WT T σ) (hw2 : WT T2 σ2) (q : PRQ T σ T2 σ2 a) (i : PRI S T T2 σ2 a) : KB6 (NW6 S T T2) T2 σ2 a C E M ∧ ∀ r, 0 ≤ r → r < 6 → CSM σ σ2 (C r) ∧ CSM σ σ2 (M r) := by
  obtain ⟨q1, q2, q3, gt⟩ := q
  obtain ⟨i1, i2, i4, i3⟩ := i
  have oa2 : OB T2 a 11 := gt.ob oa
  have na : (T a).1 ≠ 0 := by have := oa.1; omega
  have fa : ∀ f : Nat, f < 200 → f ≠ 110 → σ2.2.1 f (a : Int) = σ.2.1 f a := fun f hf hn => q1 f a hf na (fun z => hn z.1)
  have ad : ∀ f : Nat, f < 200 → f ≠ 110 → adN σ2 f a = adN σ f a := fun f hf hn => by unfold adN; rw [fa f hf hn]
  have x1 := KEM.xs hw oa
  have o107 := (ad_ex (Q := fun x => (T x).1 = 32) (wf_107 hw oa)).2
  have o108 := (ad_ex (Q := fun x => (T x).1 = 34) (wf_108 hw oa)).2
  have o109 := (ad_ex (Q := fun x => (T x).1 = 38) (wf_109 hw oa)).2
  obtain ⟨⟨k1, k2, k3⟩, k4, k5, k6⟩ := h.1
  have oo : ∀ f b : Nat, f < 200 → f ≠ 110 → (T b).1 ≠ 0 → adN σ2 f b = adN σ f b := fun f b hf hn hb => by unfold adN; rw [q1 f b hf hb (fun z => hn z.1)]
  have tt : ∀ b, (T b).1 ≠ 0 → (T b).1 < 80 → T2 b = T b := fun b z1 z2 => gt b z1 z2
  refine ⟨⟨⟨⟨i2, ?_, ?_⟩, fun r r0 r6 => ?_, k5, k6⟩, ⟨i2, ?_, ?_, fun p hp => ?_⟩, ?_⟩, fun r r0 r6 => ?_⟩
  · unfold KST
    rw [ad 106 (by decide) (by decide), ad 107 (by decide) (by decide), ad 108 (by decide) (by decide), ad 109 (by decide) (by decide), ad 102 (by decide) (by decide), oo 17 (adN σ 107 a) (by decide) (by decide) (by omega), oo 23 (adN σ 108 a) (by decide) (by decide) (by omega), oo 72 (adN σ 109 a) (by decide) (by decide) (by omega)]
    exact ⟨i1 _ k2.1, i1 _ k2.2.1, i1 _ k2.2.2.1, i1 _ k2.2.2.2.1, i1 _ k2.2.2.2.2.1, i1 _ k2.2.2.2.2.2.1, i1 _ k2.2.2.2.2.2.2.1, i1 _ k2.2.2.2.2.2.2.2⟩
  · unfold SPX
    rw [ad 100 (by decide) (by decide), oo 34 (adN σ 100 a) (by decide) (by decide) (by have := x1.2.2.2.1.1; omega), q2 (adN σ 34 (adN σ 100 a)) (by rw [x1.1]; decide)]
    refine ⟨i1 _ k3.1, fun p p0 p1 => ?_, k3.2.2⟩
    have z := k3.2.1 p p0 p1
    exact ⟨z.1, i1 _ z.2.1, by rw [tt _ (by rw [z.2.2]; decide) (by rw [z.2.2]; decide)]; exact z.2.2⟩
  · have z := k4 r r0 r6
    rw [ad 99 (by decide) (by decide), ad 98 (by decide) (by decide), q2 (adN σ 99 a) (by rw [x1.2.2.1]; decide), q2 (adN σ 98 a) (by rw [x1.2.1]; decide)]
    exact ⟨⟨z.1.1, i1 _ z.1.2.1, by rw [tt _ (by rw [z.1.2.2]; decide) (by rw [z.1.2.2]; decide)]; exact z.1.2.2⟩, ⟨z.2.1, i1 _ z.2.2.1, by rw [tt _ (by rw [z.2.2.2]; decide) (by rw [z.2.2.2]; decide)]; exact z.2.2.2⟩⟩
  · intro j t j0 j6 e f b hf sb ob
    rw [q3] at e
    have e1 := tb_tag hw j0 j6 e
    rcases sb.2 with s9 | s9
    · have w := k1.1 b s9
      have tb := tt b (by omega) w.2
      rw [oo f b (by have := afl_lt hf; omega) (by simp only [List.mem_cons, List.not_mem_nil, or_false] at hf; omega) (by omega)]
      exact h.2.1.2.1 j t j0 j6 e f b hf s9 (by unfold OB at *; rw [tb] at ob; exact ob)
    · intro e9
      have n9 := i4 f b hf sb.1 s9 ob
      rw [← e9] at n9
      omega
  · rw [ad 102 (by decide) (by decide)]
    exact i1 _ h.2.1.2.2.1
  · have z := i3 p hp
    have op : OB T2 p 0 := by
      have w := (wf_110 hw2 oa2)
      rcases w with w | ⟨y, hy, ky⟩
      · omega
      · have e : p = y := by omega
        rw [e]
        exact ⟨by omega, by rw [ky]; rfl, by omega⟩
    have f0 := (ad_ex (Q := fun x => (T2 x).1 = 37) (wf_0 hw2 op)).2
    have f1 := (ad_ex (Q := fun x => (T2 x).1 = 57) (wf_1 hw2 op)).2
    exact ⟨⟨⟨by omega, by omega⟩, Or.inr z.1⟩, ⟨⟨by omega, by omega⟩, Or.inr z.2⟩⟩
  · rw [ad 103 (by decide) (by decide)]
    exact i1 _ h.2.2
  · have z := k4 r r0 r6
    suffices key : ∀ c, OB T c 1 → CSM σ σ2 c from ⟨key _ (ob50 z.1.2.2), key _ ⟨by have := z.2.2.2; omega, by rw [z.2.2.2]; rfl, by have := z.2.2.2; omega⟩⟩
    intro c o1
    refine ⟨fun f f0 f1 => q1 f c (by omega) (by have := o1.1; omega) (fun w => by omega), fun f hf => q2 _ ?_⟩
    have w := afk_t hw (f := f) (b := c) (by simp only [List.mem_cons, List.not_mem_nil, or_false] at hf ⊢; omega) (by
      have c1 : cls f = 1 := by simp only [List.mem_cons, List.not_mem_nil, or_false] at hf; rcases hf with rfl | rfl | rfl | rfl | rfl | rfl <;> rfl
      rw [c1]; exact o1)
    exact w.1
theorem KB6.q {C E M : Int → Nat} (hK : KB6 S T σ a C E M) (ha : OB T a 11) (hw : WT T σ) (gt : GT T T2) (q : QFR S T σ σ2) (b : BSQ S T2 σ2 a) : KB6 S T2 σ2 a C E M ∧ ∀ r, 0 ≤ r → r < 6 → CSM σ σ2 (C r) ∧ CSM σ σ2 (M r) := ⟨⟨hK.1.q ha hw gt q, b, by rw [q.ad (by decide) (by unfold QF; omega)]; exact hK.2.2⟩, fun r x y => ⟨CSM.q q (hK.co x y).1 (ob50 (hK.co x y).2), hK.csq q x y⟩⟩
end PRQS
end
