theorem cd_X8_comeTo : Cond.code yX8_comeTo cX8_comeTo 9 none ∈ pWW := pw6 (List.mem_of_getElem? (i := 11) rfl) rfl
abbrev m_X8_comeTo : MT := (yX8_comeTo, cX8_comeTo, 9, none)
theorem ok_X8_comeTo : pOk m_X8_comeTo := ⟨⟨cd_X8_comeTo, ini_8⟩, by decide +kernel, ⟨by decide +kernel, by decide +kernel⟩, Nat.le_of_ble_eq_true rfl⟩
theorem np_X8_comeTo : (parseMethodDescriptor yX8_comeTo.desc).map (fun d => d.parameters.length) = some 2 := by decide +kernel
theorem im_X8_comeTo : Cond.instanceMethod yX8_comeTo ∈ pWW := pw6 (List.mem_of_getElem? (i := 10) rfl) rfl
theorem se_X8_comeTo : Cond.selects RX8 yX8_comeTo yX8_comeTo ∈ pWW := pws (List.mem_map.mpr ⟨_, lw_pin 82 rfl, rfl⟩) rfl
theorem fl8_28 : Cond.fieldLink RX8 28 (TX8 6).1 (TX8 6).2.1 (TX8 6).2.2.1 ∈ pWW := pw2 (List.mem_of_getElem? (i := 104) rfl) rfl
theorem nl8_74 : (RX8, 74, yX11_at, "LineKeeper") ∈ nst_M := List.mem_of_getElem? (i := 45) rfl
theorem fl8_25 : Cond.fieldLink RX8 25 (TX8 5).1 (TX8 5).2.1 (TX8 5).2.2.1 ∈ pWW := pw2 (List.mem_of_getElem? (i := 103) rfl) rfl
theorem fl8_31 : Cond.fieldLink RX8 31 (TX8 7).1 (TX8 7).2.1 (TX8 7).2.2.1 ∈ pWW := pw2 (List.mem_of_getElem? (i := 105) rfl) rfl
theorem fl8_142 : Cond.fieldLink RX8 142 (TX8 8).1 (TX8 8).2.1 (TX8 8).2.2.1 ∈ pWW := pw2 (List.mem_of_getElem? (i := 106) rfl) rfl
theorem nl8_152 : (RX8, 152, yX11_putBits, "LineKeeper") ∈ nst_M := List.mem_of_getElem? (i := 46) rfl
theorem dX8_comeTo_0 : decode cX8_comeTo 0 = .ok (.iload_n 2, 1) := by decide +kernel
theorem dX8_comeTo_1 : decode cX8_comeTo 1 = .ok (.ifCond .lt 11, 3) := by decide +kernel
theorem dX8_comeTo_12 : decode cX8_comeTo 12 = .ok (.return_, 1) := by decide +kernel
theorem dX8_comeTo_4 : decode cX8_comeTo 4 = .ok (.iload_n 2, 1) := by decide +kernel
theorem dX8_comeTo_5 : decode cX8_comeTo 5 = .ok (.aload_n 1, 1) := by decide +kernel
theorem dX8_comeTo_6 : decode cX8_comeTo 6 = .ok (.getfield 70, 3) := by decide +kernel
theorem dX8_comeTo_9 : decode cX8_comeTo 9 = .ok (.if_icmp .le 4, 3) := by decide +kernel
theorem dX8_comeTo_13 : decode cX8_comeTo 13 = .ok (.aload_n 0, 1) := by decide +kernel
theorem dX8_comeTo_14 : decode cX8_comeTo 14 = .ok (.getfield 28, 3) := by decide +kernel
theorem dX8_comeTo_17 : decode cX8_comeTo 17 = .ok (.iload_n 2, 1) := by decide +kernel
theorem dX8_comeTo_18 : decode cX8_comeTo 18 = .ok (.invokestatic 74, 3) := by decide +kernel
theorem dX8_comeTo_21 : decode cX8_comeTo 21 = .ok (.ifCond .ne 7, 3) := by decide +kernel
theorem dX8_comeTo_28 : decode cX8_comeTo 28 = .ok (.iconst 0, 1) := by decide +kernel
theorem dX8_comeTo_29 : decode cX8_comeTo 29 = .ok (.istore_n 3, 1) := by decide +kernel
theorem dX8_comeTo_30 : decode cX8_comeTo 30 = .ok (.iconst 0, 1) := by decide +kernel
theorem dX8_comeTo_31 : decode cX8_comeTo 31 = .ok (.istore 4, 2) := by decide +kernel
theorem dX8_comeTo_33 : decode cX8_comeTo 33 = .ok (.iload 4, 2) := by decide +kernel
theorem dX8_comeTo_35 : decode cX8_comeTo 35 = .ok (.iconst 3, 1) := by decide +kernel
theorem dX8_comeTo_36 : decode cX8_comeTo 36 = .ok (.if_icmp .ge 95, 3) := by decide +kernel
theorem dX8_comeTo_39 : decode cX8_comeTo 39 = .ok (.aload_n 0, 1) := by decide +kernel
theorem dX8_comeTo_40 : decode cX8_comeTo 40 = .ok (.getfield 25, 3) := by decide +kernel
theorem dX8_comeTo_43 : decode cX8_comeTo 43 = .ok (.iload_n 2, 1) := by decide +kernel
theorem dX8_comeTo_44 : decode cX8_comeTo 44 = .ok (.iconst 3, 1) := by decide +kernel
theorem dX8_comeTo_45 : decode cX8_comeTo 45 = .ok (.imul, 1) := by decide +kernel
theorem dX8_comeTo_46 : decode cX8_comeTo 46 = .ok (.iload 4, 2) := by decide +kernel
theorem dX8_comeTo_48 : decode cX8_comeTo 48 = .ok (.iadd, 1) := by decide +kernel
theorem dX8_comeTo_49 : decode cX8_comeTo 49 = .ok (.invokestatic 132, 3) := by decide +kernel
theorem dX8_comeTo_52 : decode cX8_comeTo 52 = .ok (.lstore 5, 2) := by decide +kernel
theorem dX8_comeTo_54 : decode cX8_comeTo 54 = .ok (.iload_n 3, 1) := by decide +kernel
theorem dX8_comeTo_55 : decode cX8_comeTo 55 = .ok (.ifCond .eq 15, 3) := by decide +kernel
theorem dX8_comeTo_70 : decode cX8_comeTo 70 = .ok (.lload 5, 2) := by decide +kernel
theorem dX8_comeTo_72 : decode cX8_comeTo 72 = .ok (.aload_n 0, 1) := by decide +kernel
theorem dX8_comeTo_73 : decode cX8_comeTo 73 = .ok (.getfield 31, 3) := by decide +kernel
theorem dX8_comeTo_76 : decode cX8_comeTo 76 = .ok (.iload 4, 2) := by decide +kernel
theorem dX8_comeTo_78 : decode cX8_comeTo 78 = .ok (.invokestatic 132, 3) := by decide +kernel
theorem dX8_comeTo_81 : decode cX8_comeTo 81 = .ok (.land, 1) := by decide +kernel
theorem dX8_comeTo_82 : decode cX8_comeTo 82 = .ok (.lstore 7, 2) := by decide +kernel
theorem dX8_comeTo_84 : decode cX8_comeTo 84 = .ok (.aload_n 0, 1) := by decide +kernel
theorem dX8_comeTo_85 : decode cX8_comeTo 85 = .ok (.dup, 1) := by decide +kernel
theorem dX8_comeTo_86 : decode cX8_comeTo 86 = .ok (.getfield 142, 3) := by decide +kernel
theorem dX8_comeTo_89 : decode cX8_comeTo 89 = .ok (.iload_n 3, 1) := by decide +kernel
theorem dX8_comeTo_90 : decode cX8_comeTo 90 = .ok (.ifCond .ne 11, 3) := by decide +kernel
theorem dX8_comeTo_93 : decode cX8_comeTo 93 = .ok (.lload 7, 2) := by decide +kernel
theorem dX8_comeTo_95 : decode cX8_comeTo 95 = .ok (.lload 5, 2) := by decide +kernel
theorem dX8_comeTo_97 : decode cX8_comeTo 97 = .ok (.lcmp, 1) := by decide +kernel
theorem dX8_comeTo_98 : decode cX8_comeTo 98 = .ok (.ifCond .eq 7, 3) := by decide +kernel
theorem dX8_comeTo_105 : decode cX8_comeTo 105 = .ok (.iconst 0, 1) := by decide +kernel
theorem dX8_comeTo_106 : decode cX8_comeTo 106 = .ok (.ior, 1) := by decide +kernel
theorem dX8_comeTo_107 : decode cX8_comeTo 107 = .ok (.putfield 142, 3) := by decide +kernel
theorem dX8_comeTo_110 : decode cX8_comeTo 110 = .ok (.aload_n 0, 1) := by decide +kernel
theorem dX8_comeTo_111 : decode cX8_comeTo 111 = .ok (.getfield 25, 3) := by decide +kernel
theorem dX8_comeTo_114 : decode cX8_comeTo 114 = .ok (.iload_n 2, 1) := by decide +kernel
theorem dX8_comeTo_115 : decode cX8_comeTo 115 = .ok (.iconst 3, 1) := by decide +kernel
theorem dX8_comeTo_116 : decode cX8_comeTo 116 = .ok (.imul, 1) := by decide +kernel
theorem dX8_comeTo_117 : decode cX8_comeTo 117 = .ok (.iload 4, 2) := by decide +kernel
theorem dX8_comeTo_119 : decode cX8_comeTo 119 = .ok (.iadd, 1) := by decide +kernel
theorem dX8_comeTo_120 : decode cX8_comeTo 120 = .ok (.lload 7, 2) := by decide +kernel
theorem dX8_comeTo_122 : decode cX8_comeTo 122 = .ok (.invokestatic 152, 3) := by decide +kernel
theorem dX8_comeTo_125 : decode cX8_comeTo 125 = .ok (.iinc 4 1, 3) := by decide +kernel
theorem dX8_comeTo_128 : decode cX8_comeTo 128 = .ok (.goto (-95), 3) := by decide +kernel
theorem dX8_comeTo_101 : decode cX8_comeTo 101 = .ok (.iconst 1, 1) := by decide +kernel
theorem dX8_comeTo_102 : decode cX8_comeTo 102 = .ok (.goto 4, 3) := by decide +kernel
theorem dX8_comeTo_58 : decode cX8_comeTo 58 = .ok (.aload_n 0, 1) := by decide +kernel
theorem dX8_comeTo_59 : decode cX8_comeTo 59 = .ok (.getfield 31, 3) := by decide +kernel
theorem dX8_comeTo_62 : decode cX8_comeTo 62 = .ok (.iload 4, 2) := by decide +kernel
theorem dX8_comeTo_64 : decode cX8_comeTo 64 = .ok (.invokestatic 132, 3) := by decide +kernel
theorem dX8_comeTo_67 : decode cX8_comeTo 67 = .ok (.goto 15, 3) := by decide +kernel
set_option maxRecDepth 20000 in
theorem l_X8_comeTo_33 (d : Nat) {T : CT} {σ0 : MS} {a : Nat} {c2 : Int} {c3 : Int} {post : Option Value → CT → MS → Prop} (h_a : OB T a 8) (r_c2 : 0 ≤ c2 ∧ c2 ≤ 200) (r_c3 : 0 ≤ c3 ∧ c3 ≤ 1) (hw0 : WT T σ0) (hx_131 : ∀ (i4 : Int) (σ : MS) , (WT T σ) → (FrC T [80] σ0 σ) → (0 ≤ i4 ∧ i4 ≤ 2147483647) → Tn (d + 2) m_X8_comeTo 131 T σ [(0, .ref a), (2, .int (iI c2)), (3, .int (iI c3)), (4, .int (iI i4))] [] post) : ∀ (n : Nat) (i4 : Int) (σ : MS) , (WT T σ) → (FrC T [80] σ0 σ) → (0 ≤ i4 ∧ i4 ≤ 2147483647) → (2147483700 - i4).toNat = n → Tn (d + 2) m_X8_comeTo 33 T σ [(0, .ref a), (2, .int (iI c2)), (3, .int (iI c3)), (4, .int (iI i4))] [] post := by
  intro n
  induction n using Nat.strongRecOn with
  | _ n ih =>
    intro i4 σ hw hF r_i4 hm
    refine tn_iload dX8_comeTo_33 3 rfl ?_
    refine tn_iconst dX8_comeTo_35 ?_
    refine tn_icmp_ge (tgt := 131) dX8_comeTo_36 (by decide) ⟨by omega, by omega⟩ ⟨by decide, by decide⟩ (fun h1 => ?_) (fun h1 => ?_)
    · exact tn_sub [0, 1, 2, 3] rfl (hx_131 (i4) σ hw (FrC.rfl.trans (FrC.sub hF (by decide))) (by omega))
    · refine tn_aload_n dX8_comeTo_39 rfl 0 rfl ?_
      obtain ⟨x2, hx3, hk4, hl5⟩ : ∃ x : Nat, σ0.2.1 77 a = (x : Int) ∧ AR T x 3 603 603 := wf_77 hw0 h_a
      refine tn_getR (ci := 8) (i := 5) (n := 77) (x := x2) dX8_comeTo_40 rfl lay_8 (by decide) fl8_25 h_a rfl rfl (rc_F hF (Or.inl (by decide)) (by decide) (hx3)) ?_
      refine tn_iload_n dX8_comeTo_43 rfl 1 rfl ?_
      refine tn_iconst dX8_comeTo_44 ?_
      refine tn_imul dX8_comeTo_45 ?_
      refine tn_iload dX8_comeTo_46 3 rfl ?_
      refine tn_iadd dX8_comeTo_48 ?_
      refine tn_callSN (M := m_X8_comeTo) (pc := 49) (ix := 132) (M' := m_X11_bitsAt) (As := [.ref x2, .int (iI ((c2 * 3) + i4))]) (rest := []) dX8_comeTo_49 ok_X11_bitsAt stt_X11_bitsAt nl8_132 np_X11_bitsAt rfl (Nat.le_of_ble_eq_true rfl) (Nat.le_of_ble_eq_true rfl) rfl (k_X11_bitsAt (d) (T := T) (σ := σ) (x := x2) (i := (c2 * 3) + i4) hk4 (by omega) (by omega) hw ) (fun r6 T8 σ7 gt9 hp => ?_)
      obtain ⟨v10, rfl, rfl, rfl⟩ := hp
      clear gt9
      show Tn _ _ 52 T σ [(0, .ref a), (2, .int (iI c2)), (3, .int (iI c3)), (4, .int (iI i4))] [.long (v10)] _
      refine tn_lstore (L' := [(5, .long (v10)), (0, .ref a), (2, .int (iI c2)), (3, .int (iI c3)), (4, .int (iI i4))]) dX8_comeTo_52 (by decide) rfl ?_
      refine tn_iload_n dX8_comeTo_54 rfl 3 rfl ?_
      refine tn_if_eq (tgt := 70) dX8_comeTo_55 (by decide) ⟨by omega, by omega⟩ (fun h11 => ?_) (fun h11 => ?_)
      · refine tn_lload dX8_comeTo_70 0 rfl ?_
        refine tn_aload_n dX8_comeTo_72 rfl 1 rfl ?_
        obtain ⟨x12, hx13, hk14, hl15⟩ : ∃ x : Nat, σ0.2.1 79 a = (x : Int) ∧ AR T x 3 3 3 := wf_79 hw0 h_a
        refine tn_getR (ci := 8) (i := 7) (n := 79) (x := x12) dX8_comeTo_73 rfl lay_8 (by decide) fl8_31 h_a rfl rfl (rc_F hF (Or.inl (by decide)) (by decide) (hx13)) ?_
        refine tn_iload dX8_comeTo_76 4 rfl ?_
        refine tn_callSN (M := m_X8_comeTo) (pc := 78) (ix := 132) (M' := m_X11_bitsAt) (As := [.ref x12, .int (iI i4)]) (rest := [.long (v10)]) dX8_comeTo_78 ok_X11_bitsAt stt_X11_bitsAt nl8_132 np_X11_bitsAt rfl (Nat.le_of_ble_eq_true rfl) (Nat.le_of_ble_eq_true rfl) rfl (k_X11_bitsAt (d) (T := T) (σ := σ) (x := x12) (i := i4) hk14 (by omega) (by omega) hw ) (fun r16 T18 σ17 gt19 hp => ?_)
        obtain ⟨v20, rfl, rfl, rfl⟩ := hp
        clear gt19
        show Tn _ _ 81 T σ [(5, .long (v10)), (0, .ref a), (2, .int (iI c2)), (3, .int (iI c3)), (4, .int (iI i4))] [.long (v20), .long (v10)] _
        refine tn_land dX8_comeTo_81 ?_
        refine tn_longX (fun w21 => ?_)
        refine tn_lstore (L' := [(7, .long (w21)), (5, .long (v10)), (0, .ref a), (2, .int (iI c2)), (3, .int (iI c3)), (4, .int (iI i4))]) dX8_comeTo_82 (by decide) rfl ?_
        refine tn_aload_n dX8_comeTo_84 rfl 2 rfl ?_
        refine tn_dup dX8_comeTo_85 rfl ?_
        refine tn_getI (ci := 8) (i := 8) (n := 80) (t := σ.2.1 80 a) dX8_comeTo_86 rfl lay_8 (by decide) fl8_142 h_a rfl rfl (rfl) ?_
        have g22 : ((0 : Int) ≤ σ.2.1 80 a ∧ σ.2.1 80 a ≤ 1) := wf_80 hw h_a
        refine tn_iload_n dX8_comeTo_89 rfl 4 rfl ?_
        refine tn_if_ne (tgt := 101) dX8_comeTo_90 (by decide) ⟨by omega, by omega⟩ (fun h23 => absurd h23 (by omega)) (fun h23 => ?_)
        refine tn_lload dX8_comeTo_93 0 rfl ?_
        refine tn_lload dX8_comeTo_95 1 rfl ?_
        refine tn_lcmpX dX8_comeTo_97 ?_
        refine tn_anyI (fun z24 g25 => ?_)
        have g25r : -2147483648 ≤ z24 ∧ z24 ≤ 2147483647 := g25
        refine tn_if_eq (tgt := 105) dX8_comeTo_98 (by decide) ⟨by omega, by omega⟩ (fun h26 => ?_) (fun h26 => ?_)
        · refine tn_iconst dX8_comeTo_105 ?_
          refine tn_ior dX8_comeTo_106 ?_
          refine tn_bor (x := σ.2.1 80 a) (y := 0) (by omega) (by omega) (fun z29 g30 => ?_)
          refine tn_putV (ci := 8) (i := 8) (n := 80) (r := false) (v := z29) tyX8 tyX8_ok nmX8 dX8_comeTo_107 rfl lay_8 (by decide) fl8_142 rfl (tyX8_ok 8 (by decide)) rfl (nz_b (by omega)) (fz_b (by omega)) h_a rfl rfl ?_
          refine tn_aload_n dX8_comeTo_110 rfl 2 rfl ?_
          refine tn_getR (ci := 8) (i := 5) (n := 77) (x := x2) dX8_comeTo_111 rfl lay_8 (by decide) fl8_25 h_a rfl rfl (rc_o (by decide) (rc_F hF (Or.inl (by decide)) (by decide) (hx3))) ?_
          refine tn_iload_n dX8_comeTo_114 rfl 3 rfl ?_
          refine tn_iconst dX8_comeTo_115 ?_
          refine tn_imul dX8_comeTo_116 ?_
          refine tn_iload dX8_comeTo_117 5 rfl ?_
          refine tn_iadd dX8_comeTo_119 ?_
          refine tn_lload dX8_comeTo_120 0 rfl ?_
          refine tn_callSN (M := m_X8_comeTo) (pc := 122) (ix := 152) (M' := m_X11_putBits) (As := [.ref x2, .int (iI ((c2 * 3) + i4)), .long (w21)]) (rest := []) dX8_comeTo_122 ok_X11_putBits stt_X11_putBits nl8_152 np_X11_putBits rfl (Nat.le_of_ble_eq_true rfl) (Nat.le_of_ble_eq_true rfl) rfl (k_X11_putBits (d) (T := T) (σ := (sA 80 a (z29) σ)) (x := x2) (i := (c2 * 3) + i4) (w := w21) hk4 (by omega) (by omega) (hw.put (by decide) (by decide) (fo_80 (by omega))) ) (fun r31 T33 σ32 gt34 hp => ?_)
          obtain ⟨rfl, rfl, w36, F37⟩ := hp
          clear gt34
          show Tn _ _ 125 T σ32 [(7, .long (w21)), (5, .long (v10)), (0, .ref a), (2, .int (iI c2)), (3, .int (iI c3)), (4, .int (iI i4))] [] _
          refine tn_iinc (q0 := 5) (L' := [(4, .int (iI (i4 + 1))), (7, .long (w21)), (5, .long (v10)), (0, .ref a), (2, .int (iI c2)), (3, .int (iI c3))]) dX8_comeTo_125 rfl (by decide) rfl ?_
          refine tn_goto (tgt := 33) dX8_comeTo_128 (by decide) ?_
          exact tn_sub [3, 4, 5, 0] rfl (ih _ (by omega) (i4 + 1) σ32 w36 (((FrC.rfl.trans (FrC.sub hF (by decide))).put (by decide) (by decide)).trans (FrC.sub F37 (by decide))) (by omega) rfl)
        · refine tn_iconst dX8_comeTo_101 ?_
          refine tn_goto (tgt := 106) dX8_comeTo_102 (by decide) ?_
          refine tn_ior dX8_comeTo_106 ?_
          refine tn_bor (x := σ.2.1 80 a) (y := 1) (by omega) (by omega) (fun z40 g41 => ?_)
          refine tn_putV (ci := 8) (i := 8) (n := 80) (r := false) (v := z40) tyX8 tyX8_ok nmX8 dX8_comeTo_107 rfl lay_8 (by decide) fl8_142 rfl (tyX8_ok 8 (by decide)) rfl (nz_b (by omega)) (fz_b (by omega)) h_a rfl rfl ?_
          refine tn_aload_n dX8_comeTo_110 rfl 2 rfl ?_
          refine tn_getR (ci := 8) (i := 5) (n := 77) (x := x2) dX8_comeTo_111 rfl lay_8 (by decide) fl8_25 h_a rfl rfl (rc_o (by decide) (rc_F hF (Or.inl (by decide)) (by decide) (hx3))) ?_
          refine tn_iload_n dX8_comeTo_114 rfl 3 rfl ?_
          refine tn_iconst dX8_comeTo_115 ?_
          refine tn_imul dX8_comeTo_116 ?_
          refine tn_iload dX8_comeTo_117 5 rfl ?_
          refine tn_iadd dX8_comeTo_119 ?_
          refine tn_lload dX8_comeTo_120 0 rfl ?_
          refine tn_callSN (M := m_X8_comeTo) (pc := 122) (ix := 152) (M' := m_X11_putBits) (As := [.ref x2, .int (iI ((c2 * 3) + i4)), .long (w21)]) (rest := []) dX8_comeTo_122 ok_X11_putBits stt_X11_putBits nl8_152 np_X11_putBits rfl (Nat.le_of_ble_eq_true rfl) (Nat.le_of_ble_eq_true rfl) rfl (k_X11_putBits (d) (T := T) (σ := (sA 80 a (z40) σ)) (x := x2) (i := (c2 * 3) + i4) (w := w21) hk4 (by omega) (by omega) (hw.put (by decide) (by decide) (fo_80 (by omega))) ) (fun r42 T44 σ43 gt45 hp => ?_)
          obtain ⟨rfl, rfl, w47, F48⟩ := hp
          clear gt45
          show Tn _ _ 125 T σ43 [(7, .long (w21)), (5, .long (v10)), (0, .ref a), (2, .int (iI c2)), (3, .int (iI c3)), (4, .int (iI i4))] [] _
          refine tn_iinc (q0 := 5) (L' := [(4, .int (iI (i4 + 1))), (7, .long (w21)), (5, .long (v10)), (0, .ref a), (2, .int (iI c2)), (3, .int (iI c3))]) dX8_comeTo_125 rfl (by decide) rfl ?_
          refine tn_goto (tgt := 33) dX8_comeTo_128 (by decide) ?_
          exact tn_sub [3, 4, 5, 0] rfl (ih _ (by omega) (i4 + 1) σ43 w47 (((FrC.rfl.trans (FrC.sub hF (by decide))).put (by decide) (by decide)).trans (FrC.sub F48 (by decide))) (by omega) rfl)
      · refine tn_aload_n dX8_comeTo_58 rfl 1 rfl ?_
        obtain ⟨x49, hx50, hk51, hl52⟩ : ∃ x : Nat, σ0.2.1 79 a = (x : Int) ∧ AR T x 3 3 3 := wf_79 hw0 h_a
        refine tn_getR (ci := 8) (i := 7) (n := 79) (x := x49) dX8_comeTo_59 rfl lay_8 (by decide) fl8_31 h_a rfl rfl (rc_F hF (Or.inl (by decide)) (by decide) (hx50)) ?_
        refine tn_iload dX8_comeTo_62 4 rfl ?_
        refine tn_callSN (M := m_X8_comeTo) (pc := 64) (ix := 132) (M' := m_X11_bitsAt) (As := [.ref x49, .int (iI i4)]) (rest := []) dX8_comeTo_64 ok_X11_bitsAt stt_X11_bitsAt nl8_132 np_X11_bitsAt rfl (Nat.le_of_ble_eq_true rfl) (Nat.le_of_ble_eq_true rfl) rfl (k_X11_bitsAt (d) (T := T) (σ := σ) (x := x49) (i := i4) hk51 (by omega) (by omega) hw ) (fun r53 T55 σ54 gt56 hp => ?_)
        obtain ⟨v57, rfl, rfl, rfl⟩ := hp
        clear gt56
        show Tn _ _ 67 T σ [(5, .long (v10)), (0, .ref a), (2, .int (iI c2)), (3, .int (iI c3)), (4, .int (iI i4))] [.long (v57)] _
        refine tn_goto (tgt := 82) dX8_comeTo_67 (by decide) ?_
        refine tn_lstore (L' := [(7, .long (v57)), (5, .long (v10)), (0, .ref a), (2, .int (iI c2)), (3, .int (iI c3)), (4, .int (iI i4))]) dX8_comeTo_82 (by decide) rfl ?_
        refine tn_aload_n dX8_comeTo_84 rfl 2 rfl ?_
        refine tn_dup dX8_comeTo_85 rfl ?_
        refine tn_getI (ci := 8) (i := 8) (n := 80) (t := σ.2.1 80 a) dX8_comeTo_86 rfl lay_8 (by decide) fl8_142 h_a rfl rfl (rfl) ?_
        have g58 : ((0 : Int) ≤ σ.2.1 80 a ∧ σ.2.1 80 a ≤ 1) := wf_80 hw h_a
        refine tn_iload_n dX8_comeTo_89 rfl 4 rfl ?_
        refine tn_if_ne (tgt := 101) dX8_comeTo_90 (by decide) ⟨by omega, by omega⟩ (fun h59 => ?_) (fun h59 => absurd h59 (by omega))
        refine tn_iconst dX8_comeTo_101 ?_
        refine tn_goto (tgt := 106) dX8_comeTo_102 (by decide) ?_
        refine tn_ior dX8_comeTo_106 ?_
        refine tn_bor (x := σ.2.1 80 a) (y := 1) (by omega) (by omega) (fun z62 g63 => ?_)
        refine tn_putV (ci := 8) (i := 8) (n := 80) (r := false) (v := z62) tyX8 tyX8_ok nmX8 dX8_comeTo_107 rfl lay_8 (by decide) fl8_142 rfl (tyX8_ok 8 (by decide)) rfl (nz_b (by omega)) (fz_b (by omega)) h_a rfl rfl ?_
        refine tn_aload_n dX8_comeTo_110 rfl 2 rfl ?_
        refine tn_getR (ci := 8) (i := 5) (n := 77) (x := x2) dX8_comeTo_111 rfl lay_8 (by decide) fl8_25 h_a rfl rfl (rc_o (by decide) (rc_F hF (Or.inl (by decide)) (by decide) (hx3))) ?_
        refine tn_iload_n dX8_comeTo_114 rfl 3 rfl ?_
        refine tn_iconst dX8_comeTo_115 ?_
        refine tn_imul dX8_comeTo_116 ?_
        refine tn_iload dX8_comeTo_117 5 rfl ?_
        refine tn_iadd dX8_comeTo_119 ?_
        refine tn_lload dX8_comeTo_120 0 rfl ?_
        refine tn_callSN (M := m_X8_comeTo) (pc := 122) (ix := 152) (M' := m_X11_putBits) (As := [.ref x2, .int (iI ((c2 * 3) + i4)), .long (v57)]) (rest := []) dX8_comeTo_122 ok_X11_putBits stt_X11_putBits nl8_152 np_X11_putBits rfl (Nat.le_of_ble_eq_true rfl) (Nat.le_of_ble_eq_true rfl) rfl (k_X11_putBits (d) (T := T) (σ := (sA 80 a (z62) σ)) (x := x2) (i := (c2 * 3) + i4) (w := v57) hk4 (by omega) (by omega) (hw.put (by decide) (by decide) (fo_80 (by omega))) ) (fun r64 T66 σ65 gt67 hp => ?_)
        obtain ⟨rfl, rfl, w69, F70⟩ := hp
        clear gt67
        show Tn _ _ 125 T σ65 [(7, .long (v57)), (5, .long (v10)), (0, .ref a), (2, .int (iI c2)), (3, .int (iI c3)), (4, .int (iI i4))] [] _
        refine tn_iinc (q0 := 5) (L' := [(4, .int (iI (i4 + 1))), (7, .long (v57)), (5, .long (v10)), (0, .ref a), (2, .int (iI c2)), (3, .int (iI c3))]) dX8_comeTo_125 rfl (by decide) rfl ?_
        refine tn_goto (tgt := 33) dX8_comeTo_128 (by decide) ?_
        exact tn_sub [3, 4, 5, 0] rfl (ih _ (by omega) (i4 + 1) σ65 w69 (((FrC.rfl.trans (FrC.sub hF (by decide))).put (by decide) (by decide)).trans (FrC.sub F70 (by decide))) (by omega) rfl)
theorem dX8_comeTo_131 : decode cX8_comeTo 131 = .ok (.aload_n 0, 1) := by decide +kernel
theorem dX8_comeTo_132 : decode cX8_comeTo 132 = .ok (.getfield 28, 3) := by decide +kernel
theorem dX8_comeTo_135 : decode cX8_comeTo 135 = .ok (.iload_n 2, 1) := by decide +kernel
theorem dX8_comeTo_136 : decode cX8_comeTo 136 = .ok (.iconst 1, 1) := by decide +kernel
theorem dX8_comeTo_137 : decode cX8_comeTo 137 = .ok (.invokestatic 128, 3) := by decide +kernel
theorem dX8_comeTo_140 : decode cX8_comeTo 140 = .ok (.return_, 1) := by decide +kernel
theorem dX8_comeTo_24 : decode cX8_comeTo 24 = .ok (.iconst 1, 1) := by decide +kernel
theorem dX8_comeTo_25 : decode cX8_comeTo 25 = .ok (.goto 4, 3) := by decide +kernel
set_option maxRecDepth 20000 in
theorem k_X8_comeTo (d : Nat) {T : CT} {σ : MS} {a : Nat} {p1 : Nat} {p2 : Int} (ha : OB T a 8) (h_p1 : OB T p1 1) (t_p1 : (T p1).1 = 50) (h_p2 : -2147483648 ≤ p2 ∧ p2 ≤ 2147483647) (hw : WT T σ) : Tn (d + 2) m_X8_comeTo 0 T σ [(0, .ref a), (1, .ref p1), (2, .int (iI p2))] [] (fun ro T2 σ2 => ro = none ∧ T = T2 ∧ WT T2 σ2 ∧ FrC T [80] σ σ2) := by
  refine tn_iload_n dX8_comeTo_0 rfl 2 rfl ?_
  refine tn_if_lt (tgt := 12) dX8_comeTo_1 (by decide) ⟨by omega, by omega⟩ (fun h1 => ?_) (fun h1 => ?_)
  · exact tn_vret rfl dX8_comeTo_12 ⟨rfl, rfl, hw, FrC.rfl⟩
  · refine tn_iload_n dX8_comeTo_4 rfl 2 rfl ?_
    refine tn_aload_n dX8_comeTo_5 rfl 1 rfl ?_
    refine tn_getI (ci := 1) (i := 1) (n := 6) (t := σ.2.1 6 p1) dX8_comeTo_6 rfl lay_1 (by decide) fl8_70 h_p1 rfl rfl (rfl) ?_
    have g2 : ((0 : Int) ≤ σ.2.1 6 p1 ∧ σ.2.1 6 p1 ≤ 5000) ∧ ((T p1).1 = 50 → σ.2.1 6 p1 ≤ 200) := wf_6 hw h_p1
    have g2x := g2.2
    replace g2 := g2.1
    have g2x := g2x t_p1
    refine tn_icmp_le (tgt := 13) dX8_comeTo_9 (by decide) ⟨by omega, by omega⟩ ⟨by omega, by omega⟩ (fun h3 => ?_) (fun h3 => ?_)
    · refine tn_aload_n dX8_comeTo_13 rfl 0 rfl ?_
      obtain ⟨x4, hx5, hk6, hl7⟩ : ∃ x : Nat, σ.2.1 78 a = (x : Int) ∧ AR T x 1 201 201 := wf_78 hw ha
      have hk6i : IA T x4 := by unfold IA; omega
      refine tn_getR (ci := 8) (i := 6) (n := 78) (x := x4) dX8_comeTo_14 rfl lay_8 (by decide) fl8_28 ha rfl rfl (hx5) ?_
      refine tn_iload_n dX8_comeTo_17 rfl 2 rfl ?_
      refine tn_callSN (M := m_X8_comeTo) (pc := 18) (ix := 74) (M' := m_X11_at) (As := [.ref x4, .int (iI p2)]) (rest := []) dX8_comeTo_18 ok_X11_at stt_X11_at nl8_74 np_X11_at rfl (Nat.le_of_ble_eq_true rfl) (Nat.le_of_ble_eq_true rfl) rfl (k_X11_at (d) (T := T) (σ := σ) (x := x4) (i := p2) hk6i (by omega) (by omega) hw ) (fun r8 T10 σ9 gt11 hp => ?_)
      obtain ⟨v15, rfl, rfl, rfl, f12, f13, f14⟩ := hp
      clear gt11
      clear f13 f14
      show Tn _ _ 21 T σ [(0, .ref a), (1, .ref p1), (2, .int (iI p2))] [.int (iI v15)] _
      refine tn_if_ne (tgt := 28) dX8_comeTo_21 (by decide) ⟨by omega, by omega⟩ (fun h16 => ?_) (fun h16 => ?_)
      · refine tn_iconst dX8_comeTo_28 ?_
        refine tn_istore_n (L' := [(3, .int (iI 0)), (0, .ref a), (1, .ref p1), (2, .int (iI p2))]) dX8_comeTo_29 rfl (by decide) rfl ?_
        refine tn_iconst dX8_comeTo_30 ?_
        refine tn_istore (L' := [(4, .int (iI 0)), (3, .int (iI 0)), (0, .ref a), (1, .ref p1), (2, .int (iI p2))]) dX8_comeTo_31 (by decide) rfl ?_
        refine tn_sub [2, 4, 1, 0] rfl (l_X8_comeTo_33 (d) (T := T) (σ0 := σ) (a := a) (c2 := p2) (c3 := 0) ha (by omega) (by omega) hw (fun i417 σ18 w21 F22 r23 => ?_) _ (0) σ hw FrC.rfl (by omega) rfl)
        show Tn _ _ 131 T σ18 [(0, .ref a), (2, .int (iI p2)), (3, .int (iI 0)), (4, .int (iI i417))] [] _
        refine tn_aload_n dX8_comeTo_131 rfl 0 rfl ?_
        refine tn_getR (ci := 8) (i := 6) (n := 78) (x := x4) dX8_comeTo_132 rfl lay_8 (by decide) fl8_28 ha rfl rfl (rc_F F22 (Or.inl (by decide)) (by decide) (hx5)) ?_
        refine tn_iload_n dX8_comeTo_135 rfl 1 rfl ?_
        refine tn_iconst dX8_comeTo_136 ?_
        refine tn_callSN (M := m_X8_comeTo) (pc := 137) (ix := 128) (M' := m_X11_put) (As := [.ref x4, .int (iI p2), .int (iI 1)]) (rest := []) dX8_comeTo_137 ok_X11_put stt_X11_put nl8_128 np_X11_put rfl (Nat.le_of_ble_eq_true rfl) (Nat.le_of_ble_eq_true rfl) rfl (k_X11_put (d) (T := T) (σ := σ18) (x := x4) (i := p2) (y := 1) hk6i (by omega) (by omega) (by decide) w21 (nh_k hk6 (by unfold HT; omega)) (vok_1 (by have q9 := hk6; omega) (by omega))) (fun r24 T26 σ25 gt27 hp => ?_)
        obtain ⟨rfl, rfl, w29, F30⟩ := hp
        clear gt27
        show Tn _ _ 140 T σ25 [(0, .ref a), (2, .int (iI p2)), (3, .int (iI 0)), (4, .int (iI i417))] [] _
        exact tn_vret rfl dX8_comeTo_140 ⟨rfl, rfl, w29, ((FrC.rfl.trans (FrC.sub F22 (by decide))).trans (FrC.sub F30 (by decide)))⟩
      · refine tn_iconst dX8_comeTo_24 ?_
        refine tn_goto (tgt := 29) dX8_comeTo_25 (by decide) ?_
        refine tn_istore_n (L' := [(3, .int (iI 1)), (0, .ref a), (1, .ref p1), (2, .int (iI p2))]) dX8_comeTo_29 rfl (by decide) rfl ?_
        refine tn_iconst dX8_comeTo_30 ?_
        refine tn_istore (L' := [(4, .int (iI 0)), (3, .int (iI 1)), (0, .ref a), (1, .ref p1), (2, .int (iI p2))]) dX8_comeTo_31 (by decide) rfl ?_
        refine tn_sub [2, 4, 1, 0] rfl (l_X8_comeTo_33 (d) (T := T) (σ0 := σ) (a := a) (c2 := p2) (c3 := 1) ha (by omega) (by omega) hw (fun i431 σ32 w35 F36 r37 => ?_) _ (0) σ hw FrC.rfl (by omega) rfl)
        show Tn _ _ 131 T σ32 [(0, .ref a), (2, .int (iI p2)), (3, .int (iI 1)), (4, .int (iI i431))] [] _
        refine tn_aload_n dX8_comeTo_131 rfl 0 rfl ?_
        refine tn_getR (ci := 8) (i := 6) (n := 78) (x := x4) dX8_comeTo_132 rfl lay_8 (by decide) fl8_28 ha rfl rfl (rc_F F36 (Or.inl (by decide)) (by decide) (hx5)) ?_
        refine tn_iload_n dX8_comeTo_135 rfl 1 rfl ?_
        refine tn_iconst dX8_comeTo_136 ?_
        refine tn_callSN (M := m_X8_comeTo) (pc := 137) (ix := 128) (M' := m_X11_put) (As := [.ref x4, .int (iI p2), .int (iI 1)]) (rest := []) dX8_comeTo_137 ok_X11_put stt_X11_put nl8_128 np_X11_put rfl (Nat.le_of_ble_eq_true rfl) (Nat.le_of_ble_eq_true rfl) rfl (k_X11_put (d) (T := T) (σ := σ32) (x := x4) (i := p2) (y := 1) hk6i (by omega) (by omega) (by decide) w35 (nh_k hk6 (by unfold HT; omega)) (vok_1 (by have q9 := hk6; omega) (by omega))) (fun r38 T40 σ39 gt41 hp => ?_)
        obtain ⟨rfl, rfl, w43, F44⟩ := hp
        clear gt41
        show Tn _ _ 140 T σ39 [(0, .ref a), (2, .int (iI p2)), (3, .int (iI 1)), (4, .int (iI i431))] [] _
        exact tn_vret rfl dX8_comeTo_140 ⟨rfl, rfl, w43, ((FrC.rfl.trans (FrC.sub F36 (by decide))).trans (FrC.sub F44 (by decide)))⟩
    · exact tn_vret rfl dX8_comeTo_12 ⟨rfl, rfl, hw, FrC.rfl⟩
