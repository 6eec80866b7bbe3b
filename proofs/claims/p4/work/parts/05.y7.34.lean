theorem cd_X8_goThrough : Cond.code yX8_goThrough cX8_goThrough 7 none ∈ pWW := pw6 (List.mem_of_getElem? (i := 4) rfl) rfl
abbrev m_X8_goThrough : MT := (yX8_goThrough, cX8_goThrough, 7, none)
theorem ok_X8_goThrough : pOk m_X8_goThrough := ⟨⟨cd_X8_goThrough, ini_8⟩, by decide +kernel, ⟨by decide +kernel, by decide +kernel⟩, Nat.le_of_ble_eq_true rfl⟩
theorem np_X8_goThrough : (parseMethodDescriptor yX8_goThrough.desc).map (fun d => d.parameters.length) = some 2 := by decide +kernel
theorem im_X8_goThrough : Cond.instanceMethod yX8_goThrough ∈ pWW := pw6 (List.mem_of_getElem? (i := 3) rfl) rfl
theorem se_X8_goThrough : Cond.selects RX8 yX8_goThrough yX8_goThrough ∈ pWW := pws (List.mem_map.mpr ⟨_, lw_pin 81 rfl, rfl⟩) rfl
theorem cst8_150 : Cond.constantLong RX8 150 (-1) ∈ pWW := pw6 (List.mem_of_getElem? (i := 5) rfl) rfl
theorem dX8_goThrough_0 : decode cX8_goThrough 0 = .ok (.aload_n 1, 1) := by decide +kernel
theorem dX8_goThrough_1 : decode cX8_goThrough 1 = .ok (.iload_n 2, 1) := by decide +kernel
theorem dX8_goThrough_2 : decode cX8_goThrough 2 = .ok (.invokevirtual 120, 3) := by decide +kernel
theorem dX8_goThrough_5 : decode cX8_goThrough 5 = .ok (.istore_n 3, 1) := by decide +kernel
theorem dX8_goThrough_6 : decode cX8_goThrough 6 = .ok (.iconst 0, 1) := by decide +kernel
theorem dX8_goThrough_7 : decode cX8_goThrough 7 = .ok (.istore 4, 2) := by decide +kernel
theorem dX8_goThrough_9 : decode cX8_goThrough 9 = .ok (.iload 4, 2) := by decide +kernel
theorem dX8_goThrough_11 : decode cX8_goThrough 11 = .ok (.iconst 3, 1) := by decide +kernel
theorem dX8_goThrough_12 : decode cX8_goThrough 12 = .ok (.if_icmp .ge 69, 3) := by decide +kernel
theorem dX8_goThrough_15 : decode cX8_goThrough 15 = .ok (.iload_n 3, 1) := by decide +kernel
theorem dX8_goThrough_16 : decode cX8_goThrough 16 = .ok (.iconst (-1), 1) := by decide +kernel
theorem dX8_goThrough_17 : decode cX8_goThrough 17 = .ok (.if_icmp .ne 7, 3) := by decide +kernel
theorem dX8_goThrough_24 : decode cX8_goThrough 24 = .ok (.aload_n 0, 1) := by decide +kernel
theorem dX8_goThrough_25 : decode cX8_goThrough 25 = .ok (.getfield 22, 3) := by decide +kernel
theorem dX8_goThrough_28 : decode cX8_goThrough 28 = .ok (.aload_n 0, 1) := by decide +kernel
theorem dX8_goThrough_29 : decode cX8_goThrough 29 = .ok (.getfield 18, 3) := by decide +kernel
theorem dX8_goThrough_32 : decode cX8_goThrough 32 = .ok (.iload_n 3, 1) := by decide +kernel
theorem dX8_goThrough_33 : decode cX8_goThrough 33 = .ok (.invokestatic 74, 3) := by decide +kernel
theorem dX8_goThrough_36 : decode cX8_goThrough 36 = .ok (.iconst 3, 1) := by decide +kernel
theorem dX8_goThrough_37 : decode cX8_goThrough 37 = .ok (.imul, 1) := by decide +kernel
theorem dX8_goThrough_38 : decode cX8_goThrough 38 = .ok (.iload 4, 2) := by decide +kernel
theorem dX8_goThrough_40 : decode cX8_goThrough 40 = .ok (.iadd, 1) := by decide +kernel
theorem dX8_goThrough_41 : decode cX8_goThrough 41 = .ok (.invokestatic 132, 3) := by decide +kernel
theorem dX8_goThrough_44 : decode cX8_goThrough 44 = .ok (.lstore 5, 2) := by decide +kernel
theorem dX8_goThrough_46 : decode cX8_goThrough 46 = .ok (.aload_n 0, 1) := by decide +kernel
theorem dX8_goThrough_47 : decode cX8_goThrough 47 = .ok (.getfield 31, 3) := by decide +kernel
theorem dX8_goThrough_50 : decode cX8_goThrough 50 = .ok (.iload 4, 2) := by decide +kernel
theorem dX8_goThrough_52 : decode cX8_goThrough 52 = .ok (.aload_n 0, 1) := by decide +kernel
theorem dX8_goThrough_53 : decode cX8_goThrough 53 = .ok (.getfield 25, 3) := by decide +kernel
theorem dX8_goThrough_56 : decode cX8_goThrough 56 = .ok (.iload_n 2, 1) := by decide +kernel
theorem dX8_goThrough_57 : decode cX8_goThrough 57 = .ok (.iconst 3, 1) := by decide +kernel
theorem dX8_goThrough_58 : decode cX8_goThrough 58 = .ok (.imul, 1) := by decide +kernel
theorem dX8_goThrough_59 : decode cX8_goThrough 59 = .ok (.iload 4, 2) := by decide +kernel
theorem dX8_goThrough_61 : decode cX8_goThrough 61 = .ok (.iadd, 1) := by decide +kernel
theorem dX8_goThrough_62 : decode cX8_goThrough 62 = .ok (.invokestatic 132, 3) := by decide +kernel
theorem dX8_goThrough_65 : decode cX8_goThrough 65 = .ok (.lload 5, 2) := by decide +kernel
theorem dX8_goThrough_67 : decode cX8_goThrough 67 = .ok (.ldc2_w 150, 3) := by decide +kernel
theorem dX8_goThrough_70 : decode cX8_goThrough 70 = .ok (.lxor, 1) := by decide +kernel
theorem dX8_goThrough_71 : decode cX8_goThrough 71 = .ok (.land, 1) := by decide +kernel
theorem dX8_goThrough_72 : decode cX8_goThrough 72 = .ok (.invokestatic 152, 3) := by decide +kernel
theorem dX8_goThrough_75 : decode cX8_goThrough 75 = .ok (.iinc 4 1, 3) := by decide +kernel
theorem dX8_goThrough_78 : decode cX8_goThrough 78 = .ok (.goto (-69), 3) := by decide +kernel
theorem dX8_goThrough_20 : decode cX8_goThrough 20 = .ok (.lconst 0, 1) := by decide +kernel
theorem dX8_goThrough_21 : decode cX8_goThrough 21 = .ok (.goto 23, 3) := by decide +kernel
set_option maxRecDepth 20000 in
theorem l_X8_goThrough_9 (d : Nat) {T : CT} {σ0 : MS} {a : Nat} {rx1 : Nat} {c2 : Int} {c3 : Int} {post : Option Value → CT → MS → Prop} (h_a : OB T a 8) (h_rx1 : OB T rx1 1) (t_rx1 : (T rx1).1 = 50) (r_c2 : -2147483648 ≤ c2 ∧ c2 ≤ 2147483647) (r_c3 : -2147483648 ≤ c3 ∧ c3 ≤ 2147483647) (hw0 : WT T σ0) (hx_81 : ∀ (i4 : Int) (σ : MS) , (WT T σ) → (FrC T [] σ0 σ) → (0 ≤ i4 ∧ i4 ≤ 2147483647) → Tn (d + 3) m_X8_goThrough 81 T σ [(0, .ref a), (1, .ref rx1), (2, .int (iI c2)), (3, .int (iI c3)), (4, .int (iI i4))] [] post) : ∀ (n : Nat) (i4 : Int) (σ : MS) , (WT T σ) → (FrC T [] σ0 σ) → (0 ≤ i4 ∧ i4 ≤ 2147483647) → (2147483700 - i4).toNat = n → Tn (d + 3) m_X8_goThrough 9 T σ [(0, .ref a), (1, .ref rx1), (2, .int (iI c2)), (3, .int (iI c3)), (4, .int (iI i4))] [] post := by
  intro n
  induction n using Nat.strongRecOn with
  | _ n ih =>
    intro i4 σ hw hF r_i4 hm
    refine tn_iload dX8_goThrough_9 4 rfl ?_
    refine tn_iconst dX8_goThrough_11 ?_
    refine tn_icmp_ge (tgt := 81) dX8_goThrough_12 (by decide) ⟨by omega, by omega⟩ ⟨by decide, by decide⟩ (fun h1 => ?_) (fun h1 => ?_)
    · exact tn_sub [0, 1, 2, 3, 4] rfl (hx_81 (i4) σ hw (FrC.rfl.trans (FrC.sub hF (by decide))) (by omega))
    · refine tn_iload_n dX8_goThrough_15 rfl 3 rfl ?_
      refine tn_iconst dX8_goThrough_16 ?_
      refine tn_icmp_ne (tgt := 24) dX8_goThrough_17 (by decide) ⟨by omega, by omega⟩ ⟨by decide, by decide⟩ (fun h2 => ?_) (fun h2 => ?_)
      · refine tn_aload_n dX8_goThrough_24 rfl 0 rfl ?_
        obtain ⟨x3, hx4, hk5, hl6⟩ : ∃ x : Nat, σ0.2.1 76 a = (x : Int) ∧ AR T x 3 576 576 := wf_76 hw0 h_a
        refine tn_getR (ci := 8) (i := 4) (n := 76) (x := x3) dX8_goThrough_25 rfl lay_8 (by decide) fl8_22 h_a rfl rfl (rc_F hF (Or.inl (by decide)) (by decide) (hx4)) ?_
        refine tn_aload_n dX8_goThrough_28 rfl 0 rfl ?_
        obtain ⟨x7, hx8, hk9, hl10⟩ : ∃ x : Nat, σ0.2.1 75 a = (x : Int) ∧ AR T x 1 192 192 := wf_75 hw0 h_a
        have hk9i : IA T x7 := by unfold IA; omega
        refine tn_getR (ci := 8) (i := 3) (n := 75) (x := x7) dX8_goThrough_29 rfl lay_8 (by decide) fl8_18 h_a rfl rfl (rc_F hF (Or.inl (by decide)) (by decide) (hx8)) ?_
        refine tn_iload_n dX8_goThrough_32 rfl 3 rfl ?_
        refine tn_callSN (M := m_X8_goThrough) (pc := 33) (ix := 74) (M' := m_X11_at) (As := [.ref x7, .int (iI c3)]) (rest := [.ref x3]) dX8_goThrough_33 ok_X11_at stt_X11_at nl8_74 np_X11_at rfl (Nat.le_of_ble_eq_true rfl) (Nat.le_of_ble_eq_true rfl) rfl (k_X11_at (d + 1) (T := T) (σ := σ) (x := x7) (i := c3) hk9i (by omega) (by omega) hw ) (fun r11 T13 σ12 gt14 hp => ?_)
        obtain ⟨v18, rfl, rfl, rfl, f15, f16, f17⟩ := hp
        clear gt14
        clear f16 f17
        show Tn _ _ 36 T σ [(0, .ref a), (1, .ref rx1), (2, .int (iI c2)), (3, .int (iI c3)), (4, .int (iI i4))] [.int (iI v18), .ref x3] _
        refine tn_iconst dX8_goThrough_36 ?_
        refine tn_imul dX8_goThrough_37 ?_
        refine tn_any (fun z19 g20 => ?_)
        have g20r : -2147483648 ≤ z19 ∧ z19 ≤ 2147483647 := g20
        refine tn_iload dX8_goThrough_38 4 rfl ?_
        refine tn_iadd dX8_goThrough_40 ?_
        refine tn_any (fun z21 g22 => ?_)
        have g22r : -2147483648 ≤ z21 ∧ z21 ≤ 2147483647 := g22
        refine tn_callSN (M := m_X8_goThrough) (pc := 41) (ix := 132) (M' := m_X11_bitsAt) (As := [.ref x3, .int (iI z21)]) (rest := []) dX8_goThrough_41 ok_X11_bitsAt stt_X11_bitsAt nl8_132 np_X11_bitsAt rfl (Nat.le_of_ble_eq_true rfl) (Nat.le_of_ble_eq_true rfl) rfl (k_X11_bitsAt (d + 1) (T := T) (σ := σ) (x := x3) (i := z21) hk5 (by omega) (by omega) hw ) (fun r23 T25 σ24 gt26 hp => ?_)
        obtain ⟨v27, rfl, rfl, rfl⟩ := hp
        clear gt26
        show Tn _ _ 44 T σ [(0, .ref a), (1, .ref rx1), (2, .int (iI c2)), (3, .int (iI c3)), (4, .int (iI i4))] [.long (v27)] _
        refine tn_lstore (L' := [(5, .long (v27)), (0, .ref a), (1, .ref rx1), (2, .int (iI c2)), (3, .int (iI c3)), (4, .int (iI i4))]) dX8_goThrough_44 (by decide) rfl ?_
        refine tn_aload_n dX8_goThrough_46 rfl 1 rfl ?_
        obtain ⟨x28, hx29, hk30, hl31⟩ : ∃ x : Nat, σ0.2.1 79 a = (x : Int) ∧ AR T x 3 3 3 := wf_79 hw0 h_a
        refine tn_getR (ci := 8) (i := 7) (n := 79) (x := x28) dX8_goThrough_47 rfl lay_8 (by decide) fl8_31 h_a rfl rfl (rc_F hF (Or.inl (by decide)) (by decide) (hx29)) ?_
        refine tn_iload dX8_goThrough_50 5 rfl ?_
        refine tn_aload_n dX8_goThrough_52 rfl 1 rfl ?_
        obtain ⟨x32, hx33, hk34, hl35⟩ : ∃ x : Nat, σ0.2.1 77 a = (x : Int) ∧ AR T x 3 603 603 := wf_77 hw0 h_a
        refine tn_getR (ci := 8) (i := 5) (n := 77) (x := x32) dX8_goThrough_53 rfl lay_8 (by decide) fl8_25 h_a rfl rfl (rc_F hF (Or.inl (by decide)) (by decide) (hx33)) ?_
        refine tn_iload_n dX8_goThrough_56 rfl 3 rfl ?_
        refine tn_iconst dX8_goThrough_57 ?_
        refine tn_imul dX8_goThrough_58 ?_
        refine tn_any (fun z36 g37 => ?_)
        have g37r : -2147483648 ≤ z36 ∧ z36 ≤ 2147483647 := g37
        refine tn_iload dX8_goThrough_59 5 rfl ?_
        refine tn_iadd dX8_goThrough_61 ?_
        refine tn_any (fun z38 g39 => ?_)
        have g39r : -2147483648 ≤ z38 ∧ z38 ≤ 2147483647 := g39
        refine tn_callSN (M := m_X8_goThrough) (pc := 62) (ix := 132) (M' := m_X11_bitsAt) (As := [.ref x32, .int (iI z38)]) (rest := [.int (iI i4), .ref x28]) dX8_goThrough_62 ok_X11_bitsAt stt_X11_bitsAt nl8_132 np_X11_bitsAt rfl (Nat.le_of_ble_eq_true rfl) (Nat.le_of_ble_eq_true rfl) rfl (k_X11_bitsAt (d + 1) (T := T) (σ := σ) (x := x32) (i := z38) hk34 (by omega) (by omega) hw ) (fun r40 T42 σ41 gt43 hp => ?_)
        obtain ⟨v44, rfl, rfl, rfl⟩ := hp
        clear gt43
        show Tn _ _ 65 T σ [(5, .long (v27)), (0, .ref a), (1, .ref rx1), (2, .int (iI c2)), (3, .int (iI c3)), (4, .int (iI i4))] [.long (v44), .int (iI i4), .ref x28] _
        refine tn_lload dX8_goThrough_65 0 rfl ?_
        refine tn_ldc2 dX8_goThrough_67 cst8_150 ?_
        refine tn_lxor dX8_goThrough_70 ?_
        refine tn_longX (fun w45 => ?_)
        refine tn_land dX8_goThrough_71 ?_
        refine tn_longX (fun w46 => ?_)
        refine tn_callSN (M := m_X8_goThrough) (pc := 72) (ix := 152) (M' := m_X11_putBits) (As := [.ref x28, .int (iI i4), .long (w46)]) (rest := []) dX8_goThrough_72 ok_X11_putBits stt_X11_putBits nl8_152 np_X11_putBits rfl (Nat.le_of_ble_eq_true rfl) (Nat.le_of_ble_eq_true rfl) rfl (k_X11_putBits (d + 1) (T := T) (σ := σ) (x := x28) (i := i4) (w := w46) hk30 (by omega) (by omega) hw ) (fun r47 T49 σ48 gt50 hp => ?_)
        obtain ⟨rfl, rfl, w52, F53⟩ := hp
        clear gt50
        show Tn _ _ 75 T σ48 [(5, .long (v27)), (0, .ref a), (1, .ref rx1), (2, .int (iI c2)), (3, .int (iI c3)), (4, .int (iI i4))] [] _
        refine tn_iinc (q0 := 5) (L' := [(4, .int (iI (i4 + 1))), (5, .long (v27)), (0, .ref a), (1, .ref rx1), (2, .int (iI c2)), (3, .int (iI c3))]) dX8_goThrough_75 rfl (by decide) rfl ?_
        refine tn_goto (tgt := 9) dX8_goThrough_78 (by decide) ?_
        exact tn_sub [2, 3, 4, 5, 0] rfl (ih _ (by omega) (i4 + 1) σ48 w52 ((FrC.rfl.trans (FrC.sub hF (by decide))).trans (FrC.sub F53 (by decide))) (by omega) rfl)
      · refine tn_lconst (v := 0) dX8_goThrough_20 rfl ?_
        refine tn_goto (tgt := 44) dX8_goThrough_21 (by decide) ?_
        refine tn_lstore (L' := [(5, .long (0)), (0, .ref a), (1, .ref rx1), (2, .int (iI c2)), (3, .int (iI c3)), (4, .int (iI i4))]) dX8_goThrough_44 (by decide) rfl ?_
        refine tn_aload_n dX8_goThrough_46 rfl 1 rfl ?_
        obtain ⟨x54, hx55, hk56, hl57⟩ : ∃ x : Nat, σ0.2.1 79 a = (x : Int) ∧ AR T x 3 3 3 := wf_79 hw0 h_a
        refine tn_getR (ci := 8) (i := 7) (n := 79) (x := x54) dX8_goThrough_47 rfl lay_8 (by decide) fl8_31 h_a rfl rfl (rc_F hF (Or.inl (by decide)) (by decide) (hx55)) ?_
        refine tn_iload dX8_goThrough_50 5 rfl ?_
        refine tn_aload_n dX8_goThrough_52 rfl 1 rfl ?_
        obtain ⟨x58, hx59, hk60, hl61⟩ : ∃ x : Nat, σ0.2.1 77 a = (x : Int) ∧ AR T x 3 603 603 := wf_77 hw0 h_a
        refine tn_getR (ci := 8) (i := 5) (n := 77) (x := x58) dX8_goThrough_53 rfl lay_8 (by decide) fl8_25 h_a rfl rfl (rc_F hF (Or.inl (by decide)) (by decide) (hx59)) ?_
        refine tn_iload_n dX8_goThrough_56 rfl 3 rfl ?_
        refine tn_iconst dX8_goThrough_57 ?_
        refine tn_imul dX8_goThrough_58 ?_
        refine tn_any (fun z62 g63 => ?_)
        have g63r : -2147483648 ≤ z62 ∧ z62 ≤ 2147483647 := g63
        refine tn_iload dX8_goThrough_59 5 rfl ?_
        refine tn_iadd dX8_goThrough_61 ?_
        refine tn_any (fun z64 g65 => ?_)
        have g65r : -2147483648 ≤ z64 ∧ z64 ≤ 2147483647 := g65
        refine tn_callSN (M := m_X8_goThrough) (pc := 62) (ix := 132) (M' := m_X11_bitsAt) (As := [.ref x58, .int (iI z64)]) (rest := [.int (iI i4), .ref x54]) dX8_goThrough_62 ok_X11_bitsAt stt_X11_bitsAt nl8_132 np_X11_bitsAt rfl (Nat.le_of_ble_eq_true rfl) (Nat.le_of_ble_eq_true rfl) rfl (k_X11_bitsAt (d + 1) (T := T) (σ := σ) (x := x58) (i := z64) hk60 (by omega) (by omega) hw ) (fun r66 T68 σ67 gt69 hp => ?_)
        obtain ⟨v70, rfl, rfl, rfl⟩ := hp
        clear gt69
        show Tn _ _ 65 T σ [(5, .long (0)), (0, .ref a), (1, .ref rx1), (2, .int (iI c2)), (3, .int (iI c3)), (4, .int (iI i4))] [.long (v70), .int (iI i4), .ref x54] _
        refine tn_lload dX8_goThrough_65 0 rfl ?_
        refine tn_ldc2 dX8_goThrough_67 cst8_150 ?_
        refine tn_lxor dX8_goThrough_70 ?_
        refine tn_longX (fun w71 => ?_)
        refine tn_land dX8_goThrough_71 ?_
        refine tn_longX (fun w72 => ?_)
        refine tn_callSN (M := m_X8_goThrough) (pc := 72) (ix := 152) (M' := m_X11_putBits) (As := [.ref x54, .int (iI i4), .long (w72)]) (rest := []) dX8_goThrough_72 ok_X11_putBits stt_X11_putBits nl8_152 np_X11_putBits rfl (Nat.le_of_ble_eq_true rfl) (Nat.le_of_ble_eq_true rfl) rfl (k_X11_putBits (d + 1) (T := T) (σ := σ) (x := x54) (i := i4) (w := w72) hk56 (by omega) (by omega) hw ) (fun r73 T75 σ74 gt76 hp => ?_)
        obtain ⟨rfl, rfl, w78, F79⟩ := hp
        clear gt76
        show Tn _ _ 75 T σ74 [(5, .long (0)), (0, .ref a), (1, .ref rx1), (2, .int (iI c2)), (3, .int (iI c3)), (4, .int (iI i4))] [] _
        refine tn_iinc (q0 := 5) (L' := [(4, .int (iI (i4 + 1))), (5, .long (0)), (0, .ref a), (1, .ref rx1), (2, .int (iI c2)), (3, .int (iI c3))]) dX8_goThrough_75 rfl (by decide) rfl ?_
        refine tn_goto (tgt := 9) dX8_goThrough_78 (by decide) ?_
        exact tn_sub [2, 3, 4, 5, 0] rfl (ih _ (by omega) (i4 + 1) σ74 w78 ((FrC.rfl.trans (FrC.sub hF (by decide))).trans (FrC.sub F79 (by decide))) (by omega) rfl)
theorem ml8_156 : Cond.methodLink RX8 156 yX1_fallsOn ∈ pWW := pw6 (List.mem_of_getElem? (i := 7) rfl) rfl
theorem ml8_163 : Cond.methodLink RX8 163 yX1_targetOf ∈ pWW := pw6 (List.mem_of_getElem? (i := 12) rfl) rfl
theorem ml8_160 : Cond.methodLink RX8 160 yX8_comeTo ∈ pWW := pw6 (List.mem_of_getElem? (i := 8) rfl) rfl
theorem dX8_goThrough_81 : decode cX8_goThrough 81 = .ok (.aload_n 0, 1) := by decide +kernel
theorem dX8_goThrough_82 : decode cX8_goThrough 82 = .ok (.getfield 31, 3) := by decide +kernel
theorem dX8_goThrough_85 : decode cX8_goThrough 85 = .ok (.iconst 0, 1) := by decide +kernel
theorem dX8_goThrough_86 : decode cX8_goThrough 86 = .ok (.iload_n 3, 1) := by decide +kernel
theorem dX8_goThrough_87 : decode cX8_goThrough 87 = .ok (.invokestatic 104, 3) := by decide +kernel
theorem dX8_goThrough_90 : decode cX8_goThrough 90 = .ok (.aload_n 1, 1) := by decide +kernel
theorem dX8_goThrough_91 : decode cX8_goThrough 91 = .ok (.iload_n 2, 1) := by decide +kernel
theorem dX8_goThrough_92 : decode cX8_goThrough 92 = .ok (.invokevirtual 156, 3) := by decide +kernel
theorem dX8_goThrough_95 : decode cX8_goThrough 95 = .ok (.ifCond .eq 11, 3) := by decide +kernel
theorem dX8_goThrough_106 : decode cX8_goThrough 106 = .ok (.aload_n 0, 1) := by decide +kernel
theorem dX8_goThrough_107 : decode cX8_goThrough 107 = .ok (.aload_n 1, 1) := by decide +kernel
theorem dX8_goThrough_108 : decode cX8_goThrough 108 = .ok (.aload_n 1, 1) := by decide +kernel
theorem dX8_goThrough_109 : decode cX8_goThrough 109 = .ok (.iload_n 2, 1) := by decide +kernel
theorem dX8_goThrough_110 : decode cX8_goThrough 110 = .ok (.invokevirtual 163, 3) := by decide +kernel
theorem dX8_goThrough_113 : decode cX8_goThrough 113 = .ok (.invokevirtual 160, 3) := by decide +kernel
theorem dX8_goThrough_116 : decode cX8_goThrough 116 = .ok (.return_, 1) := by decide +kernel
theorem dX8_goThrough_98 : decode cX8_goThrough 98 = .ok (.aload_n 0, 1) := by decide +kernel
theorem dX8_goThrough_99 : decode cX8_goThrough 99 = .ok (.aload_n 1, 1) := by decide +kernel
theorem dX8_goThrough_100 : decode cX8_goThrough 100 = .ok (.iload_n 2, 1) := by decide +kernel
theorem dX8_goThrough_101 : decode cX8_goThrough 101 = .ok (.iconst 1, 1) := by decide +kernel
theorem dX8_goThrough_102 : decode cX8_goThrough 102 = .ok (.iadd, 1) := by decide +kernel
theorem dX8_goThrough_103 : decode cX8_goThrough 103 = .ok (.invokevirtual 160, 3) := by decide +kernel
set_option maxRecDepth 20000 in
theorem k_X8_goThrough (d : Nat) {T : CT} {σ : MS} {a : Nat} {p1 : Nat} {p2 : Int} (ha : OB T a 8) (h_p1 : OB T p1 1) (t_p1 : (T p1).1 = 50) (h_p2 : -2147483648 ≤ p2 ∧ p2 ≤ 2147483647) (hw : WT T σ) : Tn (d + 3) m_X8_goThrough 0 T σ [(0, .ref a), (1, .ref p1), (2, .int (iI p2))] [] (fun ro T2 σ2 => ro = none ∧ T = T2 ∧ WT T2 σ2 ∧ FrC T [80] σ σ2) := by
  refine tn_aload_n dX8_goThrough_0 rfl 1 rfl ?_
  refine tn_iload_n dX8_goThrough_1 rfl 2 rfl ?_
  refine tn_callV (M := m_X8_goThrough) (pc := 2) (ix := 120) (ci := 1) (M' := m_X1_writtenBy) (As := [.int (iI p2)]) (rest := []) dX8_goThrough_2 ok_X1_writtenBy im_X1_writtenBy se_X1_writtenBy ml8_120 np_X1_writtenBy rfl rfl h_p1 rfl (Nat.le_of_ble_eq_true rfl) (Nat.le_of_ble_eq_true rfl) rfl (k_X1_writtenBy (d) (T := T) (σ := σ) (a := p1) (k := p2) h_p1 (by omega) hw ) (fun r1 T3 σ2 gt4 hp => ?_)
  obtain ⟨v6, rfl, rfl, rfl, f5⟩ := hp
  clear gt4
  show Tn _ _ 5 T σ [(0, .ref a), (1, .ref p1), (2, .int (iI p2))] [.int (iI v6)] _
  refine tn_istore_n (L' := [(3, .int (iI v6)), (0, .ref a), (1, .ref p1), (2, .int (iI p2))]) dX8_goThrough_5 rfl (by decide) rfl ?_
  refine tn_iconst dX8_goThrough_6 ?_
  refine tn_istore (L' := [(4, .int (iI 0)), (3, .int (iI v6)), (0, .ref a), (1, .ref p1), (2, .int (iI p2))]) dX8_goThrough_7 (by decide) rfl ?_
  refine tn_sub [2, 3, 4, 1, 0] rfl (l_X8_goThrough_9 (d) (T := T) (σ0 := σ) (a := a) (rx1 := p1) (c2 := p2) (c3 := v6) ha h_p1 t_p1 (by omega) (by omega) hw (fun i47 σ8 w11 F12 r13 => ?_) _ (0) σ hw FrC.rfl (by omega) rfl)
  show Tn _ _ 81 T σ8 [(0, .ref a), (1, .ref p1), (2, .int (iI p2)), (3, .int (iI v6)), (4, .int (iI i47))] [] _
  refine tn_aload_n dX8_goThrough_81 rfl 0 rfl ?_
  obtain ⟨x14, hx15, hk16, hl17⟩ : ∃ x : Nat, σ.2.1 79 a = (x : Int) ∧ AR T x 3 3 3 := wf_79 hw ha
  refine tn_getR (ci := 8) (i := 7) (n := 79) (x := x14) dX8_goThrough_82 rfl lay_8 (by decide) fl8_31 ha rfl rfl (rc_F F12 (Or.inl (by decide)) (by decide) (hx15)) ?_
  refine tn_iconst dX8_goThrough_85 ?_
  refine tn_iload_n dX8_goThrough_86 rfl 3 rfl ?_
  refine tn_callSN (M := m_X8_goThrough) (pc := 87) (ix := 104) (M' := m_X11_include) (As := [.ref x14, .int (iI 0), .int (iI v6)]) (rest := []) dX8_goThrough_87 ok_X11_include stt_X11_include nl8_104 np_X11_include rfl (Nat.le_of_ble_eq_true rfl) (Nat.le_of_ble_eq_true rfl) rfl (k_X11_include (d) (T := T) (σ := σ8) (x := x14) (k := 0) (r := v6) hk16 (by omega) (by decide) (by omega) w11 ) (fun r18 T20 σ19 gt21 hp => ?_)
  obtain ⟨rfl, rfl, w23, F24⟩ := hp
  clear gt21
  show Tn _ _ 90 T σ19 [(0, .ref a), (1, .ref p1), (2, .int (iI p2)), (3, .int (iI v6)), (4, .int (iI i47))] [] _
  refine tn_aload_n dX8_goThrough_90 rfl 1 rfl ?_
  refine tn_iload_n dX8_goThrough_91 rfl 2 rfl ?_
  refine tn_callV (M := m_X8_goThrough) (pc := 92) (ix := 156) (ci := 1) (M' := m_X1_fallsOn) (As := [.int (iI p2)]) (rest := []) dX8_goThrough_92 ok_X1_fallsOn im_X1_fallsOn se_X1_fallsOn ml8_156 np_X1_fallsOn rfl rfl h_p1 rfl (Nat.le_of_ble_eq_true rfl) (Nat.le_of_ble_eq_true rfl) rfl (k_X1_fallsOn (d) (T := T) (σ := σ19) (a := p1) (k := p2) h_p1 (by omega) w23 ) (fun r25 T27 σ26 gt28 hp => ?_)
  obtain ⟨v30, rfl, rfl, rfl, f29⟩ := hp
  clear gt28
  show Tn _ _ 95 T σ19 [(0, .ref a), (1, .ref p1), (2, .int (iI p2)), (3, .int (iI v6)), (4, .int (iI i47))] [.int (iI v30)] _
  refine tn_if_eq (tgt := 106) dX8_goThrough_95 (by decide) ⟨by omega, by omega⟩ (fun h31 => ?_) (fun h31 => ?_)
  · refine tn_aload_n dX8_goThrough_106 rfl 0 rfl ?_
    refine tn_aload_n dX8_goThrough_107 rfl 1 rfl ?_
    refine tn_aload_n dX8_goThrough_108 rfl 1 rfl ?_
    refine tn_iload_n dX8_goThrough_109 rfl 2 rfl ?_
    refine tn_callV (M := m_X8_goThrough) (pc := 110) (ix := 163) (ci := 1) (M' := m_X1_targetOf) (As := [.int (iI p2)]) (rest := [.ref p1, .ref a]) dX8_goThrough_110 ok_X1_targetOf im_X1_targetOf se_X1_targetOf ml8_163 np_X1_targetOf rfl rfl h_p1 rfl (Nat.le_of_ble_eq_true rfl) (Nat.le_of_ble_eq_true rfl) rfl (k_X1_targetOf (d) (T := T) (σ := σ19) (a := p1) (k := p2) h_p1 (by omega) w23 ) (fun r32 T34 σ33 gt35 hp => ?_)
    obtain ⟨v37, rfl, rfl, rfl, f36⟩ := hp
    clear gt35
    show Tn _ _ 113 T σ19 [(0, .ref a), (1, .ref p1), (2, .int (iI p2)), (3, .int (iI v6)), (4, .int (iI i47))] [.int (iI v37), .ref p1, .ref a] _
    refine tn_callV (M := m_X8_goThrough) (pc := 113) (ix := 160) (ci := 8) (M' := m_X8_comeTo) (As := [.ref p1, .int (iI v37)]) (rest := []) dX8_goThrough_113 ok_X8_comeTo im_X8_comeTo se_X8_comeTo ml8_160 np_X8_comeTo rfl rfl ha rfl (Nat.le_of_ble_eq_true rfl) (Nat.le_of_ble_eq_true rfl) rfl (k_X8_comeTo (d) (T := T) (σ := σ19) (a := a) (p1 := p1) (p2 := v37) ha h_p1 t_p1 (by omega) w23 ) (fun r38 T40 σ39 gt41 hp => ?_)
    obtain ⟨rfl, rfl, w43, F44⟩ := hp
    clear gt41
    show Tn _ _ 116 T σ39 [(0, .ref a), (1, .ref p1), (2, .int (iI p2)), (3, .int (iI v6)), (4, .int (iI i47))] [] _
    exact tn_vret rfl dX8_goThrough_116 ⟨rfl, rfl, w43, (((FrC.rfl.trans (FrC.sub F12 (by decide))).trans (FrC.sub F24 (by decide))).trans (FrC.sub F44 (by decide)))⟩
  · refine tn_aload_n dX8_goThrough_98 rfl 0 rfl ?_
    refine tn_aload_n dX8_goThrough_99 rfl 1 rfl ?_
    refine tn_iload_n dX8_goThrough_100 rfl 2 rfl ?_
    refine tn_iconst dX8_goThrough_101 ?_
    refine tn_iadd dX8_goThrough_102 ?_
    refine tn_any (fun z45 g46 => ?_)
    have g46r : -2147483648 ≤ z45 ∧ z45 ≤ 2147483647 := g46
    refine tn_callV (M := m_X8_goThrough) (pc := 103) (ix := 160) (ci := 8) (M' := m_X8_comeTo) (As := [.ref p1, .int (iI z45)]) (rest := []) dX8_goThrough_103 ok_X8_comeTo im_X8_comeTo se_X8_comeTo ml8_160 np_X8_comeTo rfl rfl ha rfl (Nat.le_of_ble_eq_true rfl) (Nat.le_of_ble_eq_true rfl) rfl (k_X8_comeTo (d) (T := T) (σ := σ19) (a := a) (p1 := p1) (p2 := z45) ha h_p1 t_p1 (by omega) w23 ) (fun r47 T49 σ48 gt50 hp => ?_)
    obtain ⟨rfl, rfl, w52, F53⟩ := hp
    clear gt50
    show Tn _ _ 106 T σ48 [(0, .ref a), (1, .ref p1), (2, .int (iI p2)), (3, .int (iI v6)), (4, .int (iI i47))] [] _
    refine tn_aload_n dX8_goThrough_106 rfl 0 rfl ?_
    refine tn_aload_n dX8_goThrough_107 rfl 1 rfl ?_
    refine tn_aload_n dX8_goThrough_108 rfl 1 rfl ?_
    refine tn_iload_n dX8_goThrough_109 rfl 2 rfl ?_
    refine tn_callV (M := m_X8_goThrough) (pc := 110) (ix := 163) (ci := 1) (M' := m_X1_targetOf) (As := [.int (iI p2)]) (rest := [.ref p1, .ref a]) dX8_goThrough_110 ok_X1_targetOf im_X1_targetOf se_X1_targetOf ml8_163 np_X1_targetOf rfl rfl h_p1 rfl (Nat.le_of_ble_eq_true rfl) (Nat.le_of_ble_eq_true rfl) rfl (k_X1_targetOf (d) (T := T) (σ := σ48) (a := p1) (k := p2) h_p1 (by omega) w52 ) (fun r54 T56 σ55 gt57 hp => ?_)
    obtain ⟨v59, rfl, rfl, rfl, f58⟩ := hp
    clear gt57
    show Tn _ _ 113 T σ48 [(0, .ref a), (1, .ref p1), (2, .int (iI p2)), (3, .int (iI v6)), (4, .int (iI i47))] [.int (iI v59), .ref p1, .ref a] _
    refine tn_callV (M := m_X8_goThrough) (pc := 113) (ix := 160) (ci := 8) (M' := m_X8_comeTo) (As := [.ref p1, .int (iI v59)]) (rest := []) dX8_goThrough_113 ok_X8_comeTo im_X8_comeTo se_X8_comeTo ml8_160 np_X8_comeTo rfl rfl ha rfl (Nat.le_of_ble_eq_true rfl) (Nat.le_of_ble_eq_true rfl) rfl (k_X8_comeTo (d) (T := T) (σ := σ48) (a := a) (p1 := p1) (p2 := v59) ha h_p1 t_p1 (by omega) w52 ) (fun r60 T62 σ61 gt63 hp => ?_)
    obtain ⟨rfl, rfl, w65, F66⟩ := hp
    clear gt63
    show Tn _ _ 116 T σ61 [(0, .ref a), (1, .ref p1), (2, .int (iI p2)), (3, .int (iI v6)), (4, .int (iI i47))] [] _
    exact tn_vret rfl dX8_goThrough_116 ⟨rfl, rfl, w65, ((((FrC.rfl.trans (FrC.sub F12 (by decide))).trans (FrC.sub F24 (by decide))).trans (FrC.sub F53 (by decide))).trans (FrC.sub F66 (by decide)))⟩
