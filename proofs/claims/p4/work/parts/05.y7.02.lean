theorem cd_X3_gatherBehind : Cond.code yX3_gatherBehind cX3_gatherBehind 8 none ∈ pWW := pw5 (List.mem_of_getElem? (i := 36) rfl) rfl
abbrev m_X3_gatherBehind : MT := (yX3_gatherBehind, cX3_gatherBehind, 8, none)
theorem ok_X3_gatherBehind : pOk m_X3_gatherBehind := ⟨⟨cd_X3_gatherBehind, ini_3⟩, by decide +kernel, ⟨by decide +kernel, by decide +kernel⟩, Nat.le_of_ble_eq_true rfl⟩
theorem np_X3_gatherBehind : (parseMethodDescriptor yX3_gatherBehind.desc).map (fun d => d.parameters.length) = some 2 := by decide +kernel
theorem im_X3_gatherBehind : Cond.instanceMethod yX3_gatherBehind ∈ pWW := pw5 (List.mem_of_getElem? (i := 35) rfl) rfl
theorem se_X3_gatherBehind : Cond.selects RX3 yX3_gatherBehind yX3_gatherBehind ∈ pWW := pws (List.mem_map.mpr ⟨_, lw_pin 52 rfl, rfl⟩) rfl
theorem ml3_48 : Cond.methodLink RX3 48 yX1_fallsOn ∈ pWW := pw5 (List.mem_of_getElem? (i := 15) rfl) rfl
theorem ml3_52 : Cond.methodLink RX3 52 yX1_targetOf ∈ pWW := pw5 (List.mem_of_getElem? (i := 16) rfl) rfl
theorem fl3_15 : Cond.fieldLink RX3 15 (TX3 1).1 (TX3 1).2.1 (TX3 1).2.2.1 ∈ pWW := pw1 (List.mem_of_getElem? (i := 223) rfl) rfl
theorem nl3_60 : (RX3, 60, yX11_putBits, "LineKeeper") ∈ nst_M := List.mem_of_getElem? (i := 26) rfl
theorem nl3_56 : (RX3, 56, yX11_bitsAt, "LineKeeper") ∈ nst_M := List.mem_of_getElem? (i := 25) rfl
theorem dX3_gatherBehind_0 : decode cX3_gatherBehind 0 = .ok (.aload_n 1, 1) := by decide +kernel
theorem dX3_gatherBehind_1 : decode cX3_gatherBehind 1 = .ok (.iload_n 2, 1) := by decide +kernel
theorem dX3_gatherBehind_2 : decode cX3_gatherBehind 2 = .ok (.invokevirtual 48, 3) := by decide +kernel
theorem dX3_gatherBehind_5 : decode cX3_gatherBehind 5 = .ok (.istore_n 3, 1) := by decide +kernel
theorem dX3_gatherBehind_6 : decode cX3_gatherBehind 6 = .ok (.aload_n 1, 1) := by decide +kernel
theorem dX3_gatherBehind_7 : decode cX3_gatherBehind 7 = .ok (.iload_n 2, 1) := by decide +kernel
theorem dX3_gatherBehind_8 : decode cX3_gatherBehind 8 = .ok (.invokevirtual 52, 3) := by decide +kernel
theorem dX3_gatherBehind_11 : decode cX3_gatherBehind 11 = .ok (.istore 4, 2) := by decide +kernel
theorem dX3_gatherBehind_13 : decode cX3_gatherBehind 13 = .ok (.iconst 0, 1) := by decide +kernel
theorem dX3_gatherBehind_14 : decode cX3_gatherBehind 14 = .ok (.istore 5, 2) := by decide +kernel
theorem dX3_gatherBehind_16 : decode cX3_gatherBehind 16 = .ok (.iload 5, 2) := by decide +kernel
theorem dX3_gatherBehind_18 : decode cX3_gatherBehind 18 = .ok (.iconst 3, 1) := by decide +kernel
theorem dX3_gatherBehind_19 : decode cX3_gatherBehind 19 = .ok (.if_icmp .ge 69, 3) := by decide +kernel
theorem dX3_gatherBehind_22 : decode cX3_gatherBehind 22 = .ok (.iload_n 3, 1) := by decide +kernel
theorem dX3_gatherBehind_23 : decode cX3_gatherBehind 23 = .ok (.ifCond .eq 21, 3) := by decide +kernel
theorem dX3_gatherBehind_44 : decode cX3_gatherBehind 44 = .ok (.lconst 0, 1) := by decide +kernel
theorem dX3_gatherBehind_45 : decode cX3_gatherBehind 45 = .ok (.lstore 6, 2) := by decide +kernel
theorem dX3_gatherBehind_47 : decode cX3_gatherBehind 47 = .ok (.iload 4, 2) := by decide +kernel
theorem dX3_gatherBehind_49 : decode cX3_gatherBehind 49 = .ok (.ifCond .lt 22, 3) := by decide +kernel
theorem dX3_gatherBehind_71 : decode cX3_gatherBehind 71 = .ok (.aload_n 0, 1) := by decide +kernel
theorem dX3_gatherBehind_72 : decode cX3_gatherBehind 72 = .ok (.getfield 15, 3) := by decide +kernel
theorem dX3_gatherBehind_75 : decode cX3_gatherBehind 75 = .ok (.iload 5, 2) := by decide +kernel
theorem dX3_gatherBehind_77 : decode cX3_gatherBehind 77 = .ok (.lload 6, 2) := by decide +kernel
theorem dX3_gatherBehind_79 : decode cX3_gatherBehind 79 = .ok (.invokestatic 60, 3) := by decide +kernel
theorem dX3_gatherBehind_82 : decode cX3_gatherBehind 82 = .ok (.iinc 5 1, 3) := by decide +kernel
theorem dX3_gatherBehind_85 : decode cX3_gatherBehind 85 = .ok (.goto (-69), 3) := by decide +kernel
theorem dX3_gatherBehind_52 : decode cX3_gatherBehind 52 = .ok (.lload 6, 2) := by decide +kernel
theorem dX3_gatherBehind_54 : decode cX3_gatherBehind 54 = .ok (.aload_n 0, 1) := by decide +kernel
theorem dX3_gatherBehind_55 : decode cX3_gatherBehind 55 = .ok (.getfield 9, 3) := by decide +kernel
theorem dX3_gatherBehind_58 : decode cX3_gatherBehind 58 = .ok (.iload 4, 2) := by decide +kernel
theorem dX3_gatherBehind_60 : decode cX3_gatherBehind 60 = .ok (.iconst 3, 1) := by decide +kernel
theorem dX3_gatherBehind_61 : decode cX3_gatherBehind 61 = .ok (.imul, 1) := by decide +kernel
theorem dX3_gatherBehind_62 : decode cX3_gatherBehind 62 = .ok (.iload 5, 2) := by decide +kernel
theorem dX3_gatherBehind_64 : decode cX3_gatherBehind 64 = .ok (.iadd, 1) := by decide +kernel
theorem dX3_gatherBehind_65 : decode cX3_gatherBehind 65 = .ok (.invokestatic 56, 3) := by decide +kernel
theorem dX3_gatherBehind_68 : decode cX3_gatherBehind 68 = .ok (.lor, 1) := by decide +kernel
theorem dX3_gatherBehind_69 : decode cX3_gatherBehind 69 = .ok (.lstore 6, 2) := by decide +kernel
theorem dX3_gatherBehind_26 : decode cX3_gatherBehind 26 = .ok (.aload_n 0, 1) := by decide +kernel
theorem dX3_gatherBehind_27 : decode cX3_gatherBehind 27 = .ok (.getfield 9, 3) := by decide +kernel
theorem dX3_gatherBehind_30 : decode cX3_gatherBehind 30 = .ok (.iload_n 2, 1) := by decide +kernel
theorem dX3_gatherBehind_31 : decode cX3_gatherBehind 31 = .ok (.iconst 1, 1) := by decide +kernel
theorem dX3_gatherBehind_32 : decode cX3_gatherBehind 32 = .ok (.iadd, 1) := by decide +kernel
theorem dX3_gatherBehind_33 : decode cX3_gatherBehind 33 = .ok (.iconst 3, 1) := by decide +kernel
theorem dX3_gatherBehind_34 : decode cX3_gatherBehind 34 = .ok (.imul, 1) := by decide +kernel
theorem dX3_gatherBehind_35 : decode cX3_gatherBehind 35 = .ok (.iload 5, 2) := by decide +kernel
theorem dX3_gatherBehind_37 : decode cX3_gatherBehind 37 = .ok (.iadd, 1) := by decide +kernel
theorem dX3_gatherBehind_38 : decode cX3_gatherBehind 38 = .ok (.invokestatic 56, 3) := by decide +kernel
theorem dX3_gatherBehind_41 : decode cX3_gatherBehind 41 = .ok (.goto 4, 3) := by decide +kernel
set_option maxRecDepth 20000 in
theorem l_X3_gatherBehind_16 (d : Nat) {T : CT} {σ0 : MS} {a : Nat} {c2 : Int} {c3 : Int} {c4 : Int} {post : Option Value → CT → MS → Prop} (h_a : OB T a 3) (r_c2 : -2147483648 ≤ c2 ∧ c2 ≤ 2147483647) (r_c3 : 0 ≤ c3 ∧ c3 ≤ 1) (r_c4 : -2147483648 ≤ c4 ∧ c4 ≤ 2147483647) (hw0 : WT T σ0) (hx_88 : ∀ (i5 : Int) (σ : MS) , (WT T σ) → (FrC T [] σ0 σ) → (0 ≤ i5 ∧ i5 ≤ 2147483647) → Tn (d + 3) m_X3_gatherBehind 88 T σ [(0, .ref a), (2, .int (iI c2)), (3, .int (iI c3)), (4, .int (iI c4)), (5, .int (iI i5))] [] post) : ∀ (n : Nat) (i5 : Int) (σ : MS) , (WT T σ) → (FrC T [] σ0 σ) → (0 ≤ i5 ∧ i5 ≤ 2147483647) → (2147483700 - i5).toNat = n → Tn (d + 3) m_X3_gatherBehind 16 T σ [(0, .ref a), (2, .int (iI c2)), (3, .int (iI c3)), (4, .int (iI c4)), (5, .int (iI i5))] [] post := by
  intro n
  induction n using Nat.strongRecOn with
  | _ n ih =>
    intro i5 σ hw hF r_i5 hm
    refine tn_iload dX3_gatherBehind_16 4 rfl ?_
    refine tn_iconst dX3_gatherBehind_18 ?_
    refine tn_icmp_ge (tgt := 88) dX3_gatherBehind_19 (by decide) ⟨by omega, by omega⟩ ⟨by decide, by decide⟩ (fun h1 => ?_) (fun h1 => ?_)
    · exact tn_sub [0, 1, 2, 3, 4] rfl (hx_88 (i5) σ hw (FrC.rfl.trans (FrC.sub hF (by decide))) (by omega))
    · refine tn_iload_n dX3_gatherBehind_22 rfl 2 rfl ?_
      refine tn_if_eq (tgt := 44) dX3_gatherBehind_23 (by decide) ⟨by omega, by omega⟩ (fun h2 => ?_) (fun h2 => ?_)
      · refine tn_lconst (v := 0) dX3_gatherBehind_44 rfl ?_
        refine tn_lstore (L' := [(6, .long (0)), (0, .ref a), (2, .int (iI c2)), (3, .int (iI c3)), (4, .int (iI c4)), (5, .int (iI i5))]) dX3_gatherBehind_45 (by decide) rfl ?_
        refine tn_iload dX3_gatherBehind_47 4 rfl ?_
        refine tn_if_lt (tgt := 71) dX3_gatherBehind_49 (by decide) ⟨by omega, by omega⟩ (fun h3 => ?_) (fun h3 => ?_)
        · refine tn_aload_n dX3_gatherBehind_71 rfl 1 rfl ?_
          obtain ⟨x4, hx5, hk6, hl7⟩ : ∃ x : Nat, σ0.2.1 19 a = (x : Int) ∧ AR T x 3 3 3 := wf_19 hw0 h_a
          refine tn_getR (ci := 3) (i := 1) (n := 19) (x := x4) dX3_gatherBehind_72 rfl lay_3 (by decide) fl3_15 h_a rfl rfl (rc_F hF (Or.inl (by decide)) (by decide) (hx5)) ?_
          refine tn_iload dX3_gatherBehind_75 5 rfl ?_
          refine tn_lload dX3_gatherBehind_77 0 rfl ?_
          refine tn_callSN (M := m_X3_gatherBehind) (pc := 79) (ix := 60) (M' := m_X11_putBits) (As := [.ref x4, .int (iI i5), .long (0)]) (rest := []) dX3_gatherBehind_79 ok_X11_putBits stt_X11_putBits nl3_60 np_X11_putBits rfl (Nat.le_of_ble_eq_true rfl) (Nat.le_of_ble_eq_true rfl) rfl (k_X11_putBits (d + 1) (T := T) (σ := σ) (x := x4) (i := i5) (w := 0) hk6 (by omega) (by omega) hw ) (fun r8 T10 σ9 gt11 hp => ?_)
          obtain ⟨rfl, rfl, w13, F14⟩ := hp
          clear gt11
          show Tn _ _ 82 T σ9 [(6, .long (0)), (0, .ref a), (2, .int (iI c2)), (3, .int (iI c3)), (4, .int (iI c4)), (5, .int (iI i5))] [] _
          refine tn_iinc (q0 := 5) (L' := [(5, .int (iI (i5 + 1))), (6, .long (0)), (0, .ref a), (2, .int (iI c2)), (3, .int (iI c3)), (4, .int (iI c4))]) dX3_gatherBehind_82 rfl (by decide) rfl ?_
          refine tn_goto (tgt := 16) dX3_gatherBehind_85 (by decide) ?_
          exact tn_sub [2, 3, 4, 5, 0] rfl (ih _ (by omega) (i5 + 1) σ9 w13 ((FrC.rfl.trans (FrC.sub hF (by decide))).trans (FrC.sub F14 (by decide))) (by omega) rfl)
        · refine tn_lload dX3_gatherBehind_52 0 rfl ?_
          refine tn_aload_n dX3_gatherBehind_54 rfl 1 rfl ?_
          obtain ⟨x15, hx16, hk17, hl18⟩ : ∃ x : Nat, σ0.2.1 18 a = (x : Int) ∧ AR T x 3 603 603 := wf_18 hw0 h_a
          refine tn_getR (ci := 3) (i := 0) (n := 18) (x := x15) dX3_gatherBehind_55 rfl lay_3 (by decide) fl3_9 h_a rfl rfl (rc_F hF (Or.inl (by decide)) (by decide) (hx16)) ?_
          refine tn_iload dX3_gatherBehind_58 4 rfl ?_
          refine tn_iconst dX3_gatherBehind_60 ?_
          refine tn_imul dX3_gatherBehind_61 ?_
          refine tn_any (fun z19 g20 => ?_)
          have g20r : -2147483648 ≤ z19 ∧ z19 ≤ 2147483647 := g20
          refine tn_iload dX3_gatherBehind_62 5 rfl ?_
          refine tn_iadd dX3_gatherBehind_64 ?_
          refine tn_any (fun z21 g22 => ?_)
          have g22r : -2147483648 ≤ z21 ∧ z21 ≤ 2147483647 := g22
          refine tn_callSN (M := m_X3_gatherBehind) (pc := 65) (ix := 56) (M' := m_X11_bitsAt) (As := [.ref x15, .int (iI z21)]) (rest := [.long (0)]) dX3_gatherBehind_65 ok_X11_bitsAt stt_X11_bitsAt nl3_56 np_X11_bitsAt rfl (Nat.le_of_ble_eq_true rfl) (Nat.le_of_ble_eq_true rfl) rfl (k_X11_bitsAt (d + 1) (T := T) (σ := σ) (x := x15) (i := z21) hk17 (by omega) (by omega) hw ) (fun r23 T25 σ24 gt26 hp => ?_)
          obtain ⟨v27, rfl, rfl, rfl⟩ := hp
          clear gt26
          show Tn _ _ 68 T σ [(6, .long (0)), (0, .ref a), (2, .int (iI c2)), (3, .int (iI c3)), (4, .int (iI c4)), (5, .int (iI i5))] [.long (v27), .long (0)] _
          refine tn_lor dX3_gatherBehind_68 ?_
          refine tn_longX (fun w28 => ?_)
          refine tn_lstore (L' := [(6, .long (w28)), (0, .ref a), (2, .int (iI c2)), (3, .int (iI c3)), (4, .int (iI c4)), (5, .int (iI i5))]) dX3_gatherBehind_69 (by decide) rfl ?_
          refine tn_aload_n dX3_gatherBehind_71 rfl 1 rfl ?_
          obtain ⟨x29, hx30, hk31, hl32⟩ : ∃ x : Nat, σ0.2.1 19 a = (x : Int) ∧ AR T x 3 3 3 := wf_19 hw0 h_a
          refine tn_getR (ci := 3) (i := 1) (n := 19) (x := x29) dX3_gatherBehind_72 rfl lay_3 (by decide) fl3_15 h_a rfl rfl (rc_F hF (Or.inl (by decide)) (by decide) (hx30)) ?_
          refine tn_iload dX3_gatherBehind_75 5 rfl ?_
          refine tn_lload dX3_gatherBehind_77 0 rfl ?_
          refine tn_callSN (M := m_X3_gatherBehind) (pc := 79) (ix := 60) (M' := m_X11_putBits) (As := [.ref x29, .int (iI i5), .long (w28)]) (rest := []) dX3_gatherBehind_79 ok_X11_putBits stt_X11_putBits nl3_60 np_X11_putBits rfl (Nat.le_of_ble_eq_true rfl) (Nat.le_of_ble_eq_true rfl) rfl (k_X11_putBits (d + 1) (T := T) (σ := σ) (x := x29) (i := i5) (w := w28) hk31 (by omega) (by omega) hw ) (fun r33 T35 σ34 gt36 hp => ?_)
          obtain ⟨rfl, rfl, w38, F39⟩ := hp
          clear gt36
          show Tn _ _ 82 T σ34 [(6, .long (w28)), (0, .ref a), (2, .int (iI c2)), (3, .int (iI c3)), (4, .int (iI c4)), (5, .int (iI i5))] [] _
          refine tn_iinc (q0 := 5) (L' := [(5, .int (iI (i5 + 1))), (6, .long (w28)), (0, .ref a), (2, .int (iI c2)), (3, .int (iI c3)), (4, .int (iI c4))]) dX3_gatherBehind_82 rfl (by decide) rfl ?_
          refine tn_goto (tgt := 16) dX3_gatherBehind_85 (by decide) ?_
          exact tn_sub [2, 3, 4, 5, 0] rfl (ih _ (by omega) (i5 + 1) σ34 w38 ((FrC.rfl.trans (FrC.sub hF (by decide))).trans (FrC.sub F39 (by decide))) (by omega) rfl)
      · refine tn_aload_n dX3_gatherBehind_26 rfl 0 rfl ?_
        obtain ⟨x40, hx41, hk42, hl43⟩ : ∃ x : Nat, σ0.2.1 18 a = (x : Int) ∧ AR T x 3 603 603 := wf_18 hw0 h_a
        refine tn_getR (ci := 3) (i := 0) (n := 18) (x := x40) dX3_gatherBehind_27 rfl lay_3 (by decide) fl3_9 h_a rfl rfl (rc_F hF (Or.inl (by decide)) (by decide) (hx41)) ?_
        refine tn_iload_n dX3_gatherBehind_30 rfl 1 rfl ?_
        refine tn_iconst dX3_gatherBehind_31 ?_
        refine tn_iadd dX3_gatherBehind_32 ?_
        refine tn_any (fun z44 g45 => ?_)
        have g45r : -2147483648 ≤ z44 ∧ z44 ≤ 2147483647 := g45
        refine tn_iconst dX3_gatherBehind_33 ?_
        refine tn_imul dX3_gatherBehind_34 ?_
        refine tn_any (fun z46 g47 => ?_)
        have g47r : -2147483648 ≤ z46 ∧ z46 ≤ 2147483647 := g47
        refine tn_iload dX3_gatherBehind_35 4 rfl ?_
        refine tn_iadd dX3_gatherBehind_37 ?_
        refine tn_any (fun z48 g49 => ?_)
        have g49r : -2147483648 ≤ z48 ∧ z48 ≤ 2147483647 := g49
        refine tn_callSN (M := m_X3_gatherBehind) (pc := 38) (ix := 56) (M' := m_X11_bitsAt) (As := [.ref x40, .int (iI z48)]) (rest := []) dX3_gatherBehind_38 ok_X11_bitsAt stt_X11_bitsAt nl3_56 np_X11_bitsAt rfl (Nat.le_of_ble_eq_true rfl) (Nat.le_of_ble_eq_true rfl) rfl (k_X11_bitsAt (d + 1) (T := T) (σ := σ) (x := x40) (i := z48) hk42 (by omega) (by omega) hw ) (fun r50 T52 σ51 gt53 hp => ?_)
        obtain ⟨v54, rfl, rfl, rfl⟩ := hp
        clear gt53
        show Tn _ _ 41 T σ [(0, .ref a), (2, .int (iI c2)), (3, .int (iI c3)), (4, .int (iI c4)), (5, .int (iI i5))] [.long (v54)] _
        refine tn_goto (tgt := 45) dX3_gatherBehind_41 (by decide) ?_
        refine tn_lstore (L' := [(6, .long (v54)), (0, .ref a), (2, .int (iI c2)), (3, .int (iI c3)), (4, .int (iI c4)), (5, .int (iI i5))]) dX3_gatherBehind_45 (by decide) rfl ?_
        refine tn_iload dX3_gatherBehind_47 4 rfl ?_
        refine tn_if_lt (tgt := 71) dX3_gatherBehind_49 (by decide) ⟨by omega, by omega⟩ (fun h55 => ?_) (fun h55 => ?_)
        · refine tn_aload_n dX3_gatherBehind_71 rfl 1 rfl ?_
          obtain ⟨x56, hx57, hk58, hl59⟩ : ∃ x : Nat, σ0.2.1 19 a = (x : Int) ∧ AR T x 3 3 3 := wf_19 hw0 h_a
          refine tn_getR (ci := 3) (i := 1) (n := 19) (x := x56) dX3_gatherBehind_72 rfl lay_3 (by decide) fl3_15 h_a rfl rfl (rc_F hF (Or.inl (by decide)) (by decide) (hx57)) ?_
          refine tn_iload dX3_gatherBehind_75 5 rfl ?_
          refine tn_lload dX3_gatherBehind_77 0 rfl ?_
          refine tn_callSN (M := m_X3_gatherBehind) (pc := 79) (ix := 60) (M' := m_X11_putBits) (As := [.ref x56, .int (iI i5), .long (v54)]) (rest := []) dX3_gatherBehind_79 ok_X11_putBits stt_X11_putBits nl3_60 np_X11_putBits rfl (Nat.le_of_ble_eq_true rfl) (Nat.le_of_ble_eq_true rfl) rfl (k_X11_putBits (d + 1) (T := T) (σ := σ) (x := x56) (i := i5) (w := v54) hk58 (by omega) (by omega) hw ) (fun r60 T62 σ61 gt63 hp => ?_)
          obtain ⟨rfl, rfl, w65, F66⟩ := hp
          clear gt63
          show Tn _ _ 82 T σ61 [(6, .long (v54)), (0, .ref a), (2, .int (iI c2)), (3, .int (iI c3)), (4, .int (iI c4)), (5, .int (iI i5))] [] _
          refine tn_iinc (q0 := 5) (L' := [(5, .int (iI (i5 + 1))), (6, .long (v54)), (0, .ref a), (2, .int (iI c2)), (3, .int (iI c3)), (4, .int (iI c4))]) dX3_gatherBehind_82 rfl (by decide) rfl ?_
          refine tn_goto (tgt := 16) dX3_gatherBehind_85 (by decide) ?_
          exact tn_sub [2, 3, 4, 5, 0] rfl (ih _ (by omega) (i5 + 1) σ61 w65 ((FrC.rfl.trans (FrC.sub hF (by decide))).trans (FrC.sub F66 (by decide))) (by omega) rfl)
        · refine tn_lload dX3_gatherBehind_52 0 rfl ?_
          refine tn_aload_n dX3_gatherBehind_54 rfl 1 rfl ?_
          refine tn_getR (ci := 3) (i := 0) (n := 18) (x := x40) dX3_gatherBehind_55 rfl lay_3 (by decide) fl3_9 h_a rfl rfl (rc_F hF (Or.inl (by decide)) (by decide) (hx41)) ?_
          refine tn_iload dX3_gatherBehind_58 4 rfl ?_
          refine tn_iconst dX3_gatherBehind_60 ?_
          refine tn_imul dX3_gatherBehind_61 ?_
          refine tn_any (fun z67 g68 => ?_)
          have g68r : -2147483648 ≤ z67 ∧ z67 ≤ 2147483647 := g68
          refine tn_iload dX3_gatherBehind_62 5 rfl ?_
          refine tn_iadd dX3_gatherBehind_64 ?_
          refine tn_any (fun z69 g70 => ?_)
          have g70r : -2147483648 ≤ z69 ∧ z69 ≤ 2147483647 := g70
          refine tn_callSN (M := m_X3_gatherBehind) (pc := 65) (ix := 56) (M' := m_X11_bitsAt) (As := [.ref x40, .int (iI z69)]) (rest := [.long (v54)]) dX3_gatherBehind_65 ok_X11_bitsAt stt_X11_bitsAt nl3_56 np_X11_bitsAt rfl (Nat.le_of_ble_eq_true rfl) (Nat.le_of_ble_eq_true rfl) rfl (k_X11_bitsAt (d + 1) (T := T) (σ := σ) (x := x40) (i := z69) hk42 (by omega) (by omega) hw ) (fun r71 T73 σ72 gt74 hp => ?_)
          obtain ⟨v75, rfl, rfl, rfl⟩ := hp
          clear gt74
          show Tn _ _ 68 T σ [(6, .long (v54)), (0, .ref a), (2, .int (iI c2)), (3, .int (iI c3)), (4, .int (iI c4)), (5, .int (iI i5))] [.long (v75), .long (v54)] _
          refine tn_lor dX3_gatherBehind_68 ?_
          refine tn_longX (fun w76 => ?_)
          refine tn_lstore (L' := [(6, .long (w76)), (0, .ref a), (2, .int (iI c2)), (3, .int (iI c3)), (4, .int (iI c4)), (5, .int (iI i5))]) dX3_gatherBehind_69 (by decide) rfl ?_
          refine tn_aload_n dX3_gatherBehind_71 rfl 1 rfl ?_
          obtain ⟨x77, hx78, hk79, hl80⟩ : ∃ x : Nat, σ0.2.1 19 a = (x : Int) ∧ AR T x 3 3 3 := wf_19 hw0 h_a
          refine tn_getR (ci := 3) (i := 1) (n := 19) (x := x77) dX3_gatherBehind_72 rfl lay_3 (by decide) fl3_15 h_a rfl rfl (rc_F hF (Or.inl (by decide)) (by decide) (hx78)) ?_
          refine tn_iload dX3_gatherBehind_75 5 rfl ?_
          refine tn_lload dX3_gatherBehind_77 0 rfl ?_
          refine tn_callSN (M := m_X3_gatherBehind) (pc := 79) (ix := 60) (M' := m_X11_putBits) (As := [.ref x77, .int (iI i5), .long (w76)]) (rest := []) dX3_gatherBehind_79 ok_X11_putBits stt_X11_putBits nl3_60 np_X11_putBits rfl (Nat.le_of_ble_eq_true rfl) (Nat.le_of_ble_eq_true rfl) rfl (k_X11_putBits (d + 1) (T := T) (σ := σ) (x := x77) (i := i5) (w := w76) hk79 (by omega) (by omega) hw ) (fun r81 T83 σ82 gt84 hp => ?_)
          obtain ⟨rfl, rfl, w86, F87⟩ := hp
          clear gt84
          show Tn _ _ 82 T σ82 [(6, .long (w76)), (0, .ref a), (2, .int (iI c2)), (3, .int (iI c3)), (4, .int (iI c4)), (5, .int (iI i5))] [] _
          refine tn_iinc (q0 := 5) (L' := [(5, .int (iI (i5 + 1))), (6, .long (w76)), (0, .ref a), (2, .int (iI c2)), (3, .int (iI c3)), (4, .int (iI c4))]) dX3_gatherBehind_82 rfl (by decide) rfl ?_
          refine tn_goto (tgt := 16) dX3_gatherBehind_85 (by decide) ?_
          exact tn_sub [2, 3, 4, 5, 0] rfl (ih _ (by omega) (i5 + 1) σ82 w86 ((FrC.rfl.trans (FrC.sub hF (by decide))).trans (FrC.sub F87 (by decide))) (by omega) rfl)
theorem dX3_gatherBehind_88 : decode cX3_gatherBehind 88 = .ok (.return_, 1) := by decide +kernel
set_option maxRecDepth 20000 in
theorem k_X3_gatherBehind (d : Nat) {T : CT} {σ : MS} {a : Nat} {p1 : Nat} {p2 : Int} (ha : OB T a 3) (h_p1 : OB T p1 1) (h_p2 : -2147483648 ≤ p2 ∧ p2 ≤ 2147483647) (hw : WT T σ) : Tn (d + 3) m_X3_gatherBehind 0 T σ [(0, .ref a), (1, .ref p1), (2, .int (iI p2))] [] (fun ro T2 σ2 => ro = none ∧ T = T2 ∧ WT T2 σ2 ∧ FrC T [] σ σ2) := by
  refine tn_aload_n dX3_gatherBehind_0 rfl 1 rfl ?_
  refine tn_iload_n dX3_gatherBehind_1 rfl 2 rfl ?_
  refine tn_callV (M := m_X3_gatherBehind) (pc := 2) (ix := 48) (ci := 1) (M' := m_X1_fallsOn) (As := [.int (iI p2)]) (rest := []) dX3_gatherBehind_2 ok_X1_fallsOn im_X1_fallsOn se_X1_fallsOn ml3_48 np_X1_fallsOn rfl rfl h_p1 rfl (Nat.le_of_ble_eq_true rfl) (Nat.le_of_ble_eq_true rfl) rfl (k_X1_fallsOn (d) (T := T) (σ := σ) (a := p1) (k := p2) h_p1 (by omega) hw ) (fun r1 T3 σ2 gt4 hp => ?_)
  obtain ⟨v6, rfl, rfl, rfl, f5⟩ := hp
  clear gt4
  show Tn _ _ 5 T σ [(0, .ref a), (1, .ref p1), (2, .int (iI p2))] [.int (iI v6)] _
  refine tn_istore_n (L' := [(3, .int (iI v6)), (0, .ref a), (1, .ref p1), (2, .int (iI p2))]) dX3_gatherBehind_5 rfl (by decide) rfl ?_
  refine tn_aload_n dX3_gatherBehind_6 rfl 2 rfl ?_
  refine tn_iload_n dX3_gatherBehind_7 rfl 3 rfl ?_
  refine tn_callV (M := m_X3_gatherBehind) (pc := 8) (ix := 52) (ci := 1) (M' := m_X1_targetOf) (As := [.int (iI p2)]) (rest := []) dX3_gatherBehind_8 ok_X1_targetOf im_X1_targetOf se_X1_targetOf ml3_52 np_X1_targetOf rfl rfl h_p1 rfl (Nat.le_of_ble_eq_true rfl) (Nat.le_of_ble_eq_true rfl) rfl (k_X1_targetOf (d) (T := T) (σ := σ) (a := p1) (k := p2) h_p1 (by omega) hw ) (fun r7 T9 σ8 gt10 hp => ?_)
  obtain ⟨v12, rfl, rfl, rfl, f11⟩ := hp
  clear gt10
  show Tn _ _ 11 T σ [(3, .int (iI v6)), (0, .ref a), (1, .ref p1), (2, .int (iI p2))] [.int (iI v12)] _
  refine tn_istore (L' := [(4, .int (iI v12)), (3, .int (iI v6)), (0, .ref a), (1, .ref p1), (2, .int (iI p2))]) dX3_gatherBehind_11 (by decide) rfl ?_
  refine tn_iconst dX3_gatherBehind_13 ?_
  refine tn_istore (L' := [(5, .int (iI 0)), (4, .int (iI v12)), (3, .int (iI v6)), (0, .ref a), (1, .ref p1), (2, .int (iI p2))]) dX3_gatherBehind_14 (by decide) rfl ?_
  refine tn_sub [3, 5, 2, 1, 0] rfl (l_X3_gatherBehind_16 (d) (T := T) (σ0 := σ) (a := a) (c2 := p2) (c3 := v6) (c4 := v12) ha (by omega) (by omega) (by omega) hw (fun i513 σ14 w17 F18 r19 => ?_) _ (0) σ hw FrC.rfl (by omega) rfl)
  show Tn _ _ 88 T σ14 [(0, .ref a), (2, .int (iI p2)), (3, .int (iI v6)), (4, .int (iI v12)), (5, .int (iI i513))] [] _
  exact tn_vret rfl dX3_gatherBehind_88 ⟨rfl, rfl, w17, (FrC.rfl.trans (FrC.sub F18 (by decide)))⟩
