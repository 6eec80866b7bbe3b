theorem cd_X10_goThrough : Cond.code yX10_goThrough cX10_goThrough 7 none ∈ pWW := pw4 (List.mem_of_getElem? (i := 137) rfl) rfl
abbrev m_X10_goThrough : MT := (yX10_goThrough, cX10_goThrough, 7, none)
theorem ok_X10_goThrough : pOk m_X10_goThrough := ⟨⟨cd_X10_goThrough, ini_10⟩, by decide +kernel, ⟨by decide +kernel, by decide +kernel⟩, Nat.le_of_ble_eq_true rfl⟩
theorem np_X10_goThrough : (parseMethodDescriptor yX10_goThrough.desc).map (fun d => d.parameters.length) = some 2 := by decide +kernel
theorem im_X10_goThrough : Cond.instanceMethod yX10_goThrough ∈ pWW := pw4 (List.mem_of_getElem? (i := 136) rfl) rfl
theorem se_X10_goThrough : Cond.selects RX10 yX10_goThrough yX10_goThrough ∈ pWW := pws (List.mem_map.mpr ⟨_, lw_pin 41 rfl, rfl⟩) rfl
theorem ml10_96 : Cond.methodLink RX10 96 yX1_writtenBy ∈ pWW := pw4 (List.mem_of_getElem? (i := 139) rfl) rfl
theorem ml10_100 : Cond.methodLink RX10 100 yX10_leans ∈ pWW := pw4 (List.mem_of_getElem? (i := 140) rfl) rfl
theorem dX10_goThrough_0 : decode cX10_goThrough 0 = .ok (.aload_n 0, 1) := by decide +kernel
theorem dX10_goThrough_1 : decode cX10_goThrough 1 = .ok (.getfield 61, 3) := by decide +kernel
theorem dX10_goThrough_4 : decode cX10_goThrough 4 = .ok (.iload_n 2, 1) := by decide +kernel
theorem dX10_goThrough_5 : decode cX10_goThrough 5 = .ok (.aload_n 0, 1) := by decide +kernel
theorem dX10_goThrough_6 : decode cX10_goThrough 6 = .ok (.getfield 50, 3) := by decide +kernel
theorem dX10_goThrough_9 : decode cX10_goThrough 9 = .ok (.imul, 1) := by decide +kernel
theorem dX10_goThrough_10 : decode cX10_goThrough 10 = .ok (.invokestatic 40, 3) := by decide +kernel
theorem dX10_goThrough_13 : decode cX10_goThrough 13 = .ok (.ifCond .ne 4, 3) := by decide +kernel
theorem dX10_goThrough_16 : decode cX10_goThrough 16 = .ok (.return_, 1) := by decide +kernel
theorem dX10_goThrough_17 : decode cX10_goThrough 17 = .ok (.aload_n 1, 1) := by decide +kernel
theorem dX10_goThrough_18 : decode cX10_goThrough 18 = .ok (.iload_n 2, 1) := by decide +kernel
theorem dX10_goThrough_19 : decode cX10_goThrough 19 = .ok (.iconst 0, 1) := by decide +kernel
theorem dX10_goThrough_20 : decode cX10_goThrough 20 = .ok (.invokevirtual 44, 3) := by decide +kernel
theorem dX10_goThrough_23 : decode cX10_goThrough 23 = .ok (.istore_n 3, 1) := by decide +kernel
theorem dX10_goThrough_24 : decode cX10_goThrough 24 = .ok (.aload_n 1, 1) := by decide +kernel
theorem dX10_goThrough_25 : decode cX10_goThrough 25 = .ok (.iload_n 2, 1) := by decide +kernel
theorem dX10_goThrough_26 : decode cX10_goThrough 26 = .ok (.invokevirtual 96, 3) := by decide +kernel
theorem dX10_goThrough_29 : decode cX10_goThrough 29 = .ok (.istore 4, 2) := by decide +kernel
theorem dX10_goThrough_31 : decode cX10_goThrough 31 = .ok (.iconst 0, 1) := by decide +kernel
theorem dX10_goThrough_32 : decode cX10_goThrough 32 = .ok (.istore 5, 2) := by decide +kernel
theorem dX10_goThrough_34 : decode cX10_goThrough 34 = .ok (.iload 5, 2) := by decide +kernel
theorem dX10_goThrough_36 : decode cX10_goThrough 36 = .ok (.aload_n 0, 1) := by decide +kernel
theorem dX10_goThrough_37 : decode cX10_goThrough 37 = .ok (.getfield 50, 3) := by decide +kernel
theorem dX10_goThrough_40 : decode cX10_goThrough 40 = .ok (.if_icmp .ge 60, 3) := by decide +kernel
theorem dX10_goThrough_43 : decode cX10_goThrough 43 = .ok (.aload_n 0, 1) := by decide +kernel
theorem dX10_goThrough_44 : decode cX10_goThrough 44 = .ok (.getfield 61, 3) := by decide +kernel
theorem dX10_goThrough_47 : decode cX10_goThrough 47 = .ok (.iload_n 2, 1) := by decide +kernel
theorem dX10_goThrough_48 : decode cX10_goThrough 48 = .ok (.aload_n 0, 1) := by decide +kernel
theorem dX10_goThrough_49 : decode cX10_goThrough 49 = .ok (.getfield 50, 3) := by decide +kernel
theorem dX10_goThrough_52 : decode cX10_goThrough 52 = .ok (.imul, 1) := by decide +kernel
theorem dX10_goThrough_53 : decode cX10_goThrough 53 = .ok (.iload 5, 2) := by decide +kernel
theorem dX10_goThrough_55 : decode cX10_goThrough 55 = .ok (.iadd, 1) := by decide +kernel
theorem dX10_goThrough_56 : decode cX10_goThrough 56 = .ok (.invokestatic 40, 3) := by decide +kernel
theorem dX10_goThrough_59 : decode cX10_goThrough 59 = .ok (.istore 6, 2) := by decide +kernel
theorem dX10_goThrough_61 : decode cX10_goThrough 61 = .ok (.aload_n 0, 1) := by decide +kernel
theorem dX10_goThrough_62 : decode cX10_goThrough 62 = .ok (.getfield 23, 3) := by decide +kernel
theorem dX10_goThrough_65 : decode cX10_goThrough 65 = .ok (.iload 5, 2) := by decide +kernel
theorem dX10_goThrough_67 : decode cX10_goThrough 67 = .ok (.iload 4, 2) := by decide +kernel
theorem dX10_goThrough_69 : decode cX10_goThrough 69 = .ok (.iconst (-1), 1) := by decide +kernel
theorem dX10_goThrough_70 : decode cX10_goThrough 70 = .ok (.if_icmp .eq 19, 3) := by decide +kernel
theorem dX10_goThrough_89 : decode cX10_goThrough 89 = .ok (.iload 6, 2) := by decide +kernel
theorem dX10_goThrough_91 : decode cX10_goThrough 91 = .ok (.invokestatic 26, 3) := by decide +kernel
theorem dX10_goThrough_94 : decode cX10_goThrough 94 = .ok (.iinc 5 1, 3) := by decide +kernel
theorem dX10_goThrough_97 : decode cX10_goThrough 97 = .ok (.goto (-63), 3) := by decide +kernel
theorem dX10_goThrough_73 : decode cX10_goThrough 73 = .ok (.aload_n 0, 1) := by decide +kernel
theorem dX10_goThrough_74 : decode cX10_goThrough 74 = .ok (.aload_n 1, 1) := by decide +kernel
theorem dX10_goThrough_75 : decode cX10_goThrough 75 = .ok (.iload 6, 2) := by decide +kernel
theorem dX10_goThrough_77 : decode cX10_goThrough 77 = .ok (.iload 4, 2) := by decide +kernel
theorem dX10_goThrough_79 : decode cX10_goThrough 79 = .ok (.invokevirtual 100, 3) := by decide +kernel
theorem dX10_goThrough_82 : decode cX10_goThrough 82 = .ok (.ifCond .eq 7, 3) := by decide +kernel
theorem dX10_goThrough_85 : decode cX10_goThrough 85 = .ok (.iconst 3, 1) := by decide +kernel
theorem dX10_goThrough_86 : decode cX10_goThrough 86 = .ok (.goto 5, 3) := by decide +kernel
set_option maxRecDepth 20000 in
theorem l_X10_goThrough_34 (d : Nat) {T : CT} {σ0 : MS} {a : Nat} {rx1 : Nat} {c2 : Int} {c3 : Int} {c4 : Int} {post : Option Value → CT → MS → Prop} (h_a : OB T a 10) (h_rx1 : OB T rx1 1) (t_rx1 : (T rx1).1 = 50) (r_c2 : -2147483648 ≤ c2 ∧ c2 ≤ 2147483647) (r_c3 : -2147483648 ≤ c3 ∧ c3 ≤ 2147483647) (r_c4 : -2147483648 ≤ c4 ∧ c4 ≤ 2147483647) (hw0 : WT T σ0) (hx_100 : ∀ (i5 : Int) (σ : MS) , (WT T σ) → (FrC T [] σ0 σ) → (0 ≤ i5 ∧ i5 ≤ 2147483647) → Tn (d + 4) m_X10_goThrough 100 T σ [(0, .ref a), (1, .ref rx1), (2, .int (iI c2)), (3, .int (iI c3)), (4, .int (iI c4)), (5, .int (iI i5))] [] post) : ∀ (n : Nat) (i5 : Int) (σ : MS) , (WT T σ) → (FrC T [] σ0 σ) → (0 ≤ i5 ∧ i5 ≤ 2147483647) → (2147483700 - i5).toNat = n → Tn (d + 4) m_X10_goThrough 34 T σ [(0, .ref a), (1, .ref rx1), (2, .int (iI c2)), (3, .int (iI c3)), (4, .int (iI c4)), (5, .int (iI i5))] [] post := by
  intro n
  induction n using Nat.strongRecOn with
  | _ n ih =>
    intro i5 σ hw hF r_i5 hm
    refine tn_iload dX10_goThrough_34 5 rfl ?_
    refine tn_aload_n dX10_goThrough_36 rfl 0 rfl ?_
    refine tn_getI (ci := 10) (i := 5) (n := 93) (t := σ0.2.1 93 a) dX10_goThrough_37 rfl lay_10 (by decide) fl10_50 h_a rfl rfl (rc_F hF (Or.inl (by decide)) (by decide) (rfl)) ?_
    have g1 : ((0 : Int) ≤ σ0.2.1 93 a ∧ σ0.2.1 93 a ≤ 145) := wf_93 hw0 h_a
    refine tn_icmp_ge (tgt := 100) dX10_goThrough_40 (by decide) ⟨by omega, by omega⟩ ⟨by omega, by omega⟩ (fun h2 => ?_) (fun h2 => ?_)
    · exact tn_sub [0, 1, 2, 3, 4, 5] rfl (hx_100 (i5) σ hw (FrC.rfl.trans (FrC.sub hF (by decide))) (by omega))
    · refine tn_aload_n dX10_goThrough_43 rfl 0 rfl ?_
      rcases wf_92 hw0 h_a with hx3 | ⟨x4, hx3, hk5, hl6⟩
      · refine tn_getN (ci := 10) (i := 4) (n := 92) dX10_goThrough_44 rfl lay_10 (by decide) fl10_61 h_a rfl rfl (Int.lt_of_le_of_lt (Int.le_of_eq (rc_F hF (Or.inl (by decide)) (by decide) (Eq.refl _))) hx3) ?_
        refine tn_iload_n dX10_goThrough_47 rfl 2 rfl ?_
        refine tn_aload_n dX10_goThrough_48 rfl 0 rfl ?_
        refine tn_getI (ci := 10) (i := 5) (n := 93) (t := σ0.2.1 93 a) dX10_goThrough_49 rfl lay_10 (by decide) fl10_50 h_a rfl rfl (rc_F hF (Or.inl (by decide)) (by decide) (rfl)) ?_
        refine tn_imul dX10_goThrough_52 ?_
        refine tn_any (fun z7 g8 => ?_)
        have g8r : -2147483648 ≤ z7 ∧ z7 ≤ 2147483647 := g8
        refine tn_iload dX10_goThrough_53 5 rfl ?_
        refine tn_iadd dX10_goThrough_55 ?_
        refine tn_any (fun z9 g10 => ?_)
        have g10r : -2147483648 ≤ z9 ∧ z9 ≤ 2147483647 := g10
        refine tn_callSN (M := m_X10_goThrough) (pc := 56) (ix := 40) (M' := m_X11_at) (As := [.null, .int (iI z9)]) (rest := []) dX10_goThrough_56 ok_X11_at stt_X11_at nl10_40 np_X11_at rfl (Nat.le_of_ble_eq_true rfl) (Nat.le_of_ble_eq_true rfl) rfl (k_X11_at_0 (d + 2) (T := T) (σ := σ) (i := z9) (by omega) hw ) (fun r11 T13 σ12 gt14 hp => ?_)
        obtain ⟨v16, rfl, rfl, rfl, f15⟩ := hp
        clear gt14
        show Tn _ _ 59 T σ [(0, .ref a), (1, .ref rx1), (2, .int (iI c2)), (3, .int (iI c3)), (4, .int (iI c4)), (5, .int (iI i5))] [.int (iI v16)] _
        refine tn_istore (L' := [(6, .int (iI v16)), (0, .ref a), (1, .ref rx1), (2, .int (iI c2)), (3, .int (iI c3)), (4, .int (iI c4)), (5, .int (iI i5))]) dX10_goThrough_59 (by decide) rfl ?_
        refine tn_aload_n dX10_goThrough_61 rfl 1 rfl ?_
        obtain ⟨x17, hx18, hk19, hl20⟩ : ∃ x : Nat, σ0.2.1 91 a = (x : Int) ∧ AR T x 1 145 145 := wf_91 hw0 h_a
        have hk19i : IA T x17 := by unfold IA; omega
        refine tn_getR (ci := 10) (i := 3) (n := 91) (x := x17) dX10_goThrough_62 rfl lay_10 (by decide) fl10_23 h_a rfl rfl (rc_F hF (Or.inl (by decide)) (by decide) (hx18)) ?_
        refine tn_iload dX10_goThrough_65 6 rfl ?_
        refine tn_iload dX10_goThrough_67 5 rfl ?_
        refine tn_iconst dX10_goThrough_69 ?_
        refine tn_icmp_eq (tgt := 89) dX10_goThrough_70 (by decide) ⟨by omega, by omega⟩ ⟨by decide, by decide⟩ (fun h21 => ?_) (fun h21 => ?_)
        · refine tn_iload dX10_goThrough_89 0 rfl ?_
          refine tn_callSN (M := m_X10_goThrough) (pc := 91) (ix := 26) (M' := m_X11_put) (As := [.ref x17, .int (iI i5), .int (iI v16)]) (rest := []) dX10_goThrough_91 ok_X11_put stt_X11_put nl10_26 np_X11_put rfl (Nat.le_of_ble_eq_true rfl) (Nat.le_of_ble_eq_true rfl) rfl (k_X11_put (d + 2) (T := T) (σ := σ) (x := x17) (i := i5) (y := v16) hk19i (by omega) (by omega) (by omega) hw (nh_k hk19 (by unfold HT; omega)) (vok_1 (by have q9 := hk19; omega) (by omega))) (fun r22 T24 σ23 gt25 hp => ?_)
          obtain ⟨rfl, rfl, w27, F28⟩ := hp
          clear gt25
          show Tn _ _ 94 T σ23 [(6, .int (iI v16)), (0, .ref a), (1, .ref rx1), (2, .int (iI c2)), (3, .int (iI c3)), (4, .int (iI c4)), (5, .int (iI i5))] [] _
          refine tn_iinc (q0 := 6) (L' := [(5, .int (iI (i5 + 1))), (6, .int (iI v16)), (0, .ref a), (1, .ref rx1), (2, .int (iI c2)), (3, .int (iI c3)), (4, .int (iI c4))]) dX10_goThrough_94 rfl (by decide) rfl ?_
          refine tn_goto (tgt := 34) dX10_goThrough_97 (by decide) ?_
          exact tn_sub [2, 3, 4, 5, 6, 0] rfl (ih _ (by omega) (i5 + 1) σ23 w27 ((FrC.rfl.trans (FrC.sub hF (by decide))).trans (FrC.sub F28 (by decide))) (by omega) rfl)
        · refine tn_aload_n dX10_goThrough_73 rfl 1 rfl ?_
          refine tn_aload_n dX10_goThrough_74 rfl 2 rfl ?_
          refine tn_iload dX10_goThrough_75 0 rfl ?_
          refine tn_iload dX10_goThrough_77 5 rfl ?_
          refine tn_callV (M := m_X10_goThrough) (pc := 79) (ix := 100) (ci := 10) (M' := m_X10_leans) (As := [.ref rx1, .int (iI v16), .int (iI c4)]) (rest := [.int (iI i5), .ref x17]) dX10_goThrough_79 ok_X10_leans im_X10_leans se_X10_leans ml10_100 np_X10_leans rfl rfl h_a rfl (Nat.le_of_ble_eq_true rfl) (Nat.le_of_ble_eq_true rfl) rfl (k_X10_leans (d) (T := T) (σ := σ) (a := a) (p1 := rx1) (p2 := v16) (p3 := c4) h_a h_rx1 (by omega) (by omega) hw ) (fun r29 T31 σ30 gt32 hp => ?_)
          obtain ⟨v34, rfl, rfl, rfl, f33⟩ := hp
          clear gt32
          show Tn _ _ 82 T σ [(6, .int (iI v16)), (0, .ref a), (1, .ref rx1), (2, .int (iI c2)), (3, .int (iI c3)), (4, .int (iI c4)), (5, .int (iI i5))] [.int (iI v34), .int (iI i5), .ref x17] _
          refine tn_if_eq (tgt := 89) dX10_goThrough_82 (by decide) ⟨by omega, by omega⟩ (fun h35 => ?_) (fun h35 => ?_)
          · refine tn_iload dX10_goThrough_89 0 rfl ?_
            refine tn_callSN (M := m_X10_goThrough) (pc := 91) (ix := 26) (M' := m_X11_put) (As := [.ref x17, .int (iI i5), .int (iI v16)]) (rest := []) dX10_goThrough_91 ok_X11_put stt_X11_put nl10_26 np_X11_put rfl (Nat.le_of_ble_eq_true rfl) (Nat.le_of_ble_eq_true rfl) rfl (k_X11_put (d + 2) (T := T) (σ := σ) (x := x17) (i := i5) (y := v16) hk19i (by omega) (by omega) (by omega) hw (nh_k hk19 (by unfold HT; omega)) (vok_1 (by have q9 := hk19; omega) (by omega))) (fun r36 T38 σ37 gt39 hp => ?_)
            obtain ⟨rfl, rfl, w41, F42⟩ := hp
            clear gt39
            show Tn _ _ 94 T σ37 [(6, .int (iI v16)), (0, .ref a), (1, .ref rx1), (2, .int (iI c2)), (3, .int (iI c3)), (4, .int (iI c4)), (5, .int (iI i5))] [] _
            refine tn_iinc (q0 := 6) (L' := [(5, .int (iI (i5 + 1))), (6, .int (iI v16)), (0, .ref a), (1, .ref rx1), (2, .int (iI c2)), (3, .int (iI c3)), (4, .int (iI c4))]) dX10_goThrough_94 rfl (by decide) rfl ?_
            refine tn_goto (tgt := 34) dX10_goThrough_97 (by decide) ?_
            exact tn_sub [2, 3, 4, 5, 6, 0] rfl (ih _ (by omega) (i5 + 1) σ37 w41 ((FrC.rfl.trans (FrC.sub hF (by decide))).trans (FrC.sub F42 (by decide))) (by omega) rfl)
          · refine tn_iconst dX10_goThrough_85 ?_
            refine tn_goto (tgt := 91) dX10_goThrough_86 (by decide) ?_
            refine tn_callSN (M := m_X10_goThrough) (pc := 91) (ix := 26) (M' := m_X11_put) (As := [.ref x17, .int (iI i5), .int (iI 3)]) (rest := []) dX10_goThrough_91 ok_X11_put stt_X11_put nl10_26 np_X11_put rfl (Nat.le_of_ble_eq_true rfl) (Nat.le_of_ble_eq_true rfl) rfl (k_X11_put (d + 2) (T := T) (σ := σ) (x := x17) (i := i5) (y := 3) hk19i (by omega) (by omega) (by decide) hw (nh_k hk19 (by unfold HT; omega)) (vok_1 (by have q9 := hk19; omega) (by omega))) (fun r43 T45 σ44 gt46 hp => ?_)
            obtain ⟨rfl, rfl, w48, F49⟩ := hp
            clear gt46
            show Tn _ _ 94 T σ44 [(6, .int (iI v16)), (0, .ref a), (1, .ref rx1), (2, .int (iI c2)), (3, .int (iI c3)), (4, .int (iI c4)), (5, .int (iI i5))] [] _
            refine tn_iinc (q0 := 6) (L' := [(5, .int (iI (i5 + 1))), (6, .int (iI v16)), (0, .ref a), (1, .ref rx1), (2, .int (iI c2)), (3, .int (iI c3)), (4, .int (iI c4))]) dX10_goThrough_94 rfl (by decide) rfl ?_
            refine tn_goto (tgt := 34) dX10_goThrough_97 (by decide) ?_
            exact tn_sub [2, 3, 4, 5, 6, 0] rfl (ih _ (by omega) (i5 + 1) σ44 w48 ((FrC.rfl.trans (FrC.sub hF (by decide))).trans (FrC.sub F49 (by decide))) (by omega) rfl)
      · have hk5i : IA T x4 := by unfold IA; omega
        refine tn_getR (ci := 10) (i := 4) (n := 92) (x := x4) dX10_goThrough_44 rfl lay_10 (by decide) fl10_61 h_a rfl rfl (rc_F hF (Or.inl (by decide)) (by decide) (hx3)) ?_
        refine tn_iload_n dX10_goThrough_47 rfl 2 rfl ?_
        refine tn_aload_n dX10_goThrough_48 rfl 0 rfl ?_
        refine tn_getI (ci := 10) (i := 5) (n := 93) (t := σ0.2.1 93 a) dX10_goThrough_49 rfl lay_10 (by decide) fl10_50 h_a rfl rfl (rc_F hF (Or.inl (by decide)) (by decide) (rfl)) ?_
        refine tn_imul dX10_goThrough_52 ?_
        refine tn_any (fun z50 g51 => ?_)
        have g51r : -2147483648 ≤ z50 ∧ z50 ≤ 2147483647 := g51
        refine tn_iload dX10_goThrough_53 5 rfl ?_
        refine tn_iadd dX10_goThrough_55 ?_
        refine tn_any (fun z52 g53 => ?_)
        have g53r : -2147483648 ≤ z52 ∧ z52 ≤ 2147483647 := g53
        refine tn_callSN (M := m_X10_goThrough) (pc := 56) (ix := 40) (M' := m_X11_at) (As := [.ref x4, .int (iI z52)]) (rest := []) dX10_goThrough_56 ok_X11_at stt_X11_at nl10_40 np_X11_at rfl (Nat.le_of_ble_eq_true rfl) (Nat.le_of_ble_eq_true rfl) rfl (k_X11_at (d + 2) (T := T) (σ := σ) (x := x4) (i := z52) hk5i (by omega) (by omega) hw ) (fun r54 T56 σ55 gt57 hp => ?_)
        obtain ⟨v61, rfl, rfl, rfl, f58, f59, f60⟩ := hp
        clear gt57
        clear f59 f60
        show Tn _ _ 59 T σ [(0, .ref a), (1, .ref rx1), (2, .int (iI c2)), (3, .int (iI c3)), (4, .int (iI c4)), (5, .int (iI i5))] [.int (iI v61)] _
        refine tn_istore (L' := [(6, .int (iI v61)), (0, .ref a), (1, .ref rx1), (2, .int (iI c2)), (3, .int (iI c3)), (4, .int (iI c4)), (5, .int (iI i5))]) dX10_goThrough_59 (by decide) rfl ?_
        refine tn_aload_n dX10_goThrough_61 rfl 1 rfl ?_
        obtain ⟨x62, hx63, hk64, hl65⟩ : ∃ x : Nat, σ0.2.1 91 a = (x : Int) ∧ AR T x 1 145 145 := wf_91 hw0 h_a
        have hk64i : IA T x62 := by unfold IA; omega
        refine tn_getR (ci := 10) (i := 3) (n := 91) (x := x62) dX10_goThrough_62 rfl lay_10 (by decide) fl10_23 h_a rfl rfl (rc_F hF (Or.inl (by decide)) (by decide) (hx63)) ?_
        refine tn_iload dX10_goThrough_65 6 rfl ?_
        refine tn_iload dX10_goThrough_67 5 rfl ?_
        refine tn_iconst dX10_goThrough_69 ?_
        refine tn_icmp_eq (tgt := 89) dX10_goThrough_70 (by decide) ⟨by omega, by omega⟩ ⟨by decide, by decide⟩ (fun h66 => ?_) (fun h66 => ?_)
        · refine tn_iload dX10_goThrough_89 0 rfl ?_
          refine tn_callSN (M := m_X10_goThrough) (pc := 91) (ix := 26) (M' := m_X11_put) (As := [.ref x62, .int (iI i5), .int (iI v61)]) (rest := []) dX10_goThrough_91 ok_X11_put stt_X11_put nl10_26 np_X11_put rfl (Nat.le_of_ble_eq_true rfl) (Nat.le_of_ble_eq_true rfl) rfl (k_X11_put (d + 2) (T := T) (σ := σ) (x := x62) (i := i5) (y := v61) hk64i (by omega) (by omega) (by omega) hw (nh_k hk64 (by unfold HT; omega)) (vok_1 (by have q9 := hk64; omega) (by omega))) (fun r67 T69 σ68 gt70 hp => ?_)
          obtain ⟨rfl, rfl, w72, F73⟩ := hp
          clear gt70
          show Tn _ _ 94 T σ68 [(6, .int (iI v61)), (0, .ref a), (1, .ref rx1), (2, .int (iI c2)), (3, .int (iI c3)), (4, .int (iI c4)), (5, .int (iI i5))] [] _
          refine tn_iinc (q0 := 6) (L' := [(5, .int (iI (i5 + 1))), (6, .int (iI v61)), (0, .ref a), (1, .ref rx1), (2, .int (iI c2)), (3, .int (iI c3)), (4, .int (iI c4))]) dX10_goThrough_94 rfl (by decide) rfl ?_
          refine tn_goto (tgt := 34) dX10_goThrough_97 (by decide) ?_
          exact tn_sub [2, 3, 4, 5, 6, 0] rfl (ih _ (by omega) (i5 + 1) σ68 w72 ((FrC.rfl.trans (FrC.sub hF (by decide))).trans (FrC.sub F73 (by decide))) (by omega) rfl)
        · refine tn_aload_n dX10_goThrough_73 rfl 1 rfl ?_
          refine tn_aload_n dX10_goThrough_74 rfl 2 rfl ?_
          refine tn_iload dX10_goThrough_75 0 rfl ?_
          refine tn_iload dX10_goThrough_77 5 rfl ?_
          refine tn_callV (M := m_X10_goThrough) (pc := 79) (ix := 100) (ci := 10) (M' := m_X10_leans) (As := [.ref rx1, .int (iI v61), .int (iI c4)]) (rest := [.int (iI i5), .ref x62]) dX10_goThrough_79 ok_X10_leans im_X10_leans se_X10_leans ml10_100 np_X10_leans rfl rfl h_a rfl (Nat.le_of_ble_eq_true rfl) (Nat.le_of_ble_eq_true rfl) rfl (k_X10_leans (d) (T := T) (σ := σ) (a := a) (p1 := rx1) (p2 := v61) (p3 := c4) h_a h_rx1 (by omega) (by omega) hw ) (fun r74 T76 σ75 gt77 hp => ?_)
          obtain ⟨v79, rfl, rfl, rfl, f78⟩ := hp
          clear gt77
          show Tn _ _ 82 T σ [(6, .int (iI v61)), (0, .ref a), (1, .ref rx1), (2, .int (iI c2)), (3, .int (iI c3)), (4, .int (iI c4)), (5, .int (iI i5))] [.int (iI v79), .int (iI i5), .ref x62] _
          refine tn_if_eq (tgt := 89) dX10_goThrough_82 (by decide) ⟨by omega, by omega⟩ (fun h80 => ?_) (fun h80 => ?_)
          · refine tn_iload dX10_goThrough_89 0 rfl ?_
            refine tn_callSN (M := m_X10_goThrough) (pc := 91) (ix := 26) (M' := m_X11_put) (As := [.ref x62, .int (iI i5), .int (iI v61)]) (rest := []) dX10_goThrough_91 ok_X11_put stt_X11_put nl10_26 np_X11_put rfl (Nat.le_of_ble_eq_true rfl) (Nat.le_of_ble_eq_true rfl) rfl (k_X11_put (d + 2) (T := T) (σ := σ) (x := x62) (i := i5) (y := v61) hk64i (by omega) (by omega) (by omega) hw (nh_k hk64 (by unfold HT; omega)) (vok_1 (by have q9 := hk64; omega) (by omega))) (fun r81 T83 σ82 gt84 hp => ?_)
            obtain ⟨rfl, rfl, w86, F87⟩ := hp
            clear gt84
            show Tn _ _ 94 T σ82 [(6, .int (iI v61)), (0, .ref a), (1, .ref rx1), (2, .int (iI c2)), (3, .int (iI c3)), (4, .int (iI c4)), (5, .int (iI i5))] [] _
            refine tn_iinc (q0 := 6) (L' := [(5, .int (iI (i5 + 1))), (6, .int (iI v61)), (0, .ref a), (1, .ref rx1), (2, .int (iI c2)), (3, .int (iI c3)), (4, .int (iI c4))]) dX10_goThrough_94 rfl (by decide) rfl ?_
            refine tn_goto (tgt := 34) dX10_goThrough_97 (by decide) ?_
            exact tn_sub [2, 3, 4, 5, 6, 0] rfl (ih _ (by omega) (i5 + 1) σ82 w86 ((FrC.rfl.trans (FrC.sub hF (by decide))).trans (FrC.sub F87 (by decide))) (by omega) rfl)
          · refine tn_iconst dX10_goThrough_85 ?_
            refine tn_goto (tgt := 91) dX10_goThrough_86 (by decide) ?_
            refine tn_callSN (M := m_X10_goThrough) (pc := 91) (ix := 26) (M' := m_X11_put) (As := [.ref x62, .int (iI i5), .int (iI 3)]) (rest := []) dX10_goThrough_91 ok_X11_put stt_X11_put nl10_26 np_X11_put rfl (Nat.le_of_ble_eq_true rfl) (Nat.le_of_ble_eq_true rfl) rfl (k_X11_put (d + 2) (T := T) (σ := σ) (x := x62) (i := i5) (y := 3) hk64i (by omega) (by omega) (by decide) hw (nh_k hk64 (by unfold HT; omega)) (vok_1 (by have q9 := hk64; omega) (by omega))) (fun r88 T90 σ89 gt91 hp => ?_)
            obtain ⟨rfl, rfl, w93, F94⟩ := hp
            clear gt91
            show Tn _ _ 94 T σ89 [(6, .int (iI v61)), (0, .ref a), (1, .ref rx1), (2, .int (iI c2)), (3, .int (iI c3)), (4, .int (iI c4)), (5, .int (iI i5))] [] _
            refine tn_iinc (q0 := 6) (L' := [(5, .int (iI (i5 + 1))), (6, .int (iI v61)), (0, .ref a), (1, .ref rx1), (2, .int (iI c2)), (3, .int (iI c3)), (4, .int (iI c4))]) dX10_goThrough_94 rfl (by decide) rfl ?_
            refine tn_goto (tgt := 34) dX10_goThrough_97 (by decide) ?_
            exact tn_sub [2, 3, 4, 5, 6, 0] rfl (ih _ (by omega) (i5 + 1) σ89 w93 ((FrC.rfl.trans (FrC.sub hF (by decide))).trans (FrC.sub F94 (by decide))) (by omega) rfl)
theorem fl10_104 : Cond.fieldLink RX10 104 (TX1 9).1 (TX1 9).2.1 (TX1 9).2.2.1 ∈ pWW := pw1 (List.mem_of_getElem? (i := 121) rfl) rfl
theorem dX10_goThrough_100 : decode cX10_goThrough 100 = .ok (.iload_n 3, 1) := by decide +kernel
theorem dX10_goThrough_101 : decode cX10_goThrough 101 = .ok (.bipush 12, 2) := by decide +kernel
theorem dX10_goThrough_103 : decode cX10_goThrough 103 = .ok (.if_icmp .ne 34, 3) := by decide +kernel
theorem dX10_goThrough_137 : decode cX10_goThrough 137 = .ok (.aload_n 1, 1) := by decide +kernel
theorem dX10_goThrough_138 : decode cX10_goThrough 138 = .ok (.iload_n 2, 1) := by decide +kernel
theorem dX10_goThrough_139 : decode cX10_goThrough 139 = .ok (.iconst 1, 1) := by decide +kernel
theorem dX10_goThrough_140 : decode cX10_goThrough 140 = .ok (.invokevirtual 44, 3) := by decide +kernel
theorem dX10_goThrough_143 : decode cX10_goThrough 143 = .ok (.istore 5, 2) := by decide +kernel
theorem dX10_goThrough_145 : decode cX10_goThrough 145 = .ok (.iconst 0, 1) := by decide +kernel
theorem dX10_goThrough_146 : decode cX10_goThrough 146 = .ok (.istore 6, 2) := by decide +kernel
theorem dX10_goThrough_148 : decode cX10_goThrough 148 = .ok (.iload_n 3, 1) := by decide +kernel
theorem dX10_goThrough_149 : decode cX10_goThrough 149 = .ok (.bipush 15, 2) := by decide +kernel
theorem dX10_goThrough_151 : decode cX10_goThrough 151 = .ok (.if_icmp .ne 39, 3) := by decide +kernel
theorem dX10_goThrough_154 : decode cX10_goThrough 154 = .ok (.iload 6, 2) := by decide +kernel
theorem dX10_goThrough_156 : decode cX10_goThrough 156 = .ok (.aload_n 1, 1) := by decide +kernel
theorem dX10_goThrough_157 : decode cX10_goThrough 157 = .ok (.getfield 104, 3) := by decide +kernel
theorem dX10_goThrough_160 : decode cX10_goThrough 160 = .ok (.iload 5, 2) := by decide +kernel
theorem dX10_goThrough_162 : decode cX10_goThrough 162 = .ok (.invokestatic 40, 3) := by decide +kernel
theorem dX10_goThrough_165 : decode cX10_goThrough 165 = .ok (.if_icmp .ge 25, 3) := by decide +kernel
theorem dX10_goThrough_168 : decode cX10_goThrough 168 = .ok (.aload_n 0, 1) := by decide +kernel
theorem dX10_goThrough_169 : decode cX10_goThrough 169 = .ok (.getfield 23, 3) := by decide +kernel
theorem dX10_goThrough_172 : decode cX10_goThrough 172 = .ok (.aload_n 1, 1) := by decide +kernel
theorem dX10_goThrough_173 : decode cX10_goThrough 173 = .ok (.iload 5, 2) := by decide +kernel
theorem dX10_goThrough_175 : decode cX10_goThrough 175 = .ok (.iload 6, 2) := by decide +kernel
theorem dX10_goThrough_177 : decode cX10_goThrough 177 = .ok (.invokevirtual 36, 3) := by decide +kernel
theorem dX10_goThrough_180 : decode cX10_goThrough 180 = .ok (.iconst 1, 1) := by decide +kernel
theorem dX10_goThrough_181 : decode cX10_goThrough 181 = .ok (.invokestatic 26, 3) := by decide +kernel
theorem dX10_goThrough_184 : decode cX10_goThrough 184 = .ok (.iinc 6 1, 3) := by decide +kernel
theorem dX10_goThrough_187 : decode cX10_goThrough 187 = .ok (.goto (-39), 3) := by decide +kernel
set_option maxRecDepth 20000 in
theorem l_X10_goThrough_148 (d : Nat) {T : CT} {σ0 : MS} {a : Nat} {rx1 : Nat} {c2 : Int} {c3 : Int} {c5 : Int} {post : Option Value → CT → MS → Prop} (h_a : OB T a 10) (h_rx1 : OB T rx1 1) (t_rx1 : (T rx1).1 = 50) (r_c2 : -2147483648 ≤ c2 ∧ c2 ≤ 2147483647) (r_c3 : -2147483648 ≤ c3 ∧ c3 ≤ 2147483647) (r_c5 : -2147483648 ≤ c5 ∧ c5 ≤ 2147483647) (hw0 : WT T σ0) (hx_190 : ∀ (i6 : Int) (σ : MS) , (WT T σ) → (FrC T [] σ0 σ) → (0 ≤ i6 ∧ i6 ≤ 2147483647) → Tn (d + 4) m_X10_goThrough 190 T σ [(0, .ref a), (1, .ref rx1), (2, .int (iI c2)), (3, .int (iI c3)), (5, .int (iI c5)), (6, .int (iI i6))] [] post) : ∀ (n : Nat) (i6 : Int) (σ : MS) , (WT T σ) → (FrC T [] σ0 σ) → (0 ≤ i6 ∧ i6 ≤ 2147483647) → (2147483700 - i6).toNat = n → Tn (d + 4) m_X10_goThrough 148 T σ [(0, .ref a), (1, .ref rx1), (2, .int (iI c2)), (3, .int (iI c3)), (5, .int (iI c5)), (6, .int (iI i6))] [] post := by
  intro n
  induction n using Nat.strongRecOn with
  | _ n ih =>
    intro i6 σ hw hF r_i6 hm
    refine tn_iload_n dX10_goThrough_148 rfl 3 rfl ?_
    refine tn_bipush dX10_goThrough_149 (by decide) ?_
    refine tn_icmp_ne (tgt := 190) dX10_goThrough_151 (by decide) ⟨by omega, by omega⟩ ⟨by decide, by decide⟩ (fun h1 => ?_) (fun h1 => ?_)
    · exact tn_sub [0, 1, 2, 3, 4, 5] rfl (hx_190 (i6) σ hw (FrC.rfl.trans (FrC.sub hF (by decide))) (by omega))
    · refine tn_iload dX10_goThrough_154 5 rfl ?_
      refine tn_aload_n dX10_goThrough_156 rfl 1 rfl ?_
      obtain ⟨x2, hx3, hk4, hl5⟩ : ∃ x : Nat, σ0.2.1 14 rx1 = (x : Int) ∧ AR T x 11 12 12 := wf_14 hw0 h_rx1
      have hk4i : IA T x2 := by unfold IA; omega
      refine tn_getR (ci := 1) (i := 9) (n := 14) (x := x2) dX10_goThrough_157 rfl lay_1 (by decide) fl10_104 h_rx1 rfl rfl (rc_F hF (Or.inl (by decide)) (by decide) (hx3)) ?_
      refine tn_iload dX10_goThrough_160 4 rfl ?_
      refine tn_callSN (M := m_X10_goThrough) (pc := 162) (ix := 40) (M' := m_X11_at) (As := [.ref x2, .int (iI c5)]) (rest := [.int (iI i6)]) dX10_goThrough_162 ok_X11_at stt_X11_at nl10_40 np_X11_at rfl (Nat.le_of_ble_eq_true rfl) (Nat.le_of_ble_eq_true rfl) rfl (k_X11_at (d + 2) (T := T) (σ := σ) (x := x2) (i := c5) hk4i (by omega) (by omega) hw ) (fun r6 T8 σ7 gt9 hp => ?_)
      obtain ⟨v13, rfl, rfl, rfl, f10, f11, f12⟩ := hp
      clear gt9
      have f11n := f11.2.1 hk4
      clear f11 f12
      show Tn _ _ 165 T σ [(0, .ref a), (1, .ref rx1), (2, .int (iI c2)), (3, .int (iI c3)), (5, .int (iI c5)), (6, .int (iI i6))] [.int (iI v13), .int (iI i6)] _
      refine tn_icmp_ge (tgt := 190) dX10_goThrough_165 (by decide) ⟨by omega, by omega⟩ ⟨by omega, by omega⟩ (fun h14 => ?_) (fun h14 => ?_)
      · exact tn_sub [0, 1, 2, 3, 4, 5] rfl (hx_190 (i6) σ hw (FrC.rfl.trans (FrC.sub hF (by decide))) (by omega))
      · refine tn_aload_n dX10_goThrough_168 rfl 0 rfl ?_
        obtain ⟨x15, hx16, hk17, hl18⟩ : ∃ x : Nat, σ0.2.1 91 a = (x : Int) ∧ AR T x 1 145 145 := wf_91 hw0 h_a
        have hk17i : IA T x15 := by unfold IA; omega
        refine tn_getR (ci := 10) (i := 3) (n := 91) (x := x15) dX10_goThrough_169 rfl lay_10 (by decide) fl10_23 h_a rfl rfl (rc_F hF (Or.inl (by decide)) (by decide) (hx16)) ?_
        refine tn_aload_n dX10_goThrough_172 rfl 1 rfl ?_
        refine tn_iload dX10_goThrough_173 4 rfl ?_
        refine tn_iload dX10_goThrough_175 5 rfl ?_
        refine tn_callV (M := m_X10_goThrough) (pc := 177) (ix := 36) (ci := 1) (M' := m_X1_slotOf) (As := [.int (iI c5), .int (iI i6)]) (rest := [.ref x15]) dX10_goThrough_177 ok_X1_slotOf im_X1_slotOf se_X1_slotOf ml10_36 np_X1_slotOf rfl rfl h_rx1 rfl (Nat.le_of_ble_eq_true rfl) (Nat.le_of_ble_eq_true rfl) rfl (k_X1_slotOf (d + 2) (T := T) (σ := σ) (a := rx1) (f := c5) (m := i6) h_rx1 (by omega) (by omega) hw (by omega)) (fun r19 T21 σ20 gt22 hp => ?_)
        obtain ⟨v25, rfl, rfl, rfl, f23, f24⟩ := hp
        clear gt22
        show Tn _ _ 180 T σ [(0, .ref a), (1, .ref rx1), (2, .int (iI c2)), (3, .int (iI c3)), (5, .int (iI c5)), (6, .int (iI i6))] [.int (iI v25), .ref x15] _
        refine tn_iconst dX10_goThrough_180 ?_
        refine tn_callSN (M := m_X10_goThrough) (pc := 181) (ix := 26) (M' := m_X11_put) (As := [.ref x15, .int (iI v25), .int (iI 1)]) (rest := []) dX10_goThrough_181 ok_X11_put stt_X11_put nl10_26 np_X11_put rfl (Nat.le_of_ble_eq_true rfl) (Nat.le_of_ble_eq_true rfl) rfl (k_X11_put (d + 2) (T := T) (σ := σ) (x := x15) (i := v25) (y := 1) hk17i (by omega) (by omega) (by decide) hw (nh_k hk17 (by unfold HT; omega)) (vok_1 (by have q9 := hk17; omega) (by omega))) (fun r26 T28 σ27 gt29 hp => ?_)
        obtain ⟨rfl, rfl, w31, F32⟩ := hp
        clear gt29
        show Tn _ _ 184 T σ27 [(0, .ref a), (1, .ref rx1), (2, .int (iI c2)), (3, .int (iI c3)), (5, .int (iI c5)), (6, .int (iI i6))] [] _
        refine tn_iinc (q0 := 5) (L' := [(6, .int (iI (i6 + 1))), (0, .ref a), (1, .ref rx1), (2, .int (iI c2)), (3, .int (iI c3)), (5, .int (iI c5))]) dX10_goThrough_184 rfl (by decide) rfl ?_
        refine tn_goto (tgt := 148) dX10_goThrough_187 (by decide) ?_
        exact tn_sub [1, 2, 3, 4, 5, 0] rfl (ih _ (by omega) (i6 + 1) σ27 w31 ((FrC.rfl.trans (FrC.sub hF (by decide))).trans (FrC.sub F32 (by decide))) (by omega) rfl)
theorem ml10_107 : Cond.methodLink RX10 107 yX1_fallsOn ∈ pWW := pw4 (List.mem_of_getElem? (i := 148) rfl) rfl
theorem ml10_114 : Cond.methodLink RX10 114 yX1_targetOf ∈ pWW := pw4 (List.mem_of_getElem? (i := 156) rfl) rfl
theorem ml10_111 : Cond.methodLink RX10 111 yX10_comeTo ∈ pWW := pw4 (List.mem_of_getElem? (i := 152) rfl) rfl
theorem dX10_goThrough_190 : decode cX10_goThrough 190 = .ok (.aload_n 1, 1) := by decide +kernel
theorem dX10_goThrough_191 : decode cX10_goThrough 191 = .ok (.iload_n 2, 1) := by decide +kernel
theorem dX10_goThrough_192 : decode cX10_goThrough 192 = .ok (.invokevirtual 107, 3) := by decide +kernel
theorem dX10_goThrough_195 : decode cX10_goThrough 195 = .ok (.ifCond .eq 11, 3) := by decide +kernel
theorem dX10_goThrough_206 : decode cX10_goThrough 206 = .ok (.aload_n 0, 1) := by decide +kernel
theorem dX10_goThrough_207 : decode cX10_goThrough 207 = .ok (.aload_n 1, 1) := by decide +kernel
theorem dX10_goThrough_208 : decode cX10_goThrough 208 = .ok (.aload_n 1, 1) := by decide +kernel
theorem dX10_goThrough_209 : decode cX10_goThrough 209 = .ok (.iload_n 2, 1) := by decide +kernel
theorem dX10_goThrough_210 : decode cX10_goThrough 210 = .ok (.invokevirtual 114, 3) := by decide +kernel
theorem dX10_goThrough_213 : decode cX10_goThrough 213 = .ok (.invokevirtual 111, 3) := by decide +kernel
theorem dX10_goThrough_216 : decode cX10_goThrough 216 = .ok (.return_, 1) := by decide +kernel
theorem dX10_goThrough_198 : decode cX10_goThrough 198 = .ok (.aload_n 0, 1) := by decide +kernel
theorem dX10_goThrough_199 : decode cX10_goThrough 199 = .ok (.aload_n 1, 1) := by decide +kernel
theorem dX10_goThrough_200 : decode cX10_goThrough 200 = .ok (.iload_n 2, 1) := by decide +kernel
theorem dX10_goThrough_201 : decode cX10_goThrough 201 = .ok (.iconst 1, 1) := by decide +kernel
theorem dX10_goThrough_202 : decode cX10_goThrough 202 = .ok (.iadd, 1) := by decide +kernel
theorem dX10_goThrough_203 : decode cX10_goThrough 203 = .ok (.invokevirtual 111, 3) := by decide +kernel
theorem dX10_goThrough_106 : decode cX10_goThrough 106 = .ok (.aload_n 0, 1) := by decide +kernel
theorem dX10_goThrough_107 : decode cX10_goThrough 107 = .ok (.getfield 23, 3) := by decide +kernel
theorem dX10_goThrough_110 : decode cX10_goThrough 110 = .ok (.aload_n 1, 1) := by decide +kernel
theorem dX10_goThrough_111 : decode cX10_goThrough 111 = .ok (.aload_n 1, 1) := by decide +kernel
theorem dX10_goThrough_112 : decode cX10_goThrough 112 = .ok (.iload_n 2, 1) := by decide +kernel
theorem dX10_goThrough_113 : decode cX10_goThrough 113 = .ok (.iconst 2, 1) := by decide +kernel
theorem dX10_goThrough_114 : decode cX10_goThrough 114 = .ok (.invokevirtual 44, 3) := by decide +kernel
theorem dX10_goThrough_117 : decode cX10_goThrough 117 = .ok (.aload_n 1, 1) := by decide +kernel
theorem dX10_goThrough_118 : decode cX10_goThrough 118 = .ok (.iload_n 2, 1) := by decide +kernel
theorem dX10_goThrough_119 : decode cX10_goThrough 119 = .ok (.iconst 1, 1) := by decide +kernel
theorem dX10_goThrough_120 : decode cX10_goThrough 120 = .ok (.invokevirtual 44, 3) := by decide +kernel
theorem dX10_goThrough_123 : decode cX10_goThrough 123 = .ok (.invokevirtual 36, 3) := by decide +kernel
theorem dX10_goThrough_126 : decode cX10_goThrough 126 = .ok (.aload_n 0, 1) := by decide +kernel
theorem dX10_goThrough_127 : decode cX10_goThrough 127 = .ok (.getfield 20, 3) := by decide +kernel
theorem dX10_goThrough_130 : decode cX10_goThrough 130 = .ok (.iload_n 2, 1) := by decide +kernel
theorem dX10_goThrough_131 : decode cX10_goThrough 131 = .ok (.invokestatic 40, 3) := by decide +kernel
theorem dX10_goThrough_134 : decode cX10_goThrough 134 = .ok (.invokestatic 26, 3) := by decide +kernel
set_option maxRecDepth 20000 in
theorem k_X10_goThrough (d : Nat) {T : CT} {σ : MS} {a : Nat} {p1 : Nat} {p2 : Int} (ha : OB T a 10) (h_p1 : OB T p1 1) (t_p1 : (T p1).1 = 50) (h_p2 : -2147483648 ≤ p2 ∧ p2 ≤ 2147483647) (hw : WT T σ) : Tn (d + 4) m_X10_goThrough 0 T σ [(0, .ref a), (1, .ref p1), (2, .int (iI p2))] [] (fun ro T2 σ2 => ro = none ∧ T = T2 ∧ WT T2 σ2 ∧ FrC T [94] σ σ2) := by
  refine tn_aload_n dX10_goThrough_0 rfl 0 rfl ?_
  rcases wf_92 hw ha with hx1 | ⟨x2, hx1, hk3, hl4⟩
  · refine tn_getN (ci := 10) (i := 4) (n := 92) dX10_goThrough_1 rfl lay_10 (by decide) fl10_61 ha rfl rfl (Int.lt_of_le_of_lt (Int.le_of_eq (Eq.refl _)) hx1) ?_
    refine tn_iload_n dX10_goThrough_4 rfl 2 rfl ?_
    refine tn_aload_n dX10_goThrough_5 rfl 0 rfl ?_
    refine tn_getI (ci := 10) (i := 5) (n := 93) (t := σ.2.1 93 a) dX10_goThrough_6 rfl lay_10 (by decide) fl10_50 ha rfl rfl (rfl) ?_
    have g5 : ((0 : Int) ≤ σ.2.1 93 a ∧ σ.2.1 93 a ≤ 145) := wf_93 hw ha
    refine tn_imul dX10_goThrough_9 ?_
    refine tn_any (fun z6 g7 => ?_)
    have g7r : -2147483648 ≤ z6 ∧ z6 ≤ 2147483647 := g7
    refine tn_callSN (M := m_X10_goThrough) (pc := 10) (ix := 40) (M' := m_X11_at) (As := [.null, .int (iI z6)]) (rest := []) dX10_goThrough_10 ok_X11_at stt_X11_at nl10_40 np_X11_at rfl (Nat.le_of_ble_eq_true rfl) (Nat.le_of_ble_eq_true rfl) rfl (k_X11_at_0 (d + 2) (T := T) (σ := σ) (i := z6) (by omega) hw ) (fun r8 T10 σ9 gt11 hp => ?_)
    obtain ⟨v13, rfl, rfl, rfl, f12⟩ := hp
    clear gt11
    show Tn _ _ 13 T σ [(0, .ref a), (1, .ref p1), (2, .int (iI p2))] [.int (iI v13)] _
    refine tn_if_ne (tgt := 17) dX10_goThrough_13 (by decide) ⟨by omega, by omega⟩ (fun h14 => absurd h14 (by omega)) (fun h14 => ?_)
    exact tn_vret rfl dX10_goThrough_16 ⟨rfl, rfl, hw, FrC.rfl⟩
  · have hk3i : IA T x2 := by unfold IA; omega
    refine tn_getR (ci := 10) (i := 4) (n := 92) (x := x2) dX10_goThrough_1 rfl lay_10 (by decide) fl10_61 ha rfl rfl (hx1) ?_
    refine tn_iload_n dX10_goThrough_4 rfl 2 rfl ?_
    refine tn_aload_n dX10_goThrough_5 rfl 0 rfl ?_
    refine tn_getI (ci := 10) (i := 5) (n := 93) (t := σ.2.1 93 a) dX10_goThrough_6 rfl lay_10 (by decide) fl10_50 ha rfl rfl (rfl) ?_
    have g15 : ((0 : Int) ≤ σ.2.1 93 a ∧ σ.2.1 93 a ≤ 145) := wf_93 hw ha
    refine tn_imul dX10_goThrough_9 ?_
    refine tn_any (fun z16 g17 => ?_)
    have g17r : -2147483648 ≤ z16 ∧ z16 ≤ 2147483647 := g17
    refine tn_callSN (M := m_X10_goThrough) (pc := 10) (ix := 40) (M' := m_X11_at) (As := [.ref x2, .int (iI z16)]) (rest := []) dX10_goThrough_10 ok_X11_at stt_X11_at nl10_40 np_X11_at rfl (Nat.le_of_ble_eq_true rfl) (Nat.le_of_ble_eq_true rfl) rfl (k_X11_at (d + 2) (T := T) (σ := σ) (x := x2) (i := z16) hk3i (by omega) (by omega) hw ) (fun r18 T20 σ19 gt21 hp => ?_)
    obtain ⟨v25, rfl, rfl, rfl, f22, f23, f24⟩ := hp
    clear gt21
    clear f23 f24
    show Tn _ _ 13 T σ [(0, .ref a), (1, .ref p1), (2, .int (iI p2))] [.int (iI v25)] _
    refine tn_if_ne (tgt := 17) dX10_goThrough_13 (by decide) ⟨by omega, by omega⟩ (fun h26 => ?_) (fun h26 => ?_)
    · refine tn_aload_n dX10_goThrough_17 rfl 1 rfl ?_
      refine tn_iload_n dX10_goThrough_18 rfl 2 rfl ?_
      refine tn_iconst dX10_goThrough_19 ?_
      refine tn_callV (M := m_X10_goThrough) (pc := 20) (ix := 44) (ci := 1) (M' := m_X1_get) (As := [.int (iI p2), .int (iI 0)]) (rest := []) dX10_goThrough_20 ok_X1_get im_X1_get se_X1_get ml10_44 np_X1_get rfl rfl h_p1 rfl (Nat.le_of_ble_eq_true rfl) (Nat.le_of_ble_eq_true rfl) rfl (k_X1_get (d + 2) (T := T) (σ := σ) (a := p1) (k := p2) (c := 0) h_p1 (by omega) (by decide) hw (by omega)) (fun r27 T29 σ28 gt30 hp => ?_)
      obtain ⟨v32, rfl, rfl, rfl, f31⟩ := hp
      clear gt30
      show Tn _ _ 23 T σ [(0, .ref a), (1, .ref p1), (2, .int (iI p2))] [.int (iI v32)] _
      refine tn_istore_n (L' := [(3, .int (iI v32)), (0, .ref a), (1, .ref p1), (2, .int (iI p2))]) dX10_goThrough_23 rfl (by decide) rfl ?_
      refine tn_aload_n dX10_goThrough_24 rfl 2 rfl ?_
      refine tn_iload_n dX10_goThrough_25 rfl 3 rfl ?_
      refine tn_callV (M := m_X10_goThrough) (pc := 26) (ix := 96) (ci := 1) (M' := m_X1_writtenBy) (As := [.int (iI p2)]) (rest := []) dX10_goThrough_26 ok_X1_writtenBy im_X1_writtenBy se_X1_writtenBy ml10_96 np_X1_writtenBy rfl rfl h_p1 rfl (Nat.le_of_ble_eq_true rfl) (Nat.le_of_ble_eq_true rfl) rfl (k_X1_writtenBy (d + 1) (T := T) (σ := σ) (a := p1) (k := p2) h_p1 (by omega) hw ) (fun r33 T35 σ34 gt36 hp => ?_)
      obtain ⟨v38, rfl, rfl, rfl, f37⟩ := hp
      clear gt36
      show Tn _ _ 29 T σ [(3, .int (iI v32)), (0, .ref a), (1, .ref p1), (2, .int (iI p2))] [.int (iI v38)] _
      refine tn_istore (L' := [(4, .int (iI v38)), (3, .int (iI v32)), (0, .ref a), (1, .ref p1), (2, .int (iI p2))]) dX10_goThrough_29 (by decide) rfl ?_
      refine tn_iconst dX10_goThrough_31 ?_
      refine tn_istore (L' := [(5, .int (iI 0)), (4, .int (iI v38)), (3, .int (iI v32)), (0, .ref a), (1, .ref p1), (2, .int (iI p2))]) dX10_goThrough_32 (by decide) rfl ?_
      refine tn_sub [3, 4, 5, 2, 1, 0] rfl (l_X10_goThrough_34 (d) (T := T) (σ0 := σ) (a := a) (rx1 := p1) (c2 := p2) (c3 := v32) (c4 := v38) ha h_p1 t_p1 (by omega) (by omega) (by omega) hw (fun i539 σ40 w43 F44 r45 => ?_) _ (0) σ hw FrC.rfl (by omega) rfl)
      show Tn _ _ 100 T σ40 [(0, .ref a), (1, .ref p1), (2, .int (iI p2)), (3, .int (iI v32)), (4, .int (iI v38)), (5, .int (iI i539))] [] _
      refine tn_iload_n dX10_goThrough_100 rfl 3 rfl ?_
      refine tn_bipush dX10_goThrough_101 (by decide) ?_
      refine tn_icmp_ne (tgt := 137) dX10_goThrough_103 (by decide) ⟨by omega, by omega⟩ ⟨by decide, by decide⟩ (fun h46 => ?_) (fun h46 => ?_)
      · refine tn_aload_n dX10_goThrough_137 rfl 1 rfl ?_
        refine tn_iload_n dX10_goThrough_138 rfl 2 rfl ?_
        refine tn_iconst dX10_goThrough_139 ?_
        refine tn_callV (M := m_X10_goThrough) (pc := 140) (ix := 44) (ci := 1) (M' := m_X1_get) (As := [.int (iI p2), .int (iI 1)]) (rest := []) dX10_goThrough_140 ok_X1_get im_X1_get se_X1_get ml10_44 np_X1_get rfl rfl h_p1 rfl (Nat.le_of_ble_eq_true rfl) (Nat.le_of_ble_eq_true rfl) rfl (k_X1_get (d + 2) (T := T) (σ := σ40) (a := p1) (k := p2) (c := 1) h_p1 (by omega) (by decide) w43 (by omega)) (fun r47 T49 σ48 gt50 hp => ?_)
        obtain ⟨v52, rfl, rfl, rfl, f51⟩ := hp
        clear gt50
        show Tn _ _ 143 T σ40 [(0, .ref a), (1, .ref p1), (2, .int (iI p2)), (3, .int (iI v32)), (4, .int (iI v38)), (5, .int (iI i539))] [.int (iI v52)] _
        refine tn_istore (L' := [(5, .int (iI v52)), (0, .ref a), (1, .ref p1), (2, .int (iI p2)), (3, .int (iI v32)), (4, .int (iI v38))]) dX10_goThrough_143 (by decide) rfl ?_
        refine tn_iconst dX10_goThrough_145 ?_
        refine tn_istore (L' := [(6, .int (iI 0)), (5, .int (iI v52)), (0, .ref a), (1, .ref p1), (2, .int (iI p2)), (3, .int (iI v32)), (4, .int (iI v38))]) dX10_goThrough_146 (by decide) rfl ?_
        refine tn_sub [2, 3, 4, 5, 1, 0] rfl (l_X10_goThrough_148 (d) (T := T) (σ0 := σ40) (a := a) (rx1 := p1) (c2 := p2) (c3 := v32) (c5 := v52) ha h_p1 t_p1 (by omega) (by omega) (by omega) w43 (fun i653 σ54 w57 F58 r59 => ?_) _ (0) σ40 w43 FrC.rfl (by omega) rfl)
        show Tn _ _ 190 T σ54 [(0, .ref a), (1, .ref p1), (2, .int (iI p2)), (3, .int (iI v32)), (5, .int (iI v52)), (6, .int (iI i653))] [] _
        refine tn_aload_n dX10_goThrough_190 rfl 1 rfl ?_
        refine tn_iload_n dX10_goThrough_191 rfl 2 rfl ?_
        refine tn_callV (M := m_X10_goThrough) (pc := 192) (ix := 107) (ci := 1) (M' := m_X1_fallsOn) (As := [.int (iI p2)]) (rest := []) dX10_goThrough_192 ok_X1_fallsOn im_X1_fallsOn se_X1_fallsOn ml10_107 np_X1_fallsOn rfl rfl h_p1 rfl (Nat.le_of_ble_eq_true rfl) (Nat.le_of_ble_eq_true rfl) rfl (k_X1_fallsOn (d + 1) (T := T) (σ := σ54) (a := p1) (k := p2) h_p1 (by omega) w57 ) (fun r60 T62 σ61 gt63 hp => ?_)
        obtain ⟨v65, rfl, rfl, rfl, f64⟩ := hp
        clear gt63
        show Tn _ _ 195 T σ54 [(0, .ref a), (1, .ref p1), (2, .int (iI p2)), (3, .int (iI v32)), (5, .int (iI v52)), (6, .int (iI i653))] [.int (iI v65)] _
        refine tn_if_eq (tgt := 206) dX10_goThrough_195 (by decide) ⟨by omega, by omega⟩ (fun h66 => ?_) (fun h66 => ?_)
        · refine tn_aload_n dX10_goThrough_206 rfl 0 rfl ?_
          refine tn_aload_n dX10_goThrough_207 rfl 1 rfl ?_
          refine tn_aload_n dX10_goThrough_208 rfl 1 rfl ?_
          refine tn_iload_n dX10_goThrough_209 rfl 2 rfl ?_
          refine tn_callV (M := m_X10_goThrough) (pc := 210) (ix := 114) (ci := 1) (M' := m_X1_targetOf) (As := [.int (iI p2)]) (rest := [.ref p1, .ref a]) dX10_goThrough_210 ok_X1_targetOf im_X1_targetOf se_X1_targetOf ml10_114 np_X1_targetOf rfl rfl h_p1 rfl (Nat.le_of_ble_eq_true rfl) (Nat.le_of_ble_eq_true rfl) rfl (k_X1_targetOf (d + 1) (T := T) (σ := σ54) (a := p1) (k := p2) h_p1 (by omega) w57 ) (fun r67 T69 σ68 gt70 hp => ?_)
          obtain ⟨v72, rfl, rfl, rfl, f71⟩ := hp
          clear gt70
          show Tn _ _ 213 T σ54 [(0, .ref a), (1, .ref p1), (2, .int (iI p2)), (3, .int (iI v32)), (5, .int (iI v52)), (6, .int (iI i653))] [.int (iI v72), .ref p1, .ref a] _
          refine tn_callV (M := m_X10_goThrough) (pc := 213) (ix := 111) (ci := 10) (M' := m_X10_comeTo) (As := [.ref p1, .int (iI v72)]) (rest := []) dX10_goThrough_213 ok_X10_comeTo im_X10_comeTo se_X10_comeTo ml10_111 np_X10_comeTo rfl rfl ha rfl (Nat.le_of_ble_eq_true rfl) (Nat.le_of_ble_eq_true rfl) rfl (k_X10_comeTo (d + 1) (T := T) (σ := σ54) (a := a) (p1 := p1) (p2 := v72) ha h_p1 t_p1 (by omega) w57 ) (fun r73 T75 σ74 gt76 hp => ?_)
          obtain ⟨rfl, rfl, w78, F79⟩ := hp
          clear gt76
          show Tn _ _ 216 T σ74 [(0, .ref a), (1, .ref p1), (2, .int (iI p2)), (3, .int (iI v32)), (5, .int (iI v52)), (6, .int (iI i653))] [] _
          exact tn_vret rfl dX10_goThrough_216 ⟨rfl, rfl, w78, (((FrC.rfl.trans (FrC.sub F44 (by decide))).trans (FrC.sub F58 (by decide))).trans (FrC.sub F79 (by decide)))⟩
        · refine tn_aload_n dX10_goThrough_198 rfl 0 rfl ?_
          refine tn_aload_n dX10_goThrough_199 rfl 1 rfl ?_
          refine tn_iload_n dX10_goThrough_200 rfl 2 rfl ?_
          refine tn_iconst dX10_goThrough_201 ?_
          refine tn_iadd dX10_goThrough_202 ?_
          refine tn_any (fun z80 g81 => ?_)
          have g81r : -2147483648 ≤ z80 ∧ z80 ≤ 2147483647 := g81
          refine tn_callV (M := m_X10_goThrough) (pc := 203) (ix := 111) (ci := 10) (M' := m_X10_comeTo) (As := [.ref p1, .int (iI z80)]) (rest := []) dX10_goThrough_203 ok_X10_comeTo im_X10_comeTo se_X10_comeTo ml10_111 np_X10_comeTo rfl rfl ha rfl (Nat.le_of_ble_eq_true rfl) (Nat.le_of_ble_eq_true rfl) rfl (k_X10_comeTo (d + 1) (T := T) (σ := σ54) (a := a) (p1 := p1) (p2 := z80) ha h_p1 t_p1 (by omega) w57 ) (fun r82 T84 σ83 gt85 hp => ?_)
          obtain ⟨rfl, rfl, w87, F88⟩ := hp
          clear gt85
          show Tn _ _ 206 T σ83 [(0, .ref a), (1, .ref p1), (2, .int (iI p2)), (3, .int (iI v32)), (5, .int (iI v52)), (6, .int (iI i653))] [] _
          refine tn_aload_n dX10_goThrough_206 rfl 0 rfl ?_
          refine tn_aload_n dX10_goThrough_207 rfl 1 rfl ?_
          refine tn_aload_n dX10_goThrough_208 rfl 1 rfl ?_
          refine tn_iload_n dX10_goThrough_209 rfl 2 rfl ?_
          refine tn_callV (M := m_X10_goThrough) (pc := 210) (ix := 114) (ci := 1) (M' := m_X1_targetOf) (As := [.int (iI p2)]) (rest := [.ref p1, .ref a]) dX10_goThrough_210 ok_X1_targetOf im_X1_targetOf se_X1_targetOf ml10_114 np_X1_targetOf rfl rfl h_p1 rfl (Nat.le_of_ble_eq_true rfl) (Nat.le_of_ble_eq_true rfl) rfl (k_X1_targetOf (d + 1) (T := T) (σ := σ83) (a := p1) (k := p2) h_p1 (by omega) w87 ) (fun r89 T91 σ90 gt92 hp => ?_)
          obtain ⟨v94, rfl, rfl, rfl, f93⟩ := hp
          clear gt92
          show Tn _ _ 213 T σ83 [(0, .ref a), (1, .ref p1), (2, .int (iI p2)), (3, .int (iI v32)), (5, .int (iI v52)), (6, .int (iI i653))] [.int (iI v94), .ref p1, .ref a] _
          refine tn_callV (M := m_X10_goThrough) (pc := 213) (ix := 111) (ci := 10) (M' := m_X10_comeTo) (As := [.ref p1, .int (iI v94)]) (rest := []) dX10_goThrough_213 ok_X10_comeTo im_X10_comeTo se_X10_comeTo ml10_111 np_X10_comeTo rfl rfl ha rfl (Nat.le_of_ble_eq_true rfl) (Nat.le_of_ble_eq_true rfl) rfl (k_X10_comeTo (d + 1) (T := T) (σ := σ83) (a := a) (p1 := p1) (p2 := v94) ha h_p1 t_p1 (by omega) w87 ) (fun r95 T97 σ96 gt98 hp => ?_)
          obtain ⟨rfl, rfl, w100, F101⟩ := hp
          clear gt98
          show Tn _ _ 216 T σ96 [(0, .ref a), (1, .ref p1), (2, .int (iI p2)), (3, .int (iI v32)), (5, .int (iI v52)), (6, .int (iI i653))] [] _
          exact tn_vret rfl dX10_goThrough_216 ⟨rfl, rfl, w100, ((((FrC.rfl.trans (FrC.sub F44 (by decide))).trans (FrC.sub F58 (by decide))).trans (FrC.sub F88 (by decide))).trans (FrC.sub F101 (by decide)))⟩
      · refine tn_aload_n dX10_goThrough_106 rfl 0 rfl ?_
        obtain ⟨x102, hx103, hk104, hl105⟩ : ∃ x : Nat, σ.2.1 91 a = (x : Int) ∧ AR T x 1 145 145 := wf_91 hw ha
        have hk104i : IA T x102 := by unfold IA; omega
        refine tn_getR (ci := 10) (i := 3) (n := 91) (x := x102) dX10_goThrough_107 rfl lay_10 (by decide) fl10_23 ha rfl rfl (rc_F F44 (Or.inl (by decide)) (by decide) (hx103)) ?_
        refine tn_aload_n dX10_goThrough_110 rfl 1 rfl ?_
        refine tn_aload_n dX10_goThrough_111 rfl 1 rfl ?_
        refine tn_iload_n dX10_goThrough_112 rfl 2 rfl ?_
        refine tn_iconst dX10_goThrough_113 ?_
        refine tn_callV (M := m_X10_goThrough) (pc := 114) (ix := 44) (ci := 1) (M' := m_X1_get) (As := [.int (iI p2), .int (iI 2)]) (rest := [.ref p1, .ref x102]) dX10_goThrough_114 ok_X1_get im_X1_get se_X1_get ml10_44 np_X1_get rfl rfl h_p1 rfl (Nat.le_of_ble_eq_true rfl) (Nat.le_of_ble_eq_true rfl) rfl (k_X1_get (d + 2) (T := T) (σ := σ40) (a := p1) (k := p2) (c := 2) h_p1 (by omega) (by decide) w43 (by omega)) (fun r106 T108 σ107 gt109 hp => ?_)
        obtain ⟨v111, rfl, rfl, rfl, f110⟩ := hp
        clear gt109
        show Tn _ _ 117 T σ40 [(0, .ref a), (1, .ref p1), (2, .int (iI p2)), (3, .int (iI v32)), (4, .int (iI v38)), (5, .int (iI i539))] [.int (iI v111), .ref p1, .ref x102] _
        refine tn_aload_n dX10_goThrough_117 rfl 1 rfl ?_
        refine tn_iload_n dX10_goThrough_118 rfl 2 rfl ?_
        refine tn_iconst dX10_goThrough_119 ?_
        refine tn_callV (M := m_X10_goThrough) (pc := 120) (ix := 44) (ci := 1) (M' := m_X1_get) (As := [.int (iI p2), .int (iI 1)]) (rest := [.int (iI v111), .ref p1, .ref x102]) dX10_goThrough_120 ok_X1_get im_X1_get se_X1_get ml10_44 np_X1_get rfl rfl h_p1 rfl (Nat.le_of_ble_eq_true rfl) (Nat.le_of_ble_eq_true rfl) rfl (k_X1_get (d + 2) (T := T) (σ := σ40) (a := p1) (k := p2) (c := 1) h_p1 (by omega) (by decide) w43 (by omega)) (fun r112 T114 σ113 gt115 hp => ?_)
        obtain ⟨v117, rfl, rfl, rfl, f116⟩ := hp
        clear gt115
        show Tn _ _ 123 T σ40 [(0, .ref a), (1, .ref p1), (2, .int (iI p2)), (3, .int (iI v32)), (4, .int (iI v38)), (5, .int (iI i539))] [.int (iI v117), .int (iI v111), .ref p1, .ref x102] _
        refine tn_callV (M := m_X10_goThrough) (pc := 123) (ix := 36) (ci := 1) (M' := m_X1_slotOf) (As := [.int (iI v111), .int (iI v117)]) (rest := [.ref x102]) dX10_goThrough_123 ok_X1_slotOf im_X1_slotOf se_X1_slotOf ml10_36 np_X1_slotOf rfl rfl h_p1 rfl (Nat.le_of_ble_eq_true rfl) (Nat.le_of_ble_eq_true rfl) rfl (k_X1_slotOf_any (d + 2) (T := T) (σ := σ40) (a := p1) (f := v111) (m := v117) h_p1 (by omega) (by omega) w43 ) (fun r118 T120 σ119 gt121 hp => ?_)
        obtain ⟨v123, rfl, rfl, rfl, f122⟩ := hp
        clear gt121
        show Tn _ _ 126 T σ40 [(0, .ref a), (1, .ref p1), (2, .int (iI p2)), (3, .int (iI v32)), (4, .int (iI v38)), (5, .int (iI i539))] [.int (iI v123), .ref x102] _
        refine tn_aload_n dX10_goThrough_126 rfl 0 rfl ?_
        obtain ⟨x124, hx125, hk126, hl127⟩ : ∃ x : Nat, σ.2.1 90 a = (x : Int) ∧ AR T x 1 200 200 := wf_90 hw ha
        have hk126i : IA T x124 := by unfold IA; omega
        refine tn_getR (ci := 10) (i := 2) (n := 90) (x := x124) dX10_goThrough_127 rfl lay_10 (by decide) fl10_20 ha rfl rfl (rc_F F44 (Or.inl (by decide)) (by decide) (hx125)) ?_
        refine tn_iload_n dX10_goThrough_130 rfl 2 rfl ?_
        refine tn_callSN (M := m_X10_goThrough) (pc := 131) (ix := 40) (M' := m_X11_at) (As := [.ref x124, .int (iI p2)]) (rest := [.int (iI v123), .ref x102]) dX10_goThrough_131 ok_X11_at stt_X11_at nl10_40 np_X11_at rfl (Nat.le_of_ble_eq_true rfl) (Nat.le_of_ble_eq_true rfl) rfl (k_X11_at (d + 2) (T := T) (σ := σ40) (x := x124) (i := p2) hk126i (by omega) (by omega) w43 ) (fun r128 T130 σ129 gt131 hp => ?_)
        obtain ⟨v135, rfl, rfl, rfl, f132, f133, f134⟩ := hp
        clear gt131
        clear f133 f134
        show Tn _ _ 134 T σ40 [(0, .ref a), (1, .ref p1), (2, .int (iI p2)), (3, .int (iI v32)), (4, .int (iI v38)), (5, .int (iI i539))] [.int (iI v135), .int (iI v123), .ref x102] _
        refine tn_callSN (M := m_X10_goThrough) (pc := 134) (ix := 26) (M' := m_X11_put) (As := [.ref x102, .int (iI v123), .int (iI v135)]) (rest := []) dX10_goThrough_134 ok_X11_put stt_X11_put nl10_26 np_X11_put rfl (Nat.le_of_ble_eq_true rfl) (Nat.le_of_ble_eq_true rfl) rfl (k_X11_put (d + 2) (T := T) (σ := σ40) (x := x102) (i := v123) (y := v135) hk104i (by omega) (by omega) (by omega) w43 (nh_k hk104 (by unfold HT; omega)) (vok_1 (by have q9 := hk104; omega) (by omega))) (fun r136 T138 σ137 gt139 hp => ?_)
        obtain ⟨rfl, rfl, w141, F142⟩ := hp
        clear gt139
        show Tn _ _ 137 T σ137 [(0, .ref a), (1, .ref p1), (2, .int (iI p2)), (3, .int (iI v32)), (4, .int (iI v38)), (5, .int (iI i539))] [] _
        refine tn_aload_n dX10_goThrough_137 rfl 1 rfl ?_
        refine tn_iload_n dX10_goThrough_138 rfl 2 rfl ?_
        refine tn_iconst dX10_goThrough_139 ?_
        refine tn_callV (M := m_X10_goThrough) (pc := 140) (ix := 44) (ci := 1) (M' := m_X1_get) (As := [.int (iI p2), .int (iI 1)]) (rest := []) dX10_goThrough_140 ok_X1_get im_X1_get se_X1_get ml10_44 np_X1_get rfl rfl h_p1 rfl (Nat.le_of_ble_eq_true rfl) (Nat.le_of_ble_eq_true rfl) rfl (k_X1_get (d + 2) (T := T) (σ := σ137) (a := p1) (k := p2) (c := 1) h_p1 (by omega) (by decide) w141 (by omega)) (fun r143 T145 σ144 gt146 hp => ?_)
        obtain ⟨v148, rfl, rfl, rfl, f147⟩ := hp
        clear gt146
        show Tn _ _ 143 T σ137 [(0, .ref a), (1, .ref p1), (2, .int (iI p2)), (3, .int (iI v32)), (4, .int (iI v38)), (5, .int (iI i539))] [.int (iI v148)] _
        refine tn_istore (L' := [(5, .int (iI v148)), (0, .ref a), (1, .ref p1), (2, .int (iI p2)), (3, .int (iI v32)), (4, .int (iI v38))]) dX10_goThrough_143 (by decide) rfl ?_
        refine tn_iconst dX10_goThrough_145 ?_
        refine tn_istore (L' := [(6, .int (iI 0)), (5, .int (iI v148)), (0, .ref a), (1, .ref p1), (2, .int (iI p2)), (3, .int (iI v32)), (4, .int (iI v38))]) dX10_goThrough_146 (by decide) rfl ?_
        refine tn_sub [2, 3, 4, 5, 1, 0] rfl (l_X10_goThrough_148 (d) (T := T) (σ0 := σ137) (a := a) (rx1 := p1) (c2 := p2) (c3 := v32) (c5 := v148) ha h_p1 t_p1 (by omega) (by omega) (by omega) w141 (fun i6149 σ150 w153 F154 r155 => ?_) _ (0) σ137 w141 FrC.rfl (by omega) rfl)
        show Tn _ _ 190 T σ150 [(0, .ref a), (1, .ref p1), (2, .int (iI p2)), (3, .int (iI v32)), (5, .int (iI v148)), (6, .int (iI i6149))] [] _
        refine tn_aload_n dX10_goThrough_190 rfl 1 rfl ?_
        refine tn_iload_n dX10_goThrough_191 rfl 2 rfl ?_
        refine tn_callV (M := m_X10_goThrough) (pc := 192) (ix := 107) (ci := 1) (M' := m_X1_fallsOn) (As := [.int (iI p2)]) (rest := []) dX10_goThrough_192 ok_X1_fallsOn im_X1_fallsOn se_X1_fallsOn ml10_107 np_X1_fallsOn rfl rfl h_p1 rfl (Nat.le_of_ble_eq_true rfl) (Nat.le_of_ble_eq_true rfl) rfl (k_X1_fallsOn (d + 1) (T := T) (σ := σ150) (a := p1) (k := p2) h_p1 (by omega) w153 ) (fun r156 T158 σ157 gt159 hp => ?_)
        obtain ⟨v161, rfl, rfl, rfl, f160⟩ := hp
        clear gt159
        show Tn _ _ 195 T σ150 [(0, .ref a), (1, .ref p1), (2, .int (iI p2)), (3, .int (iI v32)), (5, .int (iI v148)), (6, .int (iI i6149))] [.int (iI v161)] _
        refine tn_if_eq (tgt := 206) dX10_goThrough_195 (by decide) ⟨by omega, by omega⟩ (fun h162 => ?_) (fun h162 => ?_)
        · refine tn_aload_n dX10_goThrough_206 rfl 0 rfl ?_
          refine tn_aload_n dX10_goThrough_207 rfl 1 rfl ?_
          refine tn_aload_n dX10_goThrough_208 rfl 1 rfl ?_
          refine tn_iload_n dX10_goThrough_209 rfl 2 rfl ?_
          refine tn_callV (M := m_X10_goThrough) (pc := 210) (ix := 114) (ci := 1) (M' := m_X1_targetOf) (As := [.int (iI p2)]) (rest := [.ref p1, .ref a]) dX10_goThrough_210 ok_X1_targetOf im_X1_targetOf se_X1_targetOf ml10_114 np_X1_targetOf rfl rfl h_p1 rfl (Nat.le_of_ble_eq_true rfl) (Nat.le_of_ble_eq_true rfl) rfl (k_X1_targetOf (d + 1) (T := T) (σ := σ150) (a := p1) (k := p2) h_p1 (by omega) w153 ) (fun r163 T165 σ164 gt166 hp => ?_)
          obtain ⟨v168, rfl, rfl, rfl, f167⟩ := hp
          clear gt166
          show Tn _ _ 213 T σ150 [(0, .ref a), (1, .ref p1), (2, .int (iI p2)), (3, .int (iI v32)), (5, .int (iI v148)), (6, .int (iI i6149))] [.int (iI v168), .ref p1, .ref a] _
          refine tn_callV (M := m_X10_goThrough) (pc := 213) (ix := 111) (ci := 10) (M' := m_X10_comeTo) (As := [.ref p1, .int (iI v168)]) (rest := []) dX10_goThrough_213 ok_X10_comeTo im_X10_comeTo se_X10_comeTo ml10_111 np_X10_comeTo rfl rfl ha rfl (Nat.le_of_ble_eq_true rfl) (Nat.le_of_ble_eq_true rfl) rfl (k_X10_comeTo (d + 1) (T := T) (σ := σ150) (a := a) (p1 := p1) (p2 := v168) ha h_p1 t_p1 (by omega) w153 ) (fun r169 T171 σ170 gt172 hp => ?_)
          obtain ⟨rfl, rfl, w174, F175⟩ := hp
          clear gt172
          show Tn _ _ 216 T σ170 [(0, .ref a), (1, .ref p1), (2, .int (iI p2)), (3, .int (iI v32)), (5, .int (iI v148)), (6, .int (iI i6149))] [] _
          exact tn_vret rfl dX10_goThrough_216 ⟨rfl, rfl, w174, ((((FrC.rfl.trans (FrC.sub F44 (by decide))).trans (FrC.sub F142 (by decide))).trans (FrC.sub F154 (by decide))).trans (FrC.sub F175 (by decide)))⟩
        · refine tn_aload_n dX10_goThrough_198 rfl 0 rfl ?_
          refine tn_aload_n dX10_goThrough_199 rfl 1 rfl ?_
          refine tn_iload_n dX10_goThrough_200 rfl 2 rfl ?_
          refine tn_iconst dX10_goThrough_201 ?_
          refine tn_iadd dX10_goThrough_202 ?_
          refine tn_any (fun z176 g177 => ?_)
          have g177r : -2147483648 ≤ z176 ∧ z176 ≤ 2147483647 := g177
          refine tn_callV (M := m_X10_goThrough) (pc := 203) (ix := 111) (ci := 10) (M' := m_X10_comeTo) (As := [.ref p1, .int (iI z176)]) (rest := []) dX10_goThrough_203 ok_X10_comeTo im_X10_comeTo se_X10_comeTo ml10_111 np_X10_comeTo rfl rfl ha rfl (Nat.le_of_ble_eq_true rfl) (Nat.le_of_ble_eq_true rfl) rfl (k_X10_comeTo (d + 1) (T := T) (σ := σ150) (a := a) (p1 := p1) (p2 := z176) ha h_p1 t_p1 (by omega) w153 ) (fun r178 T180 σ179 gt181 hp => ?_)
          obtain ⟨rfl, rfl, w183, F184⟩ := hp
          clear gt181
          show Tn _ _ 206 T σ179 [(0, .ref a), (1, .ref p1), (2, .int (iI p2)), (3, .int (iI v32)), (5, .int (iI v148)), (6, .int (iI i6149))] [] _
          refine tn_aload_n dX10_goThrough_206 rfl 0 rfl ?_
          refine tn_aload_n dX10_goThrough_207 rfl 1 rfl ?_
          refine tn_aload_n dX10_goThrough_208 rfl 1 rfl ?_
          refine tn_iload_n dX10_goThrough_209 rfl 2 rfl ?_
          refine tn_callV (M := m_X10_goThrough) (pc := 210) (ix := 114) (ci := 1) (M' := m_X1_targetOf) (As := [.int (iI p2)]) (rest := [.ref p1, .ref a]) dX10_goThrough_210 ok_X1_targetOf im_X1_targetOf se_X1_targetOf ml10_114 np_X1_targetOf rfl rfl h_p1 rfl (Nat.le_of_ble_eq_true rfl) (Nat.le_of_ble_eq_true rfl) rfl (k_X1_targetOf (d + 1) (T := T) (σ := σ179) (a := p1) (k := p2) h_p1 (by omega) w183 ) (fun r185 T187 σ186 gt188 hp => ?_)
          obtain ⟨v190, rfl, rfl, rfl, f189⟩ := hp
          clear gt188
          show Tn _ _ 213 T σ179 [(0, .ref a), (1, .ref p1), (2, .int (iI p2)), (3, .int (iI v32)), (5, .int (iI v148)), (6, .int (iI i6149))] [.int (iI v190), .ref p1, .ref a] _
          refine tn_callV (M := m_X10_goThrough) (pc := 213) (ix := 111) (ci := 10) (M' := m_X10_comeTo) (As := [.ref p1, .int (iI v190)]) (rest := []) dX10_goThrough_213 ok_X10_comeTo im_X10_comeTo se_X10_comeTo ml10_111 np_X10_comeTo rfl rfl ha rfl (Nat.le_of_ble_eq_true rfl) (Nat.le_of_ble_eq_true rfl) rfl (k_X10_comeTo (d + 1) (T := T) (σ := σ179) (a := a) (p1 := p1) (p2 := v190) ha h_p1 t_p1 (by omega) w183 ) (fun r191 T193 σ192 gt194 hp => ?_)
          obtain ⟨rfl, rfl, w196, F197⟩ := hp
          clear gt194
          show Tn _ _ 216 T σ192 [(0, .ref a), (1, .ref p1), (2, .int (iI p2)), (3, .int (iI v32)), (5, .int (iI v148)), (6, .int (iI i6149))] [] _
          exact tn_vret rfl dX10_goThrough_216 ⟨rfl, rfl, w196, (((((FrC.rfl.trans (FrC.sub F44 (by decide))).trans (FrC.sub F142 (by decide))).trans (FrC.sub F154 (by decide))).trans (FrC.sub F184 (by decide))).trans (FrC.sub F197 (by decide)))⟩
    · exact tn_vret rfl dX10_goThrough_16 ⟨rfl, rfl, hw, FrC.rfl⟩
