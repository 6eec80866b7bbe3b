section
theorem cd_X5_settleCalls : Cond.code yX5_settleCalls cX5_settleCalls 4 (some .boolean) ∈ pWW := pw4 (List.mem_of_getElem? (i := 14) rfl) rfl
abbrev m_X5_settleCalls : MT := (yX5_settleCalls, cX5_settleCalls, 4, (some .boolean))
theorem ok_X5_settleCalls : pOk m_X5_settleCalls := ⟨⟨cd_X5_settleCalls, ini_5⟩, by decide +kernel, ⟨by decide +kernel, by decide +kernel⟩, Nat.le_of_ble_eq_true rfl⟩
theorem np_X5_settleCalls : (parseMethodDescriptor yX5_settleCalls.desc).map (fun d => d.parameters.length) = some 0 := by decide +kernel
theorem im_X5_settleCalls : Cond.instanceMethod yX5_settleCalls ∈ pWW := pw4 (List.mem_of_getElem? (i := 13) rfl) rfl
theorem se_X5_settleCalls : Cond.selects RX5 yX5_settleCalls yX5_settleCalls ∈ pWW := pws (List.mem_map.mpr ⟨_, lw_pin 33 rfl, rfl⟩) rfl
theorem dX5_settleCalls_0 : decode cX5_settleCalls 0 = .ok (.iconst 0, 1) := by decide +kernel
theorem dX5_settleCalls_1 : decode cX5_settleCalls 1 = .ok (.istore_n 1, 1) := by decide +kernel
theorem dX5_settleCalls_2 : decode cX5_settleCalls 2 = .ok (.iload_n 1, 1) := by decide +kernel
theorem dX5_settleCalls_3 : decode cX5_settleCalls 3 = .ok (.aload_n 0, 1) := by decide +kernel
theorem dX5_settleCalls_4 : decode cX5_settleCalls 4 = .ok (.getfield 61, 3) := by decide +kernel
theorem dX5_settleCalls_7 : decode cX5_settleCalls 7 = .ok (.if_icmp .ge 75, 3) := by decide +kernel
theorem dX5_settleCalls_10 : decode cX5_settleCalls 10 = .ok (.aload_n 0, 1) := by decide +kernel
theorem dX5_settleCalls_11 : decode cX5_settleCalls 11 = .ok (.aload_n 0, 1) := by decide +kernel
theorem dX5_settleCalls_12 : decode cX5_settleCalls 12 = .ok (.getfield 31, 3) := by decide +kernel
theorem dX5_settleCalls_15 : decode cX5_settleCalls 15 = .ok (.iload_n 1, 1) := by decide +kernel
theorem dX5_settleCalls_16 : decode cX5_settleCalls 16 = .ok (.invokestatic 231, 3) := by decide +kernel
theorem dX5_settleCalls_19 : decode cX5_settleCalls 19 = .ok (.invokevirtual 109, 3) := by decide +kernel
theorem dX5_settleCalls_22 : decode cX5_settleCalls 22 = .ok (.istore_n 2, 1) := by decide +kernel
theorem dX5_settleCalls_23 : decode cX5_settleCalls 23 = .ok (.iload_n 2, 1) := by decide +kernel
theorem dX5_settleCalls_24 : decode cX5_settleCalls 24 = .ok (.iconst (-1), 1) := by decide +kernel
theorem dX5_settleCalls_25 : decode cX5_settleCalls 25 = .ok (.if_icmp .ne 19, 3) := by decide +kernel
theorem dX5_settleCalls_44 : decode cX5_settleCalls 44 = .ok (.aload_n 0, 1) := by decide +kernel
theorem dX5_settleCalls_45 : decode cX5_settleCalls 45 = .ok (.getfield 28, 3) := by decide +kernel
theorem dX5_settleCalls_48 : decode cX5_settleCalls 48 = .ok (.iload_n 2, 1) := by decide +kernel
theorem dX5_settleCalls_49 : decode cX5_settleCalls 49 = .ok (.invokestatic 231, 3) := by decide +kernel
theorem dX5_settleCalls_52 : decode cX5_settleCalls 52 = .ok (.aload_n 0, 1) := by decide +kernel
theorem dX5_settleCalls_53 : decode cX5_settleCalls 53 = .ok (.getfield 37, 3) := by decide +kernel
theorem dX5_settleCalls_56 : decode cX5_settleCalls 56 = .ok (.iload_n 1, 1) := by decide +kernel
theorem dX5_settleCalls_57 : decode cX5_settleCalls 57 = .ok (.invokestatic 231, 3) := by decide +kernel
theorem dX5_settleCalls_60 : decode cX5_settleCalls 60 = .ok (.if_icmp .eq 16, 3) := by decide +kernel
theorem dX5_settleCalls_76 : decode cX5_settleCalls 76 = .ok (.iinc 1 1, 3) := by decide +kernel
theorem dX5_settleCalls_79 : decode cX5_settleCalls 79 = .ok (.goto (-77), 3) := by decide +kernel
theorem dX5_settleCalls_63 : decode cX5_settleCalls 63 = .ok (.aload_n 0, 1) := by decide +kernel
theorem dX5_settleCalls_64 : decode cX5_settleCalls 64 = .ok (.iconst 4, 1) := by decide +kernel
theorem dX5_settleCalls_65 : decode cX5_settleCalls 65 = .ok (.aload_n 0, 1) := by decide +kernel
theorem dX5_settleCalls_66 : decode cX5_settleCalls 66 = .ok (.getfield 34, 3) := by decide +kernel
theorem dX5_settleCalls_69 : decode cX5_settleCalls 69 = .ok (.iload_n 1, 1) := by decide +kernel
theorem dX5_settleCalls_70 : decode cX5_settleCalls 70 = .ok (.invokestatic 231, 3) := by decide +kernel
theorem dX5_settleCalls_73 : decode cX5_settleCalls 73 = .ok (.invokevirtual 113, 3) := by decide +kernel
theorem dX5_settleCalls_28 : decode cX5_settleCalls 28 = .ok (.aload_n 0, 1) := by decide +kernel
theorem dX5_settleCalls_29 : decode cX5_settleCalls 29 = .ok (.iconst 3, 1) := by decide +kernel
theorem dX5_settleCalls_30 : decode cX5_settleCalls 30 = .ok (.aload_n 0, 1) := by decide +kernel
theorem dX5_settleCalls_31 : decode cX5_settleCalls 31 = .ok (.getfield 34, 3) := by decide +kernel
theorem dX5_settleCalls_34 : decode cX5_settleCalls 34 = .ok (.iload_n 1, 1) := by decide +kernel
theorem dX5_settleCalls_35 : decode cX5_settleCalls 35 = .ok (.invokestatic 231, 3) := by decide +kernel
theorem dX5_settleCalls_38 : decode cX5_settleCalls 38 = .ok (.invokevirtual 113, 3) := by decide +kernel
theorem dX5_settleCalls_41 : decode cX5_settleCalls 41 = .ok (.goto 35, 3) := by decide +kernel
set_option maxRecDepth 20000 in
theorem l_X5_settleCalls_2 (d : Nat) {T : CT} {σ0 : MS} {a : Nat} {post : Option Value → CT → MS → Prop} (h_a : OB T a 5) (hw0 : WT T σ0) (hx_82 : ∀ (i1 : Int) (σ : MS) , (WT T σ) → (FrC T [43, 44] σ0 σ) → (0 ≤ i1 ∧ i1 ≤ 2147483647) → Tn (d + 3) m_X5_settleCalls 82 T σ [(0, .ref a), (1, .int (iI i1))] [] post) : ∀ (n : Nat) (i1 : Int) (σ : MS) , (WT T σ) → (FrC T [43, 44] σ0 σ) → (0 ≤ i1 ∧ i1 ≤ 2147483647) → (2147483700 - i1).toNat = n → Tn (d + 3) m_X5_settleCalls 2 T σ [(0, .ref a), (1, .int (iI i1))] [] post := by
  intro n
  induction n using Nat.strongRecOn with
  | _ n ih =>
    intro i1 σ hw hF r_i1 hm
    refine tn_iload_n dX5_settleCalls_2 rfl 1 rfl ?_
    refine tn_aload_n dX5_settleCalls_3 rfl 0 rfl ?_
    refine tn_getI (ci := 5) (i := 9) (n := 42) (t := σ0.2.1 42 a) dX5_settleCalls_4 rfl lay_5 (by decide) fl5_61 h_a rfl rfl (rc_F hF (Or.inl (by decide)) (by decide) (rfl)) ?_
    have g1 : ((0 : Int) ≤ σ0.2.1 42 a ∧ σ0.2.1 42 a ≤ 256) := wf_42 hw0 h_a
    refine tn_icmp_ge (tgt := 82) dX5_settleCalls_7 (by decide) ⟨by omega, by omega⟩ ⟨by omega, by omega⟩ (fun h2 => ?_) (fun h2 => ?_)
    · exact tn_sub [0, 1] rfl (hx_82 (i1) σ hw (FrC.rfl.trans (FrC.sub hF (by decide))) (by omega))
    · refine tn_aload_n dX5_settleCalls_10 rfl 0 rfl ?_
      refine tn_aload_n dX5_settleCalls_11 rfl 0 rfl ?_
      obtain ⟨x3, hx4, hk5, hl6⟩ : ∃ x : Nat, σ0.2.1 39 a = (x : Int) ∧ AR T x 18 256 256 := wf_39 hw0 h_a
      have hk5i : IA T x3 := by unfold IA; omega
      refine tn_getR (ci := 5) (i := 6) (n := 39) (x := x3) dX5_settleCalls_12 rfl lay_5 (by decide) fl5_31 h_a rfl rfl (rc_F hF (Or.inl (by decide)) (by decide) (hx4)) ?_
      refine tn_iload_n dX5_settleCalls_15 rfl 1 rfl ?_
      refine tn_callSN (M := m_X5_settleCalls) (pc := 16) (ix := 231) (M' := m_X11_at) (As := [.ref x3, .int (iI i1)]) (rest := [.ref a]) dX5_settleCalls_16 ok_X11_at stt_X11_at nl5_231 np_X11_at rfl (Nat.le_of_ble_eq_true rfl) (Nat.le_of_ble_eq_true rfl) rfl (k_X11_at (d + 1) (T := T) (σ := σ) (x := x3) (i := i1) hk5i (by omega) (by omega) hw ) (fun r7 T9 σ8 gt10 hp => ?_)
      obtain ⟨v14, rfl, rfl, rfl, f11, f12, f13⟩ := hp
      clear gt10
      clear f12 f13
      show Tn _ _ 19 T σ [(0, .ref a), (1, .int (iI i1))] [.int (iI v14), .ref a] _
      refine tn_callV (M := m_X5_settleCalls) (pc := 19) (ix := 109) (ci := 5) (M' := m_X5_routineOf) (As := [.int (iI v14)]) (rest := []) dX5_settleCalls_19 ok_X5_routineOf im_X5_routineOf se_X5_routineOf ml5_109 np_X5_routineOf rfl rfl h_a rfl (Nat.le_of_ble_eq_true rfl) (Nat.le_of_ble_eq_true rfl) rfl (k_X5_routineOf (d) (T := T) (σ := σ) (a := a) (k := v14) h_a (by omega) hw ) (fun r15 T17 σ16 gt18 hp => ?_)
      obtain ⟨v20, rfl, rfl, rfl, f19⟩ := hp
      clear gt18
      show Tn _ _ 22 T σ [(0, .ref a), (1, .int (iI i1))] [.int (iI v20)] _
      refine tn_istore_n (L' := [(2, .int (iI v20)), (0, .ref a), (1, .int (iI i1))]) dX5_settleCalls_22 rfl (by decide) rfl ?_
      refine tn_iload_n dX5_settleCalls_23 rfl 0 rfl ?_
      refine tn_iconst dX5_settleCalls_24 ?_
      refine tn_icmp_ne (tgt := 44) dX5_settleCalls_25 (by decide) ⟨by omega, by omega⟩ ⟨by decide, by decide⟩ (fun h21 => ?_) (fun h21 => ?_)
      · refine tn_aload_n dX5_settleCalls_44 rfl 1 rfl ?_
        obtain ⟨x22, hx23, hk24, hl25⟩ : ∃ x : Nat, σ0.2.1 37 a = (x : Int) ∧ AR T x 17 256 256 := wf_37 hw0 h_a
        have hk24i : IA T x22 := by unfold IA; omega
        refine tn_getR (ci := 5) (i := 4) (n := 37) (x := x22) dX5_settleCalls_45 rfl lay_5 (by decide) fl5_28 h_a rfl rfl (rc_F hF (Or.inl (by decide)) (by decide) (hx23)) ?_
        refine tn_iload_n dX5_settleCalls_48 rfl 0 rfl ?_
        refine tn_callSN (M := m_X5_settleCalls) (pc := 49) (ix := 231) (M' := m_X11_at) (As := [.ref x22, .int (iI v20)]) (rest := []) dX5_settleCalls_49 ok_X11_at stt_X11_at nl5_231 np_X11_at rfl (Nat.le_of_ble_eq_true rfl) (Nat.le_of_ble_eq_true rfl) rfl (k_X11_at (d + 1) (T := T) (σ := σ) (x := x22) (i := v20) hk24i (by omega) (by omega) hw ) (fun r26 T28 σ27 gt29 hp => ?_)
        obtain ⟨v33, rfl, rfl, rfl, f30, f31, f32⟩ := hp
        clear gt29
        clear f31 f32
        show Tn _ _ 52 T σ [(2, .int (iI v20)), (0, .ref a), (1, .int (iI i1))] [.int (iI v33)] _
        refine tn_aload_n dX5_settleCalls_52 rfl 1 rfl ?_
        obtain ⟨x34, hx35, hk36, hl37⟩ : ∃ x : Nat, σ0.2.1 41 a = (x : Int) ∧ AR T x 20 256 256 := wf_41 hw0 h_a
        have hk36i : IA T x34 := by unfold IA; omega
        refine tn_getR (ci := 5) (i := 8) (n := 41) (x := x34) dX5_settleCalls_53 rfl lay_5 (by decide) fl5_37 h_a rfl rfl (rc_F hF (Or.inl (by decide)) (by decide) (hx35)) ?_
        refine tn_iload_n dX5_settleCalls_56 rfl 2 rfl ?_
        refine tn_callSN (M := m_X5_settleCalls) (pc := 57) (ix := 231) (M' := m_X11_at) (As := [.ref x34, .int (iI i1)]) (rest := [.int (iI v33)]) dX5_settleCalls_57 ok_X11_at stt_X11_at nl5_231 np_X11_at rfl (Nat.le_of_ble_eq_true rfl) (Nat.le_of_ble_eq_true rfl) rfl (k_X11_at (d + 1) (T := T) (σ := σ) (x := x34) (i := i1) hk36i (by omega) (by omega) hw ) (fun r38 T40 σ39 gt41 hp => ?_)
        obtain ⟨v45, rfl, rfl, rfl, f42, f43, f44⟩ := hp
        clear gt41
        clear f43 f44
        show Tn _ _ 60 T σ [(2, .int (iI v20)), (0, .ref a), (1, .int (iI i1))] [.int (iI v45), .int (iI v33)] _
        refine tn_icmp_eq (tgt := 76) dX5_settleCalls_60 (by decide) ⟨by omega, by omega⟩ ⟨by omega, by omega⟩ (fun h46 => ?_) (fun h46 => ?_)
        · refine tn_iinc (q0 := 2) (L' := [(1, .int (iI (i1 + 1))), (2, .int (iI v20)), (0, .ref a)]) dX5_settleCalls_76 rfl (by decide) rfl ?_
          refine tn_goto (tgt := 2) dX5_settleCalls_79 (by decide) ?_
          exact tn_sub [2, 0] rfl (ih _ (by omega) (i1 + 1) σ hw (FrC.rfl.trans (FrC.sub hF (by decide))) (by omega) rfl)
        · refine tn_aload_n dX5_settleCalls_63 rfl 1 rfl ?_
          refine tn_iconst dX5_settleCalls_64 ?_
          refine tn_aload_n dX5_settleCalls_65 rfl 1 rfl ?_
          obtain ⟨x47, hx48, hk49, hl50⟩ : ∃ x : Nat, σ0.2.1 40 a = (x : Int) ∧ AR T x 19 256 256 := wf_40 hw0 h_a
          have hk49i : IA T x47 := by unfold IA; omega
          refine tn_getR (ci := 5) (i := 7) (n := 40) (x := x47) dX5_settleCalls_66 rfl lay_5 (by decide) fl5_34 h_a rfl rfl (rc_F hF (Or.inl (by decide)) (by decide) (hx48)) ?_
          refine tn_iload_n dX5_settleCalls_69 rfl 2 rfl ?_
          refine tn_callSN (M := m_X5_settleCalls) (pc := 70) (ix := 231) (M' := m_X11_at) (As := [.ref x47, .int (iI i1)]) (rest := [.int (iI 4), .ref a]) dX5_settleCalls_70 ok_X11_at stt_X11_at nl5_231 np_X11_at rfl (Nat.le_of_ble_eq_true rfl) (Nat.le_of_ble_eq_true rfl) rfl (k_X11_at (d + 1) (T := T) (σ := σ) (x := x47) (i := i1) hk49i (by omega) (by omega) hw ) (fun r51 T53 σ52 gt54 hp => ?_)
          obtain ⟨v58, rfl, rfl, rfl, f55, f56, f57⟩ := hp
          clear gt54
          clear f56 f57
          show Tn _ _ 73 T σ [(2, .int (iI v20)), (0, .ref a), (1, .int (iI i1))] [.int (iI v58), .int (iI 4), .ref a] _
          refine tn_callV (M := m_X5_settleCalls) (pc := 73) (ix := 113) (ci := 5) (M' := m_X5_note) (As := [.int (iI 4), .int (iI v58)]) (rest := []) dX5_settleCalls_73 ok_X5_note im_X5_note se_X5_note ml5_113 np_X5_note rfl rfl h_a rfl (Nat.le_of_ble_eq_true rfl) (Nat.le_of_ble_eq_true rfl) rfl (k_X5_note (d + 1) (T := T) (σ := σ) (a := a) (p1 := 4) (p2 := v58) h_a (by decide) (by omega) hw ) (fun r59 T61 σ60 gt62 hp => ?_)
          obtain ⟨rfl, rfl, w64, F65⟩ := hp
          clear gt62
          show Tn _ _ 76 T σ60 [(2, .int (iI v20)), (0, .ref a), (1, .int (iI i1))] [] _
          refine tn_iinc (q0 := 2) (L' := [(1, .int (iI (i1 + 1))), (2, .int (iI v20)), (0, .ref a)]) dX5_settleCalls_76 rfl (by decide) rfl ?_
          refine tn_goto (tgt := 2) dX5_settleCalls_79 (by decide) ?_
          exact tn_sub [2, 0] rfl (ih _ (by omega) (i1 + 1) σ60 w64 ((FrC.rfl.trans (FrC.sub hF (by decide))).trans (FrC.sub F65 (by decide))) (by omega) rfl)
      · refine tn_aload_n dX5_settleCalls_28 rfl 1 rfl ?_
        refine tn_iconst dX5_settleCalls_29 ?_
        refine tn_aload_n dX5_settleCalls_30 rfl 1 rfl ?_
        obtain ⟨x66, hx67, hk68, hl69⟩ : ∃ x : Nat, σ0.2.1 40 a = (x : Int) ∧ AR T x 19 256 256 := wf_40 hw0 h_a
        have hk68i : IA T x66 := by unfold IA; omega
        refine tn_getR (ci := 5) (i := 7) (n := 40) (x := x66) dX5_settleCalls_31 rfl lay_5 (by decide) fl5_34 h_a rfl rfl (rc_F hF (Or.inl (by decide)) (by decide) (hx67)) ?_
        refine tn_iload_n dX5_settleCalls_34 rfl 2 rfl ?_
        refine tn_callSN (M := m_X5_settleCalls) (pc := 35) (ix := 231) (M' := m_X11_at) (As := [.ref x66, .int (iI i1)]) (rest := [.int (iI 3), .ref a]) dX5_settleCalls_35 ok_X11_at stt_X11_at nl5_231 np_X11_at rfl (Nat.le_of_ble_eq_true rfl) (Nat.le_of_ble_eq_true rfl) rfl (k_X11_at (d + 1) (T := T) (σ := σ) (x := x66) (i := i1) hk68i (by omega) (by omega) hw ) (fun r70 T72 σ71 gt73 hp => ?_)
        obtain ⟨v77, rfl, rfl, rfl, f74, f75, f76⟩ := hp
        clear gt73
        clear f75 f76
        show Tn _ _ 38 T σ [(2, .int (iI v20)), (0, .ref a), (1, .int (iI i1))] [.int (iI v77), .int (iI 3), .ref a] _
        refine tn_callV (M := m_X5_settleCalls) (pc := 38) (ix := 113) (ci := 5) (M' := m_X5_note) (As := [.int (iI 3), .int (iI v77)]) (rest := []) dX5_settleCalls_38 ok_X5_note im_X5_note se_X5_note ml5_113 np_X5_note rfl rfl h_a rfl (Nat.le_of_ble_eq_true rfl) (Nat.le_of_ble_eq_true rfl) rfl (k_X5_note (d + 1) (T := T) (σ := σ) (a := a) (p1 := 3) (p2 := v77) h_a (by decide) (by omega) hw ) (fun r78 T80 σ79 gt81 hp => ?_)
        obtain ⟨rfl, rfl, w83, F84⟩ := hp
        clear gt81
        show Tn _ _ 41 T σ79 [(2, .int (iI v20)), (0, .ref a), (1, .int (iI i1))] [] _
        refine tn_goto (tgt := 76) dX5_settleCalls_41 (by decide) ?_
        refine tn_iinc (q0 := 2) (L' := [(1, .int (iI (i1 + 1))), (2, .int (iI v20)), (0, .ref a)]) dX5_settleCalls_76 rfl (by decide) rfl ?_
        refine tn_goto (tgt := 2) dX5_settleCalls_79 (by decide) ?_
        exact tn_sub [2, 0] rfl (ih _ (by omega) (i1 + 1) σ79 w83 ((FrC.rfl.trans (FrC.sub hF (by decide))).trans (FrC.sub F84 (by decide))) (by omega) rfl)
theorem dX5_settleCalls_82 : decode cX5_settleCalls 82 = .ok (.iconst 0, 1) := by decide +kernel
theorem dX5_settleCalls_83 : decode cX5_settleCalls 83 = .ok (.istore_n 1, 1) := by decide +kernel
theorem dX5_settleCalls_84 : decode cX5_settleCalls 84 = .ok (.aload_n 0, 1) := by decide +kernel
theorem dX5_settleCalls_85 : decode cX5_settleCalls 85 = .ok (.getfield 51, 3) := by decide +kernel
theorem dX5_settleCalls_88 : decode cX5_settleCalls 88 = .ok (.ifCond .ne 80, 3) := by decide +kernel
theorem dX5_settleCalls_91 : decode cX5_settleCalls 91 = .ok (.iload_n 1, 1) := by decide +kernel
theorem dX5_settleCalls_92 : decode cX5_settleCalls 92 = .ok (.aload_n 0, 1) := by decide +kernel
theorem dX5_settleCalls_93 : decode cX5_settleCalls 93 = .ok (.getfield 58, 3) := by decide +kernel
theorem dX5_settleCalls_96 : decode cX5_settleCalls 96 = .ok (.if_icmp .ge 72, 3) := by decide +kernel
theorem dX5_settleCalls_99 : decode cX5_settleCalls 99 = .ok (.iload_n 1, 1) := by decide +kernel
theorem dX5_settleCalls_100 : decode cX5_settleCalls 100 = .ok (.aload_n 0, 1) := by decide +kernel
theorem dX5_settleCalls_101 : decode cX5_settleCalls 101 = .ok (.getfield 20, 3) := by decide +kernel
theorem dX5_settleCalls_104 : decode cX5_settleCalls 104 = .ok (.arraylength, 1) := by decide +kernel
theorem dX5_settleCalls_105 : decode cX5_settleCalls 105 = .ok (.if_icmp .ge 63, 3) := by decide +kernel
theorem dX5_settleCalls_108 : decode cX5_settleCalls 108 = .ok (.aload_n 0, 1) := by decide +kernel
theorem dX5_settleCalls_109 : decode cX5_settleCalls 109 = .ok (.getfield 20, 3) := by decide +kernel
theorem dX5_settleCalls_112 : decode cX5_settleCalls 112 = .ok (.iload_n 1, 1) := by decide +kernel
theorem dX5_settleCalls_113 : decode cX5_settleCalls 113 = .ok (.aaload, 1) := by decide +kernel
theorem dX5_settleCalls_114 : decode cX5_settleCalls 114 = .ok (.astore_n 2, 1) := by decide +kernel
theorem dX5_settleCalls_115 : decode cX5_settleCalls 115 = .ok (.iconst 0, 1) := by decide +kernel
theorem dX5_settleCalls_116 : decode cX5_settleCalls 116 = .ok (.istore_n 3, 1) := by decide +kernel
theorem dX5_settleCalls_117 : decode cX5_settleCalls 117 = .ok (.aload_n 2, 1) := by decide +kernel
theorem dX5_settleCalls_118 : decode cX5_settleCalls 118 = .ok (.ifnull 44, 3) := by decide +kernel
theorem dX5_settleCalls_121 : decode cX5_settleCalls 121 = .ok (.iload_n 3, 1) := by decide +kernel
theorem dX5_settleCalls_122 : decode cX5_settleCalls 122 = .ok (.aload_n 2, 1) := by decide +kernel
theorem dX5_settleCalls_123 : decode cX5_settleCalls 123 = .ok (.getfield 146, 3) := by decide +kernel
theorem dX5_settleCalls_126 : decode cX5_settleCalls 126 = .ok (.if_icmp .ge 36, 3) := by decide +kernel
theorem dX5_settleCalls_129 : decode cX5_settleCalls 129 = .ok (.aload_n 2, 1) := by decide +kernel
theorem dX5_settleCalls_130 : decode cX5_settleCalls 130 = .ok (.iload_n 3, 1) := by decide +kernel
theorem dX5_settleCalls_131 : decode cX5_settleCalls 131 = .ok (.iconst 0, 1) := by decide +kernel
theorem dX5_settleCalls_132 : decode cX5_settleCalls 132 = .ok (.invokevirtual 164, 3) := by decide +kernel
theorem dX5_settleCalls_135 : decode cX5_settleCalls 135 = .ok (.bipush 10, 2) := by decide +kernel
theorem dX5_settleCalls_137 : decode cX5_settleCalls 137 = .ok (.if_icmp .ne 19, 3) := by decide +kernel
theorem dX5_settleCalls_156 : decode cX5_settleCalls 156 = .ok (.iinc 3 1, 3) := by decide +kernel
theorem dX5_settleCalls_159 : decode cX5_settleCalls 159 = .ok (.goto (-42), 3) := by decide +kernel
theorem dX5_settleCalls_140 : decode cX5_settleCalls 140 = .ok (.aload_n 2, 1) := by decide +kernel
theorem dX5_settleCalls_141 : decode cX5_settleCalls 141 = .ok (.iload_n 3, 1) := by decide +kernel
theorem dX5_settleCalls_142 : decode cX5_settleCalls 142 = .ok (.iconst 2, 1) := by decide +kernel
theorem dX5_settleCalls_143 : decode cX5_settleCalls 143 = .ok (.aload_n 0, 1) := by decide +kernel
theorem dX5_settleCalls_144 : decode cX5_settleCalls 144 = .ok (.aload_n 2, 1) := by decide +kernel
theorem dX5_settleCalls_145 : decode cX5_settleCalls 145 = .ok (.iload_n 3, 1) := by decide +kernel
theorem dX5_settleCalls_146 : decode cX5_settleCalls 146 = .ok (.iconst 2, 1) := by decide +kernel
theorem dX5_settleCalls_147 : decode cX5_settleCalls 147 = .ok (.invokevirtual 164, 3) := by decide +kernel
theorem dX5_settleCalls_150 : decode cX5_settleCalls 150 = .ok (.invokevirtual 109, 3) := by decide +kernel
theorem dX5_settleCalls_153 : decode cX5_settleCalls 153 = .ok (.invokevirtual 167, 3) := by decide +kernel
set_option maxRecDepth 20000 in
theorem l_X5_settleCalls_117 (d : Nat) {T : CT} {σ0 : MS} {a : Nat} {c1 : Int} {rx2 : Nat} {post : Option Value → CT → MS → Prop} (h_a : OB T a 5) (r_c1 : 0 ≤ c1 ∧ c1 ≤ 6) (h_rx2 : OB T rx2 1) (t_rx2 : (T rx2).1 = 31) (hw0 : WT T σ0) (hx_162 : ∀ (i3 : Int) (σ : MS) , (WT T σ) → (FrC T [] σ0 σ) → (0 ≤ i3 ∧ i3 ≤ 2147483647) → Tn (d + 3) m_X5_settleCalls 162 T σ [(0, .ref a), (1, .int (iI c1)), (2, .ref rx2), (3, .int (iI i3))] [] post) : ∀ (n : Nat) (i3 : Int) (σ : MS) , (WT T σ) → (FrC T [] σ0 σ) → (0 ≤ i3 ∧ i3 ≤ 2147483647) → (2147483700 - i3).toNat = n → Tn (d + 3) m_X5_settleCalls 117 T σ [(0, .ref a), (1, .int (iI c1)), (2, .ref rx2), (3, .int (iI i3))] [] post := by
  intro n
  induction n using Nat.strongRecOn with
  | _ n ih =>
    intro i3 σ hw hF r_i3 hm
    refine tn_aload_n dX5_settleCalls_117 rfl 2 rfl ?_
    refine tn_ifnull dX5_settleCalls_118 ?_
    refine tn_iload_n dX5_settleCalls_121 rfl 3 rfl ?_
    refine tn_aload_n dX5_settleCalls_122 rfl 2 rfl ?_
    refine tn_getI (ci := 1) (i := 1) (n := 6) (t := σ0.2.1 6 rx2) dX5_settleCalls_123 rfl lay_1 (by decide) fl5_146 h_rx2 rfl rfl (rc_F hF (Or.inl (by decide)) (by decide) (rfl)) ?_
    have g1 : ((0 : Int) ≤ σ0.2.1 6 rx2 ∧ σ0.2.1 6 rx2 ≤ 5000) ∧ ((T rx2).1 = 50 → σ0.2.1 6 rx2 ≤ 200) := wf_6 hw0 h_rx2
    have g1x := g1.2
    replace g1 := g1.1
    clear g1x
    refine tn_icmp_ge (tgt := 162) dX5_settleCalls_126 (by decide) ⟨by omega, by omega⟩ ⟨by omega, by omega⟩ (fun h2 => ?_) (fun h2 => ?_)
    · exact tn_sub [0, 1, 2, 3] rfl (hx_162 (i3) σ hw (FrC.rfl.trans (FrC.sub hF (by decide))) (by omega))
    · refine tn_aload_n dX5_settleCalls_129 rfl 2 rfl ?_
      refine tn_iload_n dX5_settleCalls_130 rfl 3 rfl ?_
      refine tn_iconst dX5_settleCalls_131 ?_
      refine tn_callV (M := m_X5_settleCalls) (pc := 132) (ix := 164) (ci := 1) (M' := m_X1_get) (As := [.int (iI i3), .int (iI 0)]) (rest := []) dX5_settleCalls_132 ok_X1_get im_X1_get se_X1_get ml5_164 np_X1_get rfl rfl h_rx2 rfl (Nat.le_of_ble_eq_true rfl) (Nat.le_of_ble_eq_true rfl) rfl (k_X1_get (d + 1) (T := T) (σ := σ) (a := rx2) (k := i3) (c := 0) h_rx2 (by omega) (by decide) hw (by omega)) (fun r3 T5 σ4 gt6 hp => ?_)
      obtain ⟨v8, rfl, rfl, rfl, f7⟩ := hp
      clear gt6
      show Tn _ _ 135 T σ [(0, .ref a), (1, .int (iI c1)), (2, .ref rx2), (3, .int (iI i3))] [.int (iI v8)] _
      refine tn_bipush dX5_settleCalls_135 (by decide) ?_
      refine tn_icmp_ne (tgt := 156) dX5_settleCalls_137 (by decide) ⟨by omega, by omega⟩ ⟨by decide, by decide⟩ (fun h9 => ?_) (fun h9 => ?_)
      · refine tn_iinc (q0 := 3) (L' := [(3, .int (iI (i3 + 1))), (0, .ref a), (1, .int (iI c1)), (2, .ref rx2)]) dX5_settleCalls_156 rfl (by decide) rfl ?_
        refine tn_goto (tgt := 117) dX5_settleCalls_159 (by decide) ?_
        exact tn_sub [1, 2, 3, 0] rfl (ih _ (by omega) (i3 + 1) σ hw (FrC.rfl.trans (FrC.sub hF (by decide))) (by omega) rfl)
      · refine tn_aload_n dX5_settleCalls_140 rfl 2 rfl ?_
        refine tn_iload_n dX5_settleCalls_141 rfl 3 rfl ?_
        refine tn_iconst dX5_settleCalls_142 ?_
        refine tn_aload_n dX5_settleCalls_143 rfl 0 rfl ?_
        refine tn_aload_n dX5_settleCalls_144 rfl 2 rfl ?_
        refine tn_iload_n dX5_settleCalls_145 rfl 3 rfl ?_
        refine tn_iconst dX5_settleCalls_146 ?_
        refine tn_callV (M := m_X5_settleCalls) (pc := 147) (ix := 164) (ci := 1) (M' := m_X1_get) (As := [.int (iI i3), .int (iI 2)]) (rest := [.ref a, .int (iI 2), .int (iI i3), .ref rx2]) dX5_settleCalls_147 ok_X1_get im_X1_get se_X1_get ml5_164 np_X1_get rfl rfl h_rx2 rfl (Nat.le_of_ble_eq_true rfl) (Nat.le_of_ble_eq_true rfl) rfl (k_X1_get (d + 1) (T := T) (σ := σ) (a := rx2) (k := i3) (c := 2) h_rx2 (by omega) (by decide) hw (by omega)) (fun r10 T12 σ11 gt13 hp => ?_)
        obtain ⟨v15, rfl, rfl, rfl, f14⟩ := hp
        clear gt13
        show Tn _ _ 150 T σ [(0, .ref a), (1, .int (iI c1)), (2, .ref rx2), (3, .int (iI i3))] [.int (iI v15), .ref a, .int (iI 2), .int (iI i3), .ref rx2] _
        refine tn_callV (M := m_X5_settleCalls) (pc := 150) (ix := 109) (ci := 5) (M' := m_X5_routineOf) (As := [.int (iI v15)]) (rest := [.int (iI 2), .int (iI i3), .ref rx2]) dX5_settleCalls_150 ok_X5_routineOf im_X5_routineOf se_X5_routineOf ml5_109 np_X5_routineOf rfl rfl h_a rfl (Nat.le_of_ble_eq_true rfl) (Nat.le_of_ble_eq_true rfl) rfl (k_X5_routineOf (d) (T := T) (σ := σ) (a := a) (k := v15) h_a (by omega) hw ) (fun r16 T18 σ17 gt19 hp => ?_)
        obtain ⟨v21, rfl, rfl, rfl, f20⟩ := hp
        clear gt19
        show Tn _ _ 153 T σ [(0, .ref a), (1, .int (iI c1)), (2, .ref rx2), (3, .int (iI i3))] [.int (iI v21), .int (iI 2), .int (iI i3), .ref rx2] _
        refine tn_callV (M := m_X5_settleCalls) (pc := 153) (ix := 167) (ci := 1) (M' := m_X1_set) (As := [.int (iI i3), .int (iI 2), .int (iI v21)]) (rest := []) dX5_settleCalls_153 ok_X1_set im_X1_set se_X1_set ml5_167 np_X1_set rfl rfl h_rx2 rfl (Nat.le_of_ble_eq_true rfl) (Nat.le_of_ble_eq_true rfl) rfl (k_X1_set (d + 1) (T := T) (σ := σ) (a := rx2) (k := i3) (c := 2) (y := v21) h_rx2 (by omega) (by decide) (by omega) hw (by omega) (by omega)) (fun r22 T24 σ23 gt25 hp => ?_)
        obtain ⟨rfl, rfl, w27, F28⟩ := hp
        clear gt25
        show Tn _ _ 156 T σ23 [(0, .ref a), (1, .int (iI c1)), (2, .ref rx2), (3, .int (iI i3))] [] _
        refine tn_iinc (q0 := 3) (L' := [(3, .int (iI (i3 + 1))), (0, .ref a), (1, .int (iI c1)), (2, .ref rx2)]) dX5_settleCalls_156 rfl (by decide) rfl ?_
        refine tn_goto (tgt := 117) dX5_settleCalls_159 (by decide) ?_
        exact tn_sub [1, 2, 3, 0] rfl (ih _ (by omega) (i3 + 1) σ23 w27 ((FrC.rfl.trans (FrC.sub hF (by decide))).trans (FrC.sub F28 (by decide))) (by omega) rfl)
theorem dX5_settleCalls_162 : decode cX5_settleCalls 162 = .ok (.iinc 1 1, 3) := by decide +kernel
theorem dX5_settleCalls_165 : decode cX5_settleCalls 165 = .ok (.goto (-81), 3) := by decide +kernel
set_option maxRecDepth 20000 in
theorem l_X5_settleCalls_84 (d : Nat) {T : CT} {σ0 : MS} {a : Nat} {post : Option Value → CT → MS → Prop} (h_a : OB T a 5) (hw0 : WT T σ0) (hx_168 : ∀ (i1 : Int) (σ : MS) , (WT T σ) → (FrC T [] σ0 σ) → (0 ≤ i1 ∧ i1 ≤ 2147483647) → Tn (d + 3) m_X5_settleCalls 168 T σ [(0, .ref a), (1, .int (iI i1))] [] post) : ∀ (n : Nat) (i1 : Int) (σ : MS) , (WT T σ) → (FrC T [] σ0 σ) → (0 ≤ i1 ∧ i1 ≤ 2147483647) → (2147483700 - i1).toNat = n → Tn (d + 3) m_X5_settleCalls 84 T σ [(0, .ref a), (1, .int (iI i1))] [] post := by
  intro n
  induction n using Nat.strongRecOn with
  | _ n ih =>
    intro i1 σ hw hF r_i1 hm
    refine tn_aload_n dX5_settleCalls_84 rfl 0 rfl ?_
    refine tn_getI (ci := 5) (i := 10) (n := 43) (t := σ0.2.1 43 a) dX5_settleCalls_85 rfl lay_5 (by decide) fl5_51 h_a rfl rfl (rc_F hF (Or.inl (by decide)) (by decide) (rfl)) ?_
    have g1 : ((-2147483648 : Int) ≤ σ0.2.1 43 a ∧ σ0.2.1 43 a ≤ 2147483647) := wf_43 hw0 h_a
    refine tn_if_ne (tgt := 168) dX5_settleCalls_88 (by decide) ⟨by omega, by omega⟩ (fun h2 => ?_) (fun h2 => ?_)
    · exact tn_sub [0, 1] rfl (hx_168 (i1) σ hw (FrC.rfl.trans (FrC.sub hF (by decide))) (by omega))
    · refine tn_iload_n dX5_settleCalls_91 rfl 1 rfl ?_
      refine tn_aload_n dX5_settleCalls_92 rfl 0 rfl ?_
      refine tn_getI (ci := 5) (i := 5) (n := 38) (t := σ0.2.1 38 a) dX5_settleCalls_93 rfl lay_5 (by decide) fl5_58 h_a rfl rfl (rc_F hF (Or.inl (by decide)) (by decide) (rfl)) ?_
      have g3 : ((0 : Int) ≤ σ0.2.1 38 a ∧ σ0.2.1 38 a ≤ 256) := wf_38 hw0 h_a
      refine tn_icmp_ge (tgt := 168) dX5_settleCalls_96 (by decide) ⟨by omega, by omega⟩ ⟨by omega, by omega⟩ (fun h4 => ?_) (fun h4 => ?_)
      · exact tn_sub [0, 1] rfl (hx_168 (i1) σ hw (FrC.rfl.trans (FrC.sub hF (by decide))) (by omega))
      · refine tn_iload_n dX5_settleCalls_99 rfl 1 rfl ?_
        refine tn_aload_n dX5_settleCalls_100 rfl 0 rfl ?_
        obtain ⟨x5, hx6, hk7, hl8⟩ : ∃ x : Nat, σ0.2.1 34 a = (x : Int) ∧ AR T x 4 7 7 := wf_34 hw0 h_a
        have hk7i : (T x5).1 = 4 ∨ (T x5).1 = 5 := by omega
        refine tn_getR (ci := 5) (i := 1) (n := 34) (x := x5) dX5_settleCalls_101 rfl lay_5 (by decide) fl5_20 h_a rfl rfl (rc_F hF (Or.inl (by decide)) (by decide) (hx6)) ?_
        refine tn_alenX dX5_settleCalls_104 (by have q9 := hk7i; omega) ?_
        refine tn_icmp_ge (tgt := 168) dX5_settleCalls_105 (by decide) ⟨by omega, by omega⟩ ⟨by omega, by omega⟩ (fun h9 => ?_) (fun h9 => ?_)
        · exact tn_sub [0, 1] rfl (hx_168 (i1) σ hw (FrC.rfl.trans (FrC.sub hF (by decide))) (by omega))
        · refine tn_aload_n dX5_settleCalls_108 rfl 0 rfl ?_
          refine tn_getR (ci := 5) (i := 1) (n := 34) (x := x5) dX5_settleCalls_109 rfl lay_5 (by decide) fl5_20 h_a rfl rfl (rc_F hF (Or.inl (by decide)) (by decide) (hx6)) ?_
          refine tn_iload_n dX5_settleCalls_112 rfl 1 rfl ?_
          obtain ⟨x10, hx11, hk12⟩ := (hw).2.2.2.1.1 x5 hk7 (i1) (by omega) (by omega)
          refine tn_aald (z := i1) (x := x10) dX5_settleCalls_113 hk7i (by omega) (by omega) (by omega) hx11 ?_
          have hk12o : OB T x10 1 := ⟨by omega, by rw [hk12]; rfl, by omega⟩
          refine tn_astore_n (L' := [(2, .ref x10), (0, .ref a), (1, .int (iI i1))]) dX5_settleCalls_114 rfl (by decide) rfl ?_
          refine tn_iconst dX5_settleCalls_115 ?_
          refine tn_istore_n (L' := [(3, .int (iI 0)), (2, .ref x10), (0, .ref a), (1, .int (iI i1))]) dX5_settleCalls_116 rfl (by decide) rfl ?_
          refine tn_sub [2, 3, 1, 0] rfl (l_X5_settleCalls_117 (d) (T := T) (σ0 := σ) (a := a) (c1 := i1) (rx2 := x10) h_a (by omega) hk12o hk12 hw (fun i313 σ14 w17 F18 r19 => ?_) _ (0) σ hw FrC.rfl (by omega) rfl)
          show Tn _ _ 162 T σ14 [(0, .ref a), (1, .int (iI i1)), (2, .ref x10), (3, .int (iI i313))] [] _
          refine tn_iinc (q0 := 1) (L' := [(1, .int (iI (i1 + 1))), (0, .ref a), (2, .ref x10), (3, .int (iI i313))]) dX5_settleCalls_162 rfl (by decide) rfl ?_
          refine tn_goto (tgt := 84) dX5_settleCalls_165 (by decide) ?_
          exact tn_sub [1, 0] rfl (ih _ (by omega) (i1 + 1) σ14 w17 ((FrC.rfl.trans (FrC.sub hF (by decide))).trans (FrC.sub F18 (by decide))) (by omega) rfl)
theorem dX5_settleCalls_168 : decode cX5_settleCalls 168 = .ok (.aload_n 0, 1) := by decide +kernel
theorem dX5_settleCalls_169 : decode cX5_settleCalls 169 = .ok (.getfield 51, 3) := by decide +kernel
theorem dX5_settleCalls_172 : decode cX5_settleCalls 172 = .ok (.ifCond .ne 7, 3) := by decide +kernel
theorem dX5_settleCalls_179 : decode cX5_settleCalls 179 = .ok (.iconst 0, 1) := by decide +kernel
theorem dX5_settleCalls_180 : decode cX5_settleCalls 180 = .ok (.ireturn, 1) := by decide +kernel
theorem dX5_settleCalls_175 : decode cX5_settleCalls 175 = .ok (.iconst 1, 1) := by decide +kernel
theorem dX5_settleCalls_176 : decode cX5_settleCalls 176 = .ok (.goto 4, 3) := by decide +kernel
set_option maxRecDepth 20000 in
theorem k_X5_settleCalls (d : Nat) {T : CT} {σ : MS} {a : Nat} (ha : OB T a 5) (hw : WT T σ) : Tn (d + 3) m_X5_settleCalls 0 T σ [(0, .ref a)] [] (fun ro T2 σ2 => ∃ v : Int, ro = some (.int (iI v)) ∧ T = T2 ∧ WT T2 σ2 ∧ FrC T [43, 44] σ σ2 ∧ (v = 0 ∨ v = 1)) := by
  refine tn_iconst dX5_settleCalls_0 ?_
  refine tn_istore_n (L' := [(1, .int (iI 0)), (0, .ref a)]) dX5_settleCalls_1 rfl (by decide) rfl ?_
  refine tn_sub [1, 0] rfl (l_X5_settleCalls_2 (d) (T := T) (σ0 := σ) (a := a) ha hw (fun i11 σ2 w5 F6 r7 => ?_) _ (0) σ hw FrC.rfl (by omega) rfl)
  show Tn _ _ 82 T σ2 [(0, .ref a), (1, .int (iI i11))] [] _
  refine tn_iconst dX5_settleCalls_82 ?_
  refine tn_istore_n (L' := [(1, .int (iI 0)), (0, .ref a)]) dX5_settleCalls_83 rfl (by decide) rfl ?_
  refine tn_sub [1, 0] rfl (l_X5_settleCalls_84 (d) (T := T) (σ0 := σ2) (a := a) ha w5 (fun i18 σ9 w12 F13 r14 => ?_) _ (0) σ2 w5 FrC.rfl (by omega) rfl)
  show Tn _ _ 168 T σ9 [(0, .ref a), (1, .int (iI i18))] [] _
  refine tn_aload_n dX5_settleCalls_168 rfl 0 rfl ?_
  refine tn_getI (ci := 5) (i := 10) (n := 43) (t := σ2.2.1 43 a) dX5_settleCalls_169 rfl lay_5 (by decide) fl5_51 ha rfl rfl (rc_F F13 (Or.inl (by decide)) (by decide) (rfl)) ?_
  have g15 : ((-2147483648 : Int) ≤ σ2.2.1 43 a ∧ σ2.2.1 43 a ≤ 2147483647) := wf_43 w5 ha
  refine tn_if_ne (tgt := 179) dX5_settleCalls_172 (by decide) ⟨by omega, by omega⟩ (fun h16 => ?_) (fun h16 => ?_)
  · refine tn_iconst dX5_settleCalls_179 ?_
    exact tn_zret (v := 0) rfl (by decide) dX5_settleCalls_180 ⟨_, rfl, rfl, w12, ((FrC.rfl.trans (FrC.sub F6 (by decide))).trans (FrC.sub F13 (by decide))), by omega⟩
  · refine tn_iconst dX5_settleCalls_175 ?_
    refine tn_goto (tgt := 180) dX5_settleCalls_176 (by decide) ?_
    exact tn_zret (v := 1) rfl (by decide) dX5_settleCalls_180 ⟨_, rfl, rfl, w12, ((FrC.rfl.trans (FrC.sub F6 (by decide))).trans (FrC.sub F13 (by decide))), by omega⟩
end
section
theorem cd_X5_take : Cond.code yX5_take cX5_take 5 (some .boolean) ∈ pWW := pw3 (List.mem_of_getElem? (i := 24) rfl) rfl
abbrev m_X5_take : MT := (yX5_take, cX5_take, 5, (some .boolean))
theorem ok_X5_take : pOk m_X5_take := ⟨⟨cd_X5_take, ini_5⟩, by decide +kernel, ⟨by decide +kernel, by decide +kernel⟩, Nat.le_of_ble_eq_true rfl⟩
theorem np_X5_take : (parseMethodDescriptor yX5_take.desc).map (fun d => d.parameters.length) = some 2 := by decide +kernel
theorem im_X5_take : Cond.instanceMethod yX5_take ∈ pWW := pw3 (List.mem_of_getElem? (i := 22) rfl) rfl
theorem se_X5_take : Cond.selects RX5 yX5_take yX5_take ∈ pWW := pw3 (List.mem_of_getElem? (i := 23) rfl) rfl
theorem ml5_67 : Cond.methodLink RX5 67 yX9_scan ∈ pWW := pw3 (List.mem_of_getElem? (i := 25) rfl) rfl
theorem ml5_75 : Cond.methodLink RX5 75 yX5_header ∈ pWW := pw3 (List.mem_of_getElem? (i := 61) rfl) rfl
theorem ml5_83 : Cond.methodLink RX5 83 yX5_closeRoutine ∈ pWW := pw3 (List.mem_of_getElem? (i := 226) rfl) rfl
theorem dX5_take_0 : decode cX5_take 0 = .ok (.aload_n 0, 1) := by decide +kernel
theorem dX5_take_1 : decode cX5_take 1 = .ok (.iconst 0, 1) := by decide +kernel
theorem dX5_take_2 : decode cX5_take 2 = .ok (.putfield 51, 3) := by decide +kernel
theorem dX5_take_5 : decode cX5_take 5 = .ok (.aload_n 0, 1) := by decide +kernel
theorem dX5_take_6 : decode cX5_take 6 = .ok (.iconst (-1), 1) := by decide +kernel
theorem dX5_take_7 : decode cX5_take 7 = .ok (.putfield 55, 3) := by decide +kernel
theorem dX5_take_10 : decode cX5_take 10 = .ok (.aload_n 0, 1) := by decide +kernel
theorem dX5_take_11 : decode cX5_take 11 = .ok (.iconst 0, 1) := by decide +kernel
theorem dX5_take_12 : decode cX5_take 12 = .ok (.putfield 58, 3) := by decide +kernel
theorem dX5_take_15 : decode cX5_take 15 = .ok (.aload_n 0, 1) := by decide +kernel
theorem dX5_take_16 : decode cX5_take 16 = .ok (.iconst 0, 1) := by decide +kernel
theorem dX5_take_17 : decode cX5_take 17 = .ok (.putfield 61, 3) := by decide +kernel
theorem dX5_take_20 : decode cX5_take 20 = .ok (.aload_n 0, 1) := by decide +kernel
theorem dX5_take_21 : decode cX5_take 21 = .ok (.iconst 0, 1) := by decide +kernel
theorem dX5_take_22 : decode cX5_take 22 = .ok (.putfield 64, 3) := by decide +kernel
theorem dX5_take_25 : decode cX5_take 25 = .ok (.aload_n 0, 1) := by decide +kernel
theorem dX5_take_26 : decode cX5_take 26 = .ok (.getfield 12, 3) := by decide +kernel
theorem dX5_take_29 : decode cX5_take 29 = .ok (.aload_n 1, 1) := by decide +kernel
theorem dX5_take_30 : decode cX5_take 30 = .ok (.iload_n 2, 1) := by decide +kernel
theorem dX5_take_31 : decode cX5_take 31 = .ok (.invokevirtual 67, 3) := by decide +kernel
theorem dX5_take_34 : decode cX5_take 34 = .ok (.iconst 0, 1) := by decide +kernel
theorem dX5_take_35 : decode cX5_take 35 = .ok (.istore_n 3, 1) := by decide +kernel
theorem dX5_take_36 : decode cX5_take 36 = .ok (.iload_n 3, 1) := by decide +kernel
theorem dX5_take_37 : decode cX5_take 37 = .ok (.sipush 1200, 3) := by decide +kernel
theorem dX5_take_40 : decode cX5_take 40 = .ok (.if_icmp .ge 54, 3) := by decide +kernel
theorem dX5_take_43 : decode cX5_take 43 = .ok (.aload_n 0, 1) := by decide +kernel
theorem dX5_take_44 : decode cX5_take 44 = .ok (.getfield 12, 3) := by decide +kernel
theorem dX5_take_47 : decode cX5_take 47 = .ok (.getfield 71, 3) := by decide +kernel
theorem dX5_take_50 : decode cX5_take 50 = .ok (.sipush 264, 3) := by decide +kernel
theorem dX5_take_53 : decode cX5_take 53 = .ok (.if_icmp .eq 41, 3) := by decide +kernel
theorem dX5_take_56 : decode cX5_take 56 = .ok (.aload_n 0, 1) := by decide +kernel
theorem dX5_take_57 : decode cX5_take 57 = .ok (.getfield 12, 3) := by decide +kernel
theorem dX5_take_60 : decode cX5_take 60 = .ok (.getfield 74, 3) := by decide +kernel
theorem dX5_take_63 : decode cX5_take 63 = .ok (.istore 4, 2) := by decide +kernel
theorem dX5_take_65 : decode cX5_take 65 = .ok (.aload_n 0, 1) := by decide +kernel
theorem dX5_take_66 : decode cX5_take 66 = .ok (.invokevirtual 75, 3) := by decide +kernel
theorem dX5_take_69 : decode cX5_take 69 = .ok (.ifCond .eq 11, 3) := by decide +kernel
theorem dX5_take_72 : decode cX5_take 72 = .ok (.aload_n 0, 1) := by decide +kernel
theorem dX5_take_73 : decode cX5_take 73 = .ok (.iconst 1, 1) := by decide +kernel
theorem dX5_take_74 : decode cX5_take 74 = .ok (.invokevirtual 79, 3) := by decide +kernel
theorem dX5_take_77 : decode cX5_take 77 = .ok (.ifCond .ne 5, 3) := by decide +kernel
theorem dX5_take_82 : decode cX5_take 82 = .ok (.aload_n 0, 1) := by decide +kernel
theorem dX5_take_83 : decode cX5_take 83 = .ok (.iload 4, 2) := by decide +kernel
theorem dX5_take_85 : decode cX5_take 85 = .ok (.invokevirtual 83, 3) := by decide +kernel
theorem dX5_take_88 : decode cX5_take 88 = .ok (.iinc 3 1, 3) := by decide +kernel
theorem dX5_take_91 : decode cX5_take 91 = .ok (.goto (-55), 3) := by decide +kernel
set_option maxRecDepth 20000 in
theorem l_X5_take_36 (d : Nat) {T0 : CT} {σ0 : MS} {a : Nat} {post : Option Value → CT → MS → Prop} (hw0 : WT T0 σ0) (hx_80 : ∀ (T : CT) (i3 : Int) (σ : MS) , (GT T0 T) → (WT T σ) → (FrC T0 [5, 6, 7, 8, 9, 10, 35, 38, 42, 43, 44, 45, 46, 47, 50, 51, 84, 85, 86, 87, 516, 517, 518, 519, 520, 521] σ0 σ) → (OB T a 5) → (0 ≤ i3 ∧ i3 ≤ 2147483647) → (True) → Tn (d + 79) m_X5_take 80 T σ [(0, .ref a), (3, .int (iI i3))] [] post) (hx_94 : ∀ (T : CT) (i3 : Int) (σ : MS) , (GT T0 T) → (WT T σ) → (FrC T0 [5, 6, 7, 8, 9, 10, 35, 38, 42, 43, 44, 45, 46, 47, 50, 51, 84, 85, 86, 87, 516, 517, 518, 519, 520, 521] σ0 σ) → (OB T a 5) → (0 ≤ i3 ∧ i3 ≤ 2147483647) → (True) → Tn (d + 79) m_X5_take 94 T σ [(0, .ref a), (3, .int (iI i3))] [] post) : ∀ (n : Nat) (T : CT) (i3 : Int) (σ : MS) , (GT T0 T) → (WT T σ) → (FrC T0 [5, 6, 7, 8, 9, 10, 35, 38, 42, 43, 44, 45, 46, 47, 50, 51, 84, 85, 86, 87, 516, 517, 518, 519, 520, 521] σ0 σ) → (OB T a 5) → (0 ≤ i3 ∧ i3 ≤ 2147483647) → (RT σ a) → (2147483700 - i3).toNat = n → Tn (d + 79) m_X5_take 36 T σ [(0, .ref a), (3, .int (iI i3))] [] post := by
  intro n
  induction n using Nat.strongRecOn with
  | _ n ih =>
    intro T i3 σ hG hw hF h_a r_i3 hrt hm
    refine tn_iload_n dX5_take_36 rfl 1 rfl ?_
    refine tn_sipush dX5_take_37 (by decide) ?_
    refine tn_icmp_ge (tgt := 94) dX5_take_40 (by decide) ⟨by omega, by omega⟩ ⟨by decide, by decide⟩ (fun h1 => ?_) (fun h1 => ?_)
    · exact tn_sub [0, 1] rfl (hx_94 T (i3) σ hG hw (FrC.rfl.trans (FrC.sub hF (by decide))) h_a (by omega) True.intro)
    · refine tn_aload_n dX5_take_43 rfl 0 rfl ?_
      obtain ⟨x2, hx3, hk4⟩ : ∃ x : Nat, σ.2.1 33 a = (x : Int) ∧ (T x).1 = 39 := wf_33 hw h_a
      have hk4o : OB T x2 9 := ⟨by omega, by rw [hk4]; rfl, by omega⟩
      refine tn_getR (ci := 5) (i := 0) (n := 33) (x := x2) dX5_take_44 rfl lay_5 (by decide) fl5_12 h_a rfl rfl (hx3) ?_
      refine tn_getI (ci := 9) (i := 4) (n := 85) (t := σ.2.1 85 x2) dX5_take_47 rfl lay_9 (by decide) fl5_71 hk4o rfl rfl (rfl) ?_
      have g6 : ((-2147483648 : Int) ≤ σ.2.1 85 x2 ∧ σ.2.1 85 x2 ≤ 2147483647) := wf_85 hw hk4o
      refine tn_sipush dX5_take_50 (by decide) ?_
      refine tn_icmp_eq (tgt := 94) dX5_take_53 (by decide) ⟨by omega, by omega⟩ ⟨by decide, by decide⟩ (fun h7 => ?_) (fun h7 => ?_)
      · exact tn_sub [0, 1] rfl (hx_94 T (i3) σ hG hw (FrC.rfl.trans (FrC.sub hF (by decide))) h_a (by omega) True.intro)
      · refine tn_aload_n dX5_take_56 rfl 0 rfl ?_
        refine tn_getR (ci := 5) (i := 0) (n := 33) (x := x2) dX5_take_57 rfl lay_5 (by decide) fl5_12 h_a rfl rfl (hx3) ?_
        refine tn_getI (ci := 9) (i := 6) (n := 87) (t := σ.2.1 87 x2) dX5_take_60 rfl lay_9 (by decide) fl5_74 hk4o rfl rfl (rfl) ?_
        have g8 : ((-2147483648 : Int) ≤ σ.2.1 87 x2 ∧ σ.2.1 87 x2 ≤ 2147483647) := wf_87 hw hk4o
        refine tn_istore (L' := [(4, .int (iI (σ.2.1 87 x2))), (0, .ref a), (3, .int (iI i3))]) dX5_take_63 (by decide) rfl ?_
        refine tn_aload_n dX5_take_65 rfl 1 rfl ?_
        refine tn_callV (M := m_X5_take) (pc := 66) (ix := 75) (ci := 5) (M' := m_X5_header) (As := []) (rest := []) dX5_take_66 ok_X5_header im_X5_header se_X5_header ml5_75 np_X5_header rfl rfl h_a rfl (Nat.le_of_ble_eq_true rfl) (Nat.le_of_ble_eq_true rfl) rfl (k_X5_header (d + 73) (T := T) (σ := σ) (a := a) h_a hw hrt) (fun r9 T11 σ10 gt12 hp => ?_)
        obtain ⟨v15, rfl, rfl, w16, F17, f13, f14⟩ := hp
        clear gt12
        show Tn _ _ 69 T σ10 [(4, .int (iI (σ.2.1 87 x2))), (0, .ref a), (3, .int (iI i3))] [.int (iI v15)] _
        refine tn_if_eq (tgt := 80) dX5_take_69 (by decide) ⟨by omega, by omega⟩ (fun h18 => ?_) (fun h18 => ?_)
        · exact tn_sub [1, 2] rfl (hx_80 T (i3) σ10 hG w16 ((FrC.rfl.trans (FrC.sub hF (by decide))).trans (FrC.sub (FrC.old F17 hG) (by decide))) h_a (by omega) True.intro)
        · have rp19 := f14 (by omega)
          refine tn_aload_n dX5_take_72 rfl 1 rfl ?_
          refine tn_iconst dX5_take_73 ?_
          refine tn_callV (M := m_X5_take) (pc := 74) (ix := 79) (ci := 5) (M' := m_X5_block) (As := [.int (iI 1)]) (rest := []) dX5_take_74 ok_X5_block im_X5_block se_X5_block ml5_79 np_X5_block rfl rfl h_a rfl (Nat.le_of_ble_eq_true rfl) (Nat.le_of_ble_eq_true rfl) rfl (k_X5_block (d) (T := T) (σ := σ10) (a := a) (dp := 1) (kp := 4) h_a (by decide) w16 (by omega) (by omega) rp19) (fun r20 T22 σ21 gt23 hp => ?_)
          obtain ⟨v26, rfl, w27, F28, f24, f25⟩ := hp
          replace h_a : OB T22 a 5 := gt23.ob h_a
          have rp30 : RP σ21 a (- 10 * v26 + 6) := RP.up f25 (by omega)
          show Tn _ _ 77 T22 σ21 [(4, .int (iI (σ.2.1 87 x2))), (0, .ref a), (3, .int (iI i3))] [.int (iI v26)] _
          refine tn_if_ne (tgt := 82) dX5_take_77 (by decide) ⟨by omega, by omega⟩ (fun h31 => ?_) (fun h31 => ?_)
          · refine tn_aload_n dX5_take_82 rfl 1 rfl ?_
            refine tn_iload dX5_take_83 0 rfl ?_
            refine tn_callV (M := m_X5_take) (pc := 85) (ix := 83) (ci := 5) (M' := m_X5_closeRoutine) (As := [.int (iI (σ.2.1 87 x2))]) (rest := []) dX5_take_85 ok_X5_closeRoutine im_X5_closeRoutine se_X5_closeRoutine ml5_83 np_X5_closeRoutine rfl rfl h_a rfl (Nat.le_of_ble_eq_true rfl) (Nat.le_of_ble_eq_true rfl) rfl (k_X5_closeRoutine (d + 74) (T := T22) (σ := σ21) (a := a) (w := σ.2.1 87 x2) (kp := - 10 * v26 + 6) h_a (by omega) w27 (by omega) rp30) (fun r32 T34 σ33 gt35 hp => ?_)
            obtain ⟨rfl, w38, F39, f36⟩ := hp
            replace h_a : OB T34 a 5 := gt35.ob h_a
            have rp41 : RP σ33 a (- 10 * v26 + 7) := RP.up f36 (by omega)
            show Tn _ _ 88 T34 σ33 [(4, .int (iI (σ.2.1 87 x2))), (0, .ref a), (3, .int (iI i3))] [] _
            refine tn_iinc (q0 := 2) (L' := [(3, .int (iI (i3 + 1))), (4, .int (iI (σ.2.1 87 x2))), (0, .ref a)]) dX5_take_88 rfl (by decide) rfl ?_
            refine tn_goto (tgt := 36) dX5_take_91 (by decide) ?_
            exact tn_sub [2, 0] rfl (ih _ (by omega) T34 (i3 + 1) σ33 (GT.trans (GT.trans hG gt23) gt35) w38 ((((FrC.rfl.trans (FrC.sub hF (by decide))).trans (FrC.sub (FrC.old F17 hG) (by decide))).trans (FrC.sub (FrC.old F28 hG) (by decide))).trans (FrC.sub (FrC.old F39 (GT.trans hG gt23)) (by decide))) h_a (by omega) (RP.rt rp41 w38 h_a) rfl)
          · exact tn_sub [1, 2] rfl (hx_80 T22 (i3) σ21 (GT.trans hG gt23) w27 (((FrC.rfl.trans (FrC.sub hF (by decide))).trans (FrC.sub (FrC.old F17 hG) (by decide))).trans (FrC.sub (FrC.old F28 hG) (by decide))) h_a (by omega) True.intro)
theorem ml5_87 : Cond.methodLink RX5 87 yX5_settleCalls ∈ pWW := pw4 (List.mem_of_getElem? (i := 11) rfl) rfl
theorem dX5_take_80 : decode cX5_take 80 = .ok (.iconst 0, 1) := by decide +kernel
theorem dX5_take_81 : decode cX5_take 81 = .ok (.ireturn, 1) := by decide +kernel
theorem dX5_take_94 : decode cX5_take 94 = .ok (.aload_n 0, 1) := by decide +kernel
theorem dX5_take_95 : decode cX5_take 95 = .ok (.invokevirtual 87, 3) := by decide +kernel
theorem dX5_take_98 : decode cX5_take 98 = .ok (.ireturn, 1) := by decide +kernel
set_option maxRecDepth 20000 in
theorem k_X5_take (d : Nat) {T : CT} {σ : MS} {a : Nat} {t : Nat} {n : Int} (ha : OB T a 5) (h_t : (T t).1 = 2) (l_t : (T t).2 ≤ 1000000) (h_n : -2147483648 ≤ n ∧ n ≤ 2147483647) (hw : WT T σ) (ht : (T t).2 = 1200) : Tn (d + 79) m_X5_take 0 T σ [(0, .ref a), (1, .ref t), (2, .int (iI n))] [] (fun ro T2 σ2 => ∃ v : Int, ro = some (.int (iI v)) ∧ WT T2 σ2 ∧ FrC T [5, 6, 7, 8, 9, 10, 35, 38, 42, 43, 44, 45, 46, 47, 50, 51, 84, 85, 86, 87, 512, 516, 517, 518, 519, 520, 521, 522, 523] σ σ2 ∧ (v = 0 ∨ v = 1)) := by
  refine tn_aload_n dX5_take_0 rfl 0 rfl ?_
  refine tn_iconst dX5_take_1 ?_
  refine tn_putV (ci := 5) (i := 10) (n := 43) (r := false) (v := 0) tyX5 tyX5_ok nmX5 dX5_take_2 rfl lay_5 (by decide) fl5_51 rfl (tyX5_ok 10 (by decide)) rfl rfl rfl ha rfl rfl ?_
  refine tn_aload_n dX5_take_5 rfl 0 rfl ?_
  refine tn_iconst dX5_take_6 ?_
  refine tn_putV (ci := 5) (i := 11) (n := 44) (r := false) (v := -1) tyX5 tyX5_ok nmX5 dX5_take_7 rfl lay_5 (by decide) fl5_55 rfl (tyX5_ok 11 (by decide)) rfl rfl rfl ha rfl rfl ?_
  refine tn_aload_n dX5_take_10 rfl 0 rfl ?_
  refine tn_iconst dX5_take_11 ?_
  refine tn_putV (ci := 5) (i := 5) (n := 38) (r := false) (v := 0) tyX5 tyX5_ok nmX5 dX5_take_12 rfl lay_5 (by decide) fl5_58 rfl (tyX5_ok 5 (by decide)) rfl rfl rfl ha rfl rfl ?_
  refine tn_aload_n dX5_take_15 rfl 0 rfl ?_
  refine tn_iconst dX5_take_16 ?_
  refine tn_putV (ci := 5) (i := 9) (n := 42) (r := false) (v := 0) tyX5 tyX5_ok nmX5 dX5_take_17 rfl lay_5 (by decide) fl5_61 rfl (tyX5_ok 9 (by decide)) rfl rfl rfl ha rfl rfl ?_
  refine tn_aload_n dX5_take_20 rfl 0 rfl ?_
  refine tn_iconst dX5_take_21 ?_
  refine tn_putV (ci := 5) (i := 12) (n := 45) (r := false) (v := 0) tyX5 tyX5_ok nmX5 dX5_take_22 rfl lay_5 (by decide) fl5_64 rfl (tyX5_ok 12 (by decide)) rfl rfl rfl ha rfl rfl ?_
  refine tn_aload_n dX5_take_25 rfl 0 rfl ?_
  obtain ⟨x1, hx2, hk3⟩ : ∃ x : Nat, σ.2.1 33 a = (x : Int) ∧ (T x).1 = 39 := wf_33 hw ha
  have hk3o : OB T x1 9 := ⟨by omega, by rw [hk3]; rfl, by omega⟩
  refine tn_getR (ci := 5) (i := 0) (n := 33) (x := x1) dX5_take_26 rfl lay_5 (by decide) fl5_12 ha rfl rfl (rc_o (by decide) (rc_o (by decide) (rc_o (by decide) (rc_o (by decide) (rc_o (by decide) (hx2)))))) ?_
  refine tn_aload_n dX5_take_29 rfl 1 rfl ?_
  refine tn_iload_n dX5_take_30 rfl 2 rfl ?_
  refine tn_callV (M := m_X5_take) (pc := 31) (ix := 67) (ci := 9) (M' := m_X9_scan) (As := [.ref t, .int (iI n)]) (rest := []) dX5_take_31 ok_X9_scan im_X9_scan se_X9_scan ml5_67 np_X9_scan rfl rfl hk3o rfl (Nat.le_of_ble_eq_true rfl) (Nat.le_of_ble_eq_true rfl) rfl (k_X9_scan (d + 75) (T := T) (σ := (sA 45 a (0) (sA 42 a (0) (sA 38 a (0) (sA 44 a (-1) (sA 43 a (0) σ)))))) (a := x1) (t := t) (n := n) hk3o h_t (by omega) (by omega) (((((hw.put (by decide) (by decide) (fo_43 (by omega))).put (by decide) (by decide) (fo_44 (by omega))).put (by decide) (by decide) (fo_38 (by omega))).put (by decide) (by decide) (fo_42 (by omega))).put (by decide) (by decide) (fo_45 (by omega))) (by omega)) (fun r5 T7 σ6 gt8 hp => ?_)
  obtain ⟨rfl, rfl, w11, F12, f9⟩ := hp
  clear gt8
  show Tn _ _ 34 T σ6 [(0, .ref a), (1, .ref t), (2, .int (iI n))] [] _
  refine tn_iconst dX5_take_34 ?_
  refine tn_istore_n (L' := [(3, .int (iI 0)), (0, .ref a), (1, .ref t), (2, .int (iI n))]) dX5_take_35 rfl (by decide) rfl ?_
  refine tn_sub [1, 0] rfl (l_X5_take_36 (d) (σ0 := σ6) (T0 := T) (a := a) w11 (fun T15 i313 σ14 gt16 w17 F18 q19 r20 f21 => ?_) (fun T24 i322 σ23 gt25 w26 F27 q28 r29 f30 => ?_) _ T (0) σ6 GT.rfl w11 FrC.rfl ha (by omega) (RT.of (rc_F F12 (Or.inl (by decide)) (by decide) (rc_o (by decide) (rc_o (by decide) (rc_o (by decide) (rc_o (by decide) (rc_o (by decide) (hx2))))))) f9) rfl)
  · show Tn _ _ 80 T15 σ14 [(0, .ref a), (3, .int (iI i313))] [] _
    refine tn_iconst dX5_take_80 ?_
    exact tn_zret (v := 0) rfl (by decide) dX5_take_81 ⟨_, rfl, w17, (((((((FrC.rfl.put (by decide) (by decide)).put (by decide) (by decide)).put (by decide) (by decide)).put (by decide) (by decide)).put (by decide) (by decide)).trans (FrC.sub F12 (by decide))).trans (FrC.sub F18 (by decide))), by omega⟩
  · show Tn _ _ 94 T24 σ23 [(0, .ref a), (3, .int (iI i322))] [] _
    refine tn_aload_n dX5_take_94 rfl 0 rfl ?_
    refine tn_callV (M := m_X5_take) (pc := 95) (ix := 87) (ci := 5) (M' := m_X5_settleCalls) (As := []) (rest := []) dX5_take_95 ok_X5_settleCalls im_X5_settleCalls se_X5_settleCalls ml5_87 np_X5_settleCalls rfl rfl q28 rfl (Nat.le_of_ble_eq_true rfl) (Nat.le_of_ble_eq_true rfl) rfl (k_X5_settleCalls (d + 75) (T := T24) (σ := σ23) (a := a) q28 w26 ) (fun r31 T33 σ32 gt34 hp => ?_)
    obtain ⟨v36, rfl, rfl, w37, F38, f35⟩ := hp
    clear gt34
    show Tn _ _ 98 T24 σ32 [(0, .ref a), (3, .int (iI i322))] [.int (iI v36)] _
    exact tn_zret (v := v36) rfl (by omega) dX5_take_98 ⟨_, rfl, w37, ((((((((FrC.rfl.put (by decide) (by decide)).put (by decide) (by decide)).put (by decide) (by decide)).put (by decide) (by decide)).put (by decide) (by decide)).trans (FrC.sub F12 (by decide))).trans (FrC.sub F27 (by decide))).trans (FrC.sub (FrC.old F38 gt25) (by decide))), by omega⟩
end
section
theorem div8 {x : Int} (h : 0 ≤ x) (h2 : x ≤ 2147483647) : ∃ z : Int, (8 * z ≤ x ∧ x < 8 * z + 8) ∧ iI x / iI 8 = iI z := by
  refine ⟨x / 8, by omega, ?_⟩
  apply Int32.toInt_inj.mp
  rw [Int32.toInt_div_of_ne_right _ _ (by decide), iI_toInt ⟨by omega, h2⟩, iI_toInt ⟨by omega, by omega⟩, iI_toInt ⟨by omega, by omega⟩]
  exact Int.tdiv_eq_ediv_of_nonneg h
section TAB
variable {T : CT} {σ : MS} {x N : Nat} {r : Int}
theorem tLen_at {i : Int} {y : Nat} (h : σ.2.1 900 i = (y : Int)) : tLen T σ i = (T y).2 := by
  unfold tLen; rw [h, if_neg (by omega)]; rfl
theorem WT.tab (hw : WT T σ) (hx : (T x).1 = 0) (hr : 0 ≤ r ∧ r < 6) (hN : 1 ≤ N) (hN2 : N ≤ 32788) (hl : tLen T σ r < N) (hp : 9 * tLen T σ r + N ≤ 9 * N) : WT (tT T x 1 N) (sA 900 r x (rowS (1000 + x) (fun _ => 0) (gh N σ))) := by
  have w : WTx N 1 (tT T x 1 N) (rowS (1000 + x) (fun _ => 0) (gh N σ)) x := by
    have q := (hw.wx (a := x)).newI hx (Or.inl rfl : (1 : Nat) = 1 ∨ _) (f := fun _ => 0) (fun i => vok_0) hN
    rw [Nat.zero_add, Nat.zero_add] at q
    exact q
  have ol : tLen (tT T x 1 N) (rowS (1000 + x) (fun _ => 0) (gh N σ)) r = tLen T σ r := by
    unfold tLen
    rw [show (rowS (1000 + x) (fun _ => 0) (gh N σ)).2.1 900 = σ.2.1 900 by rw [rowS_ne (by omega)]; rfl]
    rcases hw.2.2.2.2.1.2 r hr.1 hr.2 with q | ⟨y, q1, q2⟩
    · rw [if_pos q, if_pos q]
    · rw [q1, if_neg (by omega), if_neg (by omega)]
      show (tT T x 1 N y).2 = (T y).2
      rw [tT_gt hx y (by have := q2.1; omega)]
  generalize hT : tT T x 1 N = T2 at w ol
  generalize hS : rowS (1000 + x) (fun _ => 0) (gh N σ) = τ at w ol
  have hx2 : T2 x = (1, N) := by rw [← hT, tT_eq]
  obtain ⟨w1, w2, w3, w4, w5, b, K, w6, w7⟩ := w
  have nl : ∀ i : Int, i ≠ r → tLen T2 (sA 900 r x τ) i = tLen T2 τ i := fun i h => by unfold tLen; rw [sA_ne h]
  have nr : tLen T2 (sA 900 r x τ) r = N := by rw [tLen_at (show (sA 900 r x τ).2.1 900 r = (x : Int) from ra_eq), hx2]
  have e1 : cLen T2 (sA 900 r x τ) = cLen T2 τ := cLen_put (by omega)
  have e3 : prS (sA 900 r x τ) b = prS τ b := prS_put (by omega)
  have hs : tSum (tLen T2 (sA 900 r x τ)) + tLen T2 τ r = tSum (tLen T2 τ) + N := by
    unfold tSum
    have hc : r = 0 ∨ r = 1 ∨ r = 2 ∨ r = 3 ∨ r = 4 ∨ r = 5 := by omega
    rcases hc with h | h | h | h | h | h <;> subst h <;> (rw [nr]; first
      | rw [nl 1 (by decide), nl 2 (by decide), nl 3 (by decide), nl 4 (by decide), nl 5 (by decide)]; omega
      | rw [nl 0 (by decide), nl 2 (by decide), nl 3 (by decide), nl 4 (by decide), nl 5 (by decide)]; omega
      | rw [nl 0 (by decide), nl 1 (by decide), nl 3 (by decide), nl 4 (by decide), nl 5 (by decide)]; omega
      | rw [nl 0 (by decide), nl 1 (by decide), nl 2 (by decide), nl 4 (by decide), nl 5 (by decide)]; omega
      | rw [nl 0 (by decide), nl 1 (by decide), nl 2 (by decide), nl 3 (by decide), nl 5 (by decide)]; omega
      | rw [nl 0 (by decide), nl 1 (by decide), nl 2 (by decide), nl 3 (by decide), nl 4 (by decide)]; omega)
  refine ⟨fun n c q w => ?_, fun c y q r9 => ?_, fun c q => ?_, ⟨fun c q => ?_, fun c q => ?_⟩, ⟨w5.1, fun i i0 i1 => ?_⟩, b, K, w6, w7.1, w7.2.1, ?_, ?_⟩
  · rw [sA_k (by omega)]; exact w1 n c q w
  · rw [sA_k (by omega)] at r9
    rw [sA_k (by omega)]
    refine w2 c y (fun e => ?_) q r9
    have := q.1; rw [e, hx2] at this
    have h9 : 30 ≤ 1 := this
    omega
  · rw [sA_k (by omega)]; exact w3 c q
  · rw [sA_k (by omega)]; exact w4.1 c q
  · rw [sA_k (by omega)]; exact w4.2 c q
  · by_cases e : i = r
    · rw [e, show (sA 900 r x τ).2.1 900 r = (x : Int) from ra_eq]
      exact Or.inr ⟨x, rfl, by unfold AR; rw [hx2]; exact ⟨rfl, Nat.zero_le _, hN2⟩⟩
    · rw [sA_ne e]; exact w5.2 i i0 i1
  · rw [e1, e3]
    show τ.1 0 ≤ _
    have := w7.2.2.1
    omega
  · rw [e1, e3]
    show τ.1 1 ≤ _
    have := w7.2.2.2
    omega
end TAB
theorem mul_rng1 {x y b c d : Int} (h1 : 1 ≤ x) (h2 : x ≤ b) (h3 : 1 ≤ y) (h4 : y ≤ d) (h5 : b * d = c) : 1 ≤ x * y ∧ x * y ≤ c := by
  have q1 : 1 * 1 ≤ x * y := Int.mul_le_mul h1 h3 (by omega) (by omega)
  have q2 : x * y ≤ b * d := Int.mul_le_mul h2 h4 (by omega) (by omega)
  omega
end
section
theorem cd_X10_refresh : Cond.code yX10_refresh cX10_refresh 6 none ∈ pWW := pw4 (List.mem_of_getElem? (i := 108) rfl) rfl
abbrev m_X10_refresh : MT := (yX10_refresh, cX10_refresh, 6, none)
theorem ok_X10_refresh : pOk m_X10_refresh := ⟨⟨cd_X10_refresh, ini_10⟩, by decide +kernel, ⟨by decide +kernel, by decide +kernel⟩, Nat.le_of_ble_eq_true rfl⟩
theorem np_X10_refresh : (parseMethodDescriptor yX10_refresh.desc).map (fun d => d.parameters.length) = some 2 := by decide +kernel
theorem im_X10_refresh : Cond.instanceMethod yX10_refresh ∈ pWW := pw4 (List.mem_of_getElem? (i := 106) rfl) rfl
theorem se_X10_refresh : Cond.selects RX10 yX10_refresh yX10_refresh ∈ pWW := pw4 (List.mem_of_getElem? (i := 107) rfl) rfl
theorem mlm10_56 : Cond.methodLink RX10 56 Lib.Math.max.name ∈ pWW := pw4 (List.mem_of_getElem? (i := 113) rfl) rfl
theorem ml10_64 : Cond.methodLink RX10 64 yJ7_fill_fda19 ∈ pWW := pw4 (List.mem_of_getElem? (i := 114) rfl) rfl
theorem ml10_70 : Cond.methodLink RX10 70 yX10_nameBind ∈ pWW := pw4 (List.mem_of_getElem? (i := 115) rfl) rfl
theorem dX10_refresh_0 : decode cX10_refresh 0 = .ok (.aload_n 2, 1) := by decide +kernel
theorem dX10_refresh_1 : decode cX10_refresh 1 = .ok (.ifnull 34, 3) := by decide +kernel
theorem dX10_refresh_4 : decode cX10_refresh 4 = .ok (.iload_n 1, 1) := by decide +kernel
theorem dX10_refresh_5 : decode cX10_refresh 5 = .ok (.ifCond .lt 30, 3) := by decide +kernel
theorem dX10_refresh_35 : decode cX10_refresh 35 = .ok (.return_, 1) := by decide +kernel
theorem dX10_refresh_8 : decode cX10_refresh 8 = .ok (.iload_n 1, 1) := by decide +kernel
theorem dX10_refresh_9 : decode cX10_refresh 9 = .ok (.aload_n 0, 1) := by decide +kernel
theorem dX10_refresh_10 : decode cX10_refresh 10 = .ok (.getfield 11, 3) := by decide +kernel
theorem dX10_refresh_13 : decode cX10_refresh 13 = .ok (.arraylength, 1) := by decide +kernel
theorem dX10_refresh_14 : decode cX10_refresh 14 = .ok (.if_icmp .ge 21, 3) := by decide +kernel
theorem dX10_refresh_17 : decode cX10_refresh 17 = .ok (.iload_n 1, 1) := by decide +kernel
theorem dX10_refresh_18 : decode cX10_refresh 18 = .ok (.aload_n 0, 1) := by decide +kernel
theorem dX10_refresh_19 : decode cX10_refresh 19 = .ok (.getfield 17, 3) := by decide +kernel
theorem dX10_refresh_22 : decode cX10_refresh 22 = .ok (.arraylength, 1) := by decide +kernel
theorem dX10_refresh_23 : decode cX10_refresh 23 = .ok (.if_icmp .ge 12, 3) := by decide +kernel
theorem dX10_refresh_26 : decode cX10_refresh 26 = .ok (.aload_n 0, 1) := by decide +kernel
theorem dX10_refresh_27 : decode cX10_refresh 27 = .ok (.getfield 17, 3) := by decide +kernel
theorem dX10_refresh_30 : decode cX10_refresh 30 = .ok (.iload_n 1, 1) := by decide +kernel
theorem dX10_refresh_31 : decode cX10_refresh 31 = .ok (.iaload, 1) := by decide +kernel
theorem dX10_refresh_32 : decode cX10_refresh 32 = .ok (.ifCond .eq 4, 3) := by decide +kernel
theorem dX10_refresh_36 : decode cX10_refresh 36 = .ok (.aload_n 0, 1) := by decide +kernel
theorem dX10_refresh_37 : decode cX10_refresh 37 = .ok (.aload_n 2, 1) := by decide +kernel
theorem dX10_refresh_38 : decode cX10_refresh 38 = .ok (.aload_n 2, 1) := by decide +kernel
theorem dX10_refresh_39 : decode cX10_refresh 39 = .ok (.getfield 30, 3) := by decide +kernel
theorem dX10_refresh_42 : decode cX10_refresh 42 = .ok (.iconst 0, 1) := by decide +kernel
theorem dX10_refresh_43 : decode cX10_refresh 43 = .ok (.invokevirtual 36, 3) := by decide +kernel
theorem dX10_refresh_46 : decode cX10_refresh 46 = .ok (.putfield 50, 3) := by decide +kernel
theorem dX10_refresh_49 : decode cX10_refresh 49 = .ok (.iconst 0, 1) := by decide +kernel
theorem dX10_refresh_50 : decode cX10_refresh 50 = .ok (.aload_n 2, 1) := by decide +kernel
theorem dX10_refresh_51 : decode cX10_refresh 51 = .ok (.getfield 53, 3) := by decide +kernel
theorem dX10_refresh_54 : decode cX10_refresh 54 = .ok (.iconst 1, 1) := by decide +kernel
theorem dX10_refresh_55 : decode cX10_refresh 55 = .ok (.iadd, 1) := by decide +kernel
theorem dX10_refresh_56 : decode cX10_refresh 56 = .ok (.aload_n 0, 1) := by decide +kernel
theorem dX10_refresh_57 : decode cX10_refresh 57 = .ok (.getfield 50, 3) := by decide +kernel
theorem dX10_refresh_60 : decode cX10_refresh 60 = .ok (.imul, 1) := by decide +kernel
theorem dX10_refresh_61 : decode cX10_refresh 61 = .ok (.invokestatic 56, 3) := by decide +kernel
theorem dX10_refresh_64 : decode cX10_refresh 64 = .ok (.istore_n 3, 1) := by decide +kernel
theorem dX10_refresh_65 : decode cX10_refresh 65 = .ok (.aload_n 0, 1) := by decide +kernel
theorem dX10_refresh_66 : decode cX10_refresh 66 = .ok (.getfield 11, 3) := by decide +kernel
theorem dX10_refresh_69 : decode cX10_refresh 69 = .ok (.iload_n 1, 1) := by decide +kernel
theorem dX10_refresh_70 : decode cX10_refresh 70 = .ok (.aaload, 1) := by decide +kernel
theorem dX10_refresh_71 : decode cX10_refresh 71 = .ok (.ifnull 14, 3) := by decide +kernel
theorem dX10_refresh_85 : decode cX10_refresh 85 = .ok (.aload_n 0, 1) := by decide +kernel
theorem dX10_refresh_86 : decode cX10_refresh 86 = .ok (.getfield 11, 3) := by decide +kernel
theorem dX10_refresh_89 : decode cX10_refresh 89 = .ok (.iload_n 1, 1) := by decide +kernel
theorem dX10_refresh_90 : decode cX10_refresh 90 = .ok (.iload_n 3, 1) := by decide +kernel
theorem dX10_refresh_91 : decode cX10_refresh 91 = .ok (.iload_n 3, 1) := by decide +kernel
theorem dX10_refresh_92 : decode cX10_refresh 92 = .ok (.bipush 8, 2) := by decide +kernel
theorem dX10_refresh_94 : decode cX10_refresh 94 = .ok (.idiv, 1) := by decide +kernel
theorem dX10_refresh_95 : decode cX10_refresh 95 = .ok (.iadd, 1) := by decide +kernel
theorem dX10_refresh_96 : decode cX10_refresh 96 = .ok (.newarray .int, 2) := by decide +kernel
theorem dX10_refresh_98 : decode cX10_refresh 98 = .ok (.aastore, 1) := by decide +kernel
theorem dX10_refresh_99 : decode cX10_refresh 99 = .ok (.aload_n 0, 1) := by decide +kernel
theorem dX10_refresh_100 : decode cX10_refresh 100 = .ok (.aload_n 0, 1) := by decide +kernel
theorem dX10_refresh_101 : decode cX10_refresh 101 = .ok (.getfield 11, 3) := by decide +kernel
theorem dX10_refresh_104 : decode cX10_refresh 104 = .ok (.iload_n 1, 1) := by decide +kernel
theorem dX10_refresh_105 : decode cX10_refresh 105 = .ok (.aaload, 1) := by decide +kernel
theorem dX10_refresh_106 : decode cX10_refresh 106 = .ok (.putfield 61, 3) := by decide +kernel
theorem dX10_refresh_109 : decode cX10_refresh 109 = .ok (.aload_n 0, 1) := by decide +kernel
theorem dX10_refresh_110 : decode cX10_refresh 110 = .ok (.getfield 61, 3) := by decide +kernel
theorem dX10_refresh_113 : decode cX10_refresh 113 = .ok (.iconst 0, 1) := by decide +kernel
theorem dX10_refresh_114 : decode cX10_refresh 114 = .ok (.iload_n 3, 1) := by decide +kernel
theorem dX10_refresh_115 : decode cX10_refresh 115 = .ok (.iconst 0, 1) := by decide +kernel
theorem dX10_refresh_116 : decode cX10_refresh 116 = .ok (.invokestatic 64, 3) := by decide +kernel
theorem dX10_refresh_119 : decode cX10_refresh 119 = .ok (.iconst 0, 1) := by decide +kernel
theorem dX10_refresh_120 : decode cX10_refresh 120 = .ok (.istore 4, 2) := by decide +kernel
theorem dX10_refresh_122 : decode cX10_refresh 122 = .ok (.iload 4, 2) := by decide +kernel
theorem dX10_refresh_124 : decode cX10_refresh 124 = .ok (.aload_n 2, 1) := by decide +kernel
theorem dX10_refresh_125 : decode cX10_refresh 125 = .ok (.getfield 53, 3) := by decide +kernel
theorem dX10_refresh_128 : decode cX10_refresh 128 = .ok (.if_icmp .ge 16, 3) := by decide +kernel
theorem dX10_refresh_131 : decode cX10_refresh 131 = .ok (.aload_n 0, 1) := by decide +kernel
theorem dX10_refresh_132 : decode cX10_refresh 132 = .ok (.aload_n 2, 1) := by decide +kernel
theorem dX10_refresh_133 : decode cX10_refresh 133 = .ok (.iload 4, 2) := by decide +kernel
theorem dX10_refresh_135 : decode cX10_refresh 135 = .ok (.invokevirtual 70, 3) := by decide +kernel
theorem dX10_refresh_138 : decode cX10_refresh 138 = .ok (.iinc 4 1, 3) := by decide +kernel
theorem dX10_refresh_141 : decode cX10_refresh 141 = .ok (.goto (-19), 3) := by decide +kernel
set_option maxRecDepth 20000 in
theorem l_X10_refresh_122 (d : Nat) {T : CT} {σ0 : MS} {a : Nat} {c1 : Int} {rx2 : Nat} {post : Option Value → CT → MS → Prop} (h_a : OB T a 10) (r_c1 : 0 ≤ c1 ∧ c1 ≤ 5) (h_rx2 : OB T rx2 1) (t_rx2 : (T rx2).1 = 50) (hw0 : WT T σ0) (hx_144 : ∀ (i4 : Int) (σ : MS) , (WT T σ) → (FrC T [] σ0 σ) → (0 ≤ i4 ∧ i4 ≤ 2147483647) → Tn (d + 5) m_X10_refresh 144 T σ [(0, .ref a), (1, .int (iI c1)), (2, .ref rx2), (4, .int (iI i4))] [] post) : ∀ (n : Nat) (i4 : Int) (σ : MS) , (WT T σ) → (FrC T [] σ0 σ) → (0 ≤ i4 ∧ i4 ≤ 2147483647) → (2147483700 - i4).toNat = n → Tn (d + 5) m_X10_refresh 122 T σ [(0, .ref a), (1, .int (iI c1)), (2, .ref rx2), (4, .int (iI i4))] [] post := by
  intro n
  induction n using Nat.strongRecOn with
  | _ n ih =>
    intro i4 σ hw hF r_i4 hm
    refine tn_iload dX10_refresh_122 3 rfl ?_
    refine tn_aload_n dX10_refresh_124 rfl 2 rfl ?_
    refine tn_getI (ci := 1) (i := 1) (n := 6) (t := σ0.2.1 6 rx2) dX10_refresh_125 rfl lay_1 (by decide) fl10_53 h_rx2 rfl rfl (rc_F hF (Or.inl (by decide)) (by decide) (rfl)) ?_
    have g1 : ((0 : Int) ≤ σ0.2.1 6 rx2 ∧ σ0.2.1 6 rx2 ≤ 5000) ∧ ((T rx2).1 = 50 → σ0.2.1 6 rx2 ≤ 200) := wf_6 hw0 h_rx2
    have g1x := g1.2
    replace g1 := g1.1
    have g1x := g1x t_rx2
    refine tn_icmp_ge (tgt := 144) dX10_refresh_128 (by decide) ⟨by omega, by omega⟩ ⟨by omega, by omega⟩ (fun h2 => ?_) (fun h2 => ?_)
    · exact tn_sub [0, 1, 2, 3] rfl (hx_144 (i4) σ hw (FrC.rfl.trans (FrC.sub hF (by decide))) (by omega))
    · refine tn_aload_n dX10_refresh_131 rfl 0 rfl ?_
      refine tn_aload_n dX10_refresh_132 rfl 2 rfl ?_
      refine tn_iload dX10_refresh_133 3 rfl ?_
      refine tn_callV (M := m_X10_refresh) (pc := 135) (ix := 70) (ci := 10) (M' := m_X10_nameBind) (As := [.ref rx2, .int (iI i4)]) (rest := []) dX10_refresh_135 ok_X10_nameBind im_X10_nameBind se_X10_nameBind ml10_70 np_X10_nameBind rfl rfl h_a rfl (Nat.le_of_ble_eq_true rfl) (Nat.le_of_ble_eq_true rfl) rfl (k_X10_nameBind (d) (T := T) (σ := σ) (a := a) (p1 := rx2) (p2 := i4) h_a h_rx2 t_rx2 (by omega) hw ) (fun r3 T5 σ4 gt6 hp => ?_)
      obtain ⟨rfl, rfl, w8, F9⟩ := hp
      clear gt6
      show Tn _ _ 138 T σ4 [(0, .ref a), (1, .int (iI c1)), (2, .ref rx2), (4, .int (iI i4))] [] _
      refine tn_iinc (q0 := 3) (L' := [(4, .int (iI (i4 + 1))), (0, .ref a), (1, .int (iI c1)), (2, .ref rx2)]) dX10_refresh_138 rfl (by decide) rfl ?_
      refine tn_goto (tgt := 122) dX10_refresh_141 (by decide) ?_
      exact tn_sub [1, 2, 3, 0] rfl (ih _ (by omega) (i4 + 1) σ4 w8 ((FrC.rfl.trans (FrC.sub hF (by decide))).trans (FrC.sub F9 (by decide))) (by omega) rfl)
theorem ml10_74 : Cond.methodLink RX10 74 yX10_begin ∈ pWW := pw4 (List.mem_of_getElem? (i := 129) rfl) rfl
theorem cst10_82 : Cond.constant RX10 82 (1000000) ∈ pWW := pw4 (List.mem_of_getElem? (i := 133) rfl) rfl
theorem ml10_83 : Cond.methodLink RX10 83 yX10_goThrough ∈ pWW := pw4 (List.mem_of_getElem? (i := 134) rfl) rfl
theorem dX10_refresh_144 : decode cX10_refresh 144 = .ok (.aload_n 0, 1) := by decide +kernel
theorem dX10_refresh_145 : decode cX10_refresh 145 = .ok (.aload_n 2, 1) := by decide +kernel
theorem dX10_refresh_146 : decode cX10_refresh 146 = .ok (.invokevirtual 74, 3) := by decide +kernel
theorem dX10_refresh_149 : decode cX10_refresh 149 = .ok (.aload_n 0, 1) := by decide +kernel
theorem dX10_refresh_150 : decode cX10_refresh 150 = .ok (.iconst 1, 1) := by decide +kernel
theorem dX10_refresh_151 : decode cX10_refresh 151 = .ok (.putfield 78, 3) := by decide +kernel
theorem dX10_refresh_154 : decode cX10_refresh 154 = .ok (.iconst 0, 1) := by decide +kernel
theorem dX10_refresh_155 : decode cX10_refresh 155 = .ok (.istore 4, 2) := by decide +kernel
theorem dX10_refresh_157 : decode cX10_refresh 157 = .ok (.aload_n 0, 1) := by decide +kernel
theorem dX10_refresh_158 : decode cX10_refresh 158 = .ok (.getfield 78, 3) := by decide +kernel
theorem dX10_refresh_161 : decode cX10_refresh 161 = .ok (.ifCond .eq 46, 3) := by decide +kernel
theorem dX10_refresh_164 : decode cX10_refresh 164 = .ok (.iload 4, 2) := by decide +kernel
theorem dX10_refresh_166 : decode cX10_refresh 166 = .ok (.ldc 82, 2) := by decide +kernel
theorem dX10_refresh_168 : decode cX10_refresh 168 = .ok (.if_icmp .ge 39, 3) := by decide +kernel
theorem dX10_refresh_171 : decode cX10_refresh 171 = .ok (.aload_n 0, 1) := by decide +kernel
theorem dX10_refresh_172 : decode cX10_refresh 172 = .ok (.iconst 0, 1) := by decide +kernel
theorem dX10_refresh_173 : decode cX10_refresh 173 = .ok (.putfield 78, 3) := by decide +kernel
theorem dX10_refresh_176 : decode cX10_refresh 176 = .ok (.iconst 0, 1) := by decide +kernel
theorem dX10_refresh_177 : decode cX10_refresh 177 = .ok (.istore 5, 2) := by decide +kernel
theorem dX10_refresh_179 : decode cX10_refresh 179 = .ok (.iload 5, 2) := by decide +kernel
theorem dX10_refresh_181 : decode cX10_refresh 181 = .ok (.aload_n 2, 1) := by decide +kernel
theorem dX10_refresh_182 : decode cX10_refresh 182 = .ok (.getfield 53, 3) := by decide +kernel
theorem dX10_refresh_185 : decode cX10_refresh 185 = .ok (.if_icmp .ge 16, 3) := by decide +kernel
theorem dX10_refresh_188 : decode cX10_refresh 188 = .ok (.aload_n 0, 1) := by decide +kernel
theorem dX10_refresh_189 : decode cX10_refresh 189 = .ok (.aload_n 2, 1) := by decide +kernel
theorem dX10_refresh_190 : decode cX10_refresh 190 = .ok (.iload 5, 2) := by decide +kernel
theorem dX10_refresh_192 : decode cX10_refresh 192 = .ok (.invokevirtual 83, 3) := by decide +kernel
theorem dX10_refresh_195 : decode cX10_refresh 195 = .ok (.iinc 5 1, 3) := by decide +kernel
theorem dX10_refresh_198 : decode cX10_refresh 198 = .ok (.goto (-19), 3) := by decide +kernel
set_option maxRecDepth 20000 in
theorem l_X10_refresh_179 (d : Nat) {T : CT} {σ0 : MS} {a : Nat} {c1 : Int} {rx2 : Nat} {c4 : Int} {post : Option Value → CT → MS → Prop} (h_a : OB T a 10) (r_c1 : 0 ≤ c1 ∧ c1 ≤ 5) (h_rx2 : OB T rx2 1) (t_rx2 : (T rx2).1 = 50) (r_c4 : 0 ≤ c4 ∧ c4 ≤ 999999) (hw0 : WT T σ0) (hx_201 : ∀ (i5 : Int) (σ : MS) , (WT T σ) → (FrC T [94] σ0 σ) → (0 ≤ i5 ∧ i5 ≤ 2147483647) → Tn (d + 5) m_X10_refresh 201 T σ [(0, .ref a), (1, .int (iI c1)), (2, .ref rx2), (4, .int (iI c4)), (5, .int (iI i5))] [] post) : ∀ (n : Nat) (i5 : Int) (σ : MS) , (WT T σ) → (FrC T [94] σ0 σ) → (0 ≤ i5 ∧ i5 ≤ 2147483647) → (2147483700 - i5).toNat = n → Tn (d + 5) m_X10_refresh 179 T σ [(0, .ref a), (1, .int (iI c1)), (2, .ref rx2), (4, .int (iI c4)), (5, .int (iI i5))] [] post := by
  intro n
  induction n using Nat.strongRecOn with
  | _ n ih =>
    intro i5 σ hw hF r_i5 hm
    refine tn_iload dX10_refresh_179 4 rfl ?_
    refine tn_aload_n dX10_refresh_181 rfl 2 rfl ?_
    refine tn_getI (ci := 1) (i := 1) (n := 6) (t := σ0.2.1 6 rx2) dX10_refresh_182 rfl lay_1 (by decide) fl10_53 h_rx2 rfl rfl (rc_F hF (Or.inl (by decide)) (by decide) (rfl)) ?_
    have g1 : ((0 : Int) ≤ σ0.2.1 6 rx2 ∧ σ0.2.1 6 rx2 ≤ 5000) ∧ ((T rx2).1 = 50 → σ0.2.1 6 rx2 ≤ 200) := wf_6 hw0 h_rx2
    have g1x := g1.2
    replace g1 := g1.1
    have g1x := g1x t_rx2
    refine tn_icmp_ge (tgt := 201) dX10_refresh_185 (by decide) ⟨by omega, by omega⟩ ⟨by omega, by omega⟩ (fun h2 => ?_) (fun h2 => ?_)
    · exact tn_sub [0, 1, 2, 3, 4] rfl (hx_201 (i5) σ hw (FrC.rfl.trans (FrC.sub hF (by decide))) (by omega))
    · refine tn_aload_n dX10_refresh_188 rfl 0 rfl ?_
      refine tn_aload_n dX10_refresh_189 rfl 2 rfl ?_
      refine tn_iload dX10_refresh_190 4 rfl ?_
      refine tn_callV (M := m_X10_refresh) (pc := 192) (ix := 83) (ci := 10) (M' := m_X10_goThrough) (As := [.ref rx2, .int (iI i5)]) (rest := []) dX10_refresh_192 ok_X10_goThrough im_X10_goThrough se_X10_goThrough ml10_83 np_X10_goThrough rfl rfl h_a rfl (Nat.le_of_ble_eq_true rfl) (Nat.le_of_ble_eq_true rfl) rfl (k_X10_goThrough (d) (T := T) (σ := σ) (a := a) (p1 := rx2) (p2 := i5) h_a h_rx2 t_rx2 (by omega) hw ) (fun r3 T5 σ4 gt6 hp => ?_)
      obtain ⟨rfl, rfl, w8, F9⟩ := hp
      clear gt6
      show Tn _ _ 195 T σ4 [(0, .ref a), (1, .int (iI c1)), (2, .ref rx2), (4, .int (iI c4)), (5, .int (iI i5))] [] _
      refine tn_iinc (q0 := 4) (L' := [(5, .int (iI (i5 + 1))), (0, .ref a), (1, .int (iI c1)), (2, .ref rx2), (4, .int (iI c4))]) dX10_refresh_195 rfl (by decide) rfl ?_
      refine tn_goto (tgt := 179) dX10_refresh_198 (by decide) ?_
      exact tn_sub [1, 2, 3, 4, 0] rfl (ih _ (by omega) (i5 + 1) σ4 w8 ((FrC.rfl.trans (FrC.sub hF (by decide))).trans (FrC.sub F9 (by decide))) (by omega) rfl)
theorem dX10_refresh_201 : decode cX10_refresh 201 = .ok (.iinc 4 1, 3) := by decide +kernel
theorem dX10_refresh_204 : decode cX10_refresh 204 = .ok (.goto (-47), 3) := by decide +kernel
set_option maxRecDepth 20000 in
theorem l_X10_refresh_157 (d : Nat) {T : CT} {σ0 : MS} {a : Nat} {c1 : Int} {rx2 : Nat} {post : Option Value → CT → MS → Prop} (h_a : OB T a 10) (r_c1 : 0 ≤ c1 ∧ c1 ≤ 5) (h_rx2 : OB T rx2 1) (t_rx2 : (T rx2).1 = 50) (hw0 : WT T σ0) (hx_207 : ∀ (i4 : Int) (σ : MS) , (WT T σ) → (FrC T [94] σ0 σ) → (0 ≤ i4 ∧ i4 ≤ 2147483647) → Tn (d + 5) m_X10_refresh 207 T σ [(0, .ref a), (1, .int (iI c1)), (2, .ref rx2), (4, .int (iI i4))] [] post) : ∀ (n : Nat) (i4 : Int) (σ : MS) , (WT T σ) → (FrC T [94] σ0 σ) → (0 ≤ i4 ∧ i4 ≤ 2147483647) → (2147483700 - i4).toNat = n → Tn (d + 5) m_X10_refresh 157 T σ [(0, .ref a), (1, .int (iI c1)), (2, .ref rx2), (4, .int (iI i4))] [] post := by
  intro n
  induction n using Nat.strongRecOn with
  | _ n ih =>
    intro i4 σ hw hF r_i4 hm
    refine tn_aload_n dX10_refresh_157 rfl 0 rfl ?_
    refine tn_getI (ci := 10) (i := 6) (n := 94) (t := σ.2.1 94 a) dX10_refresh_158 rfl lay_10 (by decide) fl10_78 h_a rfl rfl (rfl) ?_
    have g1 : ((0 : Int) ≤ σ.2.1 94 a ∧ σ.2.1 94 a ≤ 1) := wf_94 hw h_a
    refine tn_if_eq (tgt := 207) dX10_refresh_161 (by decide) ⟨by omega, by omega⟩ (fun h2 => ?_) (fun h2 => ?_)
    · exact tn_sub [0, 1, 2, 3] rfl (hx_207 (i4) σ hw (FrC.rfl.trans (FrC.sub hF (by decide))) (by omega))
    · refine tn_iload dX10_refresh_164 3 rfl ?_
      refine tn_ldc (n := 1000000) dX10_refresh_166 cst10_82 rfl ?_
      refine tn_icmp_ge (tgt := 207) dX10_refresh_168 (by decide) ⟨by omega, by omega⟩ ⟨by decide, by decide⟩ (fun h3 => ?_) (fun h3 => ?_)
      · exact tn_sub [0, 1, 2, 3] rfl (hx_207 (i4) σ hw (FrC.rfl.trans (FrC.sub hF (by decide))) (by omega))
      · refine tn_aload_n dX10_refresh_171 rfl 0 rfl ?_
        refine tn_iconst dX10_refresh_172 ?_
        refine tn_putV (ci := 10) (i := 6) (n := 94) (r := false) (v := 0) tyX10 tyX10_ok nmX10 dX10_refresh_173 rfl lay_10 (by decide) fl10_78 rfl (tyX10_ok 6 (by decide)) rfl rfl rfl h_a rfl rfl ?_
        refine tn_iconst dX10_refresh_176 ?_
        refine tn_istore (L' := [(5, .int (iI 0)), (0, .ref a), (1, .int (iI c1)), (2, .ref rx2), (4, .int (iI i4))]) dX10_refresh_177 (by decide) rfl ?_
        refine tn_sub [1, 2, 3, 4, 0] rfl (l_X10_refresh_179 (d) (T := T) (σ0 := (sA 94 a (0) σ)) (a := a) (c1 := c1) (rx2 := rx2) (c4 := i4) h_a (by omega) h_rx2 t_rx2 (by omega) (hw.put (by decide) (by decide) (fo_94 (by omega))) (fun i54 σ5 w8 F9 r10 => ?_) _ (0) (sA 94 a (0) σ) (hw.put (by decide) (by decide) (fo_94 (by omega))) FrC.rfl (by omega) rfl)
        show Tn _ _ 201 T σ5 [(0, .ref a), (1, .int (iI c1)), (2, .ref rx2), (4, .int (iI i4)), (5, .int (iI i54))] [] _
        refine tn_iinc (q0 := 3) (L' := [(4, .int (iI (i4 + 1))), (0, .ref a), (1, .int (iI c1)), (2, .ref rx2), (5, .int (iI i54))]) dX10_refresh_201 rfl (by decide) rfl ?_
        refine tn_goto (tgt := 157) dX10_refresh_204 (by decide) ?_
        exact tn_sub [1, 2, 3, 0] rfl (ih _ (by omega) (i4 + 1) σ5 w8 (((FrC.rfl.trans (FrC.sub hF (by decide))).put (by decide) (by decide)).trans (FrC.sub F9 (by decide))) (by omega) rfl)
theorem dX10_refresh_207 : decode cX10_refresh 207 = .ok (.aload_n 0, 1) := by decide +kernel
theorem dX10_refresh_208 : decode cX10_refresh 208 = .ok (.getfield 17, 3) := by decide +kernel
theorem dX10_refresh_211 : decode cX10_refresh 211 = .ok (.iload_n 1, 1) := by decide +kernel
theorem dX10_refresh_212 : decode cX10_refresh 212 = .ok (.iconst 1, 1) := by decide +kernel
theorem dX10_refresh_213 : decode cX10_refresh 213 = .ok (.iastore, 1) := by decide +kernel
theorem dX10_refresh_214 : decode cX10_refresh 214 = .ok (.return_, 1) := by decide +kernel
theorem dX10_refresh_74 : decode cX10_refresh 74 = .ok (.aload_n 0, 1) := by decide +kernel
theorem dX10_refresh_75 : decode cX10_refresh 75 = .ok (.getfield 11, 3) := by decide +kernel
theorem dX10_refresh_78 : decode cX10_refresh 78 = .ok (.iload_n 1, 1) := by decide +kernel
theorem dX10_refresh_79 : decode cX10_refresh 79 = .ok (.aaload, 1) := by decide +kernel
theorem dX10_refresh_80 : decode cX10_refresh 80 = .ok (.arraylength, 1) := by decide +kernel
theorem dX10_refresh_81 : decode cX10_refresh 81 = .ok (.iload_n 3, 1) := by decide +kernel
theorem dX10_refresh_82 : decode cX10_refresh 82 = .ok (.if_icmp .ge 17, 3) := by decide +kernel
set_option maxRecDepth 20000 in
theorem k_X10_refresh (d : Nat) {T : CT} {σ : MS} {a : Nat} {r : Int} {c : Nat} (ha : OB T a 10) (h_r : -2147483648 ≤ r ∧ r ≤ 2147483647) (h_c : OB T c 1) (t_c : (T c).1 = 50) (hw : WT T σ) : Tn (d + 5) m_X10_refresh 0 T σ [(0, .ref a), (1, .int (iI r)), (2, .ref c)] [] (fun ro T2 σ2 => ro = none ∧ WT T2 σ2 ∧ FrC T [92, 93, 94, 900] σ σ2) := by
  refine tn_aload_n dX10_refresh_0 rfl 2 rfl ?_
  refine tn_ifnull dX10_refresh_1 ?_
  refine tn_iload_n dX10_refresh_4 rfl 1 rfl ?_
  refine tn_if_lt (tgt := 35) dX10_refresh_5 (by decide) ⟨by omega, by omega⟩ (fun h1 => ?_) (fun h1 => ?_)
  · exact tn_vret rfl dX10_refresh_35 ⟨rfl, hw, FrC.rfl⟩
  · refine tn_iload_n dX10_refresh_8 rfl 1 rfl ?_
    refine tn_aload_n dX10_refresh_9 rfl 0 rfl ?_
    obtain ⟨x2, hx3, hk4, hl5⟩ : ∃ x : Nat, σ.2.1 88 a = (x : Int) ∧ AR T x 7 6 6 := wf_88 hw ha
    refine tn_getR (ci := 10) (i := 0) (n := 88) (x := x2) dX10_refresh_10 rfl lay_10 (by decide) fl10_11 ha rfl rfl (hx3) ?_
    refine tn_alenX dX10_refresh_13 (Or.inr (Or.inr (Or.inr (Or.inr (Or.inr hk4))))) ?_
    refine tn_icmp_ge (tgt := 35) dX10_refresh_14 (by decide) ⟨by omega, by omega⟩ ⟨by omega, by omega⟩ (fun h6 => ?_) (fun h6 => ?_)
    · exact tn_vret rfl dX10_refresh_35 ⟨rfl, hw, FrC.rfl⟩
    · refine tn_iload_n dX10_refresh_17 rfl 1 rfl ?_
      refine tn_aload_n dX10_refresh_18 rfl 0 rfl ?_
      obtain ⟨x7, hx8, hk9, hl10⟩ : ∃ x : Nat, σ.2.1 89 a = (x : Int) ∧ AR T x 1 6 6 := wf_89 hw ha
      have hk9i : IA T x7 := by unfold IA; omega
      refine tn_getR (ci := 10) (i := 1) (n := 89) (x := x7) dX10_refresh_19 rfl lay_10 (by decide) fl10_17 ha rfl rfl (hx8) ?_
      refine tn_alenX dX10_refresh_22 (Or.inl hk9i) ?_
      refine tn_icmp_ge (tgt := 35) dX10_refresh_23 (by decide) ⟨by omega, by omega⟩ ⟨by omega, by omega⟩ (fun h11 => absurd h11 (by omega)) (fun h11 => ?_)
      refine tn_aload_n dX10_refresh_26 rfl 0 rfl ?_
      refine tn_getR (ci := 10) (i := 1) (n := 89) (x := x7) dX10_refresh_27 rfl lay_10 (by decide) fl10_17 ha rfl rfl (hx8) ?_
      refine tn_iload_n dX10_refresh_30 rfl 1 rfl ?_
      refine tn_ialdX (z := r) hw dX10_refresh_31 hk9i (by omega) (by omega) (by omega) (fun v12 g13q g13 g13k => ?_)
      clear g13k g13q
      refine tn_if_eq (tgt := 36) dX10_refresh_32 (by decide) ⟨by omega, by omega⟩ (fun h14 => ?_) (fun h14 => ?_)
      · refine tn_aload_n dX10_refresh_36 rfl 0 rfl ?_
        refine tn_aload_n dX10_refresh_37 rfl 2 rfl ?_
        refine tn_aload_n dX10_refresh_38 rfl 2 rfl ?_
        refine tn_getI (ci := 1) (i := 5) (n := 10) (t := σ.2.1 10 c) dX10_refresh_39 rfl lay_1 (by decide) fl10_30 h_c rfl rfl (rfl) ?_
        have g15 : ((0 : Int) ≤ σ.2.1 10 c ∧ σ.2.1 10 c ≤ 12) := wf_10 hw h_c
        refine tn_iconst dX10_refresh_42 ?_
        refine tn_callV (M := m_X10_refresh) (pc := 43) (ix := 36) (ci := 1) (M' := m_X1_slotOf) (As := [.int (iI (σ.2.1 10 c)), .int (iI 0)]) (rest := [.ref a]) dX10_refresh_43 ok_X1_slotOf im_X1_slotOf se_X1_slotOf ml10_36 np_X1_slotOf rfl rfl h_c rfl (Nat.le_of_ble_eq_true rfl) (Nat.le_of_ble_eq_true rfl) rfl (k_X1_slotOf (d + 3) (T := T) (σ := σ) (a := c) (f := σ.2.1 10 c) (m := 0) h_c (by omega) (by decide) hw (by omega)) (fun r16 T18 σ17 gt19 hp => ?_)
        obtain ⟨v22, rfl, rfl, rfl, f20, f21⟩ := hp
        clear gt19
        show Tn _ _ 46 T σ [(0, .ref a), (1, .int (iI r)), (2, .ref c)] [.int (iI v22), .ref a] _
        refine tn_putV (ci := 10) (i := 5) (n := 93) (r := false) (v := v22) tyX10 tyX10_ok nmX10 dX10_refresh_46 rfl lay_10 (by decide) fl10_50 rfl (tyX10_ok 5 (by decide)) rfl rfl rfl ha rfl rfl ?_
        refine tn_iconst dX10_refresh_49 ?_
        refine tn_aload_n dX10_refresh_50 rfl 2 rfl ?_
        refine tn_getI (ci := 1) (i := 1) (n := 6) (t := σ.2.1 6 c) dX10_refresh_51 rfl lay_1 (by decide) fl10_53 h_c rfl rfl (rc_o (by decide) (rfl)) ?_
        have g23 : ((0 : Int) ≤ σ.2.1 6 c ∧ σ.2.1 6 c ≤ 5000) ∧ ((T c).1 = 50 → σ.2.1 6 c ≤ 200) := wf_6 hw h_c
        have g23x := g23.2
        replace g23 := g23.1
        have g23x := g23x t_c
        refine tn_iconst dX10_refresh_54 ?_
        refine tn_iadd dX10_refresh_55 ?_
        refine tn_aload_n dX10_refresh_56 rfl 0 rfl ?_
        refine tn_getI (ci := 10) (i := 5) (n := 93) (t := v22) dX10_refresh_57 rfl lay_10 (by decide) fl10_50 ha rfl rfl (ra_eq) ?_
        refine tn_imul dX10_refresh_60 ?_
        have g25 : 1 ≤ ((σ.2.1 6 c) + 1) * v22 ∧ ((σ.2.1 6 c) + 1) * v22 ≤ 29145 := mul_rng1 (b := 201) (d := 145) (by omega) (by omega) (by omega) (by omega) (by decide)
        generalize ((σ.2.1 6 c) + 1) * v22 = z24 at g25 ⊢
        refine tn_mmax (x := 0) (y := z24) dX10_refresh_61 mlm10_56 stM_max iniM cdM_max (by omega) (Nat.le_of_ble_eq_true rfl) ⟨by omega, by omega⟩ ⟨by omega, by omega⟩ (fun z26 g27 => ?_)
        refine tn_istore_n (L' := [(3, .int (iI z26)), (0, .ref a), (1, .int (iI r)), (2, .ref c)]) dX10_refresh_64 rfl (by decide) rfl ?_
        refine tn_aload_n dX10_refresh_65 rfl 1 rfl ?_
        refine tn_getR (ci := 10) (i := 0) (n := 88) (x := x2) dX10_refresh_66 rfl lay_10 (by decide) fl10_11 ha rfl rfl (rc_o (by decide) (hx3)) ?_
        refine tn_iload_n dX10_refresh_69 rfl 2 rfl ?_
        rcases hw.2.2.2.2.1.2 (r) (by omega) (by omega) with hx28 | ⟨x29, hx28, hk30, hl31⟩
        · refine tn_aaldMN (z := r) dX10_refresh_70 hk4 (by omega) (by omega) (by omega) (Int.lt_of_le_of_lt (Int.le_of_eq (rc_o (by decide) (Eq.refl _))) hx28) ?_
          refine tn_ifnullN (tgt := 85) dX10_refresh_71 (by decide) ?_
          refine tn_aload_n dX10_refresh_85 rfl 1 rfl ?_
          refine tn_getR (ci := 10) (i := 0) (n := 88) (x := x2) dX10_refresh_86 rfl lay_10 (by decide) fl10_11 ha rfl rfl (rc_o (by decide) (hx3)) ?_
          refine tn_iload_n dX10_refresh_89 rfl 2 rfl ?_
          refine tn_iload_n dX10_refresh_90 rfl 0 rfl ?_
          refine tn_iload_n dX10_refresh_91 rfl 0 rfl ?_
          refine tn_bipush dX10_refresh_92 (by decide) ?_
          refine tn_idivX dX10_refresh_94 (by decide) ?_
          obtain ⟨z32, g33, g33e⟩ := div8 (x := z26) (by omega) (by omega)
          rw [g33e]
          refine tn_iadd dX10_refresh_95 ?_
          obtain ⟨N34, N34e⟩ : ∃ N : Nat, z26 + z32 = (N : Int) := ⟨(z26 + z32).toNat, by omega⟩
          have ol47 : tLen T (sA 93 a (v22) σ) (r) = 0 := by unfold tLen; rw [if_pos (Int.lt_of_le_of_lt (Int.le_of_eq (rc_o (by decide) (Eq.refl _))) hx28)]
          refine tn_newI (N := N34) (k := 1) dX10_refresh_96 arC_int (Or.inl rfl) N34e (by omega) (fun x35 hx36 => ?_)
          have w41 := WT.tab (T := T) (σ := (sA 93 a (v22) σ)) (hw.put (by decide) (by decide) (fo_93 (by omega))) hx36 (r := r) ⟨by omega, by omega⟩ (N := N34) (by omega) (by omega) (by omega) (by omega)
          have gt42 : GT T (tT T x35 1 N34) := fun b p _ => tT_gt hx36 b p
          have l45 : (tT T x35 1 N34 x35) = (1, N34) := tT_eq
          have F43 : FrC T [92, 93, 94, 900] σ (sA 900 (r) (x35 : Int) (rowS (1000 + x35) (fun _ => 0) (gh N34 (sA 93 a (v22) σ)))) := FrC.put9 (FrC.row (FrC.gh (FrC.rfl.put (by decide) (by decide))) (hk_no (by unfold NH HT; omega))) (by decide)
          have q44 : (sA 900 (r) (x35 : Int) (rowS (1000 + x35) (fun _ => 0) (gh N34 (sA 93 a (v22) σ)))).2.1 900 (r) = (x35 : Int) := ra_eq
          have ix46 : IA (tT T x35 1 N34) x35 := by unfold IA; rw [l45]; exact Or.inl rfl
          refine tn_aastM (z := r) (v := x35) (fun b q => (w41).2.2.2.2.1.1 b x2 q (gt42.kk hk4 (by decide) (by decide))) dX10_refresh_98 (gt42.kk hk4 (by decide) (by decide)) ix46 (by omega) (by rw [gt42.lenK hk4 (by decide) (by decide)]; omega) (by rw [gt42.lenK hk4 (by decide) (by decide)]; omega) ?_
          generalize hT39 : tT T x35 1 N34 = T37 at w41 gt42 l45 ix46 ⊢
          generalize h40 : (sA 900 (r) (x35 : Int) (rowS (1000 + x35) (fun _ => 0) (gh N34 (sA 93 a (v22) σ)))) = σ38 at w41 F43 q44 ⊢
          replace ha : OB T37 a 10 := gt42.ob ha
          replace t_c : (T37 c).1 = 50 := gt42.kk t_c (by decide) (by decide)
          replace h_c : OB T37 c 1 := gt42.ob h_c
          have l45k : (T37 x35).1 = 1 := by rw [l45]
          have l45n : (T37 x35).2 = N34 := by rw [l45]
          show Tn _ _ 99 T37 σ38 [(3, .int (iI z26)), (0, .ref a), (1, .int (iI r)), (2, .ref c)] [] _
          refine tn_aload_n dX10_refresh_99 rfl 1 rfl ?_
          refine tn_aload_n dX10_refresh_100 rfl 1 rfl ?_
          obtain ⟨x48, hx49, hk50, hl51⟩ : ∃ x : Nat, σ38.2.1 88 a = (x : Int) ∧ AR T37 x 7 6 6 := wf_88 w41 ha
          refine tn_getR (ci := 10) (i := 0) (n := 88) (x := x48) dX10_refresh_101 rfl lay_10 (by decide) fl10_11 ha rfl rfl (hx49) ?_
          refine tn_iload_n dX10_refresh_104 rfl 2 rfl ?_
          refine tn_aaldM (z := r) (x := x35) dX10_refresh_105 hk50 (by omega) (by omega) (by omega) (q44) ?_
          refine tn_putV (ci := 10) (i := 4) (n := 92) (r := true) (v := (x35 : Int)) tyX10 tyX10_ok nmX10 dX10_refresh_106 rfl lay_10 (by decide) fl10_61 rfl (tyX10_ok 4 (by decide)) (vl_ref rfl).symm rfl rfl ha rfl rfl ?_
          refine tn_aload_n dX10_refresh_109 rfl 1 rfl ?_
          refine tn_getR (ci := 10) (i := 4) (n := 92) (x := x35) dX10_refresh_110 rfl lay_10 (by decide) fl10_61 ha rfl rfl (ra_eq) ?_
          refine tn_iconst dX10_refresh_113 ?_
          refine tn_iload_n dX10_refresh_114 rfl 0 rfl ?_
          refine tn_iconst dX10_refresh_115 ?_
          refine tn_callS (M := m_X10_refresh) (pc := 116) (ix := 64) (M' := m_J7_fill_fda19) (As := [.ref x35, .int (iI 0), .int (iI z26), .int (iI 0)]) (rest := []) dX10_refresh_116 ok_J7_fill_fda19 stt_J7_fill_fda19 ml10_64 np_J7_fill_fda19 rfl (Nat.le_of_ble_eq_true rfl) (Nat.le_of_ble_eq_true rfl) rfl (k_J7_fill_fda19 (d + 2) (T := T37) (σ := (sA 92 a ((x35 : Int)) σ38)) (x := x35) (f := 0) (t := z26) (y := 0) ix46 (by omega) (by decide) (by omega) (by decide) (w41.put (by decide) (by decide) (fo_92 (Or.inr ⟨_, rfl, l45k, by omega, by omega⟩))) (nh_k l45k (by unfold HT; omega)) (by omega) (by omega)) (fun r52 T54 σ53 gt55 hp => ?_)
          obtain ⟨rfl, rfl, w57, F58⟩ := hp
          clear gt55
          show Tn _ _ 119 T37 σ53 [(3, .int (iI z26)), (0, .ref a), (1, .int (iI r)), (2, .ref c)] [] _
          refine tn_iconst dX10_refresh_119 ?_
          refine tn_istore (L' := [(4, .int (iI 0)), (3, .int (iI z26)), (0, .ref a), (1, .int (iI r)), (2, .ref c)]) dX10_refresh_120 (by decide) rfl ?_
          refine tn_sub [2, 3, 4, 0] rfl (l_X10_refresh_122 (d) (T := T37) (σ0 := σ53) (a := a) (c1 := r) (rx2 := c) ha (by omega) h_c t_c w57 (fun i459 σ60 w63 F64 r65 => ?_) _ (0) σ53 w57 FrC.rfl (by omega) rfl)
          show Tn _ _ 144 T37 σ60 [(0, .ref a), (1, .int (iI r)), (2, .ref c), (4, .int (iI i459))] [] _
          refine tn_aload_n dX10_refresh_144 rfl 0 rfl ?_
          refine tn_aload_n dX10_refresh_145 rfl 2 rfl ?_
          refine tn_callV (M := m_X10_refresh) (pc := 146) (ix := 74) (ci := 10) (M' := m_X10_begin) (As := [.ref c]) (rest := []) dX10_refresh_146 ok_X10_begin im_X10_begin se_X10_begin ml10_74 np_X10_begin rfl rfl ha rfl (Nat.le_of_ble_eq_true rfl) (Nat.le_of_ble_eq_true rfl) rfl (k_X10_begin (d + 2) (T := T37) (σ := σ60) (a := a) (p1 := c) ha h_c t_c w63 ) (fun r66 T68 σ67 gt69 hp => ?_)
          obtain ⟨rfl, rfl, w71, F72⟩ := hp
          clear gt69
          show Tn _ _ 149 T37 σ67 [(0, .ref a), (1, .int (iI r)), (2, .ref c), (4, .int (iI i459))] [] _
          refine tn_aload_n dX10_refresh_149 rfl 0 rfl ?_
          refine tn_iconst dX10_refresh_150 ?_
          refine tn_putV (ci := 10) (i := 6) (n := 94) (r := false) (v := 1) tyX10 tyX10_ok nmX10 dX10_refresh_151 rfl lay_10 (by decide) fl10_78 rfl (tyX10_ok 6 (by decide)) rfl rfl rfl ha rfl rfl ?_
          refine tn_iconst dX10_refresh_154 ?_
          refine tn_istore (L' := [(4, .int (iI 0)), (0, .ref a), (1, .int (iI r)), (2, .ref c)]) dX10_refresh_155 (by decide) rfl ?_
          refine tn_sub [1, 2, 3, 0] rfl (l_X10_refresh_157 (d) (T := T37) (σ0 := (sA 94 a (1) σ67)) (a := a) (c1 := r) (rx2 := c) ha (by omega) h_c t_c (w71.put (by decide) (by decide) (fo_94 (by omega))) (fun i473 σ74 w77 F78 r79 => ?_) _ (0) (sA 94 a (1) σ67) (w71.put (by decide) (by decide) (fo_94 (by omega))) FrC.rfl (by omega) rfl)
          show Tn _ _ 207 T37 σ74 [(0, .ref a), (1, .int (iI r)), (2, .ref c), (4, .int (iI i473))] [] _
          refine tn_aload_n dX10_refresh_207 rfl 0 rfl ?_
          obtain ⟨x80, hx81, hk82, hl83⟩ : ∃ x : Nat, σ38.2.1 89 a = (x : Int) ∧ AR T37 x 1 6 6 := wf_89 w41 ha
          have hk82i : IA T37 x80 := by unfold IA; omega
          refine tn_getR (ci := 10) (i := 1) (n := 89) (x := x80) dX10_refresh_208 rfl lay_10 (by decide) fl10_17 ha rfl rfl (rc_F F78 (Or.inl (by decide)) (by decide) (rc_o (by decide) (rc_F F72 (Or.inl (by decide)) (by decide) (rc_F F64 (Or.inl (by decide)) (by decide) (rc_F F58 (Or.inl (by decide)) (by decide) (rc_o (by decide) (hx81))))))) ?_
          refine tn_iload_n dX10_refresh_211 rfl 1 rfl ?_
          refine tn_iconst dX10_refresh_212 ?_
          refine tn_iast (z := r) (v := 1) dX10_refresh_213 hk82i (by omega) (by omega) (by omega) ?_
          exact tn_vret rfl dX10_refresh_214 ⟨rfl, (w77.arr (Or.inl hk82i) (vok_1 (by have q9 := hk82; omega) (by omega))), ((((((((FrC.rfl.trans (FrC.sub F43 (by decide))).put (by decide) (by decide)).trans (FrC.sub (FrC.old F58 gt42) (by decide))).trans (FrC.sub (FrC.old F64 gt42) (by decide))).trans (FrC.sub (FrC.old F72 gt42) (by decide))).put (by decide) (by decide)).trans (FrC.sub (FrC.old F78 gt42) (by decide))).arr (hk_no (GT.nh gt42 (nh_k hk82 (by unfold HT; omega)))))⟩
        · refine tn_aaldM (z := r) (x := x29) dX10_refresh_70 hk4 (by omega) (by omega) (by omega) (rc_o (by decide) (hx28)) ?_
          have hk30i : IA T x29 := by unfold IA; omega
          refine tn_ifnull dX10_refresh_71 ?_
          refine tn_aload_n dX10_refresh_74 rfl 1 rfl ?_
          refine tn_getR (ci := 10) (i := 0) (n := 88) (x := x2) dX10_refresh_75 rfl lay_10 (by decide) fl10_11 ha rfl rfl (rc_o (by decide) (hx3)) ?_
          refine tn_iload_n dX10_refresh_78 rfl 2 rfl ?_
          refine tn_aaldM (z := r) (x := x29) dX10_refresh_79 hk4 (by omega) (by omega) (by omega) (rc_o (by decide) (hx28)) ?_
          refine tn_alenX dX10_refresh_80 (Or.inl hk30i) ?_
          refine tn_iload_n dX10_refresh_81 rfl 0 rfl ?_
          refine tn_icmp_ge (tgt := 99) dX10_refresh_82 (by decide) ⟨by omega, by omega⟩ ⟨by omega, by omega⟩ (fun h84 => ?_) (fun h84 => ?_)
          · refine tn_aload_n dX10_refresh_99 rfl 1 rfl ?_
            refine tn_aload_n dX10_refresh_100 rfl 1 rfl ?_
            refine tn_getR (ci := 10) (i := 0) (n := 88) (x := x2) dX10_refresh_101 rfl lay_10 (by decide) fl10_11 ha rfl rfl (rc_o (by decide) (hx3)) ?_
            refine tn_iload_n dX10_refresh_104 rfl 2 rfl ?_
            refine tn_aaldM (z := r) (x := x29) dX10_refresh_105 hk4 (by omega) (by omega) (by omega) (rc_o (by decide) (hx28)) ?_
            refine tn_putV (ci := 10) (i := 4) (n := 92) (r := true) (v := (x29 : Int)) tyX10 tyX10_ok nmX10 dX10_refresh_106 rfl lay_10 (by decide) fl10_61 rfl (tyX10_ok 4 (by decide)) (vl_ref rfl).symm rfl rfl ha rfl rfl ?_
            refine tn_aload_n dX10_refresh_109 rfl 1 rfl ?_
            refine tn_getR (ci := 10) (i := 4) (n := 92) (x := x29) dX10_refresh_110 rfl lay_10 (by decide) fl10_61 ha rfl rfl (ra_eq) ?_
            refine tn_iconst dX10_refresh_113 ?_
            refine tn_iload_n dX10_refresh_114 rfl 0 rfl ?_
            refine tn_iconst dX10_refresh_115 ?_
            refine tn_callS (M := m_X10_refresh) (pc := 116) (ix := 64) (M' := m_J7_fill_fda19) (As := [.ref x29, .int (iI 0), .int (iI z26), .int (iI 0)]) (rest := []) dX10_refresh_116 ok_J7_fill_fda19 stt_J7_fill_fda19 ml10_64 np_J7_fill_fda19 rfl (Nat.le_of_ble_eq_true rfl) (Nat.le_of_ble_eq_true rfl) rfl (k_J7_fill_fda19 (d + 2) (T := T) (σ := (sA 92 a ((x29 : Int)) (sA 93 a (v22) σ))) (x := x29) (f := 0) (t := z26) (y := 0) hk30i (by omega) (by decide) (by omega) (by decide) ((hw.put (by decide) (by decide) (fo_93 (by omega))).put (by decide) (by decide) (fo_92 (Or.inr ⟨_, rfl, hk30, by omega, by omega⟩))) (nh_k hk30 (by unfold HT; omega)) (by omega) (by omega)) (fun r85 T87 σ86 gt88 hp => ?_)
            obtain ⟨rfl, rfl, w90, F91⟩ := hp
            clear gt88
            show Tn _ _ 119 T σ86 [(3, .int (iI z26)), (0, .ref a), (1, .int (iI r)), (2, .ref c)] [] _
            refine tn_iconst dX10_refresh_119 ?_
            refine tn_istore (L' := [(4, .int (iI 0)), (3, .int (iI z26)), (0, .ref a), (1, .int (iI r)), (2, .ref c)]) dX10_refresh_120 (by decide) rfl ?_
            refine tn_sub [2, 3, 4, 0] rfl (l_X10_refresh_122 (d) (T := T) (σ0 := σ86) (a := a) (c1 := r) (rx2 := c) ha (by omega) h_c t_c w90 (fun i492 σ93 w96 F97 r98 => ?_) _ (0) σ86 w90 FrC.rfl (by omega) rfl)
            show Tn _ _ 144 T σ93 [(0, .ref a), (1, .int (iI r)), (2, .ref c), (4, .int (iI i492))] [] _
            refine tn_aload_n dX10_refresh_144 rfl 0 rfl ?_
            refine tn_aload_n dX10_refresh_145 rfl 2 rfl ?_
            refine tn_callV (M := m_X10_refresh) (pc := 146) (ix := 74) (ci := 10) (M' := m_X10_begin) (As := [.ref c]) (rest := []) dX10_refresh_146 ok_X10_begin im_X10_begin se_X10_begin ml10_74 np_X10_begin rfl rfl ha rfl (Nat.le_of_ble_eq_true rfl) (Nat.le_of_ble_eq_true rfl) rfl (k_X10_begin (d + 2) (T := T) (σ := σ93) (a := a) (p1 := c) ha h_c t_c w96 ) (fun r99 T101 σ100 gt102 hp => ?_)
            obtain ⟨rfl, rfl, w104, F105⟩ := hp
            clear gt102
            show Tn _ _ 149 T σ100 [(0, .ref a), (1, .int (iI r)), (2, .ref c), (4, .int (iI i492))] [] _
            refine tn_aload_n dX10_refresh_149 rfl 0 rfl ?_
            refine tn_iconst dX10_refresh_150 ?_
            refine tn_putV (ci := 10) (i := 6) (n := 94) (r := false) (v := 1) tyX10 tyX10_ok nmX10 dX10_refresh_151 rfl lay_10 (by decide) fl10_78 rfl (tyX10_ok 6 (by decide)) rfl rfl rfl ha rfl rfl ?_
            refine tn_iconst dX10_refresh_154 ?_
            refine tn_istore (L' := [(4, .int (iI 0)), (0, .ref a), (1, .int (iI r)), (2, .ref c)]) dX10_refresh_155 (by decide) rfl ?_
            refine tn_sub [1, 2, 3, 0] rfl (l_X10_refresh_157 (d) (T := T) (σ0 := (sA 94 a (1) σ100)) (a := a) (c1 := r) (rx2 := c) ha (by omega) h_c t_c (w104.put (by decide) (by decide) (fo_94 (by omega))) (fun i4106 σ107 w110 F111 r112 => ?_) _ (0) (sA 94 a (1) σ100) (w104.put (by decide) (by decide) (fo_94 (by omega))) FrC.rfl (by omega) rfl)
            show Tn _ _ 207 T σ107 [(0, .ref a), (1, .int (iI r)), (2, .ref c), (4, .int (iI i4106))] [] _
            refine tn_aload_n dX10_refresh_207 rfl 0 rfl ?_
            refine tn_getR (ci := 10) (i := 1) (n := 89) (x := x7) dX10_refresh_208 rfl lay_10 (by decide) fl10_17 ha rfl rfl (rc_F F111 (Or.inl (by decide)) (by decide) (rc_o (by decide) (rc_F F105 (Or.inl (by decide)) (by decide) (rc_F F97 (Or.inl (by decide)) (by decide) (rc_F F91 (Or.inl (by decide)) (by decide) (rc_o (by decide) (rc_o (by decide) (hx8)))))))) ?_
            refine tn_iload_n dX10_refresh_211 rfl 1 rfl ?_
            refine tn_iconst dX10_refresh_212 ?_
            refine tn_iast (z := r) (v := 1) dX10_refresh_213 hk9i (by omega) (by omega) (by omega) ?_
            exact tn_vret rfl dX10_refresh_214 ⟨rfl, (w110.arr (Or.inl hk9i) (vok_1 (by have q9 := hk9; omega) (by omega))), ((((((((FrC.rfl.put (by decide) (by decide)).put (by decide) (by decide)).trans (FrC.sub F91 (by decide))).trans (FrC.sub F97 (by decide))).trans (FrC.sub F105 (by decide))).put (by decide) (by decide)).trans (FrC.sub F111 (by decide))).arr (hk_no (nh_k hk9 (by unfold HT; omega))))⟩
          · refine tn_aload_n dX10_refresh_85 rfl 1 rfl ?_
            refine tn_getR (ci := 10) (i := 0) (n := 88) (x := x2) dX10_refresh_86 rfl lay_10 (by decide) fl10_11 ha rfl rfl (rc_o (by decide) (hx3)) ?_
            refine tn_iload_n dX10_refresh_89 rfl 2 rfl ?_
            refine tn_iload_n dX10_refresh_90 rfl 0 rfl ?_
            refine tn_iload_n dX10_refresh_91 rfl 0 rfl ?_
            refine tn_bipush dX10_refresh_92 (by decide) ?_
            refine tn_idivX dX10_refresh_94 (by decide) ?_
            obtain ⟨z113, g114, g114e⟩ := div8 (x := z26) (by omega) (by omega)
            rw [g114e]
            refine tn_iadd dX10_refresh_95 ?_
            obtain ⟨N115, N115e⟩ : ∃ N : Nat, z26 + z113 = (N : Int) := ⟨(z26 + z113).toNat, by omega⟩
            have ol128 : tLen T (sA 93 a (v22) σ) (r) = (T x29).2 := tLen_at (rc_o (by decide) (hx28))
            refine tn_newI (N := N115) (k := 1) dX10_refresh_96 arC_int (Or.inl rfl) N115e (by omega) (fun x116 hx117 => ?_)
            have w122 := WT.tab (T := T) (σ := (sA 93 a (v22) σ)) (hw.put (by decide) (by decide) (fo_93 (by omega))) hx117 (r := r) ⟨by omega, by omega⟩ (N := N115) (by omega) (by omega) (by omega) (by omega)
            have gt123 : GT T (tT T x116 1 N115) := fun b p _ => tT_gt hx117 b p
            have l126 : (tT T x116 1 N115 x116) = (1, N115) := tT_eq
            have F124 : FrC T [92, 93, 94, 900] σ (sA 900 (r) (x116 : Int) (rowS (1000 + x116) (fun _ => 0) (gh N115 (sA 93 a (v22) σ)))) := FrC.put9 (FrC.row (FrC.gh (FrC.rfl.put (by decide) (by decide))) (hk_no (by unfold NH HT; omega))) (by decide)
            have q125 : (sA 900 (r) (x116 : Int) (rowS (1000 + x116) (fun _ => 0) (gh N115 (sA 93 a (v22) σ)))).2.1 900 (r) = (x116 : Int) := ra_eq
            have ix127 : IA (tT T x116 1 N115) x116 := by unfold IA; rw [l126]; exact Or.inl rfl
            refine tn_aastM (z := r) (v := x116) (fun b q => (w122).2.2.2.2.1.1 b x2 q (gt123.kk hk4 (by decide) (by decide))) dX10_refresh_98 (gt123.kk hk4 (by decide) (by decide)) ix127 (by omega) (by rw [gt123.lenK hk4 (by decide) (by decide)]; omega) (by rw [gt123.lenK hk4 (by decide) (by decide)]; omega) ?_
            generalize hT120 : tT T x116 1 N115 = T118 at w122 gt123 l126 ix127 ⊢
            generalize h121 : (sA 900 (r) (x116 : Int) (rowS (1000 + x116) (fun _ => 0) (gh N115 (sA 93 a (v22) σ)))) = σ119 at w122 F124 q125 ⊢
            replace ha : OB T118 a 10 := gt123.ob ha
            replace t_c : (T118 c).1 = 50 := gt123.kk t_c (by decide) (by decide)
            replace h_c : OB T118 c 1 := gt123.ob h_c
            have l126k : (T118 x116).1 = 1 := by rw [l126]
            have l126n : (T118 x116).2 = N115 := by rw [l126]
            show Tn _ _ 99 T118 σ119 [(3, .int (iI z26)), (0, .ref a), (1, .int (iI r)), (2, .ref c)] [] _
            refine tn_aload_n dX10_refresh_99 rfl 1 rfl ?_
            refine tn_aload_n dX10_refresh_100 rfl 1 rfl ?_
            obtain ⟨x129, hx130, hk131, hl132⟩ : ∃ x : Nat, σ119.2.1 88 a = (x : Int) ∧ AR T118 x 7 6 6 := wf_88 w122 ha
            refine tn_getR (ci := 10) (i := 0) (n := 88) (x := x129) dX10_refresh_101 rfl lay_10 (by decide) fl10_11 ha rfl rfl (hx130) ?_
            refine tn_iload_n dX10_refresh_104 rfl 2 rfl ?_
            refine tn_aaldM (z := r) (x := x116) dX10_refresh_105 hk131 (by omega) (by omega) (by omega) (q125) ?_
            refine tn_putV (ci := 10) (i := 4) (n := 92) (r := true) (v := (x116 : Int)) tyX10 tyX10_ok nmX10 dX10_refresh_106 rfl lay_10 (by decide) fl10_61 rfl (tyX10_ok 4 (by decide)) (vl_ref rfl).symm rfl rfl ha rfl rfl ?_
            refine tn_aload_n dX10_refresh_109 rfl 1 rfl ?_
            refine tn_getR (ci := 10) (i := 4) (n := 92) (x := x116) dX10_refresh_110 rfl lay_10 (by decide) fl10_61 ha rfl rfl (ra_eq) ?_
            refine tn_iconst dX10_refresh_113 ?_
            refine tn_iload_n dX10_refresh_114 rfl 0 rfl ?_
            refine tn_iconst dX10_refresh_115 ?_
            refine tn_callS (M := m_X10_refresh) (pc := 116) (ix := 64) (M' := m_J7_fill_fda19) (As := [.ref x116, .int (iI 0), .int (iI z26), .int (iI 0)]) (rest := []) dX10_refresh_116 ok_J7_fill_fda19 stt_J7_fill_fda19 ml10_64 np_J7_fill_fda19 rfl (Nat.le_of_ble_eq_true rfl) (Nat.le_of_ble_eq_true rfl) rfl (k_J7_fill_fda19 (d + 2) (T := T118) (σ := (sA 92 a ((x116 : Int)) σ119)) (x := x116) (f := 0) (t := z26) (y := 0) ix127 (by omega) (by decide) (by omega) (by decide) (w122.put (by decide) (by decide) (fo_92 (Or.inr ⟨_, rfl, l126k, by omega, by omega⟩))) (nh_k l126k (by unfold HT; omega)) (by omega) (by omega)) (fun r133 T135 σ134 gt136 hp => ?_)
            obtain ⟨rfl, rfl, w138, F139⟩ := hp
            clear gt136
            show Tn _ _ 119 T118 σ134 [(3, .int (iI z26)), (0, .ref a), (1, .int (iI r)), (2, .ref c)] [] _
            refine tn_iconst dX10_refresh_119 ?_
            refine tn_istore (L' := [(4, .int (iI 0)), (3, .int (iI z26)), (0, .ref a), (1, .int (iI r)), (2, .ref c)]) dX10_refresh_120 (by decide) rfl ?_
            refine tn_sub [2, 3, 4, 0] rfl (l_X10_refresh_122 (d) (T := T118) (σ0 := σ134) (a := a) (c1 := r) (rx2 := c) ha (by omega) h_c t_c w138 (fun i4140 σ141 w144 F145 r146 => ?_) _ (0) σ134 w138 FrC.rfl (by omega) rfl)
            show Tn _ _ 144 T118 σ141 [(0, .ref a), (1, .int (iI r)), (2, .ref c), (4, .int (iI i4140))] [] _
            refine tn_aload_n dX10_refresh_144 rfl 0 rfl ?_
            refine tn_aload_n dX10_refresh_145 rfl 2 rfl ?_
            refine tn_callV (M := m_X10_refresh) (pc := 146) (ix := 74) (ci := 10) (M' := m_X10_begin) (As := [.ref c]) (rest := []) dX10_refresh_146 ok_X10_begin im_X10_begin se_X10_begin ml10_74 np_X10_begin rfl rfl ha rfl (Nat.le_of_ble_eq_true rfl) (Nat.le_of_ble_eq_true rfl) rfl (k_X10_begin (d + 2) (T := T118) (σ := σ141) (a := a) (p1 := c) ha h_c t_c w144 ) (fun r147 T149 σ148 gt150 hp => ?_)
            obtain ⟨rfl, rfl, w152, F153⟩ := hp
            clear gt150
            show Tn _ _ 149 T118 σ148 [(0, .ref a), (1, .int (iI r)), (2, .ref c), (4, .int (iI i4140))] [] _
            refine tn_aload_n dX10_refresh_149 rfl 0 rfl ?_
            refine tn_iconst dX10_refresh_150 ?_
            refine tn_putV (ci := 10) (i := 6) (n := 94) (r := false) (v := 1) tyX10 tyX10_ok nmX10 dX10_refresh_151 rfl lay_10 (by decide) fl10_78 rfl (tyX10_ok 6 (by decide)) rfl rfl rfl ha rfl rfl ?_
            refine tn_iconst dX10_refresh_154 ?_
            refine tn_istore (L' := [(4, .int (iI 0)), (0, .ref a), (1, .int (iI r)), (2, .ref c)]) dX10_refresh_155 (by decide) rfl ?_
            refine tn_sub [1, 2, 3, 0] rfl (l_X10_refresh_157 (d) (T := T118) (σ0 := (sA 94 a (1) σ148)) (a := a) (c1 := r) (rx2 := c) ha (by omega) h_c t_c (w152.put (by decide) (by decide) (fo_94 (by omega))) (fun i4154 σ155 w158 F159 r160 => ?_) _ (0) (sA 94 a (1) σ148) (w152.put (by decide) (by decide) (fo_94 (by omega))) FrC.rfl (by omega) rfl)
            show Tn _ _ 207 T118 σ155 [(0, .ref a), (1, .int (iI r)), (2, .ref c), (4, .int (iI i4154))] [] _
            refine tn_aload_n dX10_refresh_207 rfl 0 rfl ?_
            obtain ⟨x161, hx162, hk163, hl164⟩ : ∃ x : Nat, σ119.2.1 89 a = (x : Int) ∧ AR T118 x 1 6 6 := wf_89 w122 ha
            have hk163i : IA T118 x161 := by unfold IA; omega
            refine tn_getR (ci := 10) (i := 1) (n := 89) (x := x161) dX10_refresh_208 rfl lay_10 (by decide) fl10_17 ha rfl rfl (rc_F F159 (Or.inl (by decide)) (by decide) (rc_o (by decide) (rc_F F153 (Or.inl (by decide)) (by decide) (rc_F F145 (Or.inl (by decide)) (by decide) (rc_F F139 (Or.inl (by decide)) (by decide) (rc_o (by decide) (hx162))))))) ?_
            refine tn_iload_n dX10_refresh_211 rfl 1 rfl ?_
            refine tn_iconst dX10_refresh_212 ?_
            refine tn_iast (z := r) (v := 1) dX10_refresh_213 hk163i (by omega) (by omega) (by omega) ?_
            exact tn_vret rfl dX10_refresh_214 ⟨rfl, (w158.arr (Or.inl hk163i) (vok_1 (by have q9 := hk163; omega) (by omega))), ((((((((FrC.rfl.trans (FrC.sub F124 (by decide))).put (by decide) (by decide)).trans (FrC.sub (FrC.old F139 gt123) (by decide))).trans (FrC.sub (FrC.old F145 gt123) (by decide))).trans (FrC.sub (FrC.old F153 gt123) (by decide))).put (by decide) (by decide)).trans (FrC.sub (FrC.old F159 gt123) (by decide))).arr (hk_no (GT.nh gt123 (nh_k hk163 (by unfold HT; omega)))))⟩
      · exact tn_vret rfl dX10_refresh_35 ⟨rfl, hw, FrC.rfl⟩
end
section
set_option maxRecDepth 20000 in
theorem k_X10_refresh_0 (d : Nat) {T : CT} {σ : MS} {a : Nat} {r : Int} (ha : OB T a 10) (h_r : -2147483648 ≤ r ∧ r ≤ 2147483647) (hw : WT T σ) : Tn (d + 5) m_X10_refresh 0 T σ [(0, .ref a), (1, .int (iI r)), (2, .null)] [] (fun ro T2 σ2 => ro = none ∧ WT T2 σ2 ∧ FrC T [92, 93, 94, 900] σ σ2) := by
  refine tn_aload_nN dX10_refresh_0 rfl 2 rfl ?_
  refine tn_ifnullN (tgt := 35) dX10_refresh_1 (by decide) ?_
  exact tn_vret rfl dX10_refresh_35 ⟨rfl, hw, FrC.rfl⟩
end
section
/-- the run's calls -/
def TR (σ : MS) (a : Nat) (B : Int) : Prop := ∀ t : Nat, σ.2.1 103 a = (t : Int) → σ.2.1 57 t ≤ B
theorem TR.of {σ : MS} {a x : Nat} {B : Int} (hx : σ.2.1 103 a = (x : Int)) (h : σ.2.1 57 x ≤ B) : TR σ a B := fun t q => by
  have e : t = x := by omega
  rw [e]; exact h
theorem TR.up {σ : MS} {a : Nat} {B C : Int} (h : TR σ a B) (hc : B ≤ C) : TR σ a C := fun t q => Int.le_trans (h t q) hc
theorem TR.frc {T : CT} {ks : List Nat} {σ τ : MS} {a : Nat} {B : Int} (h : TR σ a B) (f : FrC T ks σ τ) (h0 : 103 ∉ ks) (h1 : 57 ∉ ks) : TR τ a B := fun t q => by
  rw [f.1 57 (by omega) h1]; exact h t (by rw [← f.1 103 (by omega) h0]; exact q)
end
section
set_option maxRecDepth 20000 in
theorem l_X11_tapeNumber_f_3 (d : Nat) {T : CT} {σ0 : MS} {a : Nat} {c1 : Int} {tg : Int} {post : Option Value → CT → MS → Prop} (h_a : OB T a 11) (r_c1 : -2147483648 ≤ c1 ∧ c1 ≤ 2147483647) (hw0 : WT T σ0) (hx_55 : ∀ (i2 : Int) (σ : MS) , (WT T σ) → (FrC T [96, 502] σ0 σ) → (-8 ≤ i2 ∧ i2 ≤ 24) → (8 * σ.2.1 96 a = 8 * tg + 24 - i2 ∧ tg ≤ 1196 ∧ 0 ≤ tg) → (i2 < 0) → Tn (d + 1) m_X11_tapeNumber 55 T σ [(0, .ref a), (1, .int (iI c1)), (2, .int (iI i2))] [] post) : ∀ (n : Nat) (i2 : Int) (σ : MS) , (WT T σ) → (FrC T [96, 502] σ0 σ) → (-8 ≤ i2 ∧ i2 ≤ 24) → (8 * σ.2.1 96 a = 8 * tg + 24 - i2 ∧ tg ≤ 1196 ∧ 0 ≤ tg) → (i2 + 20).toNat = n → Tn (d + 1) m_X11_tapeNumber 3 T σ [(0, .ref a), (1, .int (iI c1)), (2, .int (iI i2))] [] post := by
  intro n
  induction n using Nat.strongRecOn with
  | _ n ih =>
    intro i2 σ hw hF r_i2 h0 hm
    refine tn_iload_n dX11_tapeNumber_3 rfl 2 rfl ?_
    refine tn_if_lt (tgt := 55) dX11_tapeNumber_4 (by decide) ⟨by omega, by omega⟩ (fun h1 => ?_) (fun h1 => ?_)
    · exact tn_sub [0, 1, 2] rfl (hx_55 (i2) σ hw (FrC.rfl.trans (FrC.sub hF (by decide))) (by omega) (by omega) (by omega))
    · refine tn_aload_n dX11_tapeNumber_7 rfl 0 rfl ?_
      refine tn_getI (ci := 11) (i := 1) (n := 96) (t := σ.2.1 96 a) dX11_tapeNumber_8 rfl lay_11 (by decide) fl11_87 h_a rfl rfl (rfl) ?_
      have g2 : ((0 : Int) ≤ σ.2.1 96 a ∧ σ.2.1 96 a ≤ 1200) := wf_96 hw h_a
      refine tn_if_lt (tgt := 49) dX11_tapeNumber_11 (by decide) ⟨by omega, by omega⟩ (fun h3 => absurd h3 (by omega)) (fun h3 => ?_)
      refine tn_aload_n dX11_tapeNumber_14 rfl 0 rfl ?_
      refine tn_getI (ci := 11) (i := 1) (n := 96) (t := σ.2.1 96 a) dX11_tapeNumber_15 rfl lay_11 (by decide) fl11_87 h_a rfl rfl (rfl) ?_
      refine tn_aload_n dX11_tapeNumber_18 rfl 0 rfl ?_
      obtain ⟨x4, hx5, hk6, hl7⟩ : ∃ x : Nat, σ0.2.1 95 a = (x : Int) ∧ AR T x 2 1200 1200 := wf_95 hw0 h_a
      refine tn_getR (ci := 11) (i := 0) (n := 95) (x := x4) dX11_tapeNumber_19 rfl lay_11 (by decide) fl11_9 h_a rfl rfl (rc_F hF (Or.inl (by decide)) (by decide) (hx5)) ?_
      refine tn_alenX dX11_tapeNumber_22 (Or.inr (Or.inl hk6)) ?_
      refine tn_icmp_ge (tgt := 49) dX11_tapeNumber_23 (by decide) ⟨by omega, by omega⟩ ⟨by omega, by omega⟩ (fun h8 => ?_) (fun h8 => ?_)
      · refine tn_iinc (q0 := 2) (L' := [(2, .int (iI (i2 + (-8)))), (0, .ref a), (1, .int (iI c1))]) dX11_tapeNumber_49 rfl (by decide) rfl ?_
        refine tn_goto (tgt := 3) dX11_tapeNumber_52 (by decide) ?_
        have q9 : σ.2.1 96 a = σ.2.1 96 a := rfl
        exact tn_sub [1, 2, 0] rfl (ih _ (by omega) (i2 + (-8)) σ hw (FrC.rfl.trans (FrC.sub hF (by decide))) (by omega) (by omega) rfl)
      · refine tn_aload_n dX11_tapeNumber_26 rfl 0 rfl ?_
        refine tn_getR (ci := 11) (i := 0) (n := 95) (x := x4) dX11_tapeNumber_27 rfl lay_11 (by decide) fl11_9 h_a rfl rfl (rc_F hF (Or.inl (by decide)) (by decide) (hx5)) ?_
        refine tn_aload_n dX11_tapeNumber_30 rfl 0 rfl ?_
        refine tn_getI (ci := 11) (i := 1) (n := 96) (t := σ.2.1 96 a) dX11_tapeNumber_31 rfl lay_11 (by decide) fl11_87 h_a rfl rfl (rfl) ?_
        refine tn_iload_n dX11_tapeNumber_34 rfl 1 rfl ?_
        refine tn_iload_n dX11_tapeNumber_35 rfl 2 rfl ?_
        refine tn_iushr dX11_tapeNumber_36 ?_
        refine tn_anyI (fun z10 g11 => ?_)
        have g11r : -2147483648 ≤ z10 ∧ z10 ≤ 2147483647 := g11
        refine tn_i2b dX11_tapeNumber_37 ?_
        refine tn_anyI (fun z12 g13 => ?_)
        have g13r : -2147483648 ≤ z12 ∧ z12 ≤ 2147483647 := g13
        obtain ⟨v14, g15, g15e⟩ := nar_b (iI (z12))
        refine tn_bast (z := σ.2.1 96 a) (v := v14) dX11_tapeNumber_38 hk6 (by omega) (by omega) (by omega) g15e ?_
        refine tn_aload_n dX11_tapeNumber_39 rfl 0 rfl ?_
        refine tn_dup dX11_tapeNumber_40 rfl ?_
        refine tn_getI (ci := 11) (i := 1) (n := 96) (t := σ.2.1 96 a) dX11_tapeNumber_41 rfl lay_11 (by decide) fl11_87 h_a rfl rfl (rc_a (Or.inl (by decide)) (rfl)) ?_
        refine tn_iconst dX11_tapeNumber_44 ?_
        refine tn_iadd dX11_tapeNumber_45 ?_
        refine tn_putV (ci := 11) (i := 1) (n := 96) (r := false) (v := (σ.2.1 96 a) + 1) tyX11 tyX11_ok nmX11 dX11_tapeNumber_46 rfl lay_11 (by decide) fl11_87 rfl (tyX11_ok 1 (by decide)) rfl rfl rfl h_a rfl rfl ?_
        refine tn_iinc (q0 := 2) (L' := [(2, .int (iI (i2 + (-8)))), (0, .ref a), (1, .int (iI c1))]) dX11_tapeNumber_49 rfl (by decide) rfl ?_
        refine tn_goto (tgt := 3) dX11_tapeNumber_52 (by decide) ?_
        have q16 : (sA 96 a ((σ.2.1 96 a) + 1) (sA (1000 + x4) (σ.2.1 96 a) (v14) σ)).2.1 96 a = (σ.2.1 96 a) + 1 := ra_eq
        exact tn_sub [1, 2, 0] rfl (ih _ (by omega) (i2 + (-8)) (sA 96 a ((σ.2.1 96 a) + 1) (sA (1000 + x4) (σ.2.1 96 a) (v14) σ)) ((hw.arr (Or.inr hk6) (vok_1 (Or.inr (Or.inr hk6)) g15)).put (by decide) (by decide) (fo_96 (by omega))) (((FrC.rfl.trans (FrC.sub hF (by decide))).arr (hk_in hk6 (by decide))).put (by decide) (by decide)) (by omega) (by omega) rfl)
set_option maxRecDepth 20000 in
theorem k_X11_tapeNumber_f (d : Nat) {T : CT} {σ : MS} {a : Nat} {n : Int} (ha : OB T a 11) (h_n : -2147483648 ≤ n ∧ n ≤ 2147483647) (hw : WT T σ) (h96 : σ.2.1 96 a ≤ 1196) : Tn (d + 1) m_X11_tapeNumber 0 T σ [(0, .ref a), (1, .int (iI n))] [] (fun ro T2 σ2 => ro = none ∧ T = T2 ∧ WT T2 σ2 ∧ FrC T [96, 502] σ σ2 ∧ (σ2.2.1 96 a = σ.2.1 96 a + 4)) := by
  have h96b := (wf_96 hw ha)
  refine tn_bipush dX11_tapeNumber_0 (by decide) ?_
  refine tn_istore_n (L' := [(2, .int (iI 24)), (0, .ref a), (1, .int (iI n))]) dX11_tapeNumber_2 rfl (by decide) rfl ?_
  refine tn_sub [1, 2, 0] rfl (l_X11_tapeNumber_f_3 (d) (T := T) (σ0 := σ) (a := a) (c1 := n) (tg := σ.2.1 96 a) ha (by omega) hw (fun i21 σ2 w5 F6 r7 f8 f9 => ?_) _ (24) σ hw FrC.rfl (by omega) (by omega) rfl)
  show Tn _ _ 55 T σ2 [(0, .ref a), (1, .int (iI n)), (2, .int (iI i21))] [] _
  have q10 : σ2.2.1 96 a = σ2.2.1 96 a := rfl
  exact tn_vret rfl dX11_tapeNumber_55 ⟨rfl, rfl, w5, (FrC.rfl.trans (FrC.sub F6 (by decide))), by omega⟩
end
section
theorem cd_X11_feed : Cond.code yX11_feed cX11_feed 6 (some .int) ∈ pWW := pw3 (List.mem_of_getElem? (i := 8) rfl) rfl
abbrev m_X11_feed : MT := (yX11_feed, cX11_feed, 6, (some .int))
theorem ok_X11_feed : pOk m_X11_feed := ⟨⟨cd_X11_feed, ini_11⟩, by decide +kernel, ⟨by decide +kernel, by decide +kernel⟩, Nat.le_of_ble_eq_true rfl⟩
theorem np_X11_feed : (parseMethodDescriptor yX11_feed.desc).map (fun d => d.parameters.length) = some 5 := by decide +kernel
theorem im_X11_feed : Cond.instanceMethod yX11_feed ∈ pWW := pw3 (List.mem_of_getElem? (i := 6) rfl) rfl
theorem se_X11_feed : Cond.selects RX11 yX11_feed yX11_feed ∈ pWW := pw3 (List.mem_of_getElem? (i := 7) rfl) rfl
theorem ml11_90 : Cond.methodLink RX11 90 yX11_tapeNumber ∈ pWW := pw3 (List.mem_of_getElem? (i := 9) rfl) rfl
theorem dX11_feed_0 : decode cX11_feed 0 = .ok (.aload_n 0, 1) := by decide +kernel
theorem dX11_feed_1 : decode cX11_feed 1 = .ok (.getfield 87, 3) := by decide +kernel
theorem dX11_feed_4 : decode cX11_feed 4 = .ok (.bipush 20, 2) := by decide +kernel
theorem dX11_feed_6 : decode cX11_feed 6 = .ok (.iadd, 1) := by decide +kernel
theorem dX11_feed_7 : decode cX11_feed 7 = .ok (.sipush 1200, 3) := by decide +kernel
theorem dX11_feed_10 : decode cX11_feed 10 = .ok (.if_icmp .le 5, 3) := by decide +kernel
theorem dX11_feed_15 : decode cX11_feed 15 = .ok (.aload_n 0, 1) := by decide +kernel
theorem dX11_feed_16 : decode cX11_feed 16 = .ok (.iload_n 1, 1) := by decide +kernel
theorem dX11_feed_17 : decode cX11_feed 17 = .ok (.invokevirtual 90, 3) := by decide +kernel
theorem dX11_feed_20 : decode cX11_feed 20 = .ok (.aload_n 0, 1) := by decide +kernel
theorem dX11_feed_21 : decode cX11_feed 21 = .ok (.iload_n 2, 1) := by decide +kernel
theorem dX11_feed_22 : decode cX11_feed 22 = .ok (.invokevirtual 90, 3) := by decide +kernel
theorem dX11_feed_25 : decode cX11_feed 25 = .ok (.aload_n 0, 1) := by decide +kernel
theorem dX11_feed_26 : decode cX11_feed 26 = .ok (.iload_n 3, 1) := by decide +kernel
theorem dX11_feed_27 : decode cX11_feed 27 = .ok (.invokevirtual 90, 3) := by decide +kernel
theorem dX11_feed_30 : decode cX11_feed 30 = .ok (.aload_n 0, 1) := by decide +kernel
theorem dX11_feed_31 : decode cX11_feed 31 = .ok (.iload 4, 2) := by decide +kernel
theorem dX11_feed_33 : decode cX11_feed 33 = .ok (.invokevirtual 90, 3) := by decide +kernel
theorem dX11_feed_36 : decode cX11_feed 36 = .ok (.aload_n 0, 1) := by decide +kernel
theorem dX11_feed_37 : decode cX11_feed 37 = .ok (.iload 5, 2) := by decide +kernel
theorem dX11_feed_39 : decode cX11_feed 39 = .ok (.invokevirtual 90, 3) := by decide +kernel
theorem dX11_feed_42 : decode cX11_feed 42 = .ok (.aload_n 0, 1) := by decide +kernel
theorem dX11_feed_43 : decode cX11_feed 43 = .ok (.getfield 87, 3) := by decide +kernel
theorem dX11_feed_46 : decode cX11_feed 46 = .ok (.ireturn, 1) := by decide +kernel
theorem dX11_feed_13 : decode cX11_feed 13 = .ok (.iconst (-1), 1) := by decide +kernel
theorem dX11_feed_14 : decode cX11_feed 14 = .ok (.ireturn, 1) := by decide +kernel
set_option maxRecDepth 20000 in
theorem k_X11_feed (d : Nat) {T : CT} {σ : MS} {a : Nat} {p : Int} {q : Int} {r : Int} {s : Int} {t : Int} (ha : OB T a 11) (h_p : -2147483648 ≤ p ∧ p ≤ 2147483647) (h_q : -2147483648 ≤ q ∧ q ≤ 2147483647) (h_r : -2147483648 ≤ r ∧ r ≤ 2147483647) (h_s : -2147483648 ≤ s ∧ s ≤ 2147483647) (h_t : -2147483648 ≤ t ∧ t ≤ 2147483647) (hw : WT T σ) : Tn (d + 2) m_X11_feed 0 T σ [(0, .ref a), (1, .int (iI p)), (2, .int (iI q)), (3, .int (iI r)), (4, .int (iI s)), (5, .int (iI t))] [] (fun ro T2 σ2 => ∃ v : Int, ro = some (.int (iI v)) ∧ T = T2 ∧ WT T2 σ2 ∧ FrC T [96, 502] σ σ2 ∧ (-2147483648 ≤ v ∧ v ≤ 2147483647) ∧ ((σ.2.1 96 a ≤ 1180 ∧ v = σ.2.1 96 a + 20 ∧ σ2.2.1 96 a = σ.2.1 96 a + 20) ∨ (1180 < σ.2.1 96 a ∧ v = -1 ∧ σ2.2.1 96 a = σ.2.1 96 a))) := by
  refine tn_aload_n dX11_feed_0 rfl 0 rfl ?_
  refine tn_getI (ci := 11) (i := 1) (n := 96) (t := σ.2.1 96 a) dX11_feed_1 rfl lay_11 (by decide) fl11_87 ha rfl rfl (rfl) ?_
  have g1 : ((0 : Int) ≤ σ.2.1 96 a ∧ σ.2.1 96 a ≤ 1200) := wf_96 hw ha
  refine tn_bipush dX11_feed_4 (by decide) ?_
  refine tn_iadd dX11_feed_6 ?_
  refine tn_sipush dX11_feed_7 (by decide) ?_
  refine tn_icmp_le (tgt := 15) dX11_feed_10 (by decide) ⟨by omega, by omega⟩ ⟨by decide, by decide⟩ (fun h2 => ?_) (fun h2 => ?_)
  · refine tn_aload_n dX11_feed_15 rfl 0 rfl ?_
    refine tn_iload_n dX11_feed_16 rfl 1 rfl ?_
    refine tn_callV (M := m_X11_feed) (pc := 17) (ix := 90) (ci := 11) (M' := m_X11_tapeNumber) (As := [.int (iI p)]) (rest := []) dX11_feed_17 ok_X11_tapeNumber im_X11_tapeNumber se_X11_tapeNumber ml11_90 np_X11_tapeNumber rfl rfl ha rfl (Nat.le_of_ble_eq_true rfl) (Nat.le_of_ble_eq_true rfl) rfl (k_X11_tapeNumber_f (d) (T := T) (σ := σ) (a := a) (n := p) ha (by omega) hw (by rw [show σ.2.1 96 a = σ.2.1 96 a from rfl]; omega)) (fun r3 T5 σ4 gt6 hp => ?_)
    obtain ⟨rfl, rfl, w9, F10, f7⟩ := hp
    clear gt6
    show Tn _ _ 20 T σ4 [(0, .ref a), (1, .int (iI p)), (2, .int (iI q)), (3, .int (iI r)), (4, .int (iI s)), (5, .int (iI t))] [] _
    refine tn_aload_n dX11_feed_20 rfl 0 rfl ?_
    refine tn_iload_n dX11_feed_21 rfl 2 rfl ?_
    refine tn_callV (M := m_X11_feed) (pc := 22) (ix := 90) (ci := 11) (M' := m_X11_tapeNumber) (As := [.int (iI q)]) (rest := []) dX11_feed_22 ok_X11_tapeNumber im_X11_tapeNumber se_X11_tapeNumber ml11_90 np_X11_tapeNumber rfl rfl ha rfl (Nat.le_of_ble_eq_true rfl) (Nat.le_of_ble_eq_true rfl) rfl (k_X11_tapeNumber_f (d) (T := T) (σ := σ4) (a := a) (n := q) ha (by omega) w9 (by rw [show σ4.2.1 96 a = σ4.2.1 96 a from rfl]; omega)) (fun r11 T13 σ12 gt14 hp => ?_)
    obtain ⟨rfl, rfl, w17, F18, f15⟩ := hp
    clear gt14
    show Tn _ _ 25 T σ12 [(0, .ref a), (1, .int (iI p)), (2, .int (iI q)), (3, .int (iI r)), (4, .int (iI s)), (5, .int (iI t))] [] _
    refine tn_aload_n dX11_feed_25 rfl 0 rfl ?_
    refine tn_iload_n dX11_feed_26 rfl 3 rfl ?_
    refine tn_callV (M := m_X11_feed) (pc := 27) (ix := 90) (ci := 11) (M' := m_X11_tapeNumber) (As := [.int (iI r)]) (rest := []) dX11_feed_27 ok_X11_tapeNumber im_X11_tapeNumber se_X11_tapeNumber ml11_90 np_X11_tapeNumber rfl rfl ha rfl (Nat.le_of_ble_eq_true rfl) (Nat.le_of_ble_eq_true rfl) rfl (k_X11_tapeNumber_f (d) (T := T) (σ := σ12) (a := a) (n := r) ha (by omega) w17 (by rw [show σ12.2.1 96 a = σ12.2.1 96 a from rfl]; omega)) (fun r19 T21 σ20 gt22 hp => ?_)
    obtain ⟨rfl, rfl, w25, F26, f23⟩ := hp
    clear gt22
    show Tn _ _ 30 T σ20 [(0, .ref a), (1, .int (iI p)), (2, .int (iI q)), (3, .int (iI r)), (4, .int (iI s)), (5, .int (iI t))] [] _
    refine tn_aload_n dX11_feed_30 rfl 0 rfl ?_
    refine tn_iload dX11_feed_31 4 rfl ?_
    refine tn_callV (M := m_X11_feed) (pc := 33) (ix := 90) (ci := 11) (M' := m_X11_tapeNumber) (As := [.int (iI s)]) (rest := []) dX11_feed_33 ok_X11_tapeNumber im_X11_tapeNumber se_X11_tapeNumber ml11_90 np_X11_tapeNumber rfl rfl ha rfl (Nat.le_of_ble_eq_true rfl) (Nat.le_of_ble_eq_true rfl) rfl (k_X11_tapeNumber_f (d) (T := T) (σ := σ20) (a := a) (n := s) ha (by omega) w25 (by rw [show σ20.2.1 96 a = σ20.2.1 96 a from rfl]; omega)) (fun r27 T29 σ28 gt30 hp => ?_)
    obtain ⟨rfl, rfl, w33, F34, f31⟩ := hp
    clear gt30
    show Tn _ _ 36 T σ28 [(0, .ref a), (1, .int (iI p)), (2, .int (iI q)), (3, .int (iI r)), (4, .int (iI s)), (5, .int (iI t))] [] _
    refine tn_aload_n dX11_feed_36 rfl 0 rfl ?_
    refine tn_iload dX11_feed_37 5 rfl ?_
    refine tn_callV (M := m_X11_feed) (pc := 39) (ix := 90) (ci := 11) (M' := m_X11_tapeNumber) (As := [.int (iI t)]) (rest := []) dX11_feed_39 ok_X11_tapeNumber im_X11_tapeNumber se_X11_tapeNumber ml11_90 np_X11_tapeNumber rfl rfl ha rfl (Nat.le_of_ble_eq_true rfl) (Nat.le_of_ble_eq_true rfl) rfl (k_X11_tapeNumber_f (d) (T := T) (σ := σ28) (a := a) (n := t) ha (by omega) w33 (by rw [show σ28.2.1 96 a = σ28.2.1 96 a from rfl]; omega)) (fun r35 T37 σ36 gt38 hp => ?_)
    obtain ⟨rfl, rfl, w41, F42, f39⟩ := hp
    clear gt38
    show Tn _ _ 42 T σ36 [(0, .ref a), (1, .int (iI p)), (2, .int (iI q)), (3, .int (iI r)), (4, .int (iI s)), (5, .int (iI t))] [] _
    refine tn_aload_n dX11_feed_42 rfl 0 rfl ?_
    refine tn_getI (ci := 11) (i := 1) (n := 96) (t := σ36.2.1 96 a) dX11_feed_43 rfl lay_11 (by decide) fl11_87 ha rfl rfl (rfl) ?_
    have g43 : ((0 : Int) ≤ σ36.2.1 96 a ∧ σ36.2.1 96 a ≤ 1200) := wf_96 w41 ha
    have q44 : σ36.2.1 96 a = σ36.2.1 96 a := rfl
    exact tn_iret rfl dX11_feed_46 ⟨_, rfl, rfl, w41, (((((FrC.rfl.trans (FrC.sub F10 (by decide))).trans (FrC.sub F18 (by decide))).trans (FrC.sub F26 (by decide))).trans (FrC.sub F34 (by decide))).trans (FrC.sub F42 (by decide))), by omega, by omega⟩
  · refine tn_iconst dX11_feed_13 ?_
    have q45 : σ.2.1 96 a = σ.2.1 96 a := rfl
    exact tn_iret rfl dX11_feed_14 ⟨_, rfl, rfl, hw, FrC.rfl, by omega, by omega⟩
end
section
theorem cd_X11_end : Cond.code yX11_end cX11_end 2 (some .int) ∈ pWW := pw3 (List.mem_of_getElem? (i := 16) rfl) rfl
abbrev m_X11_end : MT := (yX11_end, cX11_end, 2, (some .int))
theorem ok_X11_end : pOk m_X11_end := ⟨⟨cd_X11_end, ini_11⟩, by decide +kernel, ⟨by decide +kernel, by decide +kernel⟩, Nat.le_of_ble_eq_true rfl⟩
theorem np_X11_end : (parseMethodDescriptor yX11_end.desc).map (fun d => d.parameters.length) = some 1 := by decide +kernel
theorem im_X11_end : Cond.instanceMethod yX11_end ∈ pWW := pw3 (List.mem_of_getElem? (i := 14) rfl) rfl
theorem se_X11_end : Cond.selects RX11 yX11_end yX11_end ∈ pWW := pw3 (List.mem_of_getElem? (i := 15) rfl) rfl
theorem dX11_end_0 : decode cX11_end 0 = .ok (.iload_n 1, 1) := by decide +kernel
theorem dX11_end_1 : decode cX11_end 1 = .ok (.ifCond .lt 11, 3) := by decide +kernel
theorem dX11_end_12 : decode cX11_end 12 = .ok (.iconst (-1), 1) := by decide +kernel
theorem dX11_end_13 : decode cX11_end 13 = .ok (.ireturn, 1) := by decide +kernel
theorem dX11_end_4 : decode cX11_end 4 = .ok (.iload_n 1, 1) := by decide +kernel
theorem dX11_end_5 : decode cX11_end 5 = .ok (.aload_n 0, 1) := by decide +kernel
theorem dX11_end_6 : decode cX11_end 6 = .ok (.getfield 87, 3) := by decide +kernel
theorem dX11_end_9 : decode cX11_end 9 = .ok (.if_icmp .le 5, 3) := by decide +kernel
theorem dX11_end_14 : decode cX11_end 14 = .ok (.aload_n 0, 1) := by decide +kernel
theorem dX11_end_15 : decode cX11_end 15 = .ok (.iload_n 1, 1) := by decide +kernel
theorem dX11_end_16 : decode cX11_end 16 = .ok (.putfield 87, 3) := by decide +kernel
theorem dX11_end_19 : decode cX11_end 19 = .ok (.iload_n 1, 1) := by decide +kernel
theorem dX11_end_20 : decode cX11_end 20 = .ok (.ireturn, 1) := by decide +kernel
set_option maxRecDepth 20000 in
theorem k_X11_end (d : Nat) {T : CT} {σ : MS} {a : Nat} {n : Int} (ha : OB T a 11) (h_n : -2147483648 ≤ n ∧ n ≤ 2147483647) (hw : WT T σ) : Tn (d + 1) m_X11_end 0 T σ [(0, .ref a), (1, .int (iI n))] [] (fun ro T2 σ2 => ∃ v : Int, ro = some (.int (iI v)) ∧ T = T2 ∧ WT T2 σ2 ∧ FrC T [96] σ σ2 ∧ (-2147483648 ≤ v ∧ v ≤ 2147483647) ∧ (((n < 0 ∨ σ.2.1 96 a < n) ∧ v = -1 ∧ σ2.2.1 96 a = σ.2.1 96 a) ∨ (0 ≤ n ∧ n ≤ σ.2.1 96 a ∧ v = n ∧ σ2.2.1 96 a = n))) := by
  refine tn_iload_n dX11_end_0 rfl 1 rfl ?_
  refine tn_if_lt (tgt := 12) dX11_end_1 (by decide) ⟨by omega, by omega⟩ (fun h1 => ?_) (fun h1 => ?_)
  · refine tn_iconst dX11_end_12 ?_
    have q2 : σ.2.1 96 a = σ.2.1 96 a := rfl
    exact tn_iret rfl dX11_end_13 ⟨_, rfl, rfl, hw, FrC.rfl, by omega, by omega⟩
  · refine tn_iload_n dX11_end_4 rfl 1 rfl ?_
    refine tn_aload_n dX11_end_5 rfl 0 rfl ?_
    refine tn_getI (ci := 11) (i := 1) (n := 96) (t := σ.2.1 96 a) dX11_end_6 rfl lay_11 (by decide) fl11_87 ha rfl rfl (rfl) ?_
    have g3 : ((0 : Int) ≤ σ.2.1 96 a ∧ σ.2.1 96 a ≤ 1200) := wf_96 hw ha
    refine tn_icmp_le (tgt := 14) dX11_end_9 (by decide) ⟨by omega, by omega⟩ ⟨by omega, by omega⟩ (fun h4 => ?_) (fun h4 => ?_)
    · refine tn_aload_n dX11_end_14 rfl 0 rfl ?_
      refine tn_iload_n dX11_end_15 rfl 1 rfl ?_
      refine tn_putV (ci := 11) (i := 1) (n := 96) (r := false) (v := n) tyX11 tyX11_ok nmX11 dX11_end_16 rfl lay_11 (by decide) fl11_87 rfl (tyX11_ok 1 (by decide)) rfl rfl rfl ha rfl rfl ?_
      refine tn_iload_n dX11_end_19 rfl 1 rfl ?_
      have q5 : (sA 96 a (n) σ).2.1 96 a = n := ra_eq
      exact tn_iret rfl dX11_end_20 ⟨_, rfl, rfl, (hw.put (by decide) (by decide) (fo_96 (by omega))), (FrC.rfl.put (by decide) (by decide)), by omega, by omega⟩
    · refine tn_iconst dX11_end_12 ?_
      have q6 : σ.2.1 96 a = σ.2.1 96 a := rfl
      exact tn_iret rfl dX11_end_13 ⟨_, rfl, rfl, hw, FrC.rfl, by omega, by omega⟩
end
section
theorem cd_X11_fault : Cond.code yX11_fault cX11_fault 2 (some .int) ∈ pWW := pw4 (List.mem_of_getElem? (i := 54) rfl) rfl
abbrev m_X11_fault : MT := (yX11_fault, cX11_fault, 2, (some .int))
theorem ok_X11_fault : pOk m_X11_fault := ⟨⟨cd_X11_fault, ini_11⟩, by decide +kernel, ⟨by decide +kernel, by decide +kernel⟩, Nat.le_of_ble_eq_true rfl⟩
theorem np_X11_fault : (parseMethodDescriptor yX11_fault.desc).map (fun d => d.parameters.length) = some 1 := by decide +kernel
theorem im_X11_fault : Cond.instanceMethod yX11_fault ∈ pWW := pw4 (List.mem_of_getElem? (i := 52) rfl) rfl
theorem se_X11_fault : Cond.selects RX11 yX11_fault yX11_fault ∈ pWW := pw4 (List.mem_of_getElem? (i := 53) rfl) rfl
theorem fl11_43 : Cond.fieldLink RX11 43 (TX11 10).1 (TX11 10).2.1 (TX11 10).2.2.1 ∈ pWW := pw2 (List.mem_of_getElem? (i := 206) rfl) rfl
theorem fl11_101 : Cond.fieldLink RX11 101 (TX11 9).1 (TX11 9).2.1 (TX11 9).2.2.1 ∈ pWW := pw2 (List.mem_of_getElem? (i := 205) rfl) rfl
theorem dX11_fault_0 : decode cX11_fault 0 = .ok (.iload_n 1, 1) := by decide +kernel
theorem dX11_fault_1 : decode cX11_fault 1 = .ok (.ifCond .ne 8, 3) := by decide +kernel
theorem dX11_fault_9 : decode cX11_fault 9 = .ok (.iload_n 1, 1) := by decide +kernel
theorem dX11_fault_10 : decode cX11_fault 10 = .ok (.iconst 1, 1) := by decide +kernel
theorem dX11_fault_11 : decode cX11_fault 11 = .ok (.if_icmp .ne 10, 3) := by decide +kernel
theorem dX11_fault_21 : decode cX11_fault 21 = .ok (.iconst (-1), 1) := by decide +kernel
theorem dX11_fault_22 : decode cX11_fault 22 = .ok (.ireturn, 1) := by decide +kernel
theorem dX11_fault_14 : decode cX11_fault 14 = .ok (.aload_n 0, 1) := by decide +kernel
theorem dX11_fault_15 : decode cX11_fault 15 = .ok (.getfield 43, 3) := by decide +kernel
theorem dX11_fault_18 : decode cX11_fault 18 = .ok (.goto 4, 3) := by decide +kernel
theorem dX11_fault_4 : decode cX11_fault 4 = .ok (.aload_n 0, 1) := by decide +kernel
theorem dX11_fault_5 : decode cX11_fault 5 = .ok (.getfield 101, 3) := by decide +kernel
theorem dX11_fault_8 : decode cX11_fault 8 = .ok (.ireturn, 1) := by decide +kernel
set_option maxRecDepth 20000 in
theorem k_X11_fault (d : Nat) {T : CT} {σ : MS} {a : Nat} {w : Int} (ha : OB T a 11) (h_w : -2147483648 ≤ w ∧ w ≤ 2147483647) (hw : WT T σ) : Tn (d + 1) m_X11_fault 0 T σ [(0, .ref a), (1, .int (iI w))] [] (fun ro T2 σ2 => ∃ v : Int, ro = some (.int (iI v)) ∧ T = T2 ∧ σ = σ2 ∧ (-2147483648 ≤ v ∧ v ≤ 2147483647)) := by
  refine tn_iload_n dX11_fault_0 rfl 1 rfl ?_
  refine tn_if_ne (tgt := 9) dX11_fault_1 (by decide) ⟨by omega, by omega⟩ (fun h1 => ?_) (fun h1 => ?_)
  · refine tn_iload_n dX11_fault_9 rfl 1 rfl ?_
    refine tn_iconst dX11_fault_10 ?_
    refine tn_icmp_ne (tgt := 21) dX11_fault_11 (by decide) ⟨by omega, by omega⟩ ⟨by decide, by decide⟩ (fun h2 => ?_) (fun h2 => ?_)
    · refine tn_iconst dX11_fault_21 ?_
      exact tn_iret rfl dX11_fault_22 ⟨_, rfl, rfl, rfl, by omega⟩
    · refine tn_aload_n dX11_fault_14 rfl 0 rfl ?_
      refine tn_getI (ci := 11) (i := 10) (n := 105) (t := σ.2.1 105 a) dX11_fault_15 rfl lay_11 (by decide) fl11_43 ha rfl rfl (rfl) ?_
      have g3 : ((-2147483648 : Int) ≤ σ.2.1 105 a ∧ σ.2.1 105 a ≤ 2147483647) := wf_105 hw ha
      refine tn_goto (tgt := 22) dX11_fault_18 (by decide) ?_
      exact tn_iret rfl dX11_fault_22 ⟨_, rfl, rfl, rfl, by omega⟩
  · refine tn_aload_n dX11_fault_4 rfl 0 rfl ?_
    refine tn_getI (ci := 11) (i := 9) (n := 104) (t := σ.2.1 104 a) dX11_fault_5 rfl lay_11 (by decide) fl11_101 ha rfl rfl (rfl) ?_
    have g4 : ((-2147483648 : Int) ≤ σ.2.1 104 a ∧ σ.2.1 104 a ≤ 2147483647) := wf_104 hw ha
    exact tn_iret rfl dX11_fault_8 ⟨_, rfl, rfl, rfl, by omega⟩
end
section
theorem cd_X11_codeOf : Cond.code yX11_codeOf cX11_codeOf 2 (some (.object "LineKeeper$Code")) ∈ pWW := pw4 (List.mem_of_getElem? (i := 62) rfl) rfl
abbrev m_X11_codeOf : MT := (yX11_codeOf, cX11_codeOf, 2, (some (.object "LineKeeper$Code")))
theorem ok_X11_codeOf : pOk m_X11_codeOf := ⟨⟨cd_X11_codeOf, ini_11⟩, by decide +kernel, ⟨by decide +kernel, by decide +kernel⟩, Nat.le_of_ble_eq_true rfl⟩
theorem np_X11_codeOf : (parseMethodDescriptor yX11_codeOf.desc).map (fun d => d.parameters.length) = some 1 := by decide +kernel
theorem im_X11_codeOf : Cond.instanceMethod yX11_codeOf ∈ pWW := pw4 (List.mem_of_getElem? (i := 61) rfl) rfl
theorem se_X11_codeOf : Cond.selects RX11 yX11_codeOf yX11_codeOf ∈ pWW := pws (List.mem_map.mpr ⟨_, lw_pin 37 rfl, rfl⟩) rfl
theorem fl11_116 : Cond.fieldLink RX11 116 (TX11 2).1 (TX11 2).2.1 (TX11 2).2.2.1 ∈ pWW := pw2 (List.mem_of_getElem? (i := 198) rfl) rfl
theorem fl11_19 : Cond.fieldLink RX11 19 (TX11 4).1 (TX11 4).2.1 (TX11 4).2.2.1 ∈ pWW := pw2 (List.mem_of_getElem? (i := 200) rfl) rfl
theorem dX11_codeOf_0 : decode cX11_codeOf 0 = .ok (.iload_n 1, 1) := by decide +kernel
theorem dX11_codeOf_1 : decode cX11_codeOf 1 = .ok (.ifCond .lt 29, 3) := by decide +kernel
theorem dX11_codeOf_30 : decode cX11_codeOf 30 = .ok (.aconst_null, 1) := by decide +kernel
theorem dX11_codeOf_31 : decode cX11_codeOf 31 = .ok (.areturn, 1) := by decide +kernel
theorem dX11_codeOf_4 : decode cX11_codeOf 4 = .ok (.iload_n 1, 1) := by decide +kernel
theorem dX11_codeOf_5 : decode cX11_codeOf 5 = .ok (.aload_n 0, 1) := by decide +kernel
theorem dX11_codeOf_6 : decode cX11_codeOf 6 = .ok (.getfield 116, 3) := by decide +kernel
theorem dX11_codeOf_9 : decode cX11_codeOf 9 = .ok (.if_icmp .ge 21, 3) := by decide +kernel
theorem dX11_codeOf_12 : decode cX11_codeOf 12 = .ok (.iload_n 1, 1) := by decide +kernel
theorem dX11_codeOf_13 : decode cX11_codeOf 13 = .ok (.aload_n 0, 1) := by decide +kernel
theorem dX11_codeOf_14 : decode cX11_codeOf 14 = .ok (.getfield 19, 3) := by decide +kernel
theorem dX11_codeOf_17 : decode cX11_codeOf 17 = .ok (.arraylength, 1) := by decide +kernel
theorem dX11_codeOf_18 : decode cX11_codeOf 18 = .ok (.if_icmp .ge 12, 3) := by decide +kernel
theorem dX11_codeOf_21 : decode cX11_codeOf 21 = .ok (.aload_n 0, 1) := by decide +kernel
theorem dX11_codeOf_22 : decode cX11_codeOf 22 = .ok (.getfield 19, 3) := by decide +kernel
theorem dX11_codeOf_25 : decode cX11_codeOf 25 = .ok (.iload_n 1, 1) := by decide +kernel
theorem dX11_codeOf_26 : decode cX11_codeOf 26 = .ok (.aaload, 1) := by decide +kernel
theorem dX11_codeOf_27 : decode cX11_codeOf 27 = .ok (.goto 4, 3) := by decide +kernel
set_option maxRecDepth 20000 in
theorem k_X11_codeOf (d : Nat) {T : CT} {σ : MS} {a : Nat} {r : Int} (ha : OB T a 11) (h_r : -2147483648 ≤ r ∧ r ≤ 2147483647) (hw : WT T σ) : Tn (d + 1) m_X11_codeOf 0 T σ [(0, .ref a), (1, .int (iI r))] [] (fun ro T2 σ2 => ∃ v : Int, ro = some (vl true v) ∧ T = T2 ∧ σ = σ2 ∧ (v < 0 ∨ ∃ x : Nat, v = (x : Int) ∧ (T2 x).1 = 50)) := by
  refine tn_iload_n dX11_codeOf_0 rfl 1 rfl ?_
  refine tn_if_lt (tgt := 30) dX11_codeOf_1 (by decide) ⟨by omega, by omega⟩ (fun h1 => ?_) (fun h1 => ?_)
  · refine tn_null dX11_codeOf_30 ?_
    exact tn_aret rfl (Or.inl ⟨_, rfl⟩) (Or.inl rfl) dX11_codeOf_31 ⟨-1, congrArg some (vl_null (by decide)).symm, rfl, rfl, Or.inl (by decide)⟩
  · refine tn_iload_n dX11_codeOf_4 rfl 1 rfl ?_
    refine tn_aload_n dX11_codeOf_5 rfl 0 rfl ?_
    refine tn_getI (ci := 11) (i := 2) (n := 97) (t := σ.2.1 97 a) dX11_codeOf_6 rfl lay_11 (by decide) fl11_116 ha rfl rfl (rfl) ?_
    have g2 : ((0 : Int) ≤ σ.2.1 97 a ∧ σ.2.1 97 a ≤ 6) := wf_97 hw ha
    refine tn_icmp_ge (tgt := 30) dX11_codeOf_9 (by decide) ⟨by omega, by omega⟩ ⟨by omega, by omega⟩ (fun h3 => ?_) (fun h3 => ?_)
    · refine tn_null dX11_codeOf_30 ?_
      exact tn_aret rfl (Or.inl ⟨_, rfl⟩) (Or.inl rfl) dX11_codeOf_31 ⟨-1, congrArg some (vl_null (by decide)).symm, rfl, rfl, Or.inl (by decide)⟩
    · refine tn_iload_n dX11_codeOf_12 rfl 1 rfl ?_
      refine tn_aload_n dX11_codeOf_13 rfl 0 rfl ?_
      obtain ⟨x4, hx5, hk6, hl7⟩ : ∃ x : Nat, σ.2.1 99 a = (x : Int) ∧ AR T x 5 6 6 := wf_99 hw ha
      have hk6i : (T x4).1 = 4 ∨ (T x4).1 = 5 := by omega
      refine tn_getR (ci := 11) (i := 4) (n := 99) (x := x4) dX11_codeOf_14 rfl lay_11 (by decide) fl11_19 ha rfl rfl (hx5) ?_
      refine tn_alenX dX11_codeOf_17 (by have q9 := hk6i; omega) ?_
      refine tn_icmp_ge (tgt := 30) dX11_codeOf_18 (by decide) ⟨by omega, by omega⟩ ⟨by omega, by omega⟩ (fun h8 => absurd h8 (by omega)) (fun h8 => ?_)
      refine tn_aload_n dX11_codeOf_21 rfl 0 rfl ?_
      refine tn_getR (ci := 11) (i := 4) (n := 99) (x := x4) dX11_codeOf_22 rfl lay_11 (by decide) fl11_19 ha rfl rfl (hx5) ?_
      refine tn_iload_n dX11_codeOf_25 rfl 1 rfl ?_
      obtain ⟨x9, hx10, hk11⟩ := (hw).2.2.2.1.2 x4 hk6 (r) (by omega) (by omega)
      refine tn_aald (z := r) (x := x9) dX11_codeOf_26 hk6i (by omega) (by omega) (by omega) hx10 ?_
      have hk11o : OB T x9 1 := ⟨by omega, by rw [hk11]; rfl, by omega⟩
      refine tn_goto (tgt := 31) dX11_codeOf_27 (by decide) ?_
      exact tn_aret rfl (Or.inl ⟨_, rfl⟩) (Or.inr ⟨_, rfl⟩) dX11_codeOf_31 ⟨(x9 : Int), congrArg some (vl_ref rfl).symm, rfl, rfl, Or.inr ⟨_, rfl, hk11⟩⟩
end
section
theorem cd_X11_routine : Cond.code yX11_routine cX11_routine 4 (some .int) ∈ pWW := pw4 (List.mem_of_getElem? (i := 58) rfl) rfl
abbrev m_X11_routine : MT := (yX11_routine, cX11_routine, 4, (some .int))
theorem ok_X11_routine : pOk m_X11_routine := ⟨⟨cd_X11_routine, ini_11⟩, by decide +kernel, ⟨by decide +kernel, by decide +kernel⟩, Nat.le_of_ble_eq_true rfl⟩
theorem np_X11_routine : (parseMethodDescriptor yX11_routine.desc).map (fun d => d.parameters.length) = some 2 := by decide +kernel
theorem im_X11_routine : Cond.instanceMethod yX11_routine ∈ pWW := pw4 (List.mem_of_getElem? (i := 56) rfl) rfl
theorem se_X11_routine : Cond.selects RX11 yX11_routine yX11_routine ∈ pWW := pw4 (List.mem_of_getElem? (i := 57) rfl) rfl
theorem ml11_123 : Cond.methodLink RX11 123 yX11_codeOf ∈ pWW := pw4 (List.mem_of_getElem? (i := 59) rfl) rfl
theorem fl11_134 : Cond.fieldLink RX11 134 (TX1 2).1 (TX1 2).2.1 (TX1 2).2.2.1 ∈ pWW := pw1 (List.mem_of_getElem? (i := 89) rfl) rfl
theorem ml11_149 : Cond.methodLink RX11 149 yX1_homeOf ∈ pWW := pw4 (List.mem_of_getElem? (i := 84) rfl) rfl
theorem fl11_127 : Cond.fieldLink RX11 127 (TX1 1).1 (TX1 1).2.1 (TX1 1).2.2.1 ∈ pWW := pw1 (List.mem_of_getElem? (i := 84) rfl) rfl
theorem ml11_130 : Cond.methodLink RX11 130 yX1_acts ∈ pWW := pw4 (List.mem_of_getElem? (i := 63) rfl) rfl
theorem fl11_137 : Cond.fieldLink RX11 137 (TX1 3).1 (TX1 3).2.1 (TX1 3).2.2.1 ∈ pWW := pw1 (List.mem_of_getElem? (i := 96) rfl) rfl
theorem ml11_140 : Cond.methodLink RX11 140 yX1_registers ∈ pWW := pw4 (List.mem_of_getElem? (i := 70) rfl) rfl
theorem fl11_143 : Cond.fieldLink RX11 143 (TX1 5).1 (TX1 5).2.1 (TX1 5).2.2.1 ∈ pWW := pw1 (List.mem_of_getElem? (i := 105) rfl) rfl
theorem fl11_146 : Cond.fieldLink RX11 146 (TX1 4).1 (TX1 4).2.1 (TX1 4).2.2.1 ∈ pWW := pw1 (List.mem_of_getElem? (i := 100) rfl) rfl
theorem dX11_routine_0 : decode cX11_routine 0 = .ok (.aload_n 0, 1) := by decide +kernel
theorem dX11_routine_1 : decode cX11_routine 1 = .ok (.iload_n 1, 1) := by decide +kernel
theorem dX11_routine_2 : decode cX11_routine 2 = .ok (.invokevirtual 123, 3) := by decide +kernel
theorem dX11_routine_5 : decode cX11_routine 5 = .ok (.astore_n 3, 1) := by decide +kernel
theorem dX11_routine_6 : decode cX11_routine 6 = .ok (.aload_n 3, 1) := by decide +kernel
theorem dX11_routine_7 : decode cX11_routine 7 = .ok (.ifnull 7, 3) := by decide +kernel
theorem dX11_routine_14 : decode cX11_routine 14 = .ok (.iconst (-1), 1) := by decide +kernel
theorem dX11_routine_15 : decode cX11_routine 15 = .ok (.ireturn, 1) := by decide +kernel
theorem dX11_routine_10 : decode cX11_routine 10 = .ok (.iload_n 2, 1) := by decide +kernel
theorem dX11_routine_11 : decode cX11_routine 11 = .ok (.ifCond .ge 5, 3) := by decide +kernel
theorem dX11_routine_16 : decode cX11_routine 16 = .ok (.iload_n 2, 1) := by decide +kernel
theorem dX11_routine_17 : decode cX11_routine 17 = .ok (.tableswitch 78 0 6 #[43, 48, 53, 58, 63, 68, 73], 43) := by decide +kernel
theorem dX11_routine_95 : decode cX11_routine 95 = .ok (.iload_n 2, 1) := by decide +kernel
theorem dX11_routine_96 : decode cX11_routine 96 = .ok (.bipush 7, 2) := by decide +kernel
theorem dX11_routine_98 : decode cX11_routine 98 = .ok (.isub, 1) := by decide +kernel
theorem dX11_routine_99 : decode cX11_routine 99 = .ok (.aload_n 3, 1) := by decide +kernel
theorem dX11_routine_100 : decode cX11_routine 100 = .ok (.getfield 134, 3) := by decide +kernel
theorem dX11_routine_103 : decode cX11_routine 103 = .ok (.if_icmp .ge 15, 3) := by decide +kernel
theorem dX11_routine_118 : decode cX11_routine 118 = .ok (.iconst (-1), 1) := by decide +kernel
theorem dX11_routine_119 : decode cX11_routine 119 = .ok (.ireturn, 1) := by decide +kernel
theorem dX11_routine_106 : decode cX11_routine 106 = .ok (.aload_n 3, 1) := by decide +kernel
theorem dX11_routine_107 : decode cX11_routine 107 = .ok (.iconst 0, 1) := by decide +kernel
theorem dX11_routine_108 : decode cX11_routine 108 = .ok (.iload_n 2, 1) := by decide +kernel
theorem dX11_routine_109 : decode cX11_routine 109 = .ok (.bipush 7, 2) := by decide +kernel
theorem dX11_routine_111 : decode cX11_routine 111 = .ok (.isub, 1) := by decide +kernel
theorem dX11_routine_112 : decode cX11_routine 112 = .ok (.invokevirtual 149, 3) := by decide +kernel
theorem dX11_routine_115 : decode cX11_routine 115 = .ok (.goto 4, 3) := by decide +kernel
theorem dX11_routine_60 : decode cX11_routine 60 = .ok (.aload_n 3, 1) := by decide +kernel
theorem dX11_routine_61 : decode cX11_routine 61 = .ok (.getfield 127, 3) := by decide +kernel
theorem dX11_routine_64 : decode cX11_routine 64 = .ok (.ireturn, 1) := by decide +kernel
theorem dX11_routine_65 : decode cX11_routine 65 = .ok (.aload_n 3, 1) := by decide +kernel
theorem dX11_routine_66 : decode cX11_routine 66 = .ok (.invokevirtual 130, 3) := by decide +kernel
theorem dX11_routine_69 : decode cX11_routine 69 = .ok (.ireturn, 1) := by decide +kernel
theorem dX11_routine_70 : decode cX11_routine 70 = .ok (.aload_n 3, 1) := by decide +kernel
theorem dX11_routine_71 : decode cX11_routine 71 = .ok (.getfield 134, 3) := by decide +kernel
theorem dX11_routine_74 : decode cX11_routine 74 = .ok (.ireturn, 1) := by decide +kernel
theorem dX11_routine_75 : decode cX11_routine 75 = .ok (.aload_n 3, 1) := by decide +kernel
theorem dX11_routine_76 : decode cX11_routine 76 = .ok (.getfield 137, 3) := by decide +kernel
theorem dX11_routine_79 : decode cX11_routine 79 = .ok (.ireturn, 1) := by decide +kernel
theorem dX11_routine_80 : decode cX11_routine 80 = .ok (.aload_n 3, 1) := by decide +kernel
theorem dX11_routine_81 : decode cX11_routine 81 = .ok (.invokevirtual 140, 3) := by decide +kernel
theorem dX11_routine_84 : decode cX11_routine 84 = .ok (.ireturn, 1) := by decide +kernel
theorem dX11_routine_85 : decode cX11_routine 85 = .ok (.aload_n 3, 1) := by decide +kernel
theorem dX11_routine_86 : decode cX11_routine 86 = .ok (.getfield 143, 3) := by decide +kernel
theorem dX11_routine_89 : decode cX11_routine 89 = .ok (.ireturn, 1) := by decide +kernel
theorem dX11_routine_90 : decode cX11_routine 90 = .ok (.aload_n 3, 1) := by decide +kernel
theorem dX11_routine_91 : decode cX11_routine 91 = .ok (.getfield 146, 3) := by decide +kernel
theorem dX11_routine_94 : decode cX11_routine 94 = .ok (.ireturn, 1) := by decide +kernel
set_option maxRecDepth 20000 in
theorem k_X11_routine (d : Nat) {T : CT} {σ : MS} {a : Nat} {r : Int} {w : Int} (ha : OB T a 11) (h_r : -2147483648 ≤ r ∧ r ≤ 2147483647) (h_w : -2147483648 ≤ w ∧ w ≤ 2147483647) (hw : WT T σ) : Tn (d + 5) m_X11_routine 0 T σ [(0, .ref a), (1, .int (iI r)), (2, .int (iI w))] [] (fun ro T2 σ2 => ∃ v : Int, ro = some (.int (iI v)) ∧ T = T2 ∧ σ = σ2 ∧ (-2147483648 ≤ v ∧ v ≤ 2147483647)) := by
  refine tn_aload_n dX11_routine_0 rfl 0 rfl ?_
  refine tn_iload_n dX11_routine_1 rfl 1 rfl ?_
  refine tn_callV (M := m_X11_routine) (pc := 2) (ix := 123) (ci := 11) (M' := m_X11_codeOf) (As := [.int (iI r)]) (rest := []) dX11_routine_2 ok_X11_codeOf im_X11_codeOf se_X11_codeOf ml11_123 np_X11_codeOf rfl rfl ha rfl (Nat.le_of_ble_eq_true rfl) (Nat.le_of_ble_eq_true rfl) rfl (k_X11_codeOf (d + 3) (T := T) (σ := σ) (a := a) (r := r) ha (by omega) hw ) (fun r1 T3 σ2 gt4 hp => ?_)
  obtain ⟨v5, rfl, rfl, rfl, rv6⟩ := hp
  clear gt4
  rcases rv6 with rv6 | ⟨x7, rfl, hk8⟩
  · show Tn _ _ 5 T σ [(0, .ref a), (1, .int (iI r)), (2, .int (iI w))] (vl true v5 :: []) _
    rw [vl_null rv6]
    refine tn_astore_nN (L' := [(3, .null), (0, .ref a), (1, .int (iI r)), (2, .int (iI w))]) dX11_routine_5 rfl (by decide) rfl ?_
    refine tn_aload_nN dX11_routine_6 rfl 0 rfl ?_
    refine tn_ifnullN (tgt := 14) dX11_routine_7 (by decide) ?_
    refine tn_iconst dX11_routine_14 ?_
    exact tn_iret rfl dX11_routine_15 ⟨_, rfl, rfl, rfl, by omega⟩
  · show Tn _ _ 5 T σ [(0, .ref a), (1, .int (iI r)), (2, .int (iI w))] (vl true (x7 : Int) :: []) _
    rw [vl_ref rfl]
    have hk8o : OB T x7 1 := ⟨by omega, by rw [hk8]; rfl, by omega⟩
    refine tn_astore_n (L' := [(3, .ref x7), (0, .ref a), (1, .int (iI r)), (2, .int (iI w))]) dX11_routine_5 rfl (by decide) rfl ?_
    refine tn_aload_n dX11_routine_6 rfl 0 rfl ?_
    refine tn_ifnull dX11_routine_7 ?_
    refine tn_iload_n dX11_routine_10 rfl 3 rfl ?_
    refine tn_if_ge (tgt := 16) dX11_routine_11 (by decide) ⟨by omega, by omega⟩ (fun h9 => ?_) (fun h9 => ?_)
    · refine tn_iload_n dX11_routine_16 rfl 3 rfl ?_
      by_cases h10 : w < 0 ∨ 6 < w
      · refine tn_tableOut (tgt := 95) dX11_routine_17 (x := w) ⟨by omega, by omega⟩ h10 (by decide) ?_
        refine tn_iload_n dX11_routine_95 rfl 3 rfl ?_
        refine tn_bipush dX11_routine_96 (by decide) ?_
        refine tn_isub dX11_routine_98 ?_
        refine tn_aload_n dX11_routine_99 rfl 0 rfl ?_
        refine tn_getI (ci := 1) (i := 2) (n := 7) (t := σ.2.1 7 x7) dX11_routine_100 rfl lay_1 (by decide) fl11_134 hk8o rfl rfl (rfl) ?_
        have g11 : ((0 : Int) ≤ σ.2.1 7 x7 ∧ σ.2.1 7 x7 ≤ 12) := wf_7 hw hk8o
        refine tn_icmp_ge (tgt := 118) dX11_routine_103 (by decide) ⟨by omega, by omega⟩ ⟨by omega, by omega⟩ (fun h12 => ?_) (fun h12 => ?_)
        · refine tn_iconst dX11_routine_118 ?_
          exact tn_iret rfl dX11_routine_119 ⟨_, rfl, rfl, rfl, by omega⟩
        · refine tn_aload_n dX11_routine_106 rfl 0 rfl ?_
          refine tn_iconst dX11_routine_107 ?_
          refine tn_iload_n dX11_routine_108 rfl 3 rfl ?_
          refine tn_bipush dX11_routine_109 (by decide) ?_
          refine tn_isub dX11_routine_111 ?_
          refine tn_callV (M := m_X11_routine) (pc := 112) (ix := 149) (ci := 1) (M' := m_X1_homeOf) (As := [.int (iI 0), .int (iI (w - 7))]) (rest := []) dX11_routine_112 ok_X1_homeOf im_X1_homeOf se_X1_homeOf ml11_149 np_X1_homeOf rfl rfl hk8o rfl (Nat.le_of_ble_eq_true rfl) (Nat.le_of_ble_eq_true rfl) rfl (k_X1_homeOf (d + 2) (T := T) (σ := σ) (a := x7) (f := 0) (m := w - 7) hk8o (by decide) (by omega) hw ) (fun r13 T15 σ14 gt16 hp => ?_)
          obtain ⟨v18, rfl, rfl, rfl, f17⟩ := hp
          clear gt16
          show Tn _ _ 115 T σ [(3, .ref x7), (0, .ref a), (1, .int (iI r)), (2, .int (iI w))] [.int (iI v18)] _
          refine tn_goto (tgt := 119) dX11_routine_115 (by decide) ?_
          exact tn_iret rfl dX11_routine_119 ⟨_, rfl, rfl, rfl, by omega⟩
      · have h19 : w = 0 ∨ w = 1 ∨ w = 2 ∨ w = 3 ∨ w = 4 ∨ w = 5 ∨ w = 6 := by omega
        rcases h19 with h19 | h19 | h19 | h19 | h19 | h19 | h19
        · refine tn_tableIn (tgt := 60) (off := 43) dX11_routine_17 (x := w) ⟨by omega, by omega⟩ (by omega) (by omega) (by rw [h19]; rfl) (by decide) ?_
          refine tn_aload_n dX11_routine_60 rfl 0 rfl ?_
          refine tn_getI (ci := 1) (i := 1) (n := 6) (t := σ.2.1 6 x7) dX11_routine_61 rfl lay_1 (by decide) fl11_127 hk8o rfl rfl (rfl) ?_
          have g20 : ((0 : Int) ≤ σ.2.1 6 x7 ∧ σ.2.1 6 x7 ≤ 5000) ∧ ((T x7).1 = 50 → σ.2.1 6 x7 ≤ 200) := wf_6 hw hk8o
          have g20x := g20.2
          replace g20 := g20.1
          have g20x := g20x hk8
          exact tn_iret rfl dX11_routine_64 ⟨_, rfl, rfl, rfl, by omega⟩
        · refine tn_tableIn (tgt := 65) (off := 48) dX11_routine_17 (x := w) ⟨by omega, by omega⟩ (by omega) (by omega) (by rw [h19]; rfl) (by decide) ?_
          refine tn_aload_n dX11_routine_65 rfl 0 rfl ?_
          refine tn_callV (M := m_X11_routine) (pc := 66) (ix := 130) (ci := 1) (M' := m_X1_acts) (As := []) (rest := []) dX11_routine_66 ok_X1_acts im_X1_acts se_X1_acts ml11_130 np_X1_acts rfl rfl hk8o rfl (Nat.le_of_ble_eq_true rfl) (Nat.le_of_ble_eq_true rfl) rfl (k_X1_acts (d + 2) (T := T) (σ := σ) (a := x7) hk8o hw ) (fun r21 T23 σ22 gt24 hp => ?_)
          obtain ⟨v26, rfl, rfl, rfl, f25⟩ := hp
          clear gt24
          show Tn _ _ 69 T σ [(3, .ref x7), (0, .ref a), (1, .int (iI r)), (2, .int (iI w))] [.int (iI v26)] _
          exact tn_iret rfl dX11_routine_69 ⟨_, rfl, rfl, rfl, by omega⟩
        · refine tn_tableIn (tgt := 70) (off := 53) dX11_routine_17 (x := w) ⟨by omega, by omega⟩ (by omega) (by omega) (by rw [h19]; rfl) (by decide) ?_
          refine tn_aload_n dX11_routine_70 rfl 0 rfl ?_
          refine tn_getI (ci := 1) (i := 2) (n := 7) (t := σ.2.1 7 x7) dX11_routine_71 rfl lay_1 (by decide) fl11_134 hk8o rfl rfl (rfl) ?_
          have g27 : ((0 : Int) ≤ σ.2.1 7 x7 ∧ σ.2.1 7 x7 ≤ 12) := wf_7 hw hk8o
          exact tn_iret rfl dX11_routine_74 ⟨_, rfl, rfl, rfl, by omega⟩
        · refine tn_tableIn (tgt := 75) (off := 58) dX11_routine_17 (x := w) ⟨by omega, by omega⟩ (by omega) (by omega) (by rw [h19]; rfl) (by decide) ?_
          refine tn_aload_n dX11_routine_75 rfl 0 rfl ?_
          refine tn_getI (ci := 1) (i := 3) (n := 8) (t := σ.2.1 8 x7) dX11_routine_76 rfl lay_1 (by decide) fl11_137 hk8o rfl rfl (rfl) ?_
          have g28 : ((0 : Int) ≤ σ.2.1 8 x7 ∧ σ.2.1 8 x7 ≤ 4) := wf_8 hw hk8o
          exact tn_iret rfl dX11_routine_79 ⟨_, rfl, rfl, rfl, by omega⟩
        · refine tn_tableIn (tgt := 80) (off := 63) dX11_routine_17 (x := w) ⟨by omega, by omega⟩ (by omega) (by omega) (by rw [h19]; rfl) (by decide) ?_
          refine tn_aload_n dX11_routine_80 rfl 0 rfl ?_
          refine tn_callV (M := m_X11_routine) (pc := 81) (ix := 140) (ci := 1) (M' := m_X1_registers) (As := []) (rest := []) dX11_routine_81 ok_X1_registers im_X1_registers se_X1_registers ml11_140 np_X1_registers rfl rfl hk8o rfl (Nat.le_of_ble_eq_true rfl) (Nat.le_of_ble_eq_true rfl) rfl (k_X1_registers (d) (T := T) (σ := σ) (a := x7) hk8o hw ) (fun r29 T31 σ30 gt32 hp => ?_)
          obtain ⟨v34, rfl, rfl, rfl, f33⟩ := hp
          clear gt32
          show Tn _ _ 84 T σ [(3, .ref x7), (0, .ref a), (1, .int (iI r)), (2, .int (iI w))] [.int (iI v34)] _
          exact tn_iret rfl dX11_routine_84 ⟨_, rfl, rfl, rfl, by omega⟩
        · refine tn_tableIn (tgt := 85) (off := 68) dX11_routine_17 (x := w) ⟨by omega, by omega⟩ (by omega) (by omega) (by rw [h19]; rfl) (by decide) ?_
          refine tn_aload_n dX11_routine_85 rfl 0 rfl ?_
          refine tn_getI (ci := 1) (i := 5) (n := 10) (t := σ.2.1 10 x7) dX11_routine_86 rfl lay_1 (by decide) fl11_143 hk8o rfl rfl (rfl) ?_
          have g35 : ((0 : Int) ≤ σ.2.1 10 x7 ∧ σ.2.1 10 x7 ≤ 12) := wf_10 hw hk8o
          exact tn_iret rfl dX11_routine_89 ⟨_, rfl, rfl, rfl, by omega⟩
        · refine tn_tableIn (tgt := 90) (off := 73) dX11_routine_17 (x := w) ⟨by omega, by omega⟩ (by omega) (by omega) (by rw [h19]; rfl) (by decide) ?_
          refine tn_aload_n dX11_routine_90 rfl 0 rfl ?_
          refine tn_getI (ci := 1) (i := 4) (n := 9) (t := σ.2.1 9 x7) dX11_routine_91 rfl lay_1 (by decide) fl11_146 hk8o rfl rfl (rfl) ?_
          have g36 : ((-2147483648 : Int) ≤ σ.2.1 9 x7 ∧ σ.2.1 9 x7 ≤ 2147483647) := wf_9 hw hk8o
          exact tn_iret rfl dX11_routine_94 ⟨_, rfl, rfl, rfl, by omega⟩
    · refine tn_iconst dX11_routine_14 ?_
      exact tn_iret rfl dX11_routine_15 ⟨_, rfl, rfl, rfl, by omega⟩
end
section
theorem cd_X11_item : Cond.code yX11_item cX11_item 5 (some .int) ∈ pWW := pw4 (List.mem_of_getElem? (i := 88) rfl) rfl
abbrev m_X11_item : MT := (yX11_item, cX11_item, 5, (some .int))
theorem ok_X11_item : pOk m_X11_item := ⟨⟨cd_X11_item, ini_11⟩, by decide +kernel, ⟨by decide +kernel, by decide +kernel⟩, Nat.le_of_ble_eq_true rfl⟩
theorem np_X11_item : (parseMethodDescriptor yX11_item.desc).map (fun d => d.parameters.length) = some 3 := by decide +kernel
theorem im_X11_item : Cond.instanceMethod yX11_item ∈ pWW := pw4 (List.mem_of_getElem? (i := 86) rfl) rfl
theorem se_X11_item : Cond.selects RX11 yX11_item yX11_item ∈ pWW := pw4 (List.mem_of_getElem? (i := 87) rfl) rfl
theorem fl11_152 : Cond.fieldLink RX11 152 "LineKeeper" "ASKED" "[I" ∈ pWW := pw4 (List.mem_of_getElem? (i := 89) rfl) rfl
theorem ml11_156 : Cond.methodLink RX11 156 yX1_get ∈ pWW := pw4 (List.mem_of_getElem? (i := 91) rfl) rfl
theorem dX11_item_0 : decode cX11_item 0 = .ok (.aload_n 0, 1) := by decide +kernel
theorem dX11_item_1 : decode cX11_item 1 = .ok (.iload_n 1, 1) := by decide +kernel
theorem dX11_item_2 : decode cX11_item 2 = .ok (.invokevirtual 123, 3) := by decide +kernel
theorem dX11_item_5 : decode cX11_item 5 = .ok (.astore 4, 2) := by decide +kernel
theorem dX11_item_7 : decode cX11_item 7 = .ok (.aload 4, 2) := by decide +kernel
theorem dX11_item_9 : decode cX11_item 9 = .ok (.ifnull 28, 3) := by decide +kernel
theorem dX11_item_37 : decode cX11_item 37 = .ok (.iconst (-1), 1) := by decide +kernel
theorem dX11_item_38 : decode cX11_item 38 = .ok (.ireturn, 1) := by decide +kernel
theorem dX11_item_12 : decode cX11_item 12 = .ok (.iload_n 2, 1) := by decide +kernel
theorem dX11_item_13 : decode cX11_item 13 = .ok (.ifCond .lt 24, 3) := by decide +kernel
theorem dX11_item_16 : decode cX11_item 16 = .ok (.iload_n 2, 1) := by decide +kernel
theorem dX11_item_17 : decode cX11_item 17 = .ok (.aload 4, 2) := by decide +kernel
theorem dX11_item_19 : decode cX11_item 19 = .ok (.getfield 127, 3) := by decide +kernel
theorem dX11_item_22 : decode cX11_item 22 = .ok (.if_icmp .ge 15, 3) := by decide +kernel
theorem dX11_item_25 : decode cX11_item 25 = .ok (.iload_n 3, 1) := by decide +kernel
theorem dX11_item_26 : decode cX11_item 26 = .ok (.ifCond .lt 11, 3) := by decide +kernel
theorem dX11_item_29 : decode cX11_item 29 = .ok (.iload_n 3, 1) := by decide +kernel
theorem dX11_item_30 : decode cX11_item 30 = .ok (.getstatic 152, 3) := by decide +kernel
theorem dX11_item_33 : decode cX11_item 33 = .ok (.arraylength, 1) := by decide +kernel
theorem dX11_item_34 : decode cX11_item 34 = .ok (.if_icmp .lt 5, 3) := by decide +kernel
theorem dX11_item_39 : decode cX11_item 39 = .ok (.aload 4, 2) := by decide +kernel
theorem dX11_item_41 : decode cX11_item 41 = .ok (.iload_n 2, 1) := by decide +kernel
theorem dX11_item_42 : decode cX11_item 42 = .ok (.getstatic 152, 3) := by decide +kernel
theorem dX11_item_45 : decode cX11_item 45 = .ok (.iload_n 3, 1) := by decide +kernel
theorem dX11_item_46 : decode cX11_item 46 = .ok (.iaload, 1) := by decide +kernel
theorem dX11_item_47 : decode cX11_item 47 = .ok (.invokevirtual 156, 3) := by decide +kernel
theorem dX11_item_50 : decode cX11_item 50 = .ok (.ireturn, 1) := by decide +kernel
set_option maxRecDepth 20000 in
theorem k_X11_item (d : Nat) {T : CT} {σ : MS} {a : Nat} {r : Int} {k : Int} {w : Int} (ha : OB T a 11) (h_r : -2147483648 ≤ r ∧ r ≤ 2147483647) (h_k : -2147483648 ≤ k ∧ k ≤ 2147483647) (h_w : -2147483648 ≤ w ∧ w ≤ 2147483647) (hw : WT T σ) : Tn (d + 2) m_X11_item 0 T σ [(0, .ref a), (1, .int (iI r)), (2, .int (iI k)), (3, .int (iI w))] [] (fun ro T2 σ2 => ∃ v : Int, ro = some (.int (iI v)) ∧ T = T2 ∧ σ = σ2 ∧ (-2147483648 ≤ v ∧ v ≤ 2147483647)) := by
  refine tn_aload_n dX11_item_0 rfl 0 rfl ?_
  refine tn_iload_n dX11_item_1 rfl 1 rfl ?_
  refine tn_callV (M := m_X11_item) (pc := 2) (ix := 123) (ci := 11) (M' := m_X11_codeOf) (As := [.int (iI r)]) (rest := []) dX11_item_2 ok_X11_codeOf im_X11_codeOf se_X11_codeOf ml11_123 np_X11_codeOf rfl rfl ha rfl (Nat.le_of_ble_eq_true rfl) (Nat.le_of_ble_eq_true rfl) rfl (k_X11_codeOf (d) (T := T) (σ := σ) (a := a) (r := r) ha (by omega) hw ) (fun r1 T3 σ2 gt4 hp => ?_)
  obtain ⟨v5, rfl, rfl, rfl, rv6⟩ := hp
  clear gt4
  rcases rv6 with rv6 | ⟨x7, rfl, hk8⟩
  · show Tn _ _ 5 T σ [(0, .ref a), (1, .int (iI r)), (2, .int (iI k)), (3, .int (iI w))] (vl true v5 :: []) _
    rw [vl_null rv6]
    refine tn_astoreN (L' := [(4, .null), (0, .ref a), (1, .int (iI r)), (2, .int (iI k)), (3, .int (iI w))]) dX11_item_5 (by decide) rfl ?_
    refine tn_aloadN dX11_item_7 0 rfl ?_
    refine tn_ifnullN (tgt := 37) dX11_item_9 (by decide) ?_
    refine tn_iconst dX11_item_37 ?_
    exact tn_iret rfl dX11_item_38 ⟨_, rfl, rfl, rfl, by omega⟩
  · show Tn _ _ 5 T σ [(0, .ref a), (1, .int (iI r)), (2, .int (iI k)), (3, .int (iI w))] (vl true (x7 : Int) :: []) _
    rw [vl_ref rfl]
    have hk8o : OB T x7 1 := ⟨by omega, by rw [hk8]; rfl, by omega⟩
    refine tn_astore (L' := [(4, .ref x7), (0, .ref a), (1, .int (iI r)), (2, .int (iI k)), (3, .int (iI w))]) dX11_item_5 (by decide) rfl ?_
    refine tn_aload dX11_item_7 0 rfl ?_
    refine tn_ifnull dX11_item_9 ?_
    refine tn_iload_n dX11_item_12 rfl 3 rfl ?_
    refine tn_if_lt (tgt := 37) dX11_item_13 (by decide) ⟨by omega, by omega⟩ (fun h9 => ?_) (fun h9 => ?_)
    · refine tn_iconst dX11_item_37 ?_
      exact tn_iret rfl dX11_item_38 ⟨_, rfl, rfl, rfl, by omega⟩
    · refine tn_iload_n dX11_item_16 rfl 3 rfl ?_
      refine tn_aload dX11_item_17 0 rfl ?_
      refine tn_getI (ci := 1) (i := 1) (n := 6) (t := σ.2.1 6 x7) dX11_item_19 rfl lay_1 (by decide) fl11_127 hk8o rfl rfl (rfl) ?_
      have g10 : ((0 : Int) ≤ σ.2.1 6 x7 ∧ σ.2.1 6 x7 ≤ 5000) ∧ ((T x7).1 = 50 → σ.2.1 6 x7 ≤ 200) := wf_6 hw hk8o
      have g10x := g10.2
      replace g10 := g10.1
      have g10x := g10x hk8
      refine tn_icmp_ge (tgt := 37) dX11_item_22 (by decide) ⟨by omega, by omega⟩ ⟨by omega, by omega⟩ (fun h11 => ?_) (fun h11 => ?_)
      · refine tn_iconst dX11_item_37 ?_
        exact tn_iret rfl dX11_item_38 ⟨_, rfl, rfl, rfl, by omega⟩
      · refine tn_iload_n dX11_item_25 rfl 4 rfl ?_
        refine tn_if_lt (tgt := 37) dX11_item_26 (by decide) ⟨by omega, by omega⟩ (fun h12 => ?_) (fun h12 => ?_)
        · refine tn_iconst dX11_item_37 ?_
          exact tn_iret rfl dX11_item_38 ⟨_, rfl, rfl, rfl, by omega⟩
        · refine tn_iload_n dX11_item_29 rfl 4 rfl ?_
          refine tn_stLen st_ak dX11_item_30 fl11_152 dX11_item_33 ?_
          show Tn _ _ 34 T σ [(4, .ref x7), (0, .ref a), (1, .int (iI r)), (2, .int (iI k)), (3, .int (iI w))] (.int (iI 8) :: [.int (iI w)]) _
          refine tn_icmp_lt (tgt := 39) dX11_item_34 (by decide) ⟨by omega, by omega⟩ ⟨by decide, by decide⟩ (fun h13 => ?_) (fun h13 => ?_)
          · refine tn_aload dX11_item_39 0 rfl ?_
            refine tn_iload_n dX11_item_41 rfl 3 rfl ?_
            refine tn_stInt (z := w) st_ak dX11_item_42 fl11_152 (Or.inl ⟨_, rfl, rfl, dX11_item_45⟩) (q := 4) rfl dX11_item_46 (by omega) (by omega) (by decide) (fun v14 g15 => ?_)
            have g15r := ak_rng g15
            clear g15
            show Tn _ _ 47 T σ [(4, .ref x7), (0, .ref a), (1, .int (iI r)), (2, .int (iI k)), (3, .int (iI w))] [.int (iI v14), .int (iI k), .ref x7] _
            refine tn_callV (M := m_X11_item) (pc := 47) (ix := 156) (ci := 1) (M' := m_X1_get) (As := [.int (iI k), .int (iI v14)]) (rest := []) dX11_item_47 ok_X1_get im_X1_get se_X1_get ml11_156 np_X1_get rfl rfl hk8o rfl (Nat.le_of_ble_eq_true rfl) (Nat.le_of_ble_eq_true rfl) rfl (k_X1_get (d) (T := T) (σ := σ) (a := x7) (k := k) (c := v14) hk8o (by omega) (by omega) hw (by omega)) (fun r16 T18 σ17 gt19 hp => ?_)
            obtain ⟨v21, rfl, rfl, rfl, f20⟩ := hp
            clear gt19
            show Tn _ _ 50 T σ [(4, .ref x7), (0, .ref a), (1, .int (iI r)), (2, .int (iI k)), (3, .int (iI w))] [.int (iI v21)] _
            exact tn_iret rfl dX11_item_50 ⟨_, rfl, rfl, rfl, by omega⟩
          · refine tn_iconst dX11_item_37 ?_
            exact tn_iret rfl dX11_item_38 ⟨_, rfl, rfl, rfl, by omega⟩
end
section
theorem cd_X11_frame : Cond.code yX11_frame cX11_frame 5 (some .int) ∈ pWW := pw4 (List.mem_of_getElem? (i := 95) rfl) rfl
abbrev m_X11_frame : MT := (yX11_frame, cX11_frame, 5, (some .int))
theorem ok_X11_frame : pOk m_X11_frame := ⟨⟨cd_X11_frame, ini_11⟩, by decide +kernel, ⟨by decide +kernel, by decide +kernel⟩, Nat.le_of_ble_eq_true rfl⟩
theorem np_X11_frame : (parseMethodDescriptor yX11_frame.desc).map (fun d => d.parameters.length) = some 3 := by decide +kernel
theorem im_X11_frame : Cond.instanceMethod yX11_frame ∈ pWW := pw4 (List.mem_of_getElem? (i := 93) rfl) rfl
theorem se_X11_frame : Cond.selects RX11 yX11_frame yX11_frame ∈ pWW := pw4 (List.mem_of_getElem? (i := 94) rfl) rfl
theorem fl11_159 : Cond.fieldLink RX11 159 (TX1 6).1 (TX1 6).2.1 (TX1 6).2.2.1 ∈ pWW := pw1 (List.mem_of_getElem? (i := 109) rfl) rfl
theorem ml11_162 : Cond.methodLink RX11 162 yX11_at ∈ pWW := pw4 (List.mem_of_getElem? (i := 96) rfl) rfl
theorem fl11_166 : Cond.fieldLink RX11 166 (TX1 7).1 (TX1 7).2.1 (TX1 7).2.2.1 ∈ pWW := pw1 (List.mem_of_getElem? (i := 113) rfl) rfl
theorem fl11_169 : Cond.fieldLink RX11 169 (TX1 8).1 (TX1 8).2.1 (TX1 8).2.2.1 ∈ pWW := pw1 (List.mem_of_getElem? (i := 117) rfl) rfl
theorem dX11_frame_0 : decode cX11_frame 0 = .ok (.aload_n 0, 1) := by decide +kernel
theorem dX11_frame_1 : decode cX11_frame 1 = .ok (.iload_n 1, 1) := by decide +kernel
theorem dX11_frame_2 : decode cX11_frame 2 = .ok (.invokevirtual 123, 3) := by decide +kernel
theorem dX11_frame_5 : decode cX11_frame 5 = .ok (.astore 4, 2) := by decide +kernel
theorem dX11_frame_7 : decode cX11_frame 7 = .ok (.aload 4, 2) := by decide +kernel
theorem dX11_frame_9 : decode cX11_frame 9 = .ok (.ifnull 16, 3) := by decide +kernel
theorem dX11_frame_25 : decode cX11_frame 25 = .ok (.iconst (-1), 1) := by decide +kernel
theorem dX11_frame_26 : decode cX11_frame 26 = .ok (.ireturn, 1) := by decide +kernel
theorem dX11_frame_12 : decode cX11_frame 12 = .ok (.iload_n 2, 1) := by decide +kernel
theorem dX11_frame_13 : decode cX11_frame 13 = .ok (.ifCond .lt 12, 3) := by decide +kernel
theorem dX11_frame_16 : decode cX11_frame 16 = .ok (.iload_n 2, 1) := by decide +kernel
theorem dX11_frame_17 : decode cX11_frame 17 = .ok (.aload 4, 2) := by decide +kernel
theorem dX11_frame_19 : decode cX11_frame 19 = .ok (.getfield 143, 3) := by decide +kernel
theorem dX11_frame_22 : decode cX11_frame 22 = .ok (.if_icmp .lt 5, 3) := by decide +kernel
theorem dX11_frame_27 : decode cX11_frame 27 = .ok (.iload_n 3, 1) := by decide +kernel
theorem dX11_frame_28 : decode cX11_frame 28 = .ok (.tableswitch 66 0 2 #[28, 38, 56], 28) := by decide +kernel
theorem dX11_frame_94 : decode cX11_frame 94 = .ok (.iconst (-1), 1) := by decide +kernel
theorem dX11_frame_95 : decode cX11_frame 95 = .ok (.ireturn, 1) := by decide +kernel
theorem dX11_frame_56 : decode cX11_frame 56 = .ok (.aload 4, 2) := by decide +kernel
theorem dX11_frame_58 : decode cX11_frame 58 = .ok (.getfield 159, 3) := by decide +kernel
theorem dX11_frame_61 : decode cX11_frame 61 = .ok (.iload_n 2, 1) := by decide +kernel
theorem dX11_frame_62 : decode cX11_frame 62 = .ok (.invokestatic 162, 3) := by decide +kernel
theorem dX11_frame_65 : decode cX11_frame 65 = .ok (.ireturn, 1) := by decide +kernel
theorem dX11_frame_66 : decode cX11_frame 66 = .ok (.iload_n 2, 1) := by decide +kernel
theorem dX11_frame_67 : decode cX11_frame 67 = .ok (.ifCond .ne 7, 3) := by decide +kernel
theorem dX11_frame_74 : decode cX11_frame 74 = .ok (.aload 4, 2) := by decide +kernel
theorem dX11_frame_76 : decode cX11_frame 76 = .ok (.getfield 166, 3) := by decide +kernel
theorem dX11_frame_79 : decode cX11_frame 79 = .ok (.iload_n 2, 1) := by decide +kernel
theorem dX11_frame_80 : decode cX11_frame 80 = .ok (.invokestatic 162, 3) := by decide +kernel
theorem dX11_frame_83 : decode cX11_frame 83 = .ok (.ireturn, 1) := by decide +kernel
theorem dX11_frame_70 : decode cX11_frame 70 = .ok (.iconst (-1), 1) := by decide +kernel
theorem dX11_frame_71 : decode cX11_frame 71 = .ok (.goto 12, 3) := by decide +kernel
theorem dX11_frame_84 : decode cX11_frame 84 = .ok (.aload 4, 2) := by decide +kernel
theorem dX11_frame_86 : decode cX11_frame 86 = .ok (.getfield 169, 3) := by decide +kernel
theorem dX11_frame_89 : decode cX11_frame 89 = .ok (.iload_n 2, 1) := by decide +kernel
theorem dX11_frame_90 : decode cX11_frame 90 = .ok (.invokestatic 162, 3) := by decide +kernel
theorem dX11_frame_93 : decode cX11_frame 93 = .ok (.ireturn, 1) := by decide +kernel
set_option maxRecDepth 20000 in
theorem k_X11_frame (d : Nat) {T : CT} {σ : MS} {a : Nat} {r : Int} {f : Int} {w : Int} (ha : OB T a 11) (h_r : -2147483648 ≤ r ∧ r ≤ 2147483647) (h_f : -2147483648 ≤ f ∧ f ≤ 2147483647) (h_w : -2147483648 ≤ w ∧ w ≤ 2147483647) (hw : WT T σ) : Tn (d + 2) m_X11_frame 0 T σ [(0, .ref a), (1, .int (iI r)), (2, .int (iI f)), (3, .int (iI w))] [] (fun ro T2 σ2 => ∃ v : Int, ro = some (.int (iI v)) ∧ T = T2 ∧ σ = σ2 ∧ (-2147483648 ≤ v ∧ v ≤ 2147483647)) := by
  refine tn_aload_n dX11_frame_0 rfl 0 rfl ?_
  refine tn_iload_n dX11_frame_1 rfl 1 rfl ?_
  refine tn_callV (M := m_X11_frame) (pc := 2) (ix := 123) (ci := 11) (M' := m_X11_codeOf) (As := [.int (iI r)]) (rest := []) dX11_frame_2 ok_X11_codeOf im_X11_codeOf se_X11_codeOf ml11_123 np_X11_codeOf rfl rfl ha rfl (Nat.le_of_ble_eq_true rfl) (Nat.le_of_ble_eq_true rfl) rfl (k_X11_codeOf (d) (T := T) (σ := σ) (a := a) (r := r) ha (by omega) hw ) (fun r1 T3 σ2 gt4 hp => ?_)
  obtain ⟨v5, rfl, rfl, rfl, rv6⟩ := hp
  clear gt4
  rcases rv6 with rv6 | ⟨x7, rfl, hk8⟩
  · show Tn _ _ 5 T σ [(0, .ref a), (1, .int (iI r)), (2, .int (iI f)), (3, .int (iI w))] (vl true v5 :: []) _
    rw [vl_null rv6]
    refine tn_astoreN (L' := [(4, .null), (0, .ref a), (1, .int (iI r)), (2, .int (iI f)), (3, .int (iI w))]) dX11_frame_5 (by decide) rfl ?_
    refine tn_aloadN dX11_frame_7 0 rfl ?_
    refine tn_ifnullN (tgt := 25) dX11_frame_9 (by decide) ?_
    refine tn_iconst dX11_frame_25 ?_
    exact tn_iret rfl dX11_frame_26 ⟨_, rfl, rfl, rfl, by omega⟩
  · show Tn _ _ 5 T σ [(0, .ref a), (1, .int (iI r)), (2, .int (iI f)), (3, .int (iI w))] (vl true (x7 : Int) :: []) _
    rw [vl_ref rfl]
    have hk8o : OB T x7 1 := ⟨by omega, by rw [hk8]; rfl, by omega⟩
    refine tn_astore (L' := [(4, .ref x7), (0, .ref a), (1, .int (iI r)), (2, .int (iI f)), (3, .int (iI w))]) dX11_frame_5 (by decide) rfl ?_
    refine tn_aload dX11_frame_7 0 rfl ?_
    refine tn_ifnull dX11_frame_9 ?_
    refine tn_iload_n dX11_frame_12 rfl 3 rfl ?_
    refine tn_if_lt (tgt := 25) dX11_frame_13 (by decide) ⟨by omega, by omega⟩ (fun h9 => ?_) (fun h9 => ?_)
    · refine tn_iconst dX11_frame_25 ?_
      exact tn_iret rfl dX11_frame_26 ⟨_, rfl, rfl, rfl, by omega⟩
    · refine tn_iload_n dX11_frame_16 rfl 3 rfl ?_
      refine tn_aload dX11_frame_17 0 rfl ?_
      refine tn_getI (ci := 1) (i := 5) (n := 10) (t := σ.2.1 10 x7) dX11_frame_19 rfl lay_1 (by decide) fl11_143 hk8o rfl rfl (rfl) ?_
      have g10 : ((0 : Int) ≤ σ.2.1 10 x7 ∧ σ.2.1 10 x7 ≤ 12) := wf_10 hw hk8o
      refine tn_icmp_lt (tgt := 27) dX11_frame_22 (by decide) ⟨by omega, by omega⟩ ⟨by omega, by omega⟩ (fun h11 => ?_) (fun h11 => ?_)
      · refine tn_iload_n dX11_frame_27 rfl 4 rfl ?_
        by_cases h12 : w < 0 ∨ 2 < w
        · refine tn_tableOut (tgt := 94) dX11_frame_28 (x := w) ⟨by omega, by omega⟩ h12 (by decide) ?_
          refine tn_iconst dX11_frame_94 ?_
          exact tn_iret rfl dX11_frame_95 ⟨_, rfl, rfl, rfl, by omega⟩
        · have h13 : w = 0 ∨ w = 1 ∨ w = 2 := by omega
          rcases h13 with h13 | h13 | h13
          · refine tn_tableIn (tgt := 56) (off := 28) dX11_frame_28 (x := w) ⟨by omega, by omega⟩ (by omega) (by omega) (by rw [h13]; rfl) (by decide) ?_
            refine tn_aload dX11_frame_56 0 rfl ?_
            obtain ⟨x14, hx15, hk16, hl17⟩ : ∃ x : Nat, σ.2.1 11 x7 = (x : Int) ∧ AR T x 1 12 12 := wf_11 hw hk8o
            have hk16i : IA T x14 := by unfold IA; omega
            refine tn_getR (ci := 1) (i := 6) (n := 11) (x := x14) dX11_frame_58 rfl lay_1 (by decide) fl11_159 hk8o rfl rfl (hx15) ?_
            refine tn_iload_n dX11_frame_61 rfl 3 rfl ?_
            refine tn_callS (M := m_X11_frame) (pc := 62) (ix := 162) (M' := m_X11_at) (As := [.ref x14, .int (iI f)]) (rest := []) dX11_frame_62 ok_X11_at stt_X11_at ml11_162 np_X11_at rfl (Nat.le_of_ble_eq_true rfl) (Nat.le_of_ble_eq_true rfl) rfl (k_X11_at (d) (T := T) (σ := σ) (x := x14) (i := f) hk16i (by omega) (by omega) hw ) (fun r18 T20 σ19 gt21 hp => ?_)
            obtain ⟨v25, rfl, rfl, rfl, f22, f23, f24⟩ := hp
            clear gt21
            clear f23 f24
            show Tn _ _ 65 T σ [(4, .ref x7), (0, .ref a), (1, .int (iI r)), (2, .int (iI f)), (3, .int (iI w))] [.int (iI v25)] _
            exact tn_iret rfl dX11_frame_65 ⟨_, rfl, rfl, rfl, by omega⟩
          · refine tn_tableIn (tgt := 66) (off := 38) dX11_frame_28 (x := w) ⟨by omega, by omega⟩ (by omega) (by omega) (by rw [h13]; rfl) (by decide) ?_
            refine tn_iload_n dX11_frame_66 rfl 3 rfl ?_
            refine tn_if_ne (tgt := 74) dX11_frame_67 (by decide) ⟨by omega, by omega⟩ (fun h26 => ?_) (fun h26 => ?_)
            · refine tn_aload dX11_frame_74 0 rfl ?_
              obtain ⟨x27, hx28, hk29, hl30⟩ : ∃ x : Nat, σ.2.1 12 x7 = (x : Int) ∧ AR T x 1 12 12 := wf_12 hw hk8o
              have hk29i : IA T x27 := by unfold IA; omega
              refine tn_getR (ci := 1) (i := 7) (n := 12) (x := x27) dX11_frame_76 rfl lay_1 (by decide) fl11_166 hk8o rfl rfl (hx28) ?_
              refine tn_iload_n dX11_frame_79 rfl 3 rfl ?_
              refine tn_callS (M := m_X11_frame) (pc := 80) (ix := 162) (M' := m_X11_at) (As := [.ref x27, .int (iI f)]) (rest := []) dX11_frame_80 ok_X11_at stt_X11_at ml11_162 np_X11_at rfl (Nat.le_of_ble_eq_true rfl) (Nat.le_of_ble_eq_true rfl) rfl (k_X11_at (d) (T := T) (σ := σ) (x := x27) (i := f) hk29i (by omega) (by omega) hw ) (fun r31 T33 σ32 gt34 hp => ?_)
              obtain ⟨v38, rfl, rfl, rfl, f35, f36, f37⟩ := hp
              clear gt34
              clear f36 f37
              show Tn _ _ 83 T σ [(4, .ref x7), (0, .ref a), (1, .int (iI r)), (2, .int (iI f)), (3, .int (iI w))] [.int (iI v38)] _
              exact tn_iret rfl dX11_frame_83 ⟨_, rfl, rfl, rfl, by omega⟩
            · refine tn_iconst dX11_frame_70 ?_
              refine tn_goto (tgt := 83) dX11_frame_71 (by decide) ?_
              exact tn_iret rfl dX11_frame_83 ⟨_, rfl, rfl, rfl, by omega⟩
          · refine tn_tableIn (tgt := 84) (off := 56) dX11_frame_28 (x := w) ⟨by omega, by omega⟩ (by omega) (by omega) (by rw [h13]; rfl) (by decide) ?_
            refine tn_aload dX11_frame_84 0 rfl ?_
            obtain ⟨x39, hx40, hk41, hl42⟩ : ∃ x : Nat, σ.2.1 13 x7 = (x : Int) ∧ AR T x 1 12 12 := wf_13 hw hk8o
            have hk41i : IA T x39 := by unfold IA; omega
            refine tn_getR (ci := 1) (i := 8) (n := 13) (x := x39) dX11_frame_86 rfl lay_1 (by decide) fl11_169 hk8o rfl rfl (hx40) ?_
            refine tn_iload_n dX11_frame_89 rfl 3 rfl ?_
            refine tn_callS (M := m_X11_frame) (pc := 90) (ix := 162) (M' := m_X11_at) (As := [.ref x39, .int (iI f)]) (rest := []) dX11_frame_90 ok_X11_at stt_X11_at ml11_162 np_X11_at rfl (Nat.le_of_ble_eq_true rfl) (Nat.le_of_ble_eq_true rfl) rfl (k_X11_at (d) (T := T) (σ := σ) (x := x39) (i := f) hk41i (by omega) (by omega) hw ) (fun r43 T45 σ44 gt46 hp => ?_)
            obtain ⟨v50, rfl, rfl, rfl, f47, f48, f49⟩ := hp
            clear gt46
            clear f48 f49
            show Tn _ _ 93 T σ [(4, .ref x7), (0, .ref a), (1, .int (iI r)), (2, .int (iI f)), (3, .int (iI w))] [.int (iI v50)] _
            exact tn_iret rfl dX11_frame_93 ⟨_, rfl, rfl, rfl, by omega⟩
      · refine tn_iconst dX11_frame_25 ?_
        exact tn_iret rfl dX11_frame_26 ⟨_, rfl, rfl, rfl, by omega⟩
end
section
theorem cd_X11_told : Cond.code yX11_told cX11_told 8 (some .int) ∈ pWW := pw4 (List.mem_of_getElem? (i := 100) rfl) rfl
abbrev m_X11_told : MT := (yX11_told, cX11_told, 8, (some .int))
theorem ok_X11_told : pOk m_X11_told := ⟨⟨cd_X11_told, ini_11⟩, by decide +kernel, ⟨by decide +kernel, by decide +kernel⟩, Nat.le_of_ble_eq_true rfl⟩
theorem np_X11_told : (parseMethodDescriptor yX11_told.desc).map (fun d => d.parameters.length) = some 5 := by decide +kernel
theorem im_X11_told : Cond.instanceMethod yX11_told ∈ pWW := pw4 (List.mem_of_getElem? (i := 98) rfl) rfl
theorem se_X11_told : Cond.selects RX11 yX11_told yX11_told ∈ pWW := pw4 (List.mem_of_getElem? (i := 99) rfl) rfl
theorem ml11_172 : Cond.methodLink RX11 172 yX1_hasName ∈ pWW := pw4 (List.mem_of_getElem? (i := 101) rfl) rfl
theorem fl11_39 : Cond.fieldLink RX11 39 (TX11 7).1 (TX11 7).2.1 (TX11 7).2.2.1 ∈ pWW := pw2 (List.mem_of_getElem? (i := 203) rfl) rfl
theorem ml11_176 : Cond.methodLink RX11 176 yX10_refresh ∈ pWW := pw4 (List.mem_of_getElem? (i := 105) rfl) rfl
theorem ml11_180 : Cond.methodLink RX11 180 yX10_slotAt ∈ pWW := pw4 (List.mem_of_getElem? (i := 160) rfl) rfl
theorem ml11_184 : Cond.methodLink RX11 184 yX10_idIn ∈ pWW := pw4 (List.mem_of_getElem? (i := 164) rfl) rfl
theorem ml11_191 : Cond.methodLink RX11 191 yX10_part ∈ pWW := pw4 (List.mem_of_getElem? (i := 172) rfl) rfl
theorem ml11_187 : Cond.methodLink RX11 187 yX10_whereOf ∈ pWW := pw4 (List.mem_of_getElem? (i := 168) rfl) rfl
theorem dX11_told_0 : decode cX11_told 0 = .ok (.aload_n 0, 1) := by decide +kernel
theorem dX11_told_1 : decode cX11_told 1 = .ok (.iload_n 1, 1) := by decide +kernel
theorem dX11_told_2 : decode cX11_told 2 = .ok (.invokevirtual 123, 3) := by decide +kernel
theorem dX11_told_5 : decode cX11_told 5 = .ok (.astore 6, 2) := by decide +kernel
theorem dX11_told_7 : decode cX11_told 7 = .ok (.aload 6, 2) := by decide +kernel
theorem dX11_told_9 : decode cX11_told 9 = .ok (.ifnull 38, 3) := by decide +kernel
theorem dX11_told_47 : decode cX11_told 47 = .ok (.iconst (-1), 1) := by decide +kernel
theorem dX11_told_48 : decode cX11_told 48 = .ok (.ireturn, 1) := by decide +kernel
theorem dX11_told_12 : decode cX11_told 12 = .ok (.iload_n 2, 1) := by decide +kernel
theorem dX11_told_13 : decode cX11_told 13 = .ok (.ifCond .lt 34, 3) := by decide +kernel
theorem dX11_told_16 : decode cX11_told 16 = .ok (.iload_n 2, 1) := by decide +kernel
theorem dX11_told_17 : decode cX11_told 17 = .ok (.aload 6, 2) := by decide +kernel
theorem dX11_told_19 : decode cX11_told 19 = .ok (.getfield 127, 3) := by decide +kernel
theorem dX11_told_22 : decode cX11_told 22 = .ok (.if_icmp .gt 25, 3) := by decide +kernel
theorem dX11_told_25 : decode cX11_told 25 = .ok (.aload 6, 2) := by decide +kernel
theorem dX11_told_27 : decode cX11_told 27 = .ok (.iload_n 3, 1) := by decide +kernel
theorem dX11_told_28 : decode cX11_told 28 = .ok (.iload 4, 2) := by decide +kernel
theorem dX11_told_30 : decode cX11_told 30 = .ok (.invokevirtual 172, 3) := by decide +kernel
theorem dX11_told_33 : decode cX11_told 33 = .ok (.ifCond .eq 14, 3) := by decide +kernel
theorem dX11_told_36 : decode cX11_told 36 = .ok (.iload 5, 2) := by decide +kernel
theorem dX11_told_38 : decode cX11_told 38 = .ok (.ifCond .lt 9, 3) := by decide +kernel
theorem dX11_told_41 : decode cX11_told 41 = .ok (.iload 5, 2) := by decide +kernel
theorem dX11_told_43 : decode cX11_told 43 = .ok (.iconst 4, 1) := by decide +kernel
theorem dX11_told_44 : decode cX11_told 44 = .ok (.if_icmp .le 5, 3) := by decide +kernel
theorem dX11_told_49 : decode cX11_told 49 = .ok (.aload_n 0, 1) := by decide +kernel
theorem dX11_told_50 : decode cX11_told 50 = .ok (.getfield 39, 3) := by decide +kernel
theorem dX11_told_53 : decode cX11_told 53 = .ok (.iload_n 1, 1) := by decide +kernel
theorem dX11_told_54 : decode cX11_told 54 = .ok (.aload 6, 2) := by decide +kernel
theorem dX11_told_56 : decode cX11_told 56 = .ok (.invokevirtual 176, 3) := by decide +kernel
theorem dX11_told_59 : decode cX11_told 59 = .ok (.aload_n 0, 1) := by decide +kernel
theorem dX11_told_60 : decode cX11_told 60 = .ok (.getfield 39, 3) := by decide +kernel
theorem dX11_told_63 : decode cX11_told 63 = .ok (.iload_n 1, 1) := by decide +kernel
theorem dX11_told_64 : decode cX11_told 64 = .ok (.aload_n 0, 1) := by decide +kernel
theorem dX11_told_65 : decode cX11_told 65 = .ok (.getfield 39, 3) := by decide +kernel
theorem dX11_told_68 : decode cX11_told 68 = .ok (.aload 6, 2) := by decide +kernel
theorem dX11_told_70 : decode cX11_told 70 = .ok (.iload_n 2, 1) := by decide +kernel
theorem dX11_told_71 : decode cX11_told 71 = .ok (.iload_n 3, 1) := by decide +kernel
theorem dX11_told_72 : decode cX11_told 72 = .ok (.invokevirtual 180, 3) := by decide +kernel
theorem dX11_told_75 : decode cX11_told 75 = .ok (.iload 4, 2) := by decide +kernel
theorem dX11_told_77 : decode cX11_told 77 = .ok (.iadd, 1) := by decide +kernel
theorem dX11_told_78 : decode cX11_told 78 = .ok (.invokevirtual 184, 3) := by decide +kernel
theorem dX11_told_81 : decode cX11_told 81 = .ok (.istore 7, 2) := by decide +kernel
theorem dX11_told_83 : decode cX11_told 83 = .ok (.iload 5, 2) := by decide +kernel
theorem dX11_told_85 : decode cX11_told 85 = .ok (.tableswitch 82 0 3 #[31, 43, 56, 69], 31) := by decide +kernel
theorem dX11_told_167 : decode cX11_told 167 = .ok (.aload_n 0, 1) := by decide +kernel
theorem dX11_told_168 : decode cX11_told 168 = .ok (.getfield 39, 3) := by decide +kernel
theorem dX11_told_171 : decode cX11_told 171 = .ok (.aload 6, 2) := by decide +kernel
theorem dX11_told_173 : decode cX11_told 173 = .ok (.iload 7, 2) := by decide +kernel
theorem dX11_told_175 : decode cX11_told 175 = .ok (.bipush 6, 2) := by decide +kernel
theorem dX11_told_177 : decode cX11_told 177 = .ok (.invokevirtual 191, 3) := by decide +kernel
theorem dX11_told_180 : decode cX11_told 180 = .ok (.ireturn, 1) := by decide +kernel
theorem dX11_told_116 : decode cX11_told 116 = .ok (.aload_n 0, 1) := by decide +kernel
theorem dX11_told_117 : decode cX11_told 117 = .ok (.getfield 39, 3) := by decide +kernel
theorem dX11_told_120 : decode cX11_told 120 = .ok (.aload 6, 2) := by decide +kernel
theorem dX11_told_122 : decode cX11_told 122 = .ok (.iload 7, 2) := by decide +kernel
theorem dX11_told_124 : decode cX11_told 124 = .ok (.invokevirtual 187, 3) := by decide +kernel
theorem dX11_told_127 : decode cX11_told 127 = .ok (.ireturn, 1) := by decide +kernel
theorem dX11_told_128 : decode cX11_told 128 = .ok (.aload_n 0, 1) := by decide +kernel
theorem dX11_told_129 : decode cX11_told 129 = .ok (.getfield 39, 3) := by decide +kernel
theorem dX11_told_132 : decode cX11_told 132 = .ok (.aload 6, 2) := by decide +kernel
theorem dX11_told_134 : decode cX11_told 134 = .ok (.iload 7, 2) := by decide +kernel
theorem dX11_told_136 : decode cX11_told 136 = .ok (.iconst 3, 1) := by decide +kernel
theorem dX11_told_137 : decode cX11_told 137 = .ok (.invokevirtual 191, 3) := by decide +kernel
theorem dX11_told_140 : decode cX11_told 140 = .ok (.ireturn, 1) := by decide +kernel
theorem dX11_told_141 : decode cX11_told 141 = .ok (.aload_n 0, 1) := by decide +kernel
theorem dX11_told_142 : decode cX11_told 142 = .ok (.getfield 39, 3) := by decide +kernel
theorem dX11_told_145 : decode cX11_told 145 = .ok (.aload 6, 2) := by decide +kernel
theorem dX11_told_147 : decode cX11_told 147 = .ok (.iload 7, 2) := by decide +kernel
theorem dX11_told_149 : decode cX11_told 149 = .ok (.iconst 5, 1) := by decide +kernel
theorem dX11_told_150 : decode cX11_told 150 = .ok (.invokevirtual 191, 3) := by decide +kernel
theorem dX11_told_153 : decode cX11_told 153 = .ok (.ireturn, 1) := by decide +kernel
theorem dX11_told_154 : decode cX11_told 154 = .ok (.aload_n 0, 1) := by decide +kernel
theorem dX11_told_155 : decode cX11_told 155 = .ok (.getfield 39, 3) := by decide +kernel
theorem dX11_told_158 : decode cX11_told 158 = .ok (.aload 6, 2) := by decide +kernel
theorem dX11_told_160 : decode cX11_told 160 = .ok (.iload 7, 2) := by decide +kernel
theorem dX11_told_162 : decode cX11_told 162 = .ok (.iconst 4, 1) := by decide +kernel
theorem dX11_told_163 : decode cX11_told 163 = .ok (.invokevirtual 191, 3) := by decide +kernel
theorem dX11_told_166 : decode cX11_told 166 = .ok (.ireturn, 1) := by decide +kernel
set_option maxRecDepth 20000 in
theorem k_X11_told (d : Nat) {T : CT} {σ : MS} {a : Nat} {r : Int} {k : Int} {f : Int} {m : Int} {w : Int} (ha : OB T a 11) (h_r : -2147483648 ≤ r ∧ r ≤ 2147483647) (h_k : -2147483648 ≤ k ∧ k ≤ 2147483647) (h_f : -2147483648 ≤ f ∧ f ≤ 2147483647) (h_m : -2147483648 ≤ m ∧ m ≤ 2147483647) (h_w : -2147483648 ≤ w ∧ w ≤ 2147483647) (hw : WT T σ) : Tn (d + 6) m_X11_told 0 T σ [(0, .ref a), (1, .int (iI r)), (2, .int (iI k)), (3, .int (iI f)), (4, .int (iI m)), (5, .int (iI w))] [] (fun ro T2 σ2 => ∃ v : Int, ro = some (.int (iI v)) ∧ WT T2 σ2 ∧ FrC T [92, 93, 94, 900] σ σ2 ∧ (-2147483648 ≤ v ∧ v ≤ 2147483647)) := by
  refine tn_aload_n dX11_told_0 rfl 0 rfl ?_
  refine tn_iload_n dX11_told_1 rfl 1 rfl ?_
  refine tn_callV (M := m_X11_told) (pc := 2) (ix := 123) (ci := 11) (M' := m_X11_codeOf) (As := [.int (iI r)]) (rest := []) dX11_told_2 ok_X11_codeOf im_X11_codeOf se_X11_codeOf ml11_123 np_X11_codeOf rfl rfl ha rfl (Nat.le_of_ble_eq_true rfl) (Nat.le_of_ble_eq_true rfl) rfl (k_X11_codeOf (d + 4) (T := T) (σ := σ) (a := a) (r := r) ha (by omega) hw ) (fun r1 T3 σ2 gt4 hp => ?_)
  obtain ⟨v5, rfl, rfl, rfl, rv6⟩ := hp
  clear gt4
  rcases rv6 with rv6 | ⟨x7, rfl, hk8⟩
  · show Tn _ _ 5 T σ [(0, .ref a), (1, .int (iI r)), (2, .int (iI k)), (3, .int (iI f)), (4, .int (iI m)), (5, .int (iI w))] (vl true v5 :: []) _
    rw [vl_null rv6]
    refine tn_astoreN (L' := [(6, .null), (0, .ref a), (1, .int (iI r)), (2, .int (iI k)), (3, .int (iI f)), (4, .int (iI m)), (5, .int (iI w))]) dX11_told_5 (by decide) rfl ?_
    refine tn_aloadN dX11_told_7 0 rfl ?_
    refine tn_ifnullN (tgt := 47) dX11_told_9 (by decide) ?_
    refine tn_iconst dX11_told_47 ?_
    exact tn_iret rfl dX11_told_48 ⟨_, rfl, hw, FrC.rfl, by omega⟩
  · show Tn _ _ 5 T σ [(0, .ref a), (1, .int (iI r)), (2, .int (iI k)), (3, .int (iI f)), (4, .int (iI m)), (5, .int (iI w))] (vl true (x7 : Int) :: []) _
    rw [vl_ref rfl]
    have hk8o : OB T x7 1 := ⟨by omega, by rw [hk8]; rfl, by omega⟩
    refine tn_astore (L' := [(6, .ref x7), (0, .ref a), (1, .int (iI r)), (2, .int (iI k)), (3, .int (iI f)), (4, .int (iI m)), (5, .int (iI w))]) dX11_told_5 (by decide) rfl ?_
    refine tn_aload dX11_told_7 0 rfl ?_
    refine tn_ifnull dX11_told_9 ?_
    refine tn_iload_n dX11_told_12 rfl 3 rfl ?_
    refine tn_if_lt (tgt := 47) dX11_told_13 (by decide) ⟨by omega, by omega⟩ (fun h9 => ?_) (fun h9 => ?_)
    · refine tn_iconst dX11_told_47 ?_
      exact tn_iret rfl dX11_told_48 ⟨_, rfl, hw, FrC.rfl, by omega⟩
    · refine tn_iload_n dX11_told_16 rfl 3 rfl ?_
      refine tn_aload dX11_told_17 0 rfl ?_
      refine tn_getI (ci := 1) (i := 1) (n := 6) (t := σ.2.1 6 x7) dX11_told_19 rfl lay_1 (by decide) fl11_127 hk8o rfl rfl (rfl) ?_
      have g10 : ((0 : Int) ≤ σ.2.1 6 x7 ∧ σ.2.1 6 x7 ≤ 5000) ∧ ((T x7).1 = 50 → σ.2.1 6 x7 ≤ 200) := wf_6 hw hk8o
      have g10x := g10.2
      replace g10 := g10.1
      have g10x := g10x hk8
      refine tn_icmp_gt (tgt := 47) dX11_told_22 (by decide) ⟨by omega, by omega⟩ ⟨by omega, by omega⟩ (fun h11 => ?_) (fun h11 => ?_)
      · refine tn_iconst dX11_told_47 ?_
        exact tn_iret rfl dX11_told_48 ⟨_, rfl, hw, FrC.rfl, by omega⟩
      · refine tn_aload dX11_told_25 0 rfl ?_
        refine tn_iload_n dX11_told_27 rfl 4 rfl ?_
        refine tn_iload dX11_told_28 5 rfl ?_
        refine tn_callV (M := m_X11_told) (pc := 30) (ix := 172) (ci := 1) (M' := m_X1_hasName) (As := [.int (iI f), .int (iI m)]) (rest := []) dX11_told_30 ok_X1_hasName im_X1_hasName se_X1_hasName ml11_172 np_X1_hasName rfl rfl hk8o rfl (Nat.le_of_ble_eq_true rfl) (Nat.le_of_ble_eq_true rfl) rfl (k_X1_hasName (d + 3) (T := T) (σ := σ) (a := x7) (f := f) (m := m) hk8o (by omega) (by omega) hw ) (fun r12 T14 σ13 gt15 hp => ?_)
        obtain ⟨v17, rfl, rfl, rfl, f16⟩ := hp
        clear gt15
        show Tn _ _ 33 T σ [(6, .ref x7), (0, .ref a), (1, .int (iI r)), (2, .int (iI k)), (3, .int (iI f)), (4, .int (iI m)), (5, .int (iI w))] [.int (iI v17)] _
        refine tn_if_eq (tgt := 47) dX11_told_33 (by decide) ⟨by omega, by omega⟩ (fun h18 => ?_) (fun h18 => ?_)
        · refine tn_iconst dX11_told_47 ?_
          exact tn_iret rfl dX11_told_48 ⟨_, rfl, hw, FrC.rfl, by omega⟩
        · refine tn_iload dX11_told_36 6 rfl ?_
          refine tn_if_lt (tgt := 47) dX11_told_38 (by decide) ⟨by omega, by omega⟩ (fun h19 => ?_) (fun h19 => ?_)
          · refine tn_iconst dX11_told_47 ?_
            exact tn_iret rfl dX11_told_48 ⟨_, rfl, hw, FrC.rfl, by omega⟩
          · refine tn_iload dX11_told_41 6 rfl ?_
            refine tn_iconst dX11_told_43 ?_
            refine tn_icmp_le (tgt := 49) dX11_told_44 (by decide) ⟨by omega, by omega⟩ ⟨by decide, by decide⟩ (fun h20 => ?_) (fun h20 => ?_)
            · refine tn_aload_n dX11_told_49 rfl 1 rfl ?_
              obtain ⟨x21, hx22, hk23⟩ : ∃ x : Nat, σ.2.1 102 a = (x : Int) ∧ (T x).1 = 40 := wf_102 hw ha
              have hk23o : OB T x21 10 := ⟨by omega, by rw [hk23]; rfl, by omega⟩
              refine tn_getR (ci := 11) (i := 7) (n := 102) (x := x21) dX11_told_50 rfl lay_11 (by decide) fl11_39 ha rfl rfl (hx22) ?_
              refine tn_iload_n dX11_told_53 rfl 2 rfl ?_
              refine tn_aload dX11_told_54 0 rfl ?_
              refine tn_callV (M := m_X11_told) (pc := 56) (ix := 176) (ci := 10) (M' := m_X10_refresh) (As := [.int (iI r), .ref x7]) (rest := []) dX11_told_56 ok_X10_refresh im_X10_refresh se_X10_refresh ml11_176 np_X10_refresh rfl rfl hk23o rfl (Nat.le_of_ble_eq_true rfl) (Nat.le_of_ble_eq_true rfl) rfl (k_X10_refresh (d) (T := T) (σ := σ) (a := x21) (r := r) (c := x7) hk23o (by omega) hk8o hk8 hw ) (fun r25 T27 σ26 gt28 hp => ?_)
              obtain ⟨rfl, w30, F31⟩ := hp
              replace ha : OB T27 a 11 := gt28.ob ha
              replace hk8o : OB T27 x7 1 := gt28.ob hk8o
              replace hk8 : (T27 x7).1 = 50 := gt28.kk hk8 (by decide) (by decide)
              show Tn _ _ 59 T27 σ26 [(6, .ref x7), (0, .ref a), (1, .int (iI r)), (2, .int (iI k)), (3, .int (iI f)), (4, .int (iI m)), (5, .int (iI w))] [] _
              refine tn_aload_n dX11_told_59 rfl 1 rfl ?_
              obtain ⟨x32, hx33, hk34⟩ : ∃ x : Nat, σ26.2.1 102 a = (x : Int) ∧ (T27 x).1 = 40 := wf_102 w30 ha
              have hk34o : OB T27 x32 10 := ⟨by omega, by rw [hk34]; rfl, by omega⟩
              refine tn_getR (ci := 11) (i := 7) (n := 102) (x := x32) dX11_told_60 rfl lay_11 (by decide) fl11_39 ha rfl rfl (hx33) ?_
              refine tn_iload_n dX11_told_63 rfl 2 rfl ?_
              refine tn_aload_n dX11_told_64 rfl 1 rfl ?_
              refine tn_getR (ci := 11) (i := 7) (n := 102) (x := x32) dX11_told_65 rfl lay_11 (by decide) fl11_39 ha rfl rfl (hx33) ?_
              refine tn_aload dX11_told_68 0 rfl ?_
              refine tn_iload_n dX11_told_70 rfl 3 rfl ?_
              refine tn_iload_n dX11_told_71 rfl 4 rfl ?_
              refine tn_callV (M := m_X11_told) (pc := 72) (ix := 180) (ci := 10) (M' := m_X10_slotAt) (As := [.ref x7, .int (iI k), .int (iI f)]) (rest := [.int (iI r), .ref x32]) dX11_told_72 ok_X10_slotAt im_X10_slotAt se_X10_slotAt ml11_180 np_X10_slotAt rfl rfl hk34o rfl (Nat.le_of_ble_eq_true rfl) (Nat.le_of_ble_eq_true rfl) rfl (k_X10_slotAt (d + 3) (T := T27) (σ := σ26) (a := x32) (c := x7) (k := k) (f := f) hk34o hk8o (by omega) (by omega) w30 ) (fun r36 T38 σ37 gt39 hp => ?_)
              obtain ⟨v41, rfl, rfl, rfl, f40⟩ := hp
              clear gt39
              show Tn _ _ 75 T27 σ26 [(6, .ref x7), (0, .ref a), (1, .int (iI r)), (2, .int (iI k)), (3, .int (iI f)), (4, .int (iI m)), (5, .int (iI w))] [.int (iI v41), .int (iI r), .ref x32] _
              refine tn_iload dX11_told_75 5 rfl ?_
              refine tn_iadd dX11_told_77 ?_
              refine tn_any (fun z42 g43 => ?_)
              have g43r : -2147483648 ≤ z42 ∧ z42 ≤ 2147483647 := g43
              refine tn_callV (M := m_X11_told) (pc := 78) (ix := 184) (ci := 10) (M' := m_X10_idIn) (As := [.int (iI r), .int (iI z42)]) (rest := []) dX11_told_78 ok_X10_idIn im_X10_idIn se_X10_idIn ml11_184 np_X10_idIn rfl rfl hk34o rfl (Nat.le_of_ble_eq_true rfl) (Nat.le_of_ble_eq_true rfl) rfl (k_X10_idIn (d + 3) (T := T27) (σ := σ26) (a := x32) (p1 := r) (p2 := z42) hk34o (by omega) (by omega) w30 ) (fun r44 T46 σ45 gt47 hp => ?_)
              obtain ⟨v49, rfl, rfl, rfl, f48⟩ := hp
              clear gt47
              show Tn _ _ 81 T27 σ26 [(6, .ref x7), (0, .ref a), (1, .int (iI r)), (2, .int (iI k)), (3, .int (iI f)), (4, .int (iI m)), (5, .int (iI w))] [.int (iI v49)] _
              refine tn_istore (L' := [(7, .int (iI v49)), (6, .ref x7), (0, .ref a), (1, .int (iI r)), (2, .int (iI k)), (3, .int (iI f)), (4, .int (iI m)), (5, .int (iI w))]) dX11_told_81 (by decide) rfl ?_
              refine tn_iload dX11_told_83 7 rfl ?_
              by_cases h50 : w < 0 ∨ 3 < w
              · refine tn_tableOut (tgt := 167) dX11_told_85 (x := w) ⟨by omega, by omega⟩ h50 (by decide) ?_
                refine tn_aload_n dX11_told_167 rfl 2 rfl ?_
                refine tn_getR (ci := 11) (i := 7) (n := 102) (x := x32) dX11_told_168 rfl lay_11 (by decide) fl11_39 ha rfl rfl (hx33) ?_
                refine tn_aload dX11_told_171 1 rfl ?_
                refine tn_iload dX11_told_173 0 rfl ?_
                refine tn_bipush dX11_told_175 (by decide) ?_
                refine tn_callV (M := m_X11_told) (pc := 177) (ix := 191) (ci := 10) (M' := m_X10_part) (As := [.ref x7, .int (iI v49), .int (iI 6)]) (rest := []) dX11_told_177 ok_X10_part im_X10_part se_X10_part ml11_191 np_X10_part rfl rfl hk34o rfl (Nat.le_of_ble_eq_true rfl) (Nat.le_of_ble_eq_true rfl) rfl (k_X10_part (d + 2) (T := T27) (σ := σ26) (a := x32) (c := x7) (i := v49) (e := 6) hk34o hk8o (by omega) (by decide) w30 (by omega)) (fun r51 T53 σ52 gt54 hp => ?_)
                obtain ⟨v56, rfl, rfl, rfl, f55⟩ := hp
                clear gt54
                show Tn _ _ 180 T27 σ26 [(7, .int (iI v49)), (6, .ref x7), (0, .ref a), (1, .int (iI r)), (2, .int (iI k)), (3, .int (iI f)), (4, .int (iI m)), (5, .int (iI w))] [.int (iI v56)] _
                exact tn_iret rfl dX11_told_180 ⟨_, rfl, w30, (FrC.rfl.trans (FrC.sub F31 (by decide))), by omega⟩
              · have h57 : w = 0 ∨ w = 1 ∨ w = 2 ∨ w = 3 := by omega
                rcases h57 with h57 | h57 | h57 | h57
                · refine tn_tableIn (tgt := 116) (off := 31) dX11_told_85 (x := w) ⟨by omega, by omega⟩ (by omega) (by omega) (by rw [h57]; rfl) (by decide) ?_
                  refine tn_aload_n dX11_told_116 rfl 2 rfl ?_
                  refine tn_getR (ci := 11) (i := 7) (n := 102) (x := x32) dX11_told_117 rfl lay_11 (by decide) fl11_39 ha rfl rfl (hx33) ?_
                  refine tn_aload dX11_told_120 1 rfl ?_
                  refine tn_iload dX11_told_122 0 rfl ?_
                  refine tn_callV (M := m_X11_told) (pc := 124) (ix := 187) (ci := 10) (M' := m_X10_whereOf) (As := [.ref x7, .int (iI v49)]) (rest := []) dX11_told_124 ok_X10_whereOf im_X10_whereOf se_X10_whereOf ml11_187 np_X10_whereOf rfl rfl hk34o rfl (Nat.le_of_ble_eq_true rfl) (Nat.le_of_ble_eq_true rfl) rfl (k_X10_whereOf (d + 3) (T := T27) (σ := σ26) (a := x32) (c := x7) (i := v49) hk34o hk8o (by omega) w30 ) (fun r58 T60 σ59 gt61 hp => ?_)
                  obtain ⟨v63, rfl, rfl, rfl, f62⟩ := hp
                  clear gt61
                  show Tn _ _ 127 T27 σ26 [(7, .int (iI v49)), (6, .ref x7), (0, .ref a), (1, .int (iI r)), (2, .int (iI k)), (3, .int (iI f)), (4, .int (iI m)), (5, .int (iI w))] [.int (iI v63)] _
                  exact tn_iret rfl dX11_told_127 ⟨_, rfl, w30, (FrC.rfl.trans (FrC.sub F31 (by decide))), by omega⟩
                · refine tn_tableIn (tgt := 128) (off := 43) dX11_told_85 (x := w) ⟨by omega, by omega⟩ (by omega) (by omega) (by rw [h57]; rfl) (by decide) ?_
                  refine tn_aload_n dX11_told_128 rfl 2 rfl ?_
                  refine tn_getR (ci := 11) (i := 7) (n := 102) (x := x32) dX11_told_129 rfl lay_11 (by decide) fl11_39 ha rfl rfl (hx33) ?_
                  refine tn_aload dX11_told_132 1 rfl ?_
                  refine tn_iload dX11_told_134 0 rfl ?_
                  refine tn_iconst dX11_told_136 ?_
                  refine tn_callV (M := m_X11_told) (pc := 137) (ix := 191) (ci := 10) (M' := m_X10_part) (As := [.ref x7, .int (iI v49), .int (iI 3)]) (rest := []) dX11_told_137 ok_X10_part im_X10_part se_X10_part ml11_191 np_X10_part rfl rfl hk34o rfl (Nat.le_of_ble_eq_true rfl) (Nat.le_of_ble_eq_true rfl) rfl (k_X10_part (d + 2) (T := T27) (σ := σ26) (a := x32) (c := x7) (i := v49) (e := 3) hk34o hk8o (by omega) (by decide) w30 (by omega)) (fun r64 T66 σ65 gt67 hp => ?_)
                  obtain ⟨v69, rfl, rfl, rfl, f68⟩ := hp
                  clear gt67
                  show Tn _ _ 140 T27 σ26 [(7, .int (iI v49)), (6, .ref x7), (0, .ref a), (1, .int (iI r)), (2, .int (iI k)), (3, .int (iI f)), (4, .int (iI m)), (5, .int (iI w))] [.int (iI v69)] _
                  exact tn_iret rfl dX11_told_140 ⟨_, rfl, w30, (FrC.rfl.trans (FrC.sub F31 (by decide))), by omega⟩
                · refine tn_tableIn (tgt := 141) (off := 56) dX11_told_85 (x := w) ⟨by omega, by omega⟩ (by omega) (by omega) (by rw [h57]; rfl) (by decide) ?_
                  refine tn_aload_n dX11_told_141 rfl 2 rfl ?_
                  refine tn_getR (ci := 11) (i := 7) (n := 102) (x := x32) dX11_told_142 rfl lay_11 (by decide) fl11_39 ha rfl rfl (hx33) ?_
                  refine tn_aload dX11_told_145 1 rfl ?_
                  refine tn_iload dX11_told_147 0 rfl ?_
                  refine tn_iconst dX11_told_149 ?_
                  refine tn_callV (M := m_X11_told) (pc := 150) (ix := 191) (ci := 10) (M' := m_X10_part) (As := [.ref x7, .int (iI v49), .int (iI 5)]) (rest := []) dX11_told_150 ok_X10_part im_X10_part se_X10_part ml11_191 np_X10_part rfl rfl hk34o rfl (Nat.le_of_ble_eq_true rfl) (Nat.le_of_ble_eq_true rfl) rfl (k_X10_part (d + 2) (T := T27) (σ := σ26) (a := x32) (c := x7) (i := v49) (e := 5) hk34o hk8o (by omega) (by decide) w30 (by omega)) (fun r70 T72 σ71 gt73 hp => ?_)
                  obtain ⟨v75, rfl, rfl, rfl, f74⟩ := hp
                  clear gt73
                  show Tn _ _ 153 T27 σ26 [(7, .int (iI v49)), (6, .ref x7), (0, .ref a), (1, .int (iI r)), (2, .int (iI k)), (3, .int (iI f)), (4, .int (iI m)), (5, .int (iI w))] [.int (iI v75)] _
                  exact tn_iret rfl dX11_told_153 ⟨_, rfl, w30, (FrC.rfl.trans (FrC.sub F31 (by decide))), by omega⟩
                · refine tn_tableIn (tgt := 154) (off := 69) dX11_told_85 (x := w) ⟨by omega, by omega⟩ (by omega) (by omega) (by rw [h57]; rfl) (by decide) ?_
                  refine tn_aload_n dX11_told_154 rfl 2 rfl ?_
                  refine tn_getR (ci := 11) (i := 7) (n := 102) (x := x32) dX11_told_155 rfl lay_11 (by decide) fl11_39 ha rfl rfl (hx33) ?_
                  refine tn_aload dX11_told_158 1 rfl ?_
                  refine tn_iload dX11_told_160 0 rfl ?_
                  refine tn_iconst dX11_told_162 ?_
                  refine tn_callV (M := m_X11_told) (pc := 163) (ix := 191) (ci := 10) (M' := m_X10_part) (As := [.ref x7, .int (iI v49), .int (iI 4)]) (rest := []) dX11_told_163 ok_X10_part im_X10_part se_X10_part ml11_191 np_X10_part rfl rfl hk34o rfl (Nat.le_of_ble_eq_true rfl) (Nat.le_of_ble_eq_true rfl) rfl (k_X10_part (d + 2) (T := T27) (σ := σ26) (a := x32) (c := x7) (i := v49) (e := 4) hk34o hk8o (by omega) (by decide) w30 (by omega)) (fun r76 T78 σ77 gt79 hp => ?_)
                  obtain ⟨v81, rfl, rfl, rfl, f80⟩ := hp
                  clear gt79
                  show Tn _ _ 166 T27 σ26 [(7, .int (iI v49)), (6, .ref x7), (0, .ref a), (1, .int (iI r)), (2, .int (iI k)), (3, .int (iI f)), (4, .int (iI m)), (5, .int (iI w))] [.int (iI v81)] _
                  exact tn_iret rfl dX11_told_166 ⟨_, rfl, w30, (FrC.rfl.trans (FrC.sub F31 (by decide))), by omega⟩
            · refine tn_iconst dX11_told_47 ?_
              exact tn_iret rfl dX11_told_48 ⟨_, rfl, hw, FrC.rfl, by omega⟩
end
section
theorem cd_X11_tear : Cond.code yX11_tear cX11_tear 4 (some .int) ∈ pWW := pw4 (List.mem_of_getElem? (i := 183) rfl) rfl
abbrev m_X11_tear : MT := (yX11_tear, cX11_tear, 4, (some .int))
theorem ok_X11_tear : pOk m_X11_tear := ⟨⟨cd_X11_tear, ini_11⟩, by decide +kernel, ⟨by decide +kernel, by decide +kernel⟩, Nat.le_of_ble_eq_true rfl⟩
theorem np_X11_tear : (parseMethodDescriptor yX11_tear.desc).map (fun d => d.parameters.length) = some 3 := by decide +kernel
theorem im_X11_tear : Cond.instanceMethod yX11_tear ∈ pWW := pw4 (List.mem_of_getElem? (i := 182) rfl) rfl
theorem se_X11_tear : Cond.selects RX11 yX11_tear yX11_tear ∈ pWW := pws (List.mem_map.mpr ⟨_, lw_pin 44 rfl, rfl⟩) rfl
theorem fl11_73 : Cond.fieldLink RX11 73 (TX11 14).1 (TX11 14).2.1 (TX11 14).2.2.1 ∈ pWW := pw2 (List.mem_of_getElem? (i := 210) rfl) rfl
theorem ml11_310 : Cond.methodLink RX11 310 yX8_share ∈ pWW := pw5 (List.mem_of_getElem? (i := 199) rfl) rfl
theorem fl11_50 : Cond.fieldLink RX11 50 (TX11 11).1 (TX11 11).2.1 (TX11 11).2.2.1 ∈ pWW := pw2 (List.mem_of_getElem? (i := 207) rfl) rfl
theorem ml11_293 : Cond.methodLink RX11 293 yX6_fold ∈ pWW := pw4 (List.mem_of_getElem? (i := 184) rfl) rfl
theorem fl11_59 : Cond.fieldLink RX11 59 (TX11 12).1 (TX11 12).2.1 (TX11 12).2.2.1 ∈ pWW := pw2 (List.mem_of_getElem? (i := 208) rfl) rfl
theorem ml11_297 : Cond.methodLink RX11 297 yX2_drop ∈ pWW := pw4 (List.mem_of_getElem? (i := 230) rfl) rfl
theorem ml11_300 : Cond.methodLink RX11 300 yX6_move ∈ pWW := pw5 (List.mem_of_getElem? (i := 82) rfl) rfl
theorem ml11_303 : Cond.methodLink RX11 303 yX6_alike ∈ pWW := pw5 (List.mem_of_getElem? (i := 122) rfl) rfl
theorem fl11_66 : Cond.fieldLink RX11 66 (TX11 13).1 (TX11 13).2.1 (TX11 13).2.2.1 ∈ pWW := pw2 (List.mem_of_getElem? (i := 209) rfl) rfl
theorem ml11_306 : Cond.methodLink RX11 306 yX4_melt ∈ pWW := pw5 (List.mem_of_getElem? (i := 131) rfl) rfl
theorem dX11_tear_0 : decode cX11_tear 0 = .ok (.iload_n 1, 1) := by decide +kernel
theorem dX11_tear_1 : decode cX11_tear 1 = .ok (.tableswitch 89 0 4 #[35, 44, 53, 62, 71], 35) := by decide +kernel
theorem dX11_tear_90 : decode cX11_tear 90 = .ok (.aload_n 0, 1) := by decide +kernel
theorem dX11_tear_91 : decode cX11_tear 91 = .ok (.getfield 73, 3) := by decide +kernel
theorem dX11_tear_94 : decode cX11_tear 94 = .ok (.aload_n 3, 1) := by decide +kernel
theorem dX11_tear_95 : decode cX11_tear 95 = .ok (.invokevirtual 310, 3) := by decide +kernel
theorem dX11_tear_98 : decode cX11_tear 98 = .ok (.ireturn, 1) := by decide +kernel
theorem dX11_tear_36 : decode cX11_tear 36 = .ok (.aload_n 0, 1) := by decide +kernel
theorem dX11_tear_37 : decode cX11_tear 37 = .ok (.getfield 50, 3) := by decide +kernel
theorem dX11_tear_40 : decode cX11_tear 40 = .ok (.aload_n 3, 1) := by decide +kernel
theorem dX11_tear_41 : decode cX11_tear 41 = .ok (.invokevirtual 293, 3) := by decide +kernel
theorem dX11_tear_44 : decode cX11_tear 44 = .ok (.ireturn, 1) := by decide +kernel
theorem dX11_tear_45 : decode cX11_tear 45 = .ok (.aload_n 0, 1) := by decide +kernel
theorem dX11_tear_46 : decode cX11_tear 46 = .ok (.getfield 59, 3) := by decide +kernel
theorem dX11_tear_49 : decode cX11_tear 49 = .ok (.aload_n 3, 1) := by decide +kernel
theorem dX11_tear_50 : decode cX11_tear 50 = .ok (.invokevirtual 297, 3) := by decide +kernel
theorem dX11_tear_53 : decode cX11_tear 53 = .ok (.ireturn, 1) := by decide +kernel
theorem dX11_tear_54 : decode cX11_tear 54 = .ok (.aload_n 0, 1) := by decide +kernel
theorem dX11_tear_55 : decode cX11_tear 55 = .ok (.getfield 50, 3) := by decide +kernel
theorem dX11_tear_58 : decode cX11_tear 58 = .ok (.aload_n 3, 1) := by decide +kernel
theorem dX11_tear_59 : decode cX11_tear 59 = .ok (.invokevirtual 300, 3) := by decide +kernel
theorem dX11_tear_62 : decode cX11_tear 62 = .ok (.ireturn, 1) := by decide +kernel
theorem dX11_tear_63 : decode cX11_tear 63 = .ok (.aload_n 0, 1) := by decide +kernel
theorem dX11_tear_64 : decode cX11_tear 64 = .ok (.getfield 50, 3) := by decide +kernel
theorem dX11_tear_67 : decode cX11_tear 67 = .ok (.aload_n 3, 1) := by decide +kernel
theorem dX11_tear_68 : decode cX11_tear 68 = .ok (.invokevirtual 303, 3) := by decide +kernel
theorem dX11_tear_71 : decode cX11_tear 71 = .ok (.ireturn, 1) := by decide +kernel
theorem dX11_tear_72 : decode cX11_tear 72 = .ok (.aload_n 0, 1) := by decide +kernel
theorem dX11_tear_73 : decode cX11_tear 73 = .ok (.getfield 66, 3) := by decide +kernel
theorem dX11_tear_76 : decode cX11_tear 76 = .ok (.aload_n 0, 1) := by decide +kernel
theorem dX11_tear_77 : decode cX11_tear 77 = .ok (.getfield 19, 3) := by decide +kernel
theorem dX11_tear_80 : decode cX11_tear 80 = .ok (.aload_n 0, 1) := by decide +kernel
theorem dX11_tear_81 : decode cX11_tear 81 = .ok (.getfield 116, 3) := by decide +kernel
theorem dX11_tear_84 : decode cX11_tear 84 = .ok (.iload_n 2, 1) := by decide +kernel
theorem dX11_tear_85 : decode cX11_tear 85 = .ok (.aload_n 3, 1) := by decide +kernel
theorem dX11_tear_86 : decode cX11_tear 86 = .ok (.invokevirtual 306, 3) := by decide +kernel
theorem dX11_tear_89 : decode cX11_tear 89 = .ok (.ireturn, 1) := by decide +kernel
set_option maxRecDepth 20000 in
theorem k_X11_tear (d : Nat) {T : CT} {σ : MS} {a : Nat} {k : Int} {r : Int} {c : Nat} (ha : OB T a 11) (h_k : -2147483648 ≤ k ∧ k ≤ 2147483647) (h_r : -2147483648 ≤ r ∧ r ≤ 2147483647) (h_c : OB T c 1) (t_c : (T c).1 = 50) (hw : WT T σ) : Tn (d + 8) m_X11_tear 0 T σ [(0, .ref a), (1, .int (iI k)), (2, .int (iI r)), (3, .ref c)] [] (fun ro T2 σ2 => ∃ v : Int, ro = some (.int (iI v)) ∧ WT T2 σ2 ∧ FrC T [5, 6, 10, 22, 25, 26, 27, 28, 29, 30, 31, 32, 80] σ σ2 ∧ (-2147483648 ≤ v ∧ v ≤ 2147483647)) := by
  refine tn_iload_n dX11_tear_0 rfl 1 rfl ?_
  by_cases h1 : k < 0 ∨ 4 < k
  · refine tn_tableOut (tgt := 90) dX11_tear_1 (x := k) ⟨by omega, by omega⟩ h1 (by decide) ?_
    refine tn_aload_n dX11_tear_90 rfl 0 rfl ?_
    obtain ⟨x2, hx3, hk4⟩ : ∃ x : Nat, σ.2.1 109 a = (x : Int) ∧ (T x).1 = 38 := wf_109 hw ha
    have hk4o : OB T x2 8 := ⟨by omega, by rw [hk4]; rfl, by omega⟩
    refine tn_getR (ci := 11) (i := 14) (n := 109) (x := x2) dX11_tear_91 rfl lay_11 (by decide) fl11_73 ha rfl rfl (hx3) ?_
    refine tn_aload_n dX11_tear_94 rfl 3 rfl ?_
    refine tn_callV (M := m_X11_tear) (pc := 95) (ix := 310) (ci := 8) (M' := m_X8_share) (As := [.ref c]) (rest := []) dX11_tear_95 ok_X8_share im_X8_share se_X8_share ml11_310 np_X8_share rfl rfl hk4o rfl (Nat.le_of_ble_eq_true rfl) (Nat.le_of_ble_eq_true rfl) rfl (k_X8_share (d + 2) (T := T) (σ := σ) (a := x2) (p1 := c) hk4o h_c t_c hw ) (fun r6 T8 σ7 gt9 hp => ?_)
    obtain ⟨v11, rfl, rfl, w12, F13, f10⟩ := hp
    clear gt9
    show Tn _ _ 98 T σ7 [(0, .ref a), (1, .int (iI k)), (2, .int (iI r)), (3, .ref c)] [.int (iI v11)] _
    exact tn_iret rfl dX11_tear_98 ⟨_, rfl, w12, (FrC.rfl.trans (FrC.sub F13 (by decide))), by omega⟩
  · have h14 : k = 0 ∨ k = 1 ∨ k = 2 ∨ k = 3 ∨ k = 4 := by omega
    rcases h14 with h14 | h14 | h14 | h14 | h14
    · refine tn_tableIn (tgt := 36) (off := 35) dX11_tear_1 (x := k) ⟨by omega, by omega⟩ (by omega) (by omega) (by rw [h14]; rfl) (by decide) ?_
      refine tn_aload_n dX11_tear_36 rfl 0 rfl ?_
      obtain ⟨x15, hx16, hk17⟩ : ∃ x : Nat, σ.2.1 106 a = (x : Int) ∧ (T x).1 = 36 := wf_106 hw ha
      have hk17o : OB T x15 6 := ⟨by omega, by rw [hk17]; rfl, by omega⟩
      refine tn_getR (ci := 11) (i := 11) (n := 106) (x := x15) dX11_tear_37 rfl lay_11 (by decide) fl11_50 ha rfl rfl (hx16) ?_
      refine tn_aload_n dX11_tear_40 rfl 3 rfl ?_
      refine tn_callV (M := m_X11_tear) (pc := 41) (ix := 293) (ci := 6) (M' := m_X6_fold) (As := [.ref c]) (rest := []) dX11_tear_41 ok_X6_fold im_X6_fold se_X6_fold ml11_293 np_X6_fold rfl rfl hk17o rfl (Nat.le_of_ble_eq_true rfl) (Nat.le_of_ble_eq_true rfl) rfl (k_X6_fold (d + 3) (T := T) (σ := σ) (a := x15) (p1 := c) hk17o h_c t_c hw ) (fun r19 T21 σ20 gt22 hp => ?_)
      obtain ⟨v24, rfl, rfl, w25, F26, f23⟩ := hp
      clear gt22
      show Tn _ _ 44 T σ20 [(0, .ref a), (1, .int (iI k)), (2, .int (iI r)), (3, .ref c)] [.int (iI v24)] _
      exact tn_iret rfl dX11_tear_44 ⟨_, rfl, w25, (FrC.rfl.trans (FrC.sub F26 (by decide))), by omega⟩
    · refine tn_tableIn (tgt := 45) (off := 44) dX11_tear_1 (x := k) ⟨by omega, by omega⟩ (by omega) (by omega) (by rw [h14]; rfl) (by decide) ?_
      refine tn_aload_n dX11_tear_45 rfl 0 rfl ?_
      obtain ⟨x27, hx28, hk29⟩ : ∃ x : Nat, σ.2.1 107 a = (x : Int) ∧ (T x).1 = 32 := wf_107 hw ha
      have hk29o : OB T x27 2 := ⟨by omega, by rw [hk29]; rfl, by omega⟩
      refine tn_getR (ci := 11) (i := 12) (n := 107) (x := x27) dX11_tear_46 rfl lay_11 (by decide) fl11_59 ha rfl rfl (hx28) ?_
      refine tn_aload_n dX11_tear_49 rfl 3 rfl ?_
      refine tn_callV (M := m_X11_tear) (pc := 50) (ix := 297) (ci := 2) (M' := m_X2_drop) (As := [.ref c]) (rest := []) dX11_tear_50 ok_X2_drop im_X2_drop se_X2_drop ml11_297 np_X2_drop rfl rfl hk29o rfl (Nat.le_of_ble_eq_true rfl) (Nat.le_of_ble_eq_true rfl) rfl (k_X2_drop (d + 1) (T := T) (σ := σ) (a := x27) (p1 := c) hk29o h_c t_c hw ) (fun r31 T33 σ32 gt34 hp => ?_)
      obtain ⟨v36, rfl, rfl, w37, F38, f35⟩ := hp
      clear gt34
      show Tn _ _ 53 T σ32 [(0, .ref a), (1, .int (iI k)), (2, .int (iI r)), (3, .ref c)] [.int (iI v36)] _
      exact tn_iret rfl dX11_tear_53 ⟨_, rfl, w37, (FrC.rfl.trans (FrC.sub F38 (by decide))), by omega⟩
    · refine tn_tableIn (tgt := 54) (off := 53) dX11_tear_1 (x := k) ⟨by omega, by omega⟩ (by omega) (by omega) (by rw [h14]; rfl) (by decide) ?_
      refine tn_aload_n dX11_tear_54 rfl 0 rfl ?_
      obtain ⟨x39, hx40, hk41⟩ : ∃ x : Nat, σ.2.1 106 a = (x : Int) ∧ (T x).1 = 36 := wf_106 hw ha
      have hk41o : OB T x39 6 := ⟨by omega, by rw [hk41]; rfl, by omega⟩
      refine tn_getR (ci := 11) (i := 11) (n := 106) (x := x39) dX11_tear_55 rfl lay_11 (by decide) fl11_50 ha rfl rfl (hx40) ?_
      refine tn_aload_n dX11_tear_58 rfl 3 rfl ?_
      refine tn_callV (M := m_X11_tear) (pc := 59) (ix := 300) (ci := 6) (M' := m_X6_move) (As := [.ref c]) (rest := []) dX11_tear_59 ok_X6_move im_X6_move se_X6_move ml11_300 np_X6_move rfl rfl hk41o rfl (Nat.le_of_ble_eq_true rfl) (Nat.le_of_ble_eq_true rfl) rfl (k_X6_move (d) (T := T) (σ := σ) (a := x39) (p1 := c) hk41o h_c t_c hw ) (fun r43 T45 σ44 gt46 hp => ?_)
      obtain ⟨v48, rfl, rfl, w49, F50, f47⟩ := hp
      clear gt46
      show Tn _ _ 62 T σ44 [(0, .ref a), (1, .int (iI k)), (2, .int (iI r)), (3, .ref c)] [.int (iI v48)] _
      exact tn_iret rfl dX11_tear_62 ⟨_, rfl, w49, (FrC.rfl.trans (FrC.sub F50 (by decide))), by omega⟩
    · refine tn_tableIn (tgt := 63) (off := 62) dX11_tear_1 (x := k) ⟨by omega, by omega⟩ (by omega) (by omega) (by rw [h14]; rfl) (by decide) ?_
      refine tn_aload_n dX11_tear_63 rfl 0 rfl ?_
      obtain ⟨x51, hx52, hk53⟩ : ∃ x : Nat, σ.2.1 106 a = (x : Int) ∧ (T x).1 = 36 := wf_106 hw ha
      have hk53o : OB T x51 6 := ⟨by omega, by rw [hk53]; rfl, by omega⟩
      refine tn_getR (ci := 11) (i := 11) (n := 106) (x := x51) dX11_tear_64 rfl lay_11 (by decide) fl11_50 ha rfl rfl (hx52) ?_
      refine tn_aload_n dX11_tear_67 rfl 3 rfl ?_
      refine tn_callV (M := m_X11_tear) (pc := 68) (ix := 303) (ci := 6) (M' := m_X6_alike) (As := [.ref c]) (rest := []) dX11_tear_68 ok_X6_alike im_X6_alike se_X6_alike ml11_303 np_X6_alike rfl rfl hk53o rfl (Nat.le_of_ble_eq_true rfl) (Nat.le_of_ble_eq_true rfl) rfl (k_X6_alike (d + 2) (T := T) (σ := σ) (a := x51) (p1 := c) hk53o h_c t_c hw ) (fun r55 T57 σ56 gt58 hp => ?_)
      obtain ⟨v60, rfl, rfl, w61, F62, f59⟩ := hp
      clear gt58
      show Tn _ _ 71 T σ56 [(0, .ref a), (1, .int (iI k)), (2, .int (iI r)), (3, .ref c)] [.int (iI v60)] _
      exact tn_iret rfl dX11_tear_71 ⟨_, rfl, w61, (FrC.rfl.trans (FrC.sub F62 (by decide))), by omega⟩
    · refine tn_tableIn (tgt := 72) (off := 71) dX11_tear_1 (x := k) ⟨by omega, by omega⟩ (by omega) (by omega) (by rw [h14]; rfl) (by decide) ?_
      refine tn_aload_n dX11_tear_72 rfl 0 rfl ?_
      obtain ⟨x63, hx64, hk65⟩ : ∃ x : Nat, σ.2.1 108 a = (x : Int) ∧ (T x).1 = 34 := wf_108 hw ha
      have hk65o : OB T x63 4 := ⟨by omega, by rw [hk65]; rfl, by omega⟩
      refine tn_getR (ci := 11) (i := 13) (n := 108) (x := x63) dX11_tear_73 rfl lay_11 (by decide) fl11_66 ha rfl rfl (hx64) ?_
      refine tn_aload_n dX11_tear_76 rfl 0 rfl ?_
      obtain ⟨x67, hx68, hk69, hl70⟩ : ∃ x : Nat, σ.2.1 99 a = (x : Int) ∧ AR T x 5 6 6 := wf_99 hw ha
      have hk69i : (T x67).1 = 4 ∨ (T x67).1 = 5 := by omega
      refine tn_getR (ci := 11) (i := 4) (n := 99) (x := x67) dX11_tear_77 rfl lay_11 (by decide) fl11_19 ha rfl rfl (hx68) ?_
      refine tn_aload_n dX11_tear_80 rfl 0 rfl ?_
      refine tn_getI (ci := 11) (i := 2) (n := 97) (t := σ.2.1 97 a) dX11_tear_81 rfl lay_11 (by decide) fl11_116 ha rfl rfl (rfl) ?_
      have g71 : ((0 : Int) ≤ σ.2.1 97 a ∧ σ.2.1 97 a ≤ 6) := wf_97 hw ha
      refine tn_iload_n dX11_tear_84 rfl 2 rfl ?_
      refine tn_aload_n dX11_tear_85 rfl 3 rfl ?_
      refine tn_callV (M := m_X11_tear) (pc := 86) (ix := 306) (ci := 4) (M' := m_X4_melt) (As := [.ref x67, .int (iI (σ.2.1 97 a)), .int (iI r), .ref c]) (rest := []) dX11_tear_86 ok_X4_melt im_X4_melt se_X4_melt ml11_306 np_X4_melt rfl rfl hk65o rfl (Nat.le_of_ble_eq_true rfl) (Nat.le_of_ble_eq_true rfl) rfl (k_X4_melt (d + 1) (T := T) (σ := σ) (a := x63) (cs := x67) (n := σ.2.1 97 a) (r := r) (c := c) hk65o hk69i (by omega) hk69 (by omega) (by omega) h_c t_c hw ) (fun r72 T74 σ73 gt75 hp => ?_)
      obtain ⟨v77, rfl, w78, F79, f76⟩ := hp
      replace ha : OB T74 a 11 := gt75.ob ha
      replace t_c : (T74 c).1 = 50 := gt75.kk t_c (by decide) (by decide)
      replace h_c : OB T74 c 1 := gt75.ob h_c
      show Tn _ _ 89 T74 σ73 [(0, .ref a), (1, .int (iI k)), (2, .int (iI r)), (3, .ref c)] [.int (iI v77)] _
      exact tn_iret rfl dX11_tear_89 ⟨_, rfl, w78, (FrC.rfl.trans (FrC.sub F79 (by decide))), by omega⟩
end
section
theorem cd_X11_pass : Cond.code yX11_pass cX11_pass 5 (some .int) ∈ pWW := pw4 (List.mem_of_getElem? (i := 179) rfl) rfl
abbrev m_X11_pass : MT := (yX11_pass, cX11_pass, 5, (some .int))
theorem ok_X11_pass : pOk m_X11_pass := ⟨⟨cd_X11_pass, ini_11⟩, by decide +kernel, ⟨by decide +kernel, by decide +kernel⟩, Nat.le_of_ble_eq_true rfl⟩
theorem np_X11_pass : (parseMethodDescriptor yX11_pass.desc).map (fun d => d.parameters.length) = some 2 := by decide +kernel
theorem im_X11_pass : Cond.instanceMethod yX11_pass ∈ pWW := pw4 (List.mem_of_getElem? (i := 177) rfl) rfl
theorem se_X11_pass : Cond.selects RX11 yX11_pass yX11_pass ∈ pWW := pw4 (List.mem_of_getElem? (i := 178) rfl) rfl
theorem ml11_194 : Cond.methodLink RX11 194 yX11_tear ∈ pWW := pw4 (List.mem_of_getElem? (i := 180) rfl) rfl
theorem ml11_198 : Cond.methodLink RX11 198 yX1_link ∈ pWW := pw4 (List.mem_of_getElem? (i := 24) rfl) rfl
theorem ml11_201 : Cond.methodLink RX11 201 yX10_spoil ∈ pWW := pw4 (List.mem_of_getElem? (i := 42) rfl) rfl
theorem fl11_83 : Cond.fieldLink RX11 83 (TX11 8).1 (TX11 8).2.1 (TX11 8).2.2.1 ∈ pWW := pw2 (List.mem_of_getElem? (i := 204) rfl) rfl
theorem ml11_120 : Cond.methodLink RX11 120 yX7_forget ∈ pWW := pw4 (List.mem_of_getElem? (i := 47) rfl) rfl
theorem dX11_pass_0 : decode cX11_pass 0 = .ok (.aload_n 0, 1) := by decide +kernel
theorem dX11_pass_1 : decode cX11_pass 1 = .ok (.iload_n 2, 1) := by decide +kernel
theorem dX11_pass_2 : decode cX11_pass 2 = .ok (.invokevirtual 123, 3) := by decide +kernel
theorem dX11_pass_5 : decode cX11_pass 5 = .ok (.astore_n 3, 1) := by decide +kernel
theorem dX11_pass_6 : decode cX11_pass 6 = .ok (.aload_n 3, 1) := by decide +kernel
theorem dX11_pass_7 : decode cX11_pass 7 = .ok (.ifnull 12, 3) := by decide +kernel
theorem dX11_pass_19 : decode cX11_pass 19 = .ok (.iconst (-1), 1) := by decide +kernel
theorem dX11_pass_20 : decode cX11_pass 20 = .ok (.ireturn, 1) := by decide +kernel
theorem dX11_pass_10 : decode cX11_pass 10 = .ok (.iload_n 1, 1) := by decide +kernel
theorem dX11_pass_11 : decode cX11_pass 11 = .ok (.ifCond .lt 8, 3) := by decide +kernel
theorem dX11_pass_14 : decode cX11_pass 14 = .ok (.iload_n 1, 1) := by decide +kernel
theorem dX11_pass_15 : decode cX11_pass 15 = .ok (.iconst 5, 1) := by decide +kernel
theorem dX11_pass_16 : decode cX11_pass 16 = .ok (.if_icmp .le 5, 3) := by decide +kernel
theorem dX11_pass_21 : decode cX11_pass 21 = .ok (.aload_n 0, 1) := by decide +kernel
theorem dX11_pass_22 : decode cX11_pass 22 = .ok (.iload_n 1, 1) := by decide +kernel
theorem dX11_pass_23 : decode cX11_pass 23 = .ok (.iload_n 2, 1) := by decide +kernel
theorem dX11_pass_24 : decode cX11_pass 24 = .ok (.aload_n 3, 1) := by decide +kernel
theorem dX11_pass_25 : decode cX11_pass 25 = .ok (.invokevirtual 194, 3) := by decide +kernel
theorem dX11_pass_28 : decode cX11_pass 28 = .ok (.istore 4, 2) := by decide +kernel
theorem dX11_pass_30 : decode cX11_pass 30 = .ok (.aload_n 3, 1) := by decide +kernel
theorem dX11_pass_31 : decode cX11_pass 31 = .ok (.invokevirtual 198, 3) := by decide +kernel
theorem dX11_pass_34 : decode cX11_pass 34 = .ok (.aload_n 0, 1) := by decide +kernel
theorem dX11_pass_35 : decode cX11_pass 35 = .ok (.getfield 39, 3) := by decide +kernel
theorem dX11_pass_38 : decode cX11_pass 38 = .ok (.iload_n 2, 1) := by decide +kernel
theorem dX11_pass_39 : decode cX11_pass 39 = .ok (.invokevirtual 201, 3) := by decide +kernel
theorem dX11_pass_42 : decode cX11_pass 42 = .ok (.aload_n 0, 1) := by decide +kernel
theorem dX11_pass_43 : decode cX11_pass 43 = .ok (.getfield 83, 3) := by decide +kernel
theorem dX11_pass_46 : decode cX11_pass 46 = .ok (.invokevirtual 120, 3) := by decide +kernel
theorem dX11_pass_49 : decode cX11_pass 49 = .ok (.iload 4, 2) := by decide +kernel
theorem dX11_pass_51 : decode cX11_pass 51 = .ok (.ireturn, 1) := by decide +kernel
set_option maxRecDepth 20000 in
theorem k_X11_pass (d : Nat) {T : CT} {σ : MS} {a : Nat} {k : Int} {r : Int} (ha : OB T a 11) (h_k : -2147483648 ≤ k ∧ k ≤ 2147483647) (h_r : -2147483648 ≤ r ∧ r ≤ 2147483647) (hw : WT T σ) : Tn (d + 9) m_X11_pass 0 T σ [(0, .ref a), (1, .int (iI k)), (2, .int (iI r))] [] (fun ro T2 σ2 => ∃ v : Int, ro = some (.int (iI v)) ∧ WT T2 σ2 ∧ FrC T [5, 6, 10, 22, 25, 26, 27, 28, 29, 30, 31, 32, 56, 80] σ σ2 ∧ (-2147483648 ≤ v ∧ v ≤ 2147483647)) := by
  refine tn_aload_n dX11_pass_0 rfl 0 rfl ?_
  refine tn_iload_n dX11_pass_1 rfl 2 rfl ?_
  refine tn_callV (M := m_X11_pass) (pc := 2) (ix := 123) (ci := 11) (M' := m_X11_codeOf) (As := [.int (iI r)]) (rest := []) dX11_pass_2 ok_X11_codeOf im_X11_codeOf se_X11_codeOf ml11_123 np_X11_codeOf rfl rfl ha rfl (Nat.le_of_ble_eq_true rfl) (Nat.le_of_ble_eq_true rfl) rfl (k_X11_codeOf (d + 7) (T := T) (σ := σ) (a := a) (r := r) ha (by omega) hw ) (fun r1 T3 σ2 gt4 hp => ?_)
  obtain ⟨v5, rfl, rfl, rfl, rv6⟩ := hp
  clear gt4
  rcases rv6 with rv6 | ⟨x7, rfl, hk8⟩
  · show Tn _ _ 5 T σ [(0, .ref a), (1, .int (iI k)), (2, .int (iI r))] (vl true v5 :: []) _
    rw [vl_null rv6]
    refine tn_astore_nN (L' := [(3, .null), (0, .ref a), (1, .int (iI k)), (2, .int (iI r))]) dX11_pass_5 rfl (by decide) rfl ?_
    refine tn_aload_nN dX11_pass_6 rfl 0 rfl ?_
    refine tn_ifnullN (tgt := 19) dX11_pass_7 (by decide) ?_
    refine tn_iconst dX11_pass_19 ?_
    exact tn_iret rfl dX11_pass_20 ⟨_, rfl, hw, FrC.rfl, by omega⟩
  · show Tn _ _ 5 T σ [(0, .ref a), (1, .int (iI k)), (2, .int (iI r))] (vl true (x7 : Int) :: []) _
    rw [vl_ref rfl]
    have hk8o : OB T x7 1 := ⟨by omega, by rw [hk8]; rfl, by omega⟩
    refine tn_astore_n (L' := [(3, .ref x7), (0, .ref a), (1, .int (iI k)), (2, .int (iI r))]) dX11_pass_5 rfl (by decide) rfl ?_
    refine tn_aload_n dX11_pass_6 rfl 0 rfl ?_
    refine tn_ifnull dX11_pass_7 ?_
    refine tn_iload_n dX11_pass_10 rfl 2 rfl ?_
    refine tn_if_lt (tgt := 19) dX11_pass_11 (by decide) ⟨by omega, by omega⟩ (fun h9 => ?_) (fun h9 => ?_)
    · refine tn_iconst dX11_pass_19 ?_
      exact tn_iret rfl dX11_pass_20 ⟨_, rfl, hw, FrC.rfl, by omega⟩
    · refine tn_iload_n dX11_pass_14 rfl 2 rfl ?_
      refine tn_iconst dX11_pass_15 ?_
      refine tn_icmp_le (tgt := 21) dX11_pass_16 (by decide) ⟨by omega, by omega⟩ ⟨by decide, by decide⟩ (fun h10 => ?_) (fun h10 => ?_)
      · refine tn_aload_n dX11_pass_21 rfl 1 rfl ?_
        refine tn_iload_n dX11_pass_22 rfl 2 rfl ?_
        refine tn_iload_n dX11_pass_23 rfl 3 rfl ?_
        refine tn_aload_n dX11_pass_24 rfl 0 rfl ?_
        refine tn_callV (M := m_X11_pass) (pc := 25) (ix := 194) (ci := 11) (M' := m_X11_tear) (As := [.int (iI k), .int (iI r), .ref x7]) (rest := []) dX11_pass_25 ok_X11_tear im_X11_tear se_X11_tear ml11_194 np_X11_tear rfl rfl ha rfl (Nat.le_of_ble_eq_true rfl) (Nat.le_of_ble_eq_true rfl) rfl (k_X11_tear (d) (T := T) (σ := σ) (a := a) (k := k) (r := r) (c := x7) ha (by omega) (by omega) hk8o hk8 hw ) (fun r11 T13 σ12 gt14 hp => ?_)
        obtain ⟨v16, rfl, w17, F18, f15⟩ := hp
        replace ha : OB T13 a 11 := gt14.ob ha
        replace hk8o : OB T13 x7 1 := gt14.ob hk8o
        replace hk8 : (T13 x7).1 = 50 := gt14.kk hk8 (by decide) (by decide)
        show Tn _ _ 28 T13 σ12 [(3, .ref x7), (0, .ref a), (1, .int (iI k)), (2, .int (iI r))] [.int (iI v16)] _
        refine tn_istore (L' := [(4, .int (iI v16)), (3, .ref x7), (0, .ref a), (1, .int (iI k)), (2, .int (iI r))]) dX11_pass_28 (by decide) rfl ?_
        refine tn_aload_n dX11_pass_30 rfl 1 rfl ?_
        refine tn_callV (M := m_X11_pass) (pc := 31) (ix := 198) (ci := 1) (M' := m_X1_link) (As := []) (rest := []) dX11_pass_31 ok_X1_link im_X1_link se_X1_link ml11_198 np_X1_link rfl rfl hk8o rfl (Nat.le_of_ble_eq_true rfl) (Nat.le_of_ble_eq_true rfl) rfl (k_X1_link (d + 5) (T := T13) (σ := σ12) (a := x7) hk8o w17 ) (fun r19 T21 σ20 gt22 hp => ?_)
        obtain ⟨rfl, rfl, w24, F25⟩ := hp
        clear gt22
        show Tn _ _ 34 T13 σ20 [(4, .int (iI v16)), (3, .ref x7), (0, .ref a), (1, .int (iI k)), (2, .int (iI r))] [] _
        refine tn_aload_n dX11_pass_34 rfl 2 rfl ?_
        obtain ⟨x26, hx27, hk28⟩ : ∃ x : Nat, σ12.2.1 102 a = (x : Int) ∧ (T13 x).1 = 40 := wf_102 w17 ha
        have hk28o : OB T13 x26 10 := ⟨by omega, by rw [hk28]; rfl, by omega⟩
        refine tn_getR (ci := 11) (i := 7) (n := 102) (x := x26) dX11_pass_35 rfl lay_11 (by decide) fl11_39 ha rfl rfl (rc_F F25 (Or.inl (by decide)) (by decide) (hx27)) ?_
        refine tn_iload_n dX11_pass_38 rfl 4 rfl ?_
        refine tn_callV (M := m_X11_pass) (pc := 39) (ix := 201) (ci := 10) (M' := m_X10_spoil) (As := [.int (iI r)]) (rest := []) dX11_pass_39 ok_X10_spoil im_X10_spoil se_X10_spoil ml11_201 np_X10_spoil rfl rfl hk28o rfl (Nat.le_of_ble_eq_true rfl) (Nat.le_of_ble_eq_true rfl) rfl (k_X10_spoil (d + 6) (T := T13) (σ := σ20) (a := x26) (p1 := r) hk28o (by omega) w24 ) (fun r30 T32 σ31 gt33 hp => ?_)
        obtain ⟨rfl, rfl, w35, F36⟩ := hp
        clear gt33
        show Tn _ _ 42 T13 σ31 [(4, .int (iI v16)), (3, .ref x7), (0, .ref a), (1, .int (iI k)), (2, .int (iI r))] [] _
        refine tn_aload_n dX11_pass_42 rfl 2 rfl ?_
        obtain ⟨x37, hx38, hk39⟩ : ∃ x : Nat, σ12.2.1 103 a = (x : Int) ∧ (T13 x).1 = 37 := wf_103 w17 ha
        have hk39o : OB T13 x37 7 := ⟨by omega, by rw [hk39]; rfl, by omega⟩
        refine tn_getR (ci := 11) (i := 8) (n := 103) (x := x37) dX11_pass_43 rfl lay_11 (by decide) fl11_83 ha rfl rfl (rc_F F36 (Or.inl (by decide)) (by decide) (rc_F F25 (Or.inl (by decide)) (by decide) (hx38))) ?_
        refine tn_callV (M := m_X11_pass) (pc := 46) (ix := 120) (ci := 7) (M' := m_X7_forget) (As := []) (rest := []) dX11_pass_46 ok_X7_forget im_X7_forget se_X7_forget ml11_120 np_X7_forget rfl rfl hk39o rfl (Nat.le_of_ble_eq_true rfl) (Nat.le_of_ble_eq_true rfl) rfl (k_X7_forget (d + 7) (T := T13) (σ := σ31) (a := x37) hk39o w35 ) (fun r41 T43 σ42 gt44 hp => ?_)
        obtain ⟨rfl, rfl, w46, F47⟩ := hp
        clear gt44
        show Tn _ _ 49 T13 σ42 [(4, .int (iI v16)), (3, .ref x7), (0, .ref a), (1, .int (iI k)), (2, .int (iI r))] [] _
        refine tn_iload dX11_pass_49 0 rfl ?_
        exact tn_iret rfl dX11_pass_51 ⟨_, rfl, w46, ((((FrC.rfl.trans (FrC.sub F18 (by decide))).trans (FrC.sub (FrC.old F25 gt14) (by decide))).trans (FrC.sub (FrC.old F36 gt14) (by decide))).trans (FrC.sub (FrC.old F47 gt14) (by decide))), by omega⟩
      · refine tn_iconst dX11_pass_19 ?_
        exact tn_iret rfl dX11_pass_20 ⟨_, rfl, hw, FrC.rfl, by omega⟩
end
section
theorem cd_X11_takeMade : Cond.code yX11_takeMade cX11_takeMade 2 none ∈ pWW := pw4 (List.mem_of_getElem? (i := 19) rfl) rfl
abbrev m_X11_takeMade : MT := (yX11_takeMade, cX11_takeMade, 2, none)
theorem ok_X11_takeMade : pOk m_X11_takeMade := ⟨⟨cd_X11_takeMade, ini_11⟩, by decide +kernel, ⟨by decide +kernel, by decide +kernel⟩, Nat.le_of_ble_eq_true rfl⟩
theorem np_X11_takeMade : (parseMethodDescriptor yX11_takeMade.desc).map (fun d => d.parameters.length) = some 1 := by decide +kernel
theorem im_X11_takeMade : Cond.instanceMethod yX11_takeMade ∈ pWW := pw4 (List.mem_of_getElem? (i := 18) rfl) rfl
theorem se_X11_takeMade : Cond.selects RX11 yX11_takeMade yX11_takeMade ∈ pWW := pws (List.mem_map.mpr ⟨_, lw_pin 34 rfl, rfl⟩) rfl
theorem fl11_15 : Cond.fieldLink RX11 15 (TX11 3).1 (TX11 3).2.1 (TX11 3).2.2.1 ∈ pWW := pw2 (List.mem_of_getElem? (i := 199) rfl) rfl
theorem fl11_25 : Cond.fieldLink RX11 25 (TX11 5).1 (TX11 5).2.1 (TX11 5).2.2.1 ∈ pWW := pw2 (List.mem_of_getElem? (i := 201) rfl) rfl
theorem ml11_285 : Cond.methodLink RX11 285 yX5_exchange ∈ pWW := pw4 (List.mem_of_getElem? (i := 20) rfl) rfl
theorem ml11_289 : Cond.methodLink RX11 289 yX1_copyFrom ∈ pWW := pw4 (List.mem_of_getElem? (i := 32) rfl) rfl
theorem dX11_takeMade_0 : decode cX11_takeMade 0 = .ok (.iload_n 1, 1) := by decide +kernel
theorem dX11_takeMade_1 : decode cX11_takeMade 1 = .ok (.ifCond .lt 39, 3) := by decide +kernel
theorem dX11_takeMade_40 : decode cX11_takeMade 40 = .ok (.return_, 1) := by decide +kernel
theorem dX11_takeMade_4 : decode cX11_takeMade 4 = .ok (.iload_n 1, 1) := by decide +kernel
theorem dX11_takeMade_5 : decode cX11_takeMade 5 = .ok (.aload_n 0, 1) := by decide +kernel
theorem dX11_takeMade_6 : decode cX11_takeMade 6 = .ok (.getfield 15, 3) := by decide +kernel
theorem dX11_takeMade_9 : decode cX11_takeMade 9 = .ok (.arraylength, 1) := by decide +kernel
theorem dX11_takeMade_10 : decode cX11_takeMade 10 = .ok (.if_icmp .ge 30, 3) := by decide +kernel
theorem dX11_takeMade_13 : decode cX11_takeMade 13 = .ok (.iload_n 1, 1) := by decide +kernel
theorem dX11_takeMade_14 : decode cX11_takeMade 14 = .ok (.aload_n 0, 1) := by decide +kernel
theorem dX11_takeMade_15 : decode cX11_takeMade 15 = .ok (.getfield 19, 3) := by decide +kernel
theorem dX11_takeMade_18 : decode cX11_takeMade 18 = .ok (.arraylength, 1) := by decide +kernel
theorem dX11_takeMade_19 : decode cX11_takeMade 19 = .ok (.if_icmp .ge 21, 3) := by decide +kernel
theorem dX11_takeMade_22 : decode cX11_takeMade 22 = .ok (.aload_n 0, 1) := by decide +kernel
theorem dX11_takeMade_23 : decode cX11_takeMade 23 = .ok (.getfield 19, 3) := by decide +kernel
theorem dX11_takeMade_26 : decode cX11_takeMade 26 = .ok (.iload_n 1, 1) := by decide +kernel
theorem dX11_takeMade_27 : decode cX11_takeMade 27 = .ok (.aaload, 1) := by decide +kernel
theorem dX11_takeMade_28 : decode cX11_takeMade 28 = .ok (.ifnull 12, 3) := by decide +kernel
theorem dX11_takeMade_31 : decode cX11_takeMade 31 = .ok (.aload_n 0, 1) := by decide +kernel
theorem dX11_takeMade_32 : decode cX11_takeMade 32 = .ok (.getfield 15, 3) := by decide +kernel
theorem dX11_takeMade_35 : decode cX11_takeMade 35 = .ok (.iload_n 1, 1) := by decide +kernel
theorem dX11_takeMade_36 : decode cX11_takeMade 36 = .ok (.aaload, 1) := by decide +kernel
theorem dX11_takeMade_37 : decode cX11_takeMade 37 = .ok (.ifnonnull 4, 3) := by decide +kernel
theorem dX11_takeMade_41 : decode cX11_takeMade 41 = .ok (.aload_n 0, 1) := by decide +kernel
theorem dX11_takeMade_42 : decode cX11_takeMade 42 = .ok (.getfield 15, 3) := by decide +kernel
theorem dX11_takeMade_45 : decode cX11_takeMade 45 = .ok (.iload_n 1, 1) := by decide +kernel
theorem dX11_takeMade_46 : decode cX11_takeMade 46 = .ok (.aload_n 0, 1) := by decide +kernel
theorem dX11_takeMade_47 : decode cX11_takeMade 47 = .ok (.getfield 25, 3) := by decide +kernel
theorem dX11_takeMade_50 : decode cX11_takeMade 50 = .ok (.iload_n 1, 1) := by decide +kernel
theorem dX11_takeMade_51 : decode cX11_takeMade 51 = .ok (.aload_n 0, 1) := by decide +kernel
theorem dX11_takeMade_52 : decode cX11_takeMade 52 = .ok (.getfield 15, 3) := by decide +kernel
theorem dX11_takeMade_55 : decode cX11_takeMade 55 = .ok (.iload_n 1, 1) := by decide +kernel
theorem dX11_takeMade_56 : decode cX11_takeMade 56 = .ok (.aaload, 1) := by decide +kernel
theorem dX11_takeMade_57 : decode cX11_takeMade 57 = .ok (.invokevirtual 285, 3) := by decide +kernel
theorem dX11_takeMade_60 : decode cX11_takeMade 60 = .ok (.aastore, 1) := by decide +kernel
theorem dX11_takeMade_61 : decode cX11_takeMade 61 = .ok (.aload_n 0, 1) := by decide +kernel
theorem dX11_takeMade_62 : decode cX11_takeMade 62 = .ok (.getfield 15, 3) := by decide +kernel
theorem dX11_takeMade_65 : decode cX11_takeMade 65 = .ok (.iload_n 1, 1) := by decide +kernel
theorem dX11_takeMade_66 : decode cX11_takeMade 66 = .ok (.aaload, 1) := by decide +kernel
theorem dX11_takeMade_67 : decode cX11_takeMade 67 = .ok (.invokevirtual 198, 3) := by decide +kernel
theorem dX11_takeMade_70 : decode cX11_takeMade 70 = .ok (.aload_n 0, 1) := by decide +kernel
theorem dX11_takeMade_71 : decode cX11_takeMade 71 = .ok (.getfield 19, 3) := by decide +kernel
theorem dX11_takeMade_74 : decode cX11_takeMade 74 = .ok (.iload_n 1, 1) := by decide +kernel
theorem dX11_takeMade_75 : decode cX11_takeMade 75 = .ok (.aaload, 1) := by decide +kernel
theorem dX11_takeMade_76 : decode cX11_takeMade 76 = .ok (.aload_n 0, 1) := by decide +kernel
theorem dX11_takeMade_77 : decode cX11_takeMade 77 = .ok (.getfield 15, 3) := by decide +kernel
theorem dX11_takeMade_80 : decode cX11_takeMade 80 = .ok (.iload_n 1, 1) := by decide +kernel
theorem dX11_takeMade_81 : decode cX11_takeMade 81 = .ok (.aaload, 1) := by decide +kernel
theorem dX11_takeMade_82 : decode cX11_takeMade 82 = .ok (.invokevirtual 289, 3) := by decide +kernel
theorem dX11_takeMade_85 : decode cX11_takeMade 85 = .ok (.aload_n 0, 1) := by decide +kernel
theorem dX11_takeMade_86 : decode cX11_takeMade 86 = .ok (.getfield 39, 3) := by decide +kernel
theorem dX11_takeMade_89 : decode cX11_takeMade 89 = .ok (.iload_n 1, 1) := by decide +kernel
theorem dX11_takeMade_90 : decode cX11_takeMade 90 = .ok (.invokevirtual 201, 3) := by decide +kernel
theorem dX11_takeMade_93 : decode cX11_takeMade 93 = .ok (.return_, 1) := by decide +kernel
set_option maxRecDepth 20000 in
theorem k_X11_takeMade (d : Nat) {T : CT} {σ : MS} {a : Nat} {r : Int} (ha : OB T a 11) (h_r : -2147483648 ≤ r ∧ r ≤ 2147483647) (hw : WT T σ) : Tn (d + 4) m_X11_takeMade 0 T σ [(0, .ref a), (1, .int (iI r))] [] (fun ro T2 σ2 => ro = none ∧ WT T2 σ2 ∧ FrC T [5, 6, 7, 8, 9, 10] σ σ2) := by
  refine tn_iload_n dX11_takeMade_0 rfl 1 rfl ?_
  refine tn_if_lt (tgt := 40) dX11_takeMade_1 (by decide) ⟨by omega, by omega⟩ (fun h1 => ?_) (fun h1 => ?_)
  · exact tn_vret rfl dX11_takeMade_40 ⟨rfl, hw, FrC.rfl⟩
  · refine tn_iload_n dX11_takeMade_4 rfl 1 rfl ?_
    refine tn_aload_n dX11_takeMade_5 rfl 0 rfl ?_
    obtain ⟨x2, hx3, hk4, hl5⟩ : ∃ x : Nat, σ.2.1 98 a = (x : Int) ∧ AR T x 4 6 6 := wf_98 hw ha
    have hk4i : (T x2).1 = 4 ∨ (T x2).1 = 5 := by omega
    refine tn_getR (ci := 11) (i := 3) (n := 98) (x := x2) dX11_takeMade_6 rfl lay_11 (by decide) fl11_15 ha rfl rfl (hx3) ?_
    refine tn_alenX dX11_takeMade_9 (by have q9 := hk4i; omega) ?_
    refine tn_icmp_ge (tgt := 40) dX11_takeMade_10 (by decide) ⟨by omega, by omega⟩ ⟨by omega, by omega⟩ (fun h6 => ?_) (fun h6 => ?_)
    · exact tn_vret rfl dX11_takeMade_40 ⟨rfl, hw, FrC.rfl⟩
    · refine tn_iload_n dX11_takeMade_13 rfl 1 rfl ?_
      refine tn_aload_n dX11_takeMade_14 rfl 0 rfl ?_
      obtain ⟨x7, hx8, hk9, hl10⟩ : ∃ x : Nat, σ.2.1 99 a = (x : Int) ∧ AR T x 5 6 6 := wf_99 hw ha
      have hk9i : (T x7).1 = 4 ∨ (T x7).1 = 5 := by omega
      refine tn_getR (ci := 11) (i := 4) (n := 99) (x := x7) dX11_takeMade_15 rfl lay_11 (by decide) fl11_19 ha rfl rfl (hx8) ?_
      refine tn_alenX dX11_takeMade_18 (by have q9 := hk9i; omega) ?_
      refine tn_icmp_ge (tgt := 40) dX11_takeMade_19 (by decide) ⟨by omega, by omega⟩ ⟨by omega, by omega⟩ (fun h11 => absurd h11 (by omega)) (fun h11 => ?_)
      refine tn_aload_n dX11_takeMade_22 rfl 0 rfl ?_
      refine tn_getR (ci := 11) (i := 4) (n := 99) (x := x7) dX11_takeMade_23 rfl lay_11 (by decide) fl11_19 ha rfl rfl (hx8) ?_
      refine tn_iload_n dX11_takeMade_26 rfl 1 rfl ?_
      obtain ⟨x12, hx13, hk14⟩ := (hw).2.2.2.1.2 x7 hk9 (r) (by omega) (by omega)
      refine tn_aald (z := r) (x := x12) dX11_takeMade_27 hk9i (by omega) (by omega) (by omega) hx13 ?_
      have hk14o : OB T x12 1 := ⟨by omega, by rw [hk14]; rfl, by omega⟩
      refine tn_ifnull dX11_takeMade_28 ?_
      refine tn_aload_n dX11_takeMade_31 rfl 0 rfl ?_
      refine tn_getR (ci := 11) (i := 3) (n := 98) (x := x2) dX11_takeMade_32 rfl lay_11 (by decide) fl11_15 ha rfl rfl (hx3) ?_
      refine tn_iload_n dX11_takeMade_35 rfl 1 rfl ?_
      obtain ⟨x15, hx16, hk17⟩ := (hw).2.2.2.1.1 x2 hk4 (r) (by omega) (by omega)
      refine tn_aald (z := r) (x := x15) dX11_takeMade_36 hk4i (by omega) (by omega) (by omega) hx16 ?_
      have hk17o : OB T x15 1 := ⟨by omega, by rw [hk17]; rfl, by omega⟩
      refine tn_ifnonnull (tgt := 41) dX11_takeMade_37 (by decide) ?_
      refine tn_aload_n dX11_takeMade_41 rfl 0 rfl ?_
      refine tn_getR (ci := 11) (i := 3) (n := 98) (x := x2) dX11_takeMade_42 rfl lay_11 (by decide) fl11_15 ha rfl rfl (hx3) ?_
      refine tn_iload_n dX11_takeMade_45 rfl 1 rfl ?_
      refine tn_aload_n dX11_takeMade_46 rfl 0 rfl ?_
      obtain ⟨x18, hx19, hk20⟩ : ∃ x : Nat, σ.2.1 100 a = (x : Int) ∧ (T x).1 = 35 := wf_100 hw ha
      have hk20o : OB T x18 5 := ⟨by omega, by rw [hk20]; rfl, by omega⟩
      refine tn_getR (ci := 11) (i := 5) (n := 100) (x := x18) dX11_takeMade_47 rfl lay_11 (by decide) fl11_25 ha rfl rfl (hx19) ?_
      refine tn_iload_n dX11_takeMade_50 rfl 1 rfl ?_
      refine tn_aload_n dX11_takeMade_51 rfl 0 rfl ?_
      refine tn_getR (ci := 11) (i := 3) (n := 98) (x := x2) dX11_takeMade_52 rfl lay_11 (by decide) fl11_15 ha rfl rfl (hx3) ?_
      refine tn_iload_n dX11_takeMade_55 rfl 1 rfl ?_
      obtain ⟨x22, hx23, hk24⟩ := (hw).2.2.2.1.1 x2 hk4 (r) (by omega) (by omega)
      refine tn_aald (z := r) (x := x22) dX11_takeMade_56 hk4i (by omega) (by omega) (by omega) hx23 ?_
      have hk24o : OB T x22 1 := ⟨by omega, by rw [hk24]; rfl, by omega⟩
      refine tn_callV (M := m_X11_takeMade) (pc := 57) (ix := 285) (ci := 5) (M' := m_X5_exchange) (As := [.int (iI r), .ref x22]) (rest := [.int (iI r), .ref x2]) dX11_takeMade_57 ok_X5_exchange im_X5_exchange se_X5_exchange ml11_285 np_X5_exchange rfl rfl hk20o rfl (Nat.le_of_ble_eq_true rfl) (Nat.le_of_ble_eq_true rfl) rfl (k_X5_exchange (d + 2) (T := T) (σ := σ) (a := x18) (p1 := r) (p2 := x22) hk20o (by omega) hk24o hk24 hw ) (fun r25 T27 σ26 gt28 hp => ?_)
      obtain ⟨v29, rfl, rfl, w30, F31, rv32⟩ := hp
      clear gt28
      obtain ⟨x33, rfl, hk34⟩ := rv32
      show Tn _ _ 60 T σ26 [(0, .ref a), (1, .int (iI r))] (vl true (x33 : Int) :: [.int (iI r), .ref x2]) _
      rw [vl_ref rfl]
      have hk34o : OB T x33 1 := ⟨by omega, by rw [hk34]; rfl, by omega⟩
      refine tn_aastQ (z := r) (v := x33) dX11_takeMade_60 (by have q9 := hk4i; omega) hk34o.r (by omega) (by omega) (by omega) ?_
      refine tn_aload_n dX11_takeMade_61 rfl 0 rfl ?_
      refine tn_getR (ci := 11) (i := 3) (n := 98) (x := x2) dX11_takeMade_62 rfl lay_11 (by decide) fl11_15 ha rfl rfl (rc_a (Or.inl (by decide)) (rc_F F31 (Or.inl (by decide)) (by decide) (hx3))) ?_
      refine tn_iload_n dX11_takeMade_65 rfl 1 rfl ?_
      obtain ⟨x35, hx36, hk37⟩ := ((show WT T (sA (1000 + x2) (r) (x33 : Int) σ26) from (w30.rq (by have h1 := hk4; have h2 := hk34; omega)))).2.2.2.1.1 x2 hk4 (r) (by omega) (by omega)
      refine tn_aald (z := r) (x := x35) dX11_takeMade_66 hk4i (by omega) (by omega) (by omega) hx36 ?_
      have hk37o : OB T x35 1 := ⟨by omega, by rw [hk37]; rfl, by omega⟩
      refine tn_callV (M := m_X11_takeMade) (pc := 67) (ix := 198) (ci := 1) (M' := m_X1_link) (As := []) (rest := []) dX11_takeMade_67 ok_X1_link im_X1_link se_X1_link ml11_198 np_X1_link rfl rfl hk37o rfl (Nat.le_of_ble_eq_true rfl) (Nat.le_of_ble_eq_true rfl) rfl (k_X1_link (d) (T := T) (σ := (sA (1000 + x2) (r) (x33 : Int) σ26)) (a := x35) hk37o (w30.rq (by have h1 := hk4; have h2 := hk34; omega)) ) (fun r38 T40 σ39 gt41 hp => ?_)
      obtain ⟨rfl, rfl, w43, F44⟩ := hp
      clear gt41
      show Tn _ _ 70 T σ39 [(0, .ref a), (1, .int (iI r))] [] _
      refine tn_aload_n dX11_takeMade_70 rfl 0 rfl ?_
      refine tn_getR (ci := 11) (i := 4) (n := 99) (x := x7) dX11_takeMade_71 rfl lay_11 (by decide) fl11_19 ha rfl rfl (rc_F F44 (Or.inl (by decide)) (by decide) (rc_a (Or.inl (by decide)) (rc_F F31 (Or.inl (by decide)) (by decide) (hx8)))) ?_
      refine tn_iload_n dX11_takeMade_74 rfl 1 rfl ?_
      obtain ⟨x45, hx46, hk47⟩ := (w43).2.2.2.1.2 x7 hk9 (r) (by omega) (by omega)
      refine tn_aald (z := r) (x := x45) dX11_takeMade_75 hk9i (by omega) (by omega) (by omega) hx46 ?_
      have hk47o : OB T x45 1 := ⟨by omega, by rw [hk47]; rfl, by omega⟩
      refine tn_aload_n dX11_takeMade_76 rfl 0 rfl ?_
      refine tn_getR (ci := 11) (i := 3) (n := 98) (x := x2) dX11_takeMade_77 rfl lay_11 (by decide) fl11_15 ha rfl rfl (rc_F F44 (Or.inl (by decide)) (by decide) (rc_a (Or.inl (by decide)) (rc_F F31 (Or.inl (by decide)) (by decide) (hx3)))) ?_
      refine tn_iload_n dX11_takeMade_80 rfl 1 rfl ?_
      obtain ⟨x48, hx49, hk50⟩ := (w43).2.2.2.1.1 x2 hk4 (r) (by omega) (by omega)
      refine tn_aald (z := r) (x := x48) dX11_takeMade_81 hk4i (by omega) (by omega) (by omega) hx49 ?_
      have hk50o : OB T x48 1 := ⟨by omega, by rw [hk50]; rfl, by omega⟩
      refine tn_callV (M := m_X11_takeMade) (pc := 82) (ix := 289) (ci := 1) (M' := m_X1_copyFrom) (As := [.ref x48]) (rest := []) dX11_takeMade_82 ok_X1_copyFrom im_X1_copyFrom se_X1_copyFrom ml11_289 np_X1_copyFrom rfl rfl hk47o rfl (Nat.le_of_ble_eq_true rfl) (Nat.le_of_ble_eq_true rfl) rfl (k_X1_copyFrom (d) (T := T) (σ := σ39) (a := x45) (p1 := x48) hk47o hk47 hk50o hk50 w43 ) (fun r51 T53 σ52 gt54 hp => ?_)
      obtain ⟨rfl, w56, F57⟩ := hp
      replace ha : OB T53 a 11 := gt54.ob ha
      show Tn _ _ 85 T53 σ52 [(0, .ref a), (1, .int (iI r))] [] _
      refine tn_aload_n dX11_takeMade_85 rfl 0 rfl ?_
      obtain ⟨x58, hx59, hk60⟩ : ∃ x : Nat, σ52.2.1 102 a = (x : Int) ∧ (T53 x).1 = 40 := wf_102 w56 ha
      have hk60o : OB T53 x58 10 := ⟨by omega, by rw [hk60]; rfl, by omega⟩
      refine tn_getR (ci := 11) (i := 7) (n := 102) (x := x58) dX11_takeMade_86 rfl lay_11 (by decide) fl11_39 ha rfl rfl (hx59) ?_
      refine tn_iload_n dX11_takeMade_89 rfl 1 rfl ?_
      refine tn_callV (M := m_X11_takeMade) (pc := 90) (ix := 201) (ci := 10) (M' := m_X10_spoil) (As := [.int (iI r)]) (rest := []) dX11_takeMade_90 ok_X10_spoil im_X10_spoil se_X10_spoil ml11_201 np_X10_spoil rfl rfl hk60o rfl (Nat.le_of_ble_eq_true rfl) (Nat.le_of_ble_eq_true rfl) rfl (k_X10_spoil (d + 1) (T := T53) (σ := σ52) (a := x58) (p1 := r) hk60o (by omega) w56 ) (fun r62 T64 σ63 gt65 hp => ?_)
      obtain ⟨rfl, rfl, w67, F68⟩ := hp
      clear gt65
      show Tn _ _ 93 T53 σ63 [(0, .ref a), (1, .int (iI r))] [] _
      exact tn_vret rfl dX11_takeMade_93 ⟨rfl, w67, (((((FrC.rfl.trans (FrC.sub F31 (by decide))).arr (hk_no (nh_k hk4 (by unfold HT; omega)))).trans (FrC.sub F44 (by decide))).trans (FrC.sub F57 (by decide))).trans (FrC.sub (FrC.old F68 gt54) (by decide)))⟩
end
