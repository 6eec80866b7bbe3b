theorem cd_X5_settleCalls : Cond.code yX5_settleCalls cX5_settleCalls 4 (some .boolean) ∈ pWW := pw4 (List.mem_of_getElem? (i := 14) rfl) rfl
abbrev m_X5_settleCalls : MT := (yX5_settleCalls, cX5_settleCalls, 4, (some .boolean))
theorem ok_X5_settleCalls : pOk m_X5_settleCalls := ⟨⟨cd_X5_settleCalls, ini_5⟩, by decide +kernel, ⟨by decide +kernel, by decide +kernel⟩, Nat.le_of_ble_eq_true rfl⟩
theorem np_X5_settleCalls : (parseMethodDescriptor yX5_settleCalls.desc).map (fun d => d.parameters.length) = some 0 := by decide +kernel
theorem im_X5_settleCalls : Cond.instanceMethod yX5_settleCalls ∈ pWW := pw4 (List.mem_of_getElem? (i := 13) rfl) rfl
theorem se_X5_settleCalls : Cond.selects RX5 yX5_settleCalls yX5_settleCalls ∈ pWW := pws (List.mem_map.mpr ⟨_, lw_pin 33 rfl, rfl⟩) rfl
theorem dX5_settleCalls_0 : decode cX5_settleCalls 0 = .ok (.iconst 0, 1) := by decide +kernel
theorem dX5_settleCalls_1 : decode cX5_settleCalls 1 = .ok (.istore_n 1, 1) := by decide +kernel
theorem dX5_settleCalls_2 : decode cX5_settleCalls 2 = .ok (.iload_n 1, 1) := by decide +kernel
theorem dX5_settleCalls_3 : decode cX5_settleCalls 3 = .ok (.aload_n 0, 1) := by decide +kernel
theorem dX5_settleCalls_4 : decode cX5_settleCalls 4 = .ok (.getfield 61, 3) := by decide +kernel
theorem dX5_settleCalls_7 : decode cX5_settleCalls 7 = .ok (.if_icmp .ge 75, 3) := by decide +kernel
theorem dX5_settleCalls_10 : decode cX5_settleCalls 10 = .ok (.aload_n 0, 1) := by decide +kernel
theorem dX5_settleCalls_11 : decode cX5_settleCalls 11 = .ok (.aload_n 0, 1) := by decide +kernel
theorem dX5_settleCalls_12 : decode cX5_settleCalls 12 = .ok (.getfield 31, 3) := by decide +kernel
theorem dX5_settleCalls_15 : decode cX5_settleCalls 15 = .ok (.iload_n 1, 1) := by decide +kernel
theorem dX5_settleCalls_16 : decode cX5_settleCalls 16 = .ok (.invokestatic 231, 3) := by decide +kernel
theorem dX5_settleCalls_19 : decode cX5_settleCalls 19 = .ok (.invokevirtual 109, 3) := by decide +kernel
theorem dX5_settleCalls_22 : decode cX5_settleCalls 22 = .ok (.istore_n 2, 1) := by decide +kernel
theorem dX5_settleCalls_23 : decode cX5_settleCalls 23 = .ok (.iload_n 2, 1) := by decide +kernel
theorem dX5_settleCalls_24 : decode cX5_settleCalls 24 = .ok (.iconst (-1), 1) := by decide +kernel
theorem dX5_settleCalls_25 : decode cX5_settleCalls 25 = .ok (.if_icmp .ne 19, 3) := by decide +kernel
theorem dX5_settleCalls_44 : decode cX5_settleCalls 44 = .ok (.aload_n 0, 1) := by decide +kernel
theorem dX5_settleCalls_45 : decode cX5_settleCalls 45 = .ok (.getfield 28, 3) := by decide +kernel
theorem dX5_settleCalls_48 : decode cX5_settleCalls 48 = .ok (.iload_n 2, 1) := by decide +kernel
theorem dX5_settleCalls_49 : decode cX5_settleCalls 49 = .ok (.invokestatic 231, 3) := by decide +kernel
theorem dX5_settleCalls_52 : decode cX5_settleCalls 52 = .ok (.aload_n 0, 1) := by decide +kernel
theorem dX5_settleCalls_53 : decode cX5_settleCalls 53 = .ok (.getfield 37, 3) := by decide +kernel
theorem dX5_settleCalls_56 : decode cX5_settleCalls 56 = .ok (.iload_n 1, 1) := by decide +kernel
theorem dX5_settleCalls_57 : decode cX5_settleCalls 57 = .ok (.invokestatic 231, 3) := by decide +kernel
theorem dX5_settleCalls_60 : decode cX5_settleCalls 60 = .ok (.if_icmp .eq 16, 3) := by decide +kernel
theorem dX5_settleCalls_76 : decode cX5_settleCalls 76 = .ok (.iinc 1 1, 3) := by decide +kernel
theorem dX5_settleCalls_79 : decode cX5_settleCalls 79 = .ok (.goto (-77), 3) := by decide +kernel
theorem dX5_settleCalls_63 : decode cX5_settleCalls 63 = .ok (.aload_n 0, 1) := by decide +kernel
theorem dX5_settleCalls_64 : decode cX5_settleCalls 64 = .ok (.iconst 4, 1) := by decide +kernel
theorem dX5_settleCalls_65 : decode cX5_settleCalls 65 = .ok (.aload_n 0, 1) := by decide +kernel
theorem dX5_settleCalls_66 : decode cX5_settleCalls 66 = .ok (.getfield 34, 3) := by decide +kernel
theorem dX5_settleCalls_69 : decode cX5_settleCalls 69 = .ok (.iload_n 1, 1) := by decide +kernel
theorem dX5_settleCalls_70 : decode cX5_settleCalls 70 = .ok (.invokestatic 231, 3) := by decide +kernel
theorem dX5_settleCalls_73 : decode cX5_settleCalls 73 = .ok (.invokevirtual 113, 3) := by decide +kernel
theorem dX5_settleCalls_28 : decode cX5_settleCalls 28 = .ok (.aload_n 0, 1) := by decide +kernel
theorem dX5_settleCalls_29 : decode cX5_settleCalls 29 = .ok (.iconst 3, 1) := by decide +kernel
theorem dX5_settleCalls_30 : decode cX5_settleCalls 30 = .ok (.aload_n 0, 1) := by decide +kernel
theorem dX5_settleCalls_31 : decode cX5_settleCalls 31 = .ok (.getfield 34, 3) := by decide +kernel
theorem dX5_settleCalls_34 : decode cX5_settleCalls 34 = .ok (.iload_n 1, 1) := by decide +kernel
theorem dX5_settleCalls_35 : decode cX5_settleCalls 35 = .ok (.invokestatic 231, 3) := by decide +kernel
theorem dX5_settleCalls_38 : decode cX5_settleCalls 38 = .ok (.invokevirtual 113, 3) := by decide +kernel
theorem dX5_settleCalls_41 : decode cX5_settleCalls 41 = .ok (.goto 35, 3) := by decide +kernel
set_option maxRecDepth 20000 in
theorem l_X5_settleCalls_2 (d : Nat) {T : CT} {σ0 : MS} {a : Nat} {post : Option Value → CT → MS → Prop} (h_a : OB T a 5) (hw0 : WT T σ0) (hx_82 : ∀ (i1 : Int) (σ : MS) , (WT T σ) → (FrC T [43, 44] σ0 σ) → (0 ≤ i1 ∧ i1 ≤ 2147483647) → Tn (d + 3) m_X5_settleCalls 82 T σ [(0, .ref a), (1, .int (iI i1))] [] post) : ∀ (n : Nat) (i1 : Int) (σ : MS) , (WT T σ) → (FrC T [43, 44] σ0 σ) → (0 ≤ i1 ∧ i1 ≤ 2147483647) → (2147483700 - i1).toNat = n → Tn (d + 3) m_X5_settleCalls 2 T σ [(0, .ref a), (1, .int (iI i1))] [] post := by
  intro n
  induction n using Nat.strongRecOn with
  | _ n ih =>
    intro i1 σ hw hF r_i1 hm
    refine tn_iload_n dX5_settleCalls_2 rfl 1 rfl ?_
    refine tn_aload_n dX5_settleCalls_3 rfl 0 rfl ?_
    refine tn_getI (ci := 5) (i := 9) (n := 42) (t := σ0.2.1 42 a) dX5_settleCalls_4 rfl lay_5 (by decide) fl5_61 h_a rfl rfl (rc_F hF (Or.inl (by decide)) (by decide) (rfl)) ?_
    have g1 : ((0 : Int) ≤ σ0.2.1 42 a ∧ σ0.2.1 42 a ≤ 256) := wf_42 hw0 h_a
    refine tn_icmp_ge (tgt := 82) dX5_settleCalls_7 (by decide) ⟨by omega, by omega⟩ ⟨by omega, by omega⟩ (fun h2 => ?_) (fun h2 => ?_)
    · exact tn_sub [0, 1] rfl (hx_82 (i1) σ hw (FrC.rfl.trans (FrC.sub hF (by decide))) (by omega))
    · refine tn_aload_n dX5_settleCalls_10 rfl 0 rfl ?_
      refine tn_aload_n dX5_settleCalls_11 rfl 0 rfl ?_
      obtain ⟨x3, hx4, hk5, hl6⟩ : ∃ x : Nat, σ0.2.1 39 a = (x : Int) ∧ AR T x 18 256 256 := wf_39 hw0 h_a
      have hk5i : IA T x3 := by unfold IA; omega
      refine tn_getR (ci := 5) (i := 6) (n := 39) (x := x3) dX5_settleCalls_12 rfl lay_5 (by decide) fl5_31 h_a rfl rfl (rc_F hF (Or.inl (by decide)) (by decide) (hx4)) ?_
      refine tn_iload_n dX5_settleCalls_15 rfl 1 rfl ?_
      refine tn_callSN (M := m_X5_settleCalls) (pc := 16) (ix := 231) (M' := m_X11_at) (As := [.ref x3, .int (iI i1)]) (rest := [.ref a]) dX5_settleCalls_16 ok_X11_at stt_X11_at nl5_231 np_X11_at rfl (Nat.le_of_ble_eq_true rfl) (Nat.le_of_ble_eq_true rfl) rfl (k_X11_at (d + 1) (T := T) (σ := σ) (x := x3) (i := i1) hk5i (by omega) (by omega) hw ) (fun r7 T9 σ8 gt10 hp => ?_)
      obtain ⟨v14, rfl, rfl, rfl, f11, f12, f13⟩ := hp
      clear gt10
      clear f12 f13
      show Tn _ _ 19 T σ [(0, .ref a), (1, .int (iI i1))] [.int (iI v14), .ref a] _
      refine tn_callV (M := m_X5_settleCalls) (pc := 19) (ix := 109) (ci := 5) (M' := m_X5_routineOf) (As := [.int (iI v14)]) (rest := []) dX5_settleCalls_19 ok_X5_routineOf im_X5_routineOf se_X5_routineOf ml5_109 np_X5_routineOf rfl rfl h_a rfl (Nat.le_of_ble_eq_true rfl) (Nat.le_of_ble_eq_true rfl) rfl (k_X5_routineOf (d) (T := T) (σ := σ) (a := a) (k := v14) h_a (by omega) hw ) (fun r15 T17 σ16 gt18 hp => ?_)
      obtain ⟨v20, rfl, rfl, rfl, f19⟩ := hp
      clear gt18
      show Tn _ _ 22 T σ [(0, .ref a), (1, .int (iI i1))] [.int (iI v20)] _
      refine tn_istore_n (L' := [(2, .int (iI v20)), (0, .ref a), (1, .int (iI i1))]) dX5_settleCalls_22 rfl (by decide) rfl ?_
      refine tn_iload_n dX5_settleCalls_23 rfl 0 rfl ?_
      refine tn_iconst dX5_settleCalls_24 ?_
      refine tn_icmp_ne (tgt := 44) dX5_settleCalls_25 (by decide) ⟨by omega, by omega⟩ ⟨by decide, by decide⟩ (fun h21 => ?_) (fun h21 => ?_)
      · refine tn_aload_n dX5_settleCalls_44 rfl 1 rfl ?_
        obtain ⟨x22, hx23, hk24, hl25⟩ : ∃ x : Nat, σ0.2.1 37 a = (x : Int) ∧ AR T x 17 256 256 := wf_37 hw0 h_a
        have hk24i : IA T x22 := by unfold IA; omega
        refine tn_getR (ci := 5) (i := 4) (n := 37) (x := x22) dX5_settleCalls_45 rfl lay_5 (by decide) fl5_28 h_a rfl rfl (rc_F hF (Or.inl (by decide)) (by decide) (hx23)) ?_
        refine tn_iload_n dX5_settleCalls_48 rfl 0 rfl ?_
        refine tn_callSN (M := m_X5_settleCalls) (pc := 49) (ix := 231) (M' := m_X11_at) (As := [.ref x22, .int (iI v20)]) (rest := []) dX5_settleCalls_49 ok_X11_at stt_X11_at nl5_231 np_X11_at rfl (Nat.le_of_ble_eq_true rfl) (Nat.le_of_ble_eq_true rfl) rfl (k_X11_at (d + 1) (T := T) (σ := σ) (x := x22) (i := v20) hk24i (by omega) (by omega) hw ) (fun r26 T28 σ27 gt29 hp => ?_)
        obtain ⟨v33, rfl, rfl, rfl, f30, f31, f32⟩ := hp
        clear gt29
        clear f31 f32
        show Tn _ _ 52 T σ [(2, .int (iI v20)), (0, .ref a), (1, .int (iI i1))] [.int (iI v33)] _
        refine tn_aload_n dX5_settleCalls_52 rfl 1 rfl ?_
        obtain ⟨x34, hx35, hk36, hl37⟩ : ∃ x : Nat, σ0.2.1 41 a = (x : Int) ∧ AR T x 20 256 256 := wf_41 hw0 h_a
        have hk36i : IA T x34 := by unfold IA; omega
        refine tn_getR (ci := 5) (i := 8) (n := 41) (x := x34) dX5_settleCalls_53 rfl lay_5 (by decide) fl5_37 h_a rfl rfl (rc_F hF (Or.inl (by decide)) (by decide) (hx35)) ?_
        refine tn_iload_n dX5_settleCalls_56 rfl 2 rfl ?_
        refine tn_callSN (M := m_X5_settleCalls) (pc := 57) (ix := 231) (M' := m_X11_at) (As := [.ref x34, .int (iI i1)]) (rest := [.int (iI v33)]) dX5_settleCalls_57 ok_X11_at stt_X11_at nl5_231 np_X11_at rfl (Nat.le_of_ble_eq_true rfl) (Nat.le_of_ble_eq_true rfl) rfl (k_X11_at (d + 1) (T := T) (σ := σ) (x := x34) (i := i1) hk36i (by omega) (by omega) hw ) (fun r38 T40 σ39 gt41 hp => ?_)
        obtain ⟨v45, rfl, rfl, rfl, f42, f43, f44⟩ := hp
        clear gt41
        clear f43 f44
        show Tn _ _ 60 T σ [(2, .int (iI v20)), (0, .ref a), (1, .int (iI i1))] [.int (iI v45), .int (iI v33)] _
        refine tn_icmp_eq (tgt := 76) dX5_settleCalls_60 (by decide) ⟨by omega, by omega⟩ ⟨by omega, by omega⟩ (fun h46 => ?_) (fun h46 => ?_)
        · refine tn_iinc (q0 := 2) (L' := [(1, .int (iI (i1 + 1))), (2, .int (iI v20)), (0, .ref a)]) dX5_settleCalls_76 rfl (by decide) rfl ?_
          refine tn_goto (tgt := 2) dX5_settleCalls_79 (by decide) ?_
          exact tn_sub [2, 0] rfl (ih _ (by omega) (i1 + 1) σ hw (FrC.rfl.trans (FrC.sub hF (by decide))) (by omega) rfl)
        · refine tn_aload_n dX5_settleCalls_63 rfl 1 rfl ?_
          refine tn_iconst dX5_settleCalls_64 ?_
          refine tn_aload_n dX5_settleCalls_65 rfl 1 rfl ?_
          obtain ⟨x47, hx48, hk49, hl50⟩ : ∃ x : Nat, σ0.2.1 40 a = (x : Int) ∧ AR T x 19 256 256 := wf_40 hw0 h_a
          have hk49i : IA T x47 := by unfold IA; omega
          refine tn_getR (ci := 5) (i := 7) (n := 40) (x := x47) dX5_settleCalls_66 rfl lay_5 (by decide) fl5_34 h_a rfl rfl (rc_F hF (Or.inl (by decide)) (by decide) (hx48)) ?_
          refine tn_iload_n dX5_settleCalls_69 rfl 2 rfl ?_
          refine tn_callSN (M := m_X5_settleCalls) (pc := 70) (ix := 231) (M' := m_X11_at) (As := [.ref x47, .int (iI i1)]) (rest := [.int (iI 4), .ref a]) dX5_settleCalls_70 ok_X11_at stt_X11_at nl5_231 np_X11_at rfl (Nat.le_of_ble_eq_true rfl) (Nat.le_of_ble_eq_true rfl) rfl (k_X11_at (d + 1) (T := T) (σ := σ) (x := x47) (i := i1) hk49i (by omega) (by omega) hw ) (fun r51 T53 σ52 gt54 hp => ?_)
          obtain ⟨v58, rfl, rfl, rfl, f55, f56, f57⟩ := hp
          clear gt54
          clear f56 f57
          show Tn _ _ 73 T σ [(2, .int (iI v20)), (0, .ref a), (1, .int (iI i1))] [.int (iI v58), .int (iI 4), .ref a] _
          refine tn_callV (M := m_X5_settleCalls) (pc := 73) (ix := 113) (ci := 5) (M' := m_X5_note) (As := [.int (iI 4), .int (iI v58)]) (rest := []) dX5_settleCalls_73 ok_X5_note im_X5_note se_X5_note ml5_113 np_X5_note rfl rfl h_a rfl (Nat.le_of_ble_eq_true rfl) (Nat.le_of_ble_eq_true rfl) rfl (k_X5_note (d + 1) (T := T) (σ := σ) (a := a) (p1 := 4) (p2 := v58) h_a (by decide) (by omega) hw ) (fun r59 T61 σ60 gt62 hp => ?_)
          obtain ⟨rfl, rfl, w64, F65⟩ := hp
          clear gt62
          show Tn _ _ 76 T σ60 [(2, .int (iI v20)), (0, .ref a), (1, .int (iI i1))] [] _
          refine tn_iinc (q0 := 2) (L' := [(1, .int (iI (i1 + 1))), (2, .int (iI v20)), (0, .ref a)]) dX5_settleCalls_76 rfl (by decide) rfl ?_
          refine tn_goto (tgt := 2) dX5_settleCalls_79 (by decide) ?_
          exact tn_sub [2, 0] rfl (ih _ (by omega) (i1 + 1) σ60 w64 ((FrC.rfl.trans (FrC.sub hF (by decide))).trans (FrC.sub F65 (by decide))) (by omega) rfl)
      · refine tn_aload_n dX5_settleCalls_28 rfl 1 rfl ?_
        refine tn_iconst dX5_settleCalls_29 ?_
        refine tn_aload_n dX5_settleCalls_30 rfl 1 rfl ?_
        obtain ⟨x66, hx67, hk68, hl69⟩ : ∃ x : Nat, σ0.2.1 40 a = (x : Int) ∧ AR T x 19 256 256 := wf_40 hw0 h_a
        have hk68i : IA T x66 := by unfold IA; omega
        refine tn_getR (ci := 5) (i := 7) (n := 40) (x := x66) dX5_settleCalls_31 rfl lay_5 (by decide) fl5_34 h_a rfl rfl (rc_F hF (Or.inl (by decide)) (by decide) (hx67)) ?_
        refine tn_iload_n dX5_settleCalls_34 rfl 2 rfl ?_
        refine tn_callSN (M := m_X5_settleCalls) (pc := 35) (ix := 231) (M' := m_X11_at) (As := [.ref x66, .int (iI i1)]) (rest := [.int (iI 3), .ref a]) dX5_settleCalls_35 ok_X11_at stt_X11_at nl5_231 np_X11_at rfl (Nat.le_of_ble_eq_true rfl) (Nat.le_of_ble_eq_true rfl) rfl (k_X11_at (d + 1) (T := T) (σ := σ) (x := x66) (i := i1) hk68i (by omega) (by omega) hw ) (fun r70 T72 σ71 gt73 hp => ?_)
        obtain ⟨v77, rfl, rfl, rfl, f74, f75, f76⟩ := hp
        clear gt73
        clear f75 f76
        show Tn _ _ 38 T σ [(2, .int (iI v20)), (0, .ref a), (1, .int (iI i1))] [.int (iI v77), .int (iI 3), .ref a] _
        refine tn_callV (M := m_X5_settleCalls) (pc := 38) (ix := 113) (ci := 5) (M' := m_X5_note) (As := [.int (iI 3), .int (iI v77)]) (rest := []) dX5_settleCalls_38 ok_X5_note im_X5_note se_X5_note ml5_113 np_X5_note rfl rfl h_a rfl (Nat.le_of_ble_eq_true rfl) (Nat.le_of_ble_eq_true rfl) rfl (k_X5_note (d + 1) (T := T) (σ := σ) (a := a) (p1 := 3) (p2 := v77) h_a (by decide) (by omega) hw ) (fun r78 T80 σ79 gt81 hp => ?_)
        obtain ⟨rfl, rfl, w83, F84⟩ := hp
        clear gt81
        show Tn _ _ 41 T σ79 [(2, .int (iI v20)), (0, .ref a), (1, .int (iI i1))] [] _
        refine tn_goto (tgt := 76) dX5_settleCalls_41 (by decide) ?_
        refine tn_iinc (q0 := 2) (L' := [(1, .int (iI (i1 + 1))), (2, .int (iI v20)), (0, .ref a)]) dX5_settleCalls_76 rfl (by decide) rfl ?_
        refine tn_goto (tgt := 2) dX5_settleCalls_79 (by decide) ?_
        exact tn_sub [2, 0] rfl (ih _ (by omega) (i1 + 1) σ79 w83 ((FrC.rfl.trans (FrC.sub hF (by decide))).trans (FrC.sub F84 (by decide))) (by omega) rfl)
theorem dX5_settleCalls_82 : decode cX5_settleCalls 82 = .ok (.iconst 0, 1) := by decide +kernel
theorem dX5_settleCalls_83 : decode cX5_settleCalls 83 = .ok (.istore_n 1, 1) := by decide +kernel
theorem dX5_settleCalls_84 : decode cX5_settleCalls 84 = .ok (.aload_n 0, 1) := by decide +kernel
theorem dX5_settleCalls_85 : decode cX5_settleCalls 85 = .ok (.getfield 51, 3) := by decide +kernel
theorem dX5_settleCalls_88 : decode cX5_settleCalls 88 = .ok (.ifCond .ne 80, 3) := by decide +kernel
theorem dX5_settleCalls_91 : decode cX5_settleCalls 91 = .ok (.iload_n 1, 1) := by decide +kernel
theorem dX5_settleCalls_92 : decode cX5_settleCalls 92 = .ok (.aload_n 0, 1) := by decide +kernel
theorem dX5_settleCalls_93 : decode cX5_settleCalls 93 = .ok (.getfield 58, 3) := by decide +kernel
theorem dX5_settleCalls_96 : decode cX5_settleCalls 96 = .ok (.if_icmp .ge 72, 3) := by decide +kernel
theorem dX5_settleCalls_99 : decode cX5_settleCalls 99 = .ok (.iload_n 1, 1) := by decide +kernel
theorem dX5_settleCalls_100 : decode cX5_settleCalls 100 = .ok (.aload_n 0, 1) := by decide +kernel
theorem dX5_settleCalls_101 : decode cX5_settleCalls 101 = .ok (.getfield 20, 3) := by decide +kernel
theorem dX5_settleCalls_104 : decode cX5_settleCalls 104 = .ok (.arraylength, 1) := by decide +kernel
theorem dX5_settleCalls_105 : decode cX5_settleCalls 105 = .ok (.if_icmp .ge 63, 3) := by decide +kernel
theorem dX5_settleCalls_108 : decode cX5_settleCalls 108 = .ok (.aload_n 0, 1) := by decide +kernel
theorem dX5_settleCalls_109 : decode cX5_settleCalls 109 = .ok (.getfield 20, 3) := by decide +kernel
theorem dX5_settleCalls_112 : decode cX5_settleCalls 112 = .ok (.iload_n 1, 1) := by decide +kernel
theorem dX5_settleCalls_113 : decode cX5_settleCalls 113 = .ok (.aaload, 1) := by decide +kernel
theorem dX5_settleCalls_114 : decode cX5_settleCalls 114 = .ok (.astore_n 2, 1) := by decide +kernel
theorem dX5_settleCalls_115 : decode cX5_settleCalls 115 = .ok (.iconst 0, 1) := by decide +kernel
theorem dX5_settleCalls_116 : decode cX5_settleCalls 116 = .ok (.istore_n 3, 1) := by decide +kernel
theorem dX5_settleCalls_117 : decode cX5_settleCalls 117 = .ok (.aload_n 2, 1) := by decide +kernel
theorem dX5_settleCalls_118 : decode cX5_settleCalls 118 = .ok (.ifnull 44, 3) := by decide +kernel
theorem dX5_settleCalls_121 : decode cX5_settleCalls 121 = .ok (.iload_n 3, 1) := by decide +kernel
theorem dX5_settleCalls_122 : decode cX5_settleCalls 122 = .ok (.aload_n 2, 1) := by decide +kernel
theorem dX5_settleCalls_123 : decode cX5_settleCalls 123 = .ok (.getfield 146, 3) := by decide +kernel
theorem dX5_settleCalls_126 : decode cX5_settleCalls 126 = .ok (.if_icmp .ge 36, 3) := by decide +kernel
theorem dX5_settleCalls_129 : decode cX5_settleCalls 129 = .ok (.aload_n 2, 1) := by decide +kernel
theorem dX5_settleCalls_130 : decode cX5_settleCalls 130 = .ok (.iload_n 3, 1) := by decide +kernel
theorem dX5_settleCalls_131 : decode cX5_settleCalls 131 = .ok (.iconst 0, 1) := by decide +kernel
theorem dX5_settleCalls_132 : decode cX5_settleCalls 132 = .ok (.invokevirtual 164, 3) := by decide +kernel
theorem dX5_settleCalls_135 : decode cX5_settleCalls 135 = .ok (.bipush 10, 2) := by decide +kernel
theorem dX5_settleCalls_137 : decode cX5_settleCalls 137 = .ok (.if_icmp .ne 19, 3) := by decide +kernel
theorem dX5_settleCalls_156 : decode cX5_settleCalls 156 = .ok (.iinc 3 1, 3) := by decide +kernel
theorem dX5_settleCalls_159 : decode cX5_settleCalls 159 = .ok (.goto (-42), 3) := by decide +kernel
theorem dX5_settleCalls_140 : decode cX5_settleCalls 140 = .ok (.aload_n 2, 1) := by decide +kernel
theorem dX5_settleCalls_141 : decode cX5_settleCalls 141 = .ok (.iload_n 3, 1) := by decide +kernel
theorem dX5_settleCalls_142 : decode cX5_settleCalls 142 = .ok (.iconst 2, 1) := by decide +kernel
theorem dX5_settleCalls_143 : decode cX5_settleCalls 143 = .ok (.aload_n 0, 1) := by decide +kernel
theorem dX5_settleCalls_144 : decode cX5_settleCalls 144 = .ok (.aload_n 2, 1) := by decide +kernel
theorem dX5_settleCalls_145 : decode cX5_settleCalls 145 = .ok (.iload_n 3, 1) := by decide +kernel
theorem dX5_settleCalls_146 : decode cX5_settleCalls 146 = .ok (.iconst 2, 1) := by decide +kernel
theorem dX5_settleCalls_147 : decode cX5_settleCalls 147 = .ok (.invokevirtual 164, 3) := by decide +kernel
theorem dX5_settleCalls_150 : decode cX5_settleCalls 150 = .ok (.invokevirtual 109, 3) := by decide +kernel
theorem dX5_settleCalls_153 : decode cX5_settleCalls 153 = .ok (.invokevirtual 167, 3) := by decide +kernel
set_option maxRecDepth 20000 in
theorem l_X5_settleCalls_117 (d : Nat) {T : CT} {σ0 : MS} {a : Nat} {c1 : Int} {rx2 : Nat} {post : Option Value → CT → MS → Prop} (h_a : OB T a 5) (r_c1 : 0 ≤ c1 ∧ c1 ≤ 6) (h_rx2 : OB T rx2 1) (t_rx2 : (T rx2).1 = 31) (hw0 : WT T σ0) (hx_162 : ∀ (i3 : Int) (σ : MS) , (WT T σ) → (FrC T [] σ0 σ) → (0 ≤ i3 ∧ i3 ≤ 2147483647) → Tn (d + 3) m_X5_settleCalls 162 T σ [(0, .ref a), (1, .int (iI c1)), (2, .ref rx2), (3, .int (iI i3))] [] post) : ∀ (n : Nat) (i3 : Int) (σ : MS) , (WT T σ) → (FrC T [] σ0 σ) → (0 ≤ i3 ∧ i3 ≤ 2147483647) → (2147483700 - i3).toNat = n → Tn (d + 3) m_X5_settleCalls 117 T σ [(0, .ref a), (1, .int (iI c1)), (2, .ref rx2), (3, .int (iI i3))] [] post := by
  intro n
  induction n using Nat.strongRecOn with
  | _ n ih =>
    intro i3 σ hw hF r_i3 hm
    refine tn_aload_n dX5_settleCalls_117 rfl 2 rfl ?_
    refine tn_ifnull dX5_settleCalls_118 ?_
    refine tn_iload_n dX5_settleCalls_121 rfl 3 rfl ?_
    refine tn_aload_n dX5_settleCalls_122 rfl 2 rfl ?_
    refine tn_getI (ci := 1) (i := 1) (n := 6) (t := σ0.2.1 6 rx2) dX5_settleCalls_123 rfl lay_1 (by decide) fl5_146 h_rx2 rfl rfl (rc_F hF (Or.inl (by decide)) (by decide) (rfl)) ?_
    have g1 : ((0 : Int) ≤ σ0.2.1 6 rx2 ∧ σ0.2.1 6 rx2 ≤ 5000) ∧ ((T rx2).1 = 50 → σ0.2.1 6 rx2 ≤ 200) := wf_6 hw0 h_rx2
    have g1x := g1.2
    replace g1 := g1.1
    clear g1x
    refine tn_icmp_ge (tgt := 162) dX5_settleCalls_126 (by decide) ⟨by omega, by omega⟩ ⟨by omega, by omega⟩ (fun h2 => ?_) (fun h2 => ?_)
    · exact tn_sub [0, 1, 2, 3] rfl (hx_162 (i3) σ hw (FrC.rfl.trans (FrC.sub hF (by decide))) (by omega))
    · refine tn_aload_n dX5_settleCalls_129 rfl 2 rfl ?_
      refine tn_iload_n dX5_settleCalls_130 rfl 3 rfl ?_
      refine tn_iconst dX5_settleCalls_131 ?_
      refine tn_callV (M := m_X5_settleCalls) (pc := 132) (ix := 164) (ci := 1) (M' := m_X1_get) (As := [.int (iI i3), .int (iI 0)]) (rest := []) dX5_settleCalls_132 ok_X1_get im_X1_get se_X1_get ml5_164 np_X1_get rfl rfl h_rx2 rfl (Nat.le_of_ble_eq_true rfl) (Nat.le_of_ble_eq_true rfl) rfl (k_X1_get (d + 1) (T := T) (σ := σ) (a := rx2) (k := i3) (c := 0) h_rx2 (by omega) (by decide) hw (by omega)) (fun r3 T5 σ4 gt6 hp => ?_)
      obtain ⟨v8, rfl, rfl, rfl, f7⟩ := hp
      clear gt6
      show Tn _ _ 135 T σ [(0, .ref a), (1, .int (iI c1)), (2, .ref rx2), (3, .int (iI i3))] [.int (iI v8)] _
      refine tn_bipush dX5_settleCalls_135 (by decide) ?_
      refine tn_icmp_ne (tgt := 156) dX5_settleCalls_137 (by decide) ⟨by omega, by omega⟩ ⟨by decide, by decide⟩ (fun h9 => ?_) (fun h9 => ?_)
      · refine tn_iinc (q0 := 3) (L' := [(3, .int (iI (i3 + 1))), (0, .ref a), (1, .int (iI c1)), (2, .ref rx2)]) dX5_settleCalls_156 rfl (by decide) rfl ?_
        refine tn_goto (tgt := 117) dX5_settleCalls_159 (by decide) ?_
        exact tn_sub [1, 2, 3, 0] rfl (ih _ (by omega) (i3 + 1) σ hw (FrC.rfl.trans (FrC.sub hF (by decide))) (by omega) rfl)
      · refine tn_aload_n dX5_settleCalls_140 rfl 2 rfl ?_
        refine tn_iload_n dX5_settleCalls_141 rfl 3 rfl ?_
        refine tn_iconst dX5_settleCalls_142 ?_
        refine tn_aload_n dX5_settleCalls_143 rfl 0 rfl ?_
        refine tn_aload_n dX5_settleCalls_144 rfl 2 rfl ?_
        refine tn_iload_n dX5_settleCalls_145 rfl 3 rfl ?_
        refine tn_iconst dX5_settleCalls_146 ?_
        refine tn_callV (M := m_X5_settleCalls) (pc := 147) (ix := 164) (ci := 1) (M' := m_X1_get) (As := [.int (iI i3), .int (iI 2)]) (rest := [.ref a, .int (iI 2), .int (iI i3), .ref rx2]) dX5_settleCalls_147 ok_X1_get im_X1_get se_X1_get ml5_164 np_X1_get rfl rfl h_rx2 rfl (Nat.le_of_ble_eq_true rfl) (Nat.le_of_ble_eq_true rfl) rfl (k_X1_get (d + 1) (T := T) (σ := σ) (a := rx2) (k := i3) (c := 2) h_rx2 (by omega) (by decide) hw (by omega)) (fun r10 T12 σ11 gt13 hp => ?_)
        obtain ⟨v15, rfl, rfl, rfl, f14⟩ := hp
        clear gt13
        show Tn _ _ 150 T σ [(0, .ref a), (1, .int (iI c1)), (2, .ref rx2), (3, .int (iI i3))] [.int (iI v15), .ref a, .int (iI 2), .int (iI i3), .ref rx2] _
        refine tn_callV (M := m_X5_settleCalls) (pc := 150) (ix := 109) (ci := 5) (M' := m_X5_routineOf) (As := [.int (iI v15)]) (rest := [.int (iI 2), .int (iI i3), .ref rx2]) dX5_settleCalls_150 ok_X5_routineOf im_X5_routineOf se_X5_routineOf ml5_109 np_X5_routineOf rfl rfl h_a rfl (Nat.le_of_ble_eq_true rfl) (Nat.le_of_ble_eq_true rfl) rfl (k_X5_routineOf (d) (T := T) (σ := σ) (a := a) (k := v15) h_a (by omega) hw ) (fun r16 T18 σ17 gt19 hp => ?_)
        obtain ⟨v21, rfl, rfl, rfl, f20⟩ := hp
        clear gt19
        show Tn _ _ 153 T σ [(0, .ref a), (1, .int (iI c1)), (2, .ref rx2), (3, .int (iI i3))] [.int (iI v21), .int (iI 2), .int (iI i3), .ref rx2] _
        refine tn_callV (M := m_X5_settleCalls) (pc := 153) (ix := 167) (ci := 1) (M' := m_X1_set) (As := [.int (iI i3), .int (iI 2), .int (iI v21)]) (rest := []) dX5_settleCalls_153 ok_X1_set im_X1_set se_X1_set ml5_167 np_X1_set rfl rfl h_rx2 rfl (Nat.le_of_ble_eq_true rfl) (Nat.le_of_ble_eq_true rfl) rfl (k_X1_set (d + 1) (T := T) (σ := σ) (a := rx2) (k := i3) (c := 2) (y := v21) h_rx2 (by omega) (by decide) (by omega) hw (by omega) (by omega)) (fun r22 T24 σ23 gt25 hp => ?_)
        obtain ⟨rfl, rfl, w27, F28⟩ := hp
        clear gt25
        show Tn _ _ 156 T σ23 [(0, .ref a), (1, .int (iI c1)), (2, .ref rx2), (3, .int (iI i3))] [] _
        refine tn_iinc (q0 := 3) (L' := [(3, .int (iI (i3 + 1))), (0, .ref a), (1, .int (iI c1)), (2, .ref rx2)]) dX5_settleCalls_156 rfl (by decide) rfl ?_
        refine tn_goto (tgt := 117) dX5_settleCalls_159 (by decide) ?_
        exact tn_sub [1, 2, 3, 0] rfl (ih _ (by omega) (i3 + 1) σ23 w27 ((FrC.rfl.trans (FrC.sub hF (by decide))).trans (FrC.sub F28 (by decide))) (by omega) rfl)
theorem dX5_settleCalls_162 : decode cX5_settleCalls 162 = .ok (.iinc 1 1, 3) := by decide +kernel
theorem dX5_settleCalls_165 : decode cX5_settleCalls 165 = .ok (.goto (-81), 3) := by decide +kernel
set_option maxRecDepth 20000 in
theorem l_X5_settleCalls_84 (d : Nat) {T : CT} {σ0 : MS} {a : Nat} {post : Option Value → CT → MS → Prop} (h_a : OB T a 5) (hw0 : WT T σ0) (hx_168 : ∀ (i1 : Int) (σ : MS) , (WT T σ) → (FrC T [] σ0 σ) → (0 ≤ i1 ∧ i1 ≤ 2147483647) → Tn (d + 3) m_X5_settleCalls 168 T σ [(0, .ref a), (1, .int (iI i1))] [] post) : ∀ (n : Nat) (i1 : Int) (σ : MS) , (WT T σ) → (FrC T [] σ0 σ) → (0 ≤ i1 ∧ i1 ≤ 2147483647) → (2147483700 - i1).toNat = n → Tn (d + 3) m_X5_settleCalls 84 T σ [(0, .ref a), (1, .int (iI i1))] [] post := by
  intro n
  induction n using Nat.strongRecOn with
  | _ n ih =>
    intro i1 σ hw hF r_i1 hm
    refine tn_aload_n dX5_settleCalls_84 rfl 0 rfl ?_
    refine tn_getI (ci := 5) (i := 10) (n := 43) (t := σ0.2.1 43 a) dX5_settleCalls_85 rfl lay_5 (by decide) fl5_51 h_a rfl rfl (rc_F hF (Or.inl (by decide)) (by decide) (rfl)) ?_
    have g1 : ((-2147483648 : Int) ≤ σ0.2.1 43 a ∧ σ0.2.1 43 a ≤ 2147483647) := wf_43 hw0 h_a
    refine tn_if_ne (tgt := 168) dX5_settleCalls_88 (by decide) ⟨by omega, by omega⟩ (fun h2 => ?_) (fun h2 => ?_)
    · exact tn_sub [0, 1] rfl (hx_168 (i1) σ hw (FrC.rfl.trans (FrC.sub hF (by decide))) (by omega))
    · refine tn_iload_n dX5_settleCalls_91 rfl 1 rfl ?_
      refine tn_aload_n dX5_settleCalls_92 rfl 0 rfl ?_
      refine tn_getI (ci := 5) (i := 5) (n := 38) (t := σ0.2.1 38 a) dX5_settleCalls_93 rfl lay_5 (by decide) fl5_58 h_a rfl rfl (rc_F hF (Or.inl (by decide)) (by decide) (rfl)) ?_
      have g3 : ((0 : Int) ≤ σ0.2.1 38 a ∧ σ0.2.1 38 a ≤ 256) := wf_38 hw0 h_a
      refine tn_icmp_ge (tgt := 168) dX5_settleCalls_96 (by decide) ⟨by omega, by omega⟩ ⟨by omega, by omega⟩ (fun h4 => ?_) (fun h4 => ?_)
      · exact tn_sub [0, 1] rfl (hx_168 (i1) σ hw (FrC.rfl.trans (FrC.sub hF (by decide))) (by omega))
      · refine tn_iload_n dX5_settleCalls_99 rfl 1 rfl ?_
        refine tn_aload_n dX5_settleCalls_100 rfl 0 rfl ?_
        obtain ⟨x5, hx6, hk7, hl8⟩ : ∃ x : Nat, σ0.2.1 34 a = (x : Int) ∧ AR T x 4 7 7 := wf_34 hw0 h_a
        have hk7i : (T x5).1 = 4 ∨ (T x5).1 = 5 := by omega
        refine tn_getR (ci := 5) (i := 1) (n := 34) (x := x5) dX5_settleCalls_101 rfl lay_5 (by decide) fl5_20 h_a rfl rfl (rc_F hF (Or.inl (by decide)) (by decide) (hx6)) ?_
        refine tn_alenX dX5_settleCalls_104 (by have q9 := hk7i; omega) ?_
        refine tn_icmp_ge (tgt := 168) dX5_settleCalls_105 (by decide) ⟨by omega, by omega⟩ ⟨by omega, by omega⟩ (fun h9 => ?_) (fun h9 => ?_)
        · exact tn_sub [0, 1] rfl (hx_168 (i1) σ hw (FrC.rfl.trans (FrC.sub hF (by decide))) (by omega))
        · refine tn_aload_n dX5_settleCalls_108 rfl 0 rfl ?_
          refine tn_getR (ci := 5) (i := 1) (n := 34) (x := x5) dX5_settleCalls_109 rfl lay_5 (by decide) fl5_20 h_a rfl rfl (rc_F hF (Or.inl (by decide)) (by decide) (hx6)) ?_
          refine tn_iload_n dX5_settleCalls_112 rfl 1 rfl ?_
          obtain ⟨x10, hx11, hk12⟩ := (hw).2.2.2.1.1 x5 hk7 (i1) (by omega) (by omega)
          refine tn_aald (z := i1) (x := x10) dX5_settleCalls_113 hk7i (by omega) (by omega) (by omega) hx11 ?_
          have hk12o : OB T x10 1 := ⟨by omega, by rw [hk12]; rfl, by omega⟩
          refine tn_astore_n (L' := [(2, .ref x10), (0, .ref a), (1, .int (iI i1))]) dX5_settleCalls_114 rfl (by decide) rfl ?_
          refine tn_iconst dX5_settleCalls_115 ?_
          refine tn_istore_n (L' := [(3, .int (iI 0)), (2, .ref x10), (0, .ref a), (1, .int (iI i1))]) dX5_settleCalls_116 rfl (by decide) rfl ?_
          refine tn_sub [2, 3, 1, 0] rfl (l_X5_settleCalls_117 (d) (T := T) (σ0 := σ) (a := a) (c1 := i1) (rx2 := x10) h_a (by omega) hk12o hk12 hw (fun i313 σ14 w17 F18 r19 => ?_) _ (0) σ hw FrC.rfl (by omega) rfl)
          show Tn _ _ 162 T σ14 [(0, .ref a), (1, .int (iI i1)), (2, .ref x10), (3, .int (iI i313))] [] _
          refine tn_iinc (q0 := 1) (L' := [(1, .int (iI (i1 + 1))), (0, .ref a), (2, .ref x10), (3, .int (iI i313))]) dX5_settleCalls_162 rfl (by decide) rfl ?_
          refine tn_goto (tgt := 84) dX5_settleCalls_165 (by decide) ?_
          exact tn_sub [1, 0] rfl (ih _ (by omega) (i1 + 1) σ14 w17 ((FrC.rfl.trans (FrC.sub hF (by decide))).trans (FrC.sub F18 (by decide))) (by omega) rfl)
theorem dX5_settleCalls_168 : decode cX5_settleCalls 168 = .ok (.aload_n 0, 1) := by decide +kernel
theorem dX5_settleCalls_169 : decode cX5_settleCalls 169 = .ok (.getfield 51, 3) := by decide +kernel
theorem dX5_settleCalls_172 : decode cX5_settleCalls 172 = .ok (.ifCond .ne 7, 3) := by decide +kernel
theorem dX5_settleCalls_179 : decode cX5_settleCalls 179 = .ok (.iconst 0, 1) := by decide +kernel
theorem dX5_settleCalls_180 : decode cX5_settleCalls 180 = .ok (.ireturn, 1) := by decide +kernel
theorem dX5_settleCalls_175 : decode cX5_settleCalls 175 = .ok (.iconst 1, 1) := by decide +kernel
theorem dX5_settleCalls_176 : decode cX5_settleCalls 176 = .ok (.goto 4, 3) := by decide +kernel
set_option maxRecDepth 20000 in
theorem k_X5_settleCalls (d : Nat) {T : CT} {σ : MS} {a : Nat} (ha : OB T a 5) (hw : WT T σ) : Tn (d + 3) m_X5_settleCalls 0 T σ [(0, .ref a)] [] (fun ro T2 σ2 => ∃ v : Int, ro = some (.int (iI v)) ∧ T = T2 ∧ WT T2 σ2 ∧ FrC T [43, 44] σ σ2 ∧ (v = 0 ∨ v = 1)) := by
  refine tn_iconst dX5_settleCalls_0 ?_
  refine tn_istore_n (L' := [(1, .int (iI 0)), (0, .ref a)]) dX5_settleCalls_1 rfl (by decide) rfl ?_
  refine tn_sub [1, 0] rfl (l_X5_settleCalls_2 (d) (T := T) (σ0 := σ) (a := a) ha hw (fun i11 σ2 w5 F6 r7 => ?_) _ (0) σ hw FrC.rfl (by omega) rfl)
  show Tn _ _ 82 T σ2 [(0, .ref a), (1, .int (iI i11))] [] _
  refine tn_iconst dX5_settleCalls_82 ?_
  refine tn_istore_n (L' := [(1, .int (iI 0)), (0, .ref a)]) dX5_settleCalls_83 rfl (by decide) rfl ?_
  refine tn_sub [1, 0] rfl (l_X5_settleCalls_84 (d) (T := T) (σ0 := σ2) (a := a) ha w5 (fun i18 σ9 w12 F13 r14 => ?_) _ (0) σ2 w5 FrC.rfl (by omega) rfl)
  show Tn _ _ 168 T σ9 [(0, .ref a), (1, .int (iI i18))] [] _
  refine tn_aload_n dX5_settleCalls_168 rfl 0 rfl ?_
  refine tn_getI (ci := 5) (i := 10) (n := 43) (t := σ2.2.1 43 a) dX5_settleCalls_169 rfl lay_5 (by decide) fl5_51 ha rfl rfl (rc_F F13 (Or.inl (by decide)) (by decide) (rfl)) ?_
  have g15 : ((-2147483648 : Int) ≤ σ2.2.1 43 a ∧ σ2.2.1 43 a ≤ 2147483647) := wf_43 w5 ha
  refine tn_if_ne (tgt := 179) dX5_settleCalls_172 (by decide) ⟨by omega, by omega⟩ (fun h16 => ?_) (fun h16 => ?_)
  · refine tn_iconst dX5_settleCalls_179 ?_
    exact tn_zret (v := 0) rfl (by decide) dX5_settleCalls_180 ⟨_, rfl, rfl, w12, ((FrC.rfl.trans (FrC.sub F6 (by decide))).trans (FrC.sub F13 (by decide))), by omega⟩
  · refine tn_iconst dX5_settleCalls_175 ?_
    refine tn_goto (tgt := 180) dX5_settleCalls_176 (by decide) ?_
    exact tn_zret (v := 1) rfl (by decide) dX5_settleCalls_180 ⟨_, rfl, rfl, w12, ((FrC.rfl.trans (FrC.sub F6 (by decide))).trans (FrC.sub F13 (by decide))), by omega⟩
