theorem cd_X10_comeTo : Cond.code yX10_comeTo cX10_comeTo 6 none ∈ pWW := pw4 (List.mem_of_getElem? (i := 155) rfl) rfl
abbrev m_X10_comeTo : MT := (yX10_comeTo, cX10_comeTo, 6, none)
theorem ok_X10_comeTo : pOk m_X10_comeTo := ⟨⟨cd_X10_comeTo, ini_10⟩, by decide +kernel, ⟨by decide +kernel, by decide +kernel⟩, Nat.le_of_ble_eq_true rfl⟩
theorem np_X10_comeTo : (parseMethodDescriptor yX10_comeTo.desc).map (fun d => d.parameters.length) = some 2 := by decide +kernel
theorem im_X10_comeTo : Cond.instanceMethod yX10_comeTo ∈ pWW := pw4 (List.mem_of_getElem? (i := 154) rfl) rfl
theorem se_X10_comeTo : Cond.selects RX10 yX10_comeTo yX10_comeTo ∈ pWW := pws (List.mem_map.mpr ⟨_, lw_pin 43 rfl, rfl⟩) rfl
theorem fl10_53 : Cond.fieldLink RX10 53 (TX1 1).1 (TX1 1).2.1 (TX1 1).2.2.1 ∈ pWW := pw1 (List.mem_of_getElem? (i := 85) rfl) rfl
theorem fl10_23 : Cond.fieldLink RX10 23 (TX10 3).1 (TX10 3).2.1 (TX10 3).2.2.1 ∈ pWW := pw2 (List.mem_of_getElem? (i := 10) rfl) rfl
theorem fl10_78 : Cond.fieldLink RX10 78 (TX10 6).1 (TX10 6).2.1 (TX10 6).2.2.1 ∈ pWW := pw2 (List.mem_of_getElem? (i := 13) rfl) rfl
theorem dX10_comeTo_0 : decode cX10_comeTo 0 = .ok (.iload_n 2, 1) := by decide +kernel
theorem dX10_comeTo_1 : decode cX10_comeTo 1 = .ok (.ifCond .lt 11, 3) := by decide +kernel
theorem dX10_comeTo_12 : decode cX10_comeTo 12 = .ok (.return_, 1) := by decide +kernel
theorem dX10_comeTo_4 : decode cX10_comeTo 4 = .ok (.iload_n 2, 1) := by decide +kernel
theorem dX10_comeTo_5 : decode cX10_comeTo 5 = .ok (.aload_n 1, 1) := by decide +kernel
theorem dX10_comeTo_6 : decode cX10_comeTo 6 = .ok (.getfield 53, 3) := by decide +kernel
theorem dX10_comeTo_9 : decode cX10_comeTo 9 = .ok (.if_icmp .le 4, 3) := by decide +kernel
theorem dX10_comeTo_13 : decode cX10_comeTo 13 = .ok (.iconst 0, 1) := by decide +kernel
theorem dX10_comeTo_14 : decode cX10_comeTo 14 = .ok (.istore_n 3, 1) := by decide +kernel
theorem dX10_comeTo_15 : decode cX10_comeTo 15 = .ok (.iload_n 3, 1) := by decide +kernel
theorem dX10_comeTo_16 : decode cX10_comeTo 16 = .ok (.aload_n 0, 1) := by decide +kernel
theorem dX10_comeTo_17 : decode cX10_comeTo 17 = .ok (.getfield 50, 3) := by decide +kernel
theorem dX10_comeTo_20 : decode cX10_comeTo 20 = .ok (.if_icmp .ge 80, 3) := by decide +kernel
theorem dX10_comeTo_23 : decode cX10_comeTo 23 = .ok (.aload_n 0, 1) := by decide +kernel
theorem dX10_comeTo_24 : decode cX10_comeTo 24 = .ok (.getfield 61, 3) := by decide +kernel
theorem dX10_comeTo_27 : decode cX10_comeTo 27 = .ok (.iload_n 2, 1) := by decide +kernel
theorem dX10_comeTo_28 : decode cX10_comeTo 28 = .ok (.aload_n 0, 1) := by decide +kernel
theorem dX10_comeTo_29 : decode cX10_comeTo 29 = .ok (.getfield 50, 3) := by decide +kernel
theorem dX10_comeTo_32 : decode cX10_comeTo 32 = .ok (.imul, 1) := by decide +kernel
theorem dX10_comeTo_33 : decode cX10_comeTo 33 = .ok (.iload_n 3, 1) := by decide +kernel
theorem dX10_comeTo_34 : decode cX10_comeTo 34 = .ok (.iadd, 1) := by decide +kernel
theorem dX10_comeTo_35 : decode cX10_comeTo 35 = .ok (.invokestatic 40, 3) := by decide +kernel
theorem dX10_comeTo_38 : decode cX10_comeTo 38 = .ok (.istore 4, 2) := by decide +kernel
theorem dX10_comeTo_40 : decode cX10_comeTo 40 = .ok (.aload_n 0, 1) := by decide +kernel
theorem dX10_comeTo_41 : decode cX10_comeTo 41 = .ok (.getfield 23, 3) := by decide +kernel
theorem dX10_comeTo_44 : decode cX10_comeTo 44 = .ok (.iload_n 3, 1) := by decide +kernel
theorem dX10_comeTo_45 : decode cX10_comeTo 45 = .ok (.invokestatic 40, 3) := by decide +kernel
theorem dX10_comeTo_48 : decode cX10_comeTo 48 = .ok (.istore 5, 2) := by decide +kernel
theorem dX10_comeTo_50 : decode cX10_comeTo 50 = .ok (.iload 4, 2) := by decide +kernel
theorem dX10_comeTo_52 : decode cX10_comeTo 52 = .ok (.iload 5, 2) := by decide +kernel
theorem dX10_comeTo_54 : decode cX10_comeTo 54 = .ok (.if_icmp .eq 40, 3) := by decide +kernel
theorem dX10_comeTo_94 : decode cX10_comeTo 94 = .ok (.iinc 3 1, 3) := by decide +kernel
theorem dX10_comeTo_97 : decode cX10_comeTo 97 = .ok (.goto (-82), 3) := by decide +kernel
theorem dX10_comeTo_57 : decode cX10_comeTo 57 = .ok (.iload 4, 2) := by decide +kernel
theorem dX10_comeTo_59 : decode cX10_comeTo 59 = .ok (.iconst 4, 1) := by decide +kernel
theorem dX10_comeTo_60 : decode cX10_comeTo 60 = .ok (.if_icmp .eq 34, 3) := by decide +kernel
theorem dX10_comeTo_63 : decode cX10_comeTo 63 = .ok (.aload_n 0, 1) := by decide +kernel
theorem dX10_comeTo_64 : decode cX10_comeTo 64 = .ok (.getfield 61, 3) := by decide +kernel
theorem dX10_comeTo_67 : decode cX10_comeTo 67 = .ok (.iload_n 2, 1) := by decide +kernel
theorem dX10_comeTo_68 : decode cX10_comeTo 68 = .ok (.aload_n 0, 1) := by decide +kernel
theorem dX10_comeTo_69 : decode cX10_comeTo 69 = .ok (.getfield 50, 3) := by decide +kernel
theorem dX10_comeTo_72 : decode cX10_comeTo 72 = .ok (.imul, 1) := by decide +kernel
theorem dX10_comeTo_73 : decode cX10_comeTo 73 = .ok (.iload_n 3, 1) := by decide +kernel
theorem dX10_comeTo_74 : decode cX10_comeTo 74 = .ok (.iadd, 1) := by decide +kernel
theorem dX10_comeTo_75 : decode cX10_comeTo 75 = .ok (.iload 4, 2) := by decide +kernel
theorem dX10_comeTo_77 : decode cX10_comeTo 77 = .ok (.ifCond .ne 8, 3) := by decide +kernel
theorem dX10_comeTo_80 : decode cX10_comeTo 80 = .ok (.iload 5, 2) := by decide +kernel
theorem dX10_comeTo_82 : decode cX10_comeTo 82 = .ok (.goto 4, 3) := by decide +kernel
theorem dX10_comeTo_86 : decode cX10_comeTo 86 = .ok (.invokestatic 26, 3) := by decide +kernel
theorem dX10_comeTo_89 : decode cX10_comeTo 89 = .ok (.aload_n 0, 1) := by decide +kernel
theorem dX10_comeTo_90 : decode cX10_comeTo 90 = .ok (.iconst 1, 1) := by decide +kernel
theorem dX10_comeTo_91 : decode cX10_comeTo 91 = .ok (.putfield 78, 3) := by decide +kernel
theorem dX10_comeTo_85 : decode cX10_comeTo 85 = .ok (.iconst 4, 1) := by decide +kernel
set_option maxRecDepth 20000 in
theorem l_X10_comeTo_15 (d : Nat) {T : CT} {σ0 : MS} {a : Nat} {c2 : Int} {post : Option Value → CT → MS → Prop} (h_a : OB T a 10) (r_c2 : 0 ≤ c2 ∧ c2 ≤ 200) (hw0 : WT T σ0) (hx_100 : ∀ (i3 : Int) (σ : MS) , (WT T σ) → (FrC T [94] σ0 σ) → (0 ≤ i3 ∧ i3 ≤ 2147483647) → Tn (d + 2) m_X10_comeTo 100 T σ [(0, .ref a), (2, .int (iI c2)), (3, .int (iI i3))] [] post) : ∀ (n : Nat) (i3 : Int) (σ : MS) , (WT T σ) → (FrC T [94] σ0 σ) → (0 ≤ i3 ∧ i3 ≤ 2147483647) → (2147483700 - i3).toNat = n → Tn (d + 2) m_X10_comeTo 15 T σ [(0, .ref a), (2, .int (iI c2)), (3, .int (iI i3))] [] post := by
  intro n
  induction n using Nat.strongRecOn with
  | _ n ih =>
    intro i3 σ hw hF r_i3 hm
    refine tn_iload_n dX10_comeTo_15 rfl 2 rfl ?_
    refine tn_aload_n dX10_comeTo_16 rfl 0 rfl ?_
    refine tn_getI (ci := 10) (i := 5) (n := 93) (t := σ0.2.1 93 a) dX10_comeTo_17 rfl lay_10 (by decide) fl10_50 h_a rfl rfl (rc_F hF (Or.inl (by decide)) (by decide) (rfl)) ?_
    have g1 : ((0 : Int) ≤ σ0.2.1 93 a ∧ σ0.2.1 93 a ≤ 145) := wf_93 hw0 h_a
    refine tn_icmp_ge (tgt := 100) dX10_comeTo_20 (by decide) ⟨by omega, by omega⟩ ⟨by omega, by omega⟩ (fun h2 => ?_) (fun h2 => ?_)
    · exact tn_sub [0, 1, 2] rfl (hx_100 (i3) σ hw (FrC.rfl.trans (FrC.sub hF (by decide))) (by omega))
    · refine tn_aload_n dX10_comeTo_23 rfl 0 rfl ?_
      rcases wf_92 hw0 h_a with hx3 | ⟨x4, hx3, hk5, hl6⟩
      · refine tn_getN (ci := 10) (i := 4) (n := 92) dX10_comeTo_24 rfl lay_10 (by decide) fl10_61 h_a rfl rfl (Int.lt_of_le_of_lt (Int.le_of_eq (rc_F hF (Or.inl (by decide)) (by decide) (Eq.refl _))) hx3) ?_
        refine tn_iload_n dX10_comeTo_27 rfl 1 rfl ?_
        refine tn_aload_n dX10_comeTo_28 rfl 0 rfl ?_
        refine tn_getI (ci := 10) (i := 5) (n := 93) (t := σ0.2.1 93 a) dX10_comeTo_29 rfl lay_10 (by decide) fl10_50 h_a rfl rfl (rc_F hF (Or.inl (by decide)) (by decide) (rfl)) ?_
        refine tn_imul dX10_comeTo_32 ?_
        have g8 : 0 ≤ c2 * (σ0.2.1 93 a) ∧ c2 * (σ0.2.1 93 a) ≤ 29000 := mul_rng (b := 200) (d := 145) (by omega) (by omega) (by omega) (by omega) (by decide) (by decide)
        generalize c2 * (σ0.2.1 93 a) = z7 at g8 ⊢
        refine tn_iload_n dX10_comeTo_33 rfl 2 rfl ?_
        refine tn_iadd dX10_comeTo_34 ?_
        refine tn_callSN (M := m_X10_comeTo) (pc := 35) (ix := 40) (M' := m_X11_at) (As := [.null, .int (iI (z7 + i3))]) (rest := []) dX10_comeTo_35 ok_X11_at stt_X11_at nl10_40 np_X11_at rfl (Nat.le_of_ble_eq_true rfl) (Nat.le_of_ble_eq_true rfl) rfl (k_X11_at_0 (d) (T := T) (σ := σ) (i := z7 + i3) (by omega) hw ) (fun r9 T11 σ10 gt12 hp => ?_)
        obtain ⟨v14, rfl, rfl, rfl, f13⟩ := hp
        clear gt12
        show Tn _ _ 38 T σ [(0, .ref a), (2, .int (iI c2)), (3, .int (iI i3))] [.int (iI v14)] _
        refine tn_istore (L' := [(4, .int (iI v14)), (0, .ref a), (2, .int (iI c2)), (3, .int (iI i3))]) dX10_comeTo_38 (by decide) rfl ?_
        refine tn_aload_n dX10_comeTo_40 rfl 1 rfl ?_
        obtain ⟨x15, hx16, hk17, hl18⟩ : ∃ x : Nat, σ0.2.1 91 a = (x : Int) ∧ AR T x 1 145 145 := wf_91 hw0 h_a
        have hk17i : IA T x15 := by unfold IA; omega
        refine tn_getR (ci := 10) (i := 3) (n := 91) (x := x15) dX10_comeTo_41 rfl lay_10 (by decide) fl10_23 h_a rfl rfl (rc_F hF (Or.inl (by decide)) (by decide) (hx16)) ?_
        refine tn_iload_n dX10_comeTo_44 rfl 3 rfl ?_
        refine tn_callSN (M := m_X10_comeTo) (pc := 45) (ix := 40) (M' := m_X11_at) (As := [.ref x15, .int (iI i3)]) (rest := []) dX10_comeTo_45 ok_X11_at stt_X11_at nl10_40 np_X11_at rfl (Nat.le_of_ble_eq_true rfl) (Nat.le_of_ble_eq_true rfl) rfl (k_X11_at (d) (T := T) (σ := σ) (x := x15) (i := i3) hk17i (by omega) (by omega) hw ) (fun r19 T21 σ20 gt22 hp => ?_)
        obtain ⟨v26, rfl, rfl, rfl, f23, f24, f25⟩ := hp
        clear gt22
        clear f24 f25
        show Tn _ _ 48 T σ [(4, .int (iI v14)), (0, .ref a), (2, .int (iI c2)), (3, .int (iI i3))] [.int (iI v26)] _
        refine tn_istore (L' := [(5, .int (iI v26)), (4, .int (iI v14)), (0, .ref a), (2, .int (iI c2)), (3, .int (iI i3))]) dX10_comeTo_48 (by decide) rfl ?_
        refine tn_iload dX10_comeTo_50 1 rfl ?_
        refine tn_iload dX10_comeTo_52 0 rfl ?_
        refine tn_icmp_eq (tgt := 94) dX10_comeTo_54 (by decide) ⟨by omega, by omega⟩ ⟨by omega, by omega⟩ (fun h27 => ?_) (fun h27 => ?_)
        · refine tn_iinc (q0 := 4) (L' := [(3, .int (iI (i3 + 1))), (5, .int (iI v26)), (4, .int (iI v14)), (0, .ref a), (2, .int (iI c2))]) dX10_comeTo_94 rfl (by decide) rfl ?_
          refine tn_goto (tgt := 15) dX10_comeTo_97 (by decide) ?_
          exact tn_sub [3, 4, 0] rfl (ih _ (by omega) (i3 + 1) σ hw (FrC.rfl.trans (FrC.sub hF (by decide))) (by omega) rfl)
        · refine tn_iload dX10_comeTo_57 1 rfl ?_
          refine tn_iconst dX10_comeTo_59 ?_
          refine tn_icmp_eq (tgt := 94) dX10_comeTo_60 (by decide) ⟨by omega, by omega⟩ ⟨by decide, by decide⟩ (fun h28 => absurd h28 (by omega)) (fun h28 => ?_)
          refine tn_aload_n dX10_comeTo_63 rfl 2 rfl ?_
          refine tn_getN (ci := 10) (i := 4) (n := 92) dX10_comeTo_64 rfl lay_10 (by decide) fl10_61 h_a rfl rfl (Int.lt_of_le_of_lt (Int.le_of_eq (rc_F hF (Or.inl (by decide)) (by decide) (Eq.refl _))) hx3) ?_
          refine tn_iload_n dX10_comeTo_67 rfl 3 rfl ?_
          refine tn_aload_n dX10_comeTo_68 rfl 2 rfl ?_
          refine tn_getI (ci := 10) (i := 5) (n := 93) (t := σ0.2.1 93 a) dX10_comeTo_69 rfl lay_10 (by decide) fl10_50 h_a rfl rfl (rc_F hF (Or.inl (by decide)) (by decide) (rfl)) ?_
          refine tn_imul dX10_comeTo_72 ?_
          have g30 : 0 ≤ c2 * (σ0.2.1 93 a) ∧ c2 * (σ0.2.1 93 a) ≤ 29000 := mul_rng (b := 200) (d := 145) (by omega) (by omega) (by omega) (by omega) (by decide) (by decide)
          generalize c2 * (σ0.2.1 93 a) = z29 at g30 ⊢
          refine tn_iload_n dX10_comeTo_73 rfl 4 rfl ?_
          refine tn_iadd dX10_comeTo_74 ?_
          refine tn_iload dX10_comeTo_75 1 rfl ?_
          refine tn_if_ne (tgt := 85) dX10_comeTo_77 (by decide) ⟨by omega, by omega⟩ (fun h31 => absurd h31 (by omega)) (fun h31 => ?_)
          refine tn_iload dX10_comeTo_80 0 rfl ?_
          refine tn_goto (tgt := 86) dX10_comeTo_82 (by decide) ?_
          refine tn_callSN (M := m_X10_comeTo) (pc := 86) (ix := 26) (M' := m_X11_put) (As := [.null, .int (iI (z29 + i3)), .int (iI v26)]) (rest := []) dX10_comeTo_86 ok_X11_put stt_X11_put nl10_26 np_X11_put rfl (Nat.le_of_ble_eq_true rfl) (Nat.le_of_ble_eq_true rfl) rfl (k_X11_put_0 (d) (T := T) (σ := σ) (i := z29 + i3) (y := v26) (by omega) (by omega) hw ) (fun r32 T34 σ33 gt35 hp => ?_)
          obtain ⟨rfl, rfl, w37, F38⟩ := hp
          clear gt35
          show Tn _ _ 89 T σ33 [(5, .int (iI v26)), (4, .int (iI v14)), (0, .ref a), (2, .int (iI c2)), (3, .int (iI i3))] [] _
          refine tn_aload_n dX10_comeTo_89 rfl 2 rfl ?_
          refine tn_iconst dX10_comeTo_90 ?_
          refine tn_putV (ci := 10) (i := 6) (n := 94) (r := false) (v := 1) tyX10 tyX10_ok nmX10 dX10_comeTo_91 rfl lay_10 (by decide) fl10_78 rfl (tyX10_ok 6 (by decide)) rfl rfl rfl h_a rfl rfl ?_
          refine tn_iinc (q0 := 4) (L' := [(3, .int (iI (i3 + 1))), (5, .int (iI v26)), (4, .int (iI v14)), (0, .ref a), (2, .int (iI c2))]) dX10_comeTo_94 rfl (by decide) rfl ?_
          refine tn_goto (tgt := 15) dX10_comeTo_97 (by decide) ?_
          exact tn_sub [3, 4, 0] rfl (ih _ (by omega) (i3 + 1) (sA 94 a (1) σ33) (w37.put (by decide) (by decide) (fo_94 (by omega))) (((FrC.rfl.trans (FrC.sub hF (by decide))).trans (FrC.sub F38 (by decide))).put (by decide) (by decide)) (by omega) rfl)
      · have hk5i : IA T x4 := by unfold IA; omega
        refine tn_getR (ci := 10) (i := 4) (n := 92) (x := x4) dX10_comeTo_24 rfl lay_10 (by decide) fl10_61 h_a rfl rfl (rc_F hF (Or.inl (by decide)) (by decide) (hx3)) ?_
        refine tn_iload_n dX10_comeTo_27 rfl 1 rfl ?_
        refine tn_aload_n dX10_comeTo_28 rfl 0 rfl ?_
        refine tn_getI (ci := 10) (i := 5) (n := 93) (t := σ0.2.1 93 a) dX10_comeTo_29 rfl lay_10 (by decide) fl10_50 h_a rfl rfl (rc_F hF (Or.inl (by decide)) (by decide) (rfl)) ?_
        refine tn_imul dX10_comeTo_32 ?_
        have g40 : 0 ≤ c2 * (σ0.2.1 93 a) ∧ c2 * (σ0.2.1 93 a) ≤ 29000 := mul_rng (b := 200) (d := 145) (by omega) (by omega) (by omega) (by omega) (by decide) (by decide)
        generalize c2 * (σ0.2.1 93 a) = z39 at g40 ⊢
        refine tn_iload_n dX10_comeTo_33 rfl 2 rfl ?_
        refine tn_iadd dX10_comeTo_34 ?_
        refine tn_callSN (M := m_X10_comeTo) (pc := 35) (ix := 40) (M' := m_X11_at) (As := [.ref x4, .int (iI (z39 + i3))]) (rest := []) dX10_comeTo_35 ok_X11_at stt_X11_at nl10_40 np_X11_at rfl (Nat.le_of_ble_eq_true rfl) (Nat.le_of_ble_eq_true rfl) rfl (k_X11_at (d) (T := T) (σ := σ) (x := x4) (i := z39 + i3) hk5i (by omega) (by omega) hw ) (fun r41 T43 σ42 gt44 hp => ?_)
        obtain ⟨v48, rfl, rfl, rfl, f45, f46, f47⟩ := hp
        clear gt44
        clear f46 f47
        show Tn _ _ 38 T σ [(0, .ref a), (2, .int (iI c2)), (3, .int (iI i3))] [.int (iI v48)] _
        refine tn_istore (L' := [(4, .int (iI v48)), (0, .ref a), (2, .int (iI c2)), (3, .int (iI i3))]) dX10_comeTo_38 (by decide) rfl ?_
        refine tn_aload_n dX10_comeTo_40 rfl 1 rfl ?_
        obtain ⟨x49, hx50, hk51, hl52⟩ : ∃ x : Nat, σ0.2.1 91 a = (x : Int) ∧ AR T x 1 145 145 := wf_91 hw0 h_a
        have hk51i : IA T x49 := by unfold IA; omega
        refine tn_getR (ci := 10) (i := 3) (n := 91) (x := x49) dX10_comeTo_41 rfl lay_10 (by decide) fl10_23 h_a rfl rfl (rc_F hF (Or.inl (by decide)) (by decide) (hx50)) ?_
        refine tn_iload_n dX10_comeTo_44 rfl 3 rfl ?_
        refine tn_callSN (M := m_X10_comeTo) (pc := 45) (ix := 40) (M' := m_X11_at) (As := [.ref x49, .int (iI i3)]) (rest := []) dX10_comeTo_45 ok_X11_at stt_X11_at nl10_40 np_X11_at rfl (Nat.le_of_ble_eq_true rfl) (Nat.le_of_ble_eq_true rfl) rfl (k_X11_at (d) (T := T) (σ := σ) (x := x49) (i := i3) hk51i (by omega) (by omega) hw ) (fun r53 T55 σ54 gt56 hp => ?_)
        obtain ⟨v60, rfl, rfl, rfl, f57, f58, f59⟩ := hp
        clear gt56
        clear f58 f59
        show Tn _ _ 48 T σ [(4, .int (iI v48)), (0, .ref a), (2, .int (iI c2)), (3, .int (iI i3))] [.int (iI v60)] _
        refine tn_istore (L' := [(5, .int (iI v60)), (4, .int (iI v48)), (0, .ref a), (2, .int (iI c2)), (3, .int (iI i3))]) dX10_comeTo_48 (by decide) rfl ?_
        refine tn_iload dX10_comeTo_50 1 rfl ?_
        refine tn_iload dX10_comeTo_52 0 rfl ?_
        refine tn_icmp_eq (tgt := 94) dX10_comeTo_54 (by decide) ⟨by omega, by omega⟩ ⟨by omega, by omega⟩ (fun h61 => ?_) (fun h61 => ?_)
        · refine tn_iinc (q0 := 4) (L' := [(3, .int (iI (i3 + 1))), (5, .int (iI v60)), (4, .int (iI v48)), (0, .ref a), (2, .int (iI c2))]) dX10_comeTo_94 rfl (by decide) rfl ?_
          refine tn_goto (tgt := 15) dX10_comeTo_97 (by decide) ?_
          exact tn_sub [3, 4, 0] rfl (ih _ (by omega) (i3 + 1) σ hw (FrC.rfl.trans (FrC.sub hF (by decide))) (by omega) rfl)
        · refine tn_iload dX10_comeTo_57 1 rfl ?_
          refine tn_iconst dX10_comeTo_59 ?_
          refine tn_icmp_eq (tgt := 94) dX10_comeTo_60 (by decide) ⟨by omega, by omega⟩ ⟨by decide, by decide⟩ (fun h62 => ?_) (fun h62 => ?_)
          · refine tn_iinc (q0 := 4) (L' := [(3, .int (iI (i3 + 1))), (5, .int (iI v60)), (4, .int (iI v48)), (0, .ref a), (2, .int (iI c2))]) dX10_comeTo_94 rfl (by decide) rfl ?_
            refine tn_goto (tgt := 15) dX10_comeTo_97 (by decide) ?_
            exact tn_sub [3, 4, 0] rfl (ih _ (by omega) (i3 + 1) σ hw (FrC.rfl.trans (FrC.sub hF (by decide))) (by omega) rfl)
          · refine tn_aload_n dX10_comeTo_63 rfl 2 rfl ?_
            refine tn_getR (ci := 10) (i := 4) (n := 92) (x := x4) dX10_comeTo_64 rfl lay_10 (by decide) fl10_61 h_a rfl rfl (rc_F hF (Or.inl (by decide)) (by decide) (hx3)) ?_
            refine tn_iload_n dX10_comeTo_67 rfl 3 rfl ?_
            refine tn_aload_n dX10_comeTo_68 rfl 2 rfl ?_
            refine tn_getI (ci := 10) (i := 5) (n := 93) (t := σ0.2.1 93 a) dX10_comeTo_69 rfl lay_10 (by decide) fl10_50 h_a rfl rfl (rc_F hF (Or.inl (by decide)) (by decide) (rfl)) ?_
            refine tn_imul dX10_comeTo_72 ?_
            have g64 : 0 ≤ c2 * (σ0.2.1 93 a) ∧ c2 * (σ0.2.1 93 a) ≤ 29000 := mul_rng (b := 200) (d := 145) (by omega) (by omega) (by omega) (by omega) (by decide) (by decide)
            generalize c2 * (σ0.2.1 93 a) = z63 at g64 ⊢
            refine tn_iload_n dX10_comeTo_73 rfl 4 rfl ?_
            refine tn_iadd dX10_comeTo_74 ?_
            refine tn_iload dX10_comeTo_75 1 rfl ?_
            refine tn_if_ne (tgt := 85) dX10_comeTo_77 (by decide) ⟨by omega, by omega⟩ (fun h65 => ?_) (fun h65 => ?_)
            · refine tn_iconst dX10_comeTo_85 ?_
              refine tn_callSN (M := m_X10_comeTo) (pc := 86) (ix := 26) (M' := m_X11_put) (As := [.ref x4, .int (iI (z63 + i3)), .int (iI 4)]) (rest := []) dX10_comeTo_86 ok_X11_put stt_X11_put nl10_26 np_X11_put rfl (Nat.le_of_ble_eq_true rfl) (Nat.le_of_ble_eq_true rfl) rfl (k_X11_put (d) (T := T) (σ := σ) (x := x4) (i := z63 + i3) (y := 4) hk5i (by omega) (by omega) (by decide) hw (nh_k hk5 (by unfold HT; omega)) (vok_1 (by have q9 := hk5; omega) (by omega))) (fun r66 T68 σ67 gt69 hp => ?_)
              obtain ⟨rfl, rfl, w71, F72⟩ := hp
              clear gt69
              show Tn _ _ 89 T σ67 [(5, .int (iI v60)), (4, .int (iI v48)), (0, .ref a), (2, .int (iI c2)), (3, .int (iI i3))] [] _
              refine tn_aload_n dX10_comeTo_89 rfl 2 rfl ?_
              refine tn_iconst dX10_comeTo_90 ?_
              refine tn_putV (ci := 10) (i := 6) (n := 94) (r := false) (v := 1) tyX10 tyX10_ok nmX10 dX10_comeTo_91 rfl lay_10 (by decide) fl10_78 rfl (tyX10_ok 6 (by decide)) rfl rfl rfl h_a rfl rfl ?_
              refine tn_iinc (q0 := 4) (L' := [(3, .int (iI (i3 + 1))), (5, .int (iI v60)), (4, .int (iI v48)), (0, .ref a), (2, .int (iI c2))]) dX10_comeTo_94 rfl (by decide) rfl ?_
              refine tn_goto (tgt := 15) dX10_comeTo_97 (by decide) ?_
              exact tn_sub [3, 4, 0] rfl (ih _ (by omega) (i3 + 1) (sA 94 a (1) σ67) (w71.put (by decide) (by decide) (fo_94 (by omega))) (((FrC.rfl.trans (FrC.sub hF (by decide))).trans (FrC.sub F72 (by decide))).put (by decide) (by decide)) (by omega) rfl)
            · refine tn_iload dX10_comeTo_80 0 rfl ?_
              refine tn_goto (tgt := 86) dX10_comeTo_82 (by decide) ?_
              refine tn_callSN (M := m_X10_comeTo) (pc := 86) (ix := 26) (M' := m_X11_put) (As := [.ref x4, .int (iI (z63 + i3)), .int (iI v60)]) (rest := []) dX10_comeTo_86 ok_X11_put stt_X11_put nl10_26 np_X11_put rfl (Nat.le_of_ble_eq_true rfl) (Nat.le_of_ble_eq_true rfl) rfl (k_X11_put (d) (T := T) (σ := σ) (x := x4) (i := z63 + i3) (y := v60) hk5i (by omega) (by omega) (by omega) hw (nh_k hk5 (by unfold HT; omega)) (vok_1 (by have q9 := hk5; omega) (by omega))) (fun r73 T75 σ74 gt76 hp => ?_)
              obtain ⟨rfl, rfl, w78, F79⟩ := hp
              clear gt76
              show Tn _ _ 89 T σ74 [(5, .int (iI v60)), (4, .int (iI v48)), (0, .ref a), (2, .int (iI c2)), (3, .int (iI i3))] [] _
              refine tn_aload_n dX10_comeTo_89 rfl 2 rfl ?_
              refine tn_iconst dX10_comeTo_90 ?_
              refine tn_putV (ci := 10) (i := 6) (n := 94) (r := false) (v := 1) tyX10 tyX10_ok nmX10 dX10_comeTo_91 rfl lay_10 (by decide) fl10_78 rfl (tyX10_ok 6 (by decide)) rfl rfl rfl h_a rfl rfl ?_
              refine tn_iinc (q0 := 4) (L' := [(3, .int (iI (i3 + 1))), (5, .int (iI v60)), (4, .int (iI v48)), (0, .ref a), (2, .int (iI c2))]) dX10_comeTo_94 rfl (by decide) rfl ?_
              refine tn_goto (tgt := 15) dX10_comeTo_97 (by decide) ?_
              exact tn_sub [3, 4, 0] rfl (ih _ (by omega) (i3 + 1) (sA 94 a (1) σ74) (w78.put (by decide) (by decide) (fo_94 (by omega))) (((FrC.rfl.trans (FrC.sub hF (by decide))).trans (FrC.sub F79 (by decide))).put (by decide) (by decide)) (by omega) rfl)
theorem dX10_comeTo_100 : decode cX10_comeTo 100 = .ok (.return_, 1) := by decide +kernel
set_option maxRecDepth 20000 in
theorem k_X10_comeTo (d : Nat) {T : CT} {σ : MS} {a : Nat} {p1 : Nat} {p2 : Int} (ha : OB T a 10) (h_p1 : OB T p1 1) (t_p1 : (T p1).1 = 50) (h_p2 : -2147483648 ≤ p2 ∧ p2 ≤ 2147483647) (hw : WT T σ) : Tn (d + 2) m_X10_comeTo 0 T σ [(0, .ref a), (1, .ref p1), (2, .int (iI p2))] [] (fun ro T2 σ2 => ro = none ∧ T = T2 ∧ WT T2 σ2 ∧ FrC T [94] σ σ2) := by
  refine tn_iload_n dX10_comeTo_0 rfl 2 rfl ?_
  refine tn_if_lt (tgt := 12) dX10_comeTo_1 (by decide) ⟨by omega, by omega⟩ (fun h1 => ?_) (fun h1 => ?_)
  · exact tn_vret rfl dX10_comeTo_12 ⟨rfl, rfl, hw, FrC.rfl⟩
  · refine tn_iload_n dX10_comeTo_4 rfl 2 rfl ?_
    refine tn_aload_n dX10_comeTo_5 rfl 1 rfl ?_
    refine tn_getI (ci := 1) (i := 1) (n := 6) (t := σ.2.1 6 p1) dX10_comeTo_6 rfl lay_1 (by decide) fl10_53 h_p1 rfl rfl (rfl) ?_
    have g2 : ((0 : Int) ≤ σ.2.1 6 p1 ∧ σ.2.1 6 p1 ≤ 5000) ∧ ((T p1).1 = 50 → σ.2.1 6 p1 ≤ 200) := wf_6 hw h_p1
    have g2x := g2.2
    replace g2 := g2.1
    have g2x := g2x t_p1
    refine tn_icmp_le (tgt := 13) dX10_comeTo_9 (by decide) ⟨by omega, by omega⟩ ⟨by omega, by omega⟩ (fun h3 => ?_) (fun h3 => ?_)
    · refine tn_iconst dX10_comeTo_13 ?_
      refine tn_istore_n (L' := [(3, .int (iI 0)), (0, .ref a), (1, .ref p1), (2, .int (iI p2))]) dX10_comeTo_14 rfl (by decide) rfl ?_
      refine tn_sub [1, 3, 0] rfl (l_X10_comeTo_15 (d) (T := T) (σ0 := σ) (a := a) (c2 := p2) ha (by omega) hw (fun i34 σ5 w8 F9 r10 => ?_) _ (0) σ hw FrC.rfl (by omega) rfl)
      show Tn _ _ 100 T σ5 [(0, .ref a), (2, .int (iI p2)), (3, .int (iI i34))] [] _
      exact tn_vret rfl dX10_comeTo_100 ⟨rfl, rfl, w8, (FrC.rfl.trans (FrC.sub F9 (by decide)))⟩
    · exact tn_vret rfl dX10_comeTo_12 ⟨rfl, rfl, hw, FrC.rfl⟩
