theorem cd_X3_seeFrom : Cond.code yX3_seeFrom cX3_seeFrom 6 none ∈ pWW := pw5 (List.mem_of_getElem? (i := 1) rfl) rfl
abbrev m_X3_seeFrom : MT := (yX3_seeFrom, cX3_seeFrom, 6, none)
theorem ok_X3_seeFrom : pOk m_X3_seeFrom := ⟨⟨cd_X3_seeFrom, ini_3⟩, by decide +kernel, ⟨by decide +kernel, by decide +kernel⟩, Nat.le_of_ble_eq_true rfl⟩
theorem np_X3_seeFrom : (parseMethodDescriptor yX3_seeFrom.desc).map (fun d => d.parameters.length) = some 3 := by decide +kernel
theorem im_X3_seeFrom : Cond.instanceMethod yX3_seeFrom ∈ pWW := pw4 (List.mem_of_getElem? (i := 239) rfl) rfl
theorem se_X3_seeFrom : Cond.selects RX3 yX3_seeFrom yX3_seeFrom ∈ pWW := pw5 (List.mem_of_getElem? (i := 0) rfl) rfl
theorem ml3_88 : Cond.methodLink RX3 88 yJ7_fill_53178 ∈ pWW := pw5 (List.mem_of_getElem? (i := 2) rfl) rfl
theorem ml3_97 : Cond.methodLink RX3 97 yX3_see ∈ pWW := pw5 (List.mem_of_getElem? (i := 3) rfl) rfl
theorem dX3_seeFrom_0 : decode cX3_seeFrom 0 = .ok (.aload_n 0, 1) := by decide +kernel
theorem dX3_seeFrom_1 : decode cX3_seeFrom 1 = .ok (.getfield 18, 3) := by decide +kernel
theorem dX3_seeFrom_4 : decode cX3_seeFrom 4 = .ok (.iconst 0, 1) := by decide +kernel
theorem dX3_seeFrom_5 : decode cX3_seeFrom 5 = .ok (.invokestatic 88, 3) := by decide +kernel
theorem dX3_seeFrom_8 : decode cX3_seeFrom 8 = .ok (.aload_n 0, 1) := by decide +kernel
theorem dX3_seeFrom_9 : decode cX3_seeFrom 9 = .ok (.iconst 0, 1) := by decide +kernel
theorem dX3_seeFrom_10 : decode cX3_seeFrom 10 = .ok (.putfield 94, 3) := by decide +kernel
theorem dX3_seeFrom_13 : decode cX3_seeFrom 13 = .ok (.aload_n 0, 1) := by decide +kernel
theorem dX3_seeFrom_14 : decode cX3_seeFrom 14 = .ok (.aload_n 1, 1) := by decide +kernel
theorem dX3_seeFrom_15 : decode cX3_seeFrom 15 = .ok (.iload_n 2, 1) := by decide +kernel
theorem dX3_seeFrom_16 : decode cX3_seeFrom 16 = .ok (.invokevirtual 97, 3) := by decide +kernel
theorem dX3_seeFrom_19 : decode cX3_seeFrom 19 = .ok (.iconst 0, 1) := by decide +kernel
theorem dX3_seeFrom_20 : decode cX3_seeFrom 20 = .ok (.istore 4, 2) := by decide +kernel
theorem dX3_seeFrom_22 : decode cX3_seeFrom 22 = .ok (.aload_n 0, 1) := by decide +kernel
theorem dX3_seeFrom_23 : decode cX3_seeFrom 23 = .ok (.getfield 94, 3) := by decide +kernel
theorem dX3_seeFrom_26 : decode cX3_seeFrom 26 = .ok (.ifCond .le 86, 3) := by decide +kernel
theorem dX3_seeFrom_29 : decode cX3_seeFrom 29 = .ok (.iload 4, 2) := by decide +kernel
theorem dX3_seeFrom_31 : decode cX3_seeFrom 31 = .ok (.ldc 39, 2) := by decide +kernel
theorem dX3_seeFrom_33 : decode cX3_seeFrom 33 = .ok (.if_icmp .ge 79, 3) := by decide +kernel
theorem dX3_seeFrom_36 : decode cX3_seeFrom 36 = .ok (.aload_n 0, 1) := by decide +kernel
theorem dX3_seeFrom_37 : decode cX3_seeFrom 37 = .ok (.dup, 1) := by decide +kernel
theorem dX3_seeFrom_38 : decode cX3_seeFrom 38 = .ok (.getfield 94, 3) := by decide +kernel
theorem dX3_seeFrom_41 : decode cX3_seeFrom 41 = .ok (.iconst 1, 1) := by decide +kernel
theorem dX3_seeFrom_42 : decode cX3_seeFrom 42 = .ok (.isub, 1) := by decide +kernel
theorem dX3_seeFrom_43 : decode cX3_seeFrom 43 = .ok (.putfield 94, 3) := by decide +kernel
theorem dX3_seeFrom_46 : decode cX3_seeFrom 46 = .ok (.aload_n 0, 1) := by decide +kernel
theorem dX3_seeFrom_47 : decode cX3_seeFrom 47 = .ok (.getfield 22, 3) := by decide +kernel
theorem dX3_seeFrom_50 : decode cX3_seeFrom 50 = .ok (.aload_n 0, 1) := by decide +kernel
theorem dX3_seeFrom_51 : decode cX3_seeFrom 51 = .ok (.getfield 94, 3) := by decide +kernel
theorem dX3_seeFrom_54 : decode cX3_seeFrom 54 = .ok (.invokestatic 84, 3) := by decide +kernel
theorem dX3_seeFrom_57 : decode cX3_seeFrom 57 = .ok (.istore 5, 2) := by decide +kernel
theorem dX3_seeFrom_59 : decode cX3_seeFrom 59 = .ok (.iload_n 3, 1) := by decide +kernel
theorem dX3_seeFrom_60 : decode cX3_seeFrom 60 = .ok (.iconst (-1), 1) := by decide +kernel
theorem dX3_seeFrom_61 : decode cX3_seeFrom 61 = .ok (.if_icmp .eq 16, 3) := by decide +kernel
theorem dX3_seeFrom_77 : decode cX3_seeFrom 77 = .ok (.aload_n 1, 1) := by decide +kernel
theorem dX3_seeFrom_78 : decode cX3_seeFrom 78 = .ok (.iload 5, 2) := by decide +kernel
theorem dX3_seeFrom_80 : decode cX3_seeFrom 80 = .ok (.invokevirtual 48, 3) := by decide +kernel
theorem dX3_seeFrom_83 : decode cX3_seeFrom 83 = .ok (.ifCond .eq 12, 3) := by decide +kernel
theorem dX3_seeFrom_95 : decode cX3_seeFrom 95 = .ok (.aload_n 0, 1) := by decide +kernel
theorem dX3_seeFrom_96 : decode cX3_seeFrom 96 = .ok (.aload_n 1, 1) := by decide +kernel
theorem dX3_seeFrom_97 : decode cX3_seeFrom 97 = .ok (.aload_n 1, 1) := by decide +kernel
theorem dX3_seeFrom_98 : decode cX3_seeFrom 98 = .ok (.iload 5, 2) := by decide +kernel
theorem dX3_seeFrom_100 : decode cX3_seeFrom 100 = .ok (.invokevirtual 52, 3) := by decide +kernel
theorem dX3_seeFrom_103 : decode cX3_seeFrom 103 = .ok (.invokevirtual 97, 3) := by decide +kernel
theorem dX3_seeFrom_106 : decode cX3_seeFrom 106 = .ok (.iinc 4 1, 3) := by decide +kernel
theorem dX3_seeFrom_109 : decode cX3_seeFrom 109 = .ok (.goto (-87), 3) := by decide +kernel
theorem dX3_seeFrom_86 : decode cX3_seeFrom 86 = .ok (.aload_n 0, 1) := by decide +kernel
theorem dX3_seeFrom_87 : decode cX3_seeFrom 87 = .ok (.aload_n 1, 1) := by decide +kernel
theorem dX3_seeFrom_88 : decode cX3_seeFrom 88 = .ok (.iload 5, 2) := by decide +kernel
theorem dX3_seeFrom_90 : decode cX3_seeFrom 90 = .ok (.iconst 1, 1) := by decide +kernel
theorem dX3_seeFrom_91 : decode cX3_seeFrom 91 = .ok (.iadd, 1) := by decide +kernel
theorem dX3_seeFrom_92 : decode cX3_seeFrom 92 = .ok (.invokevirtual 97, 3) := by decide +kernel
theorem dX3_seeFrom_64 : decode cX3_seeFrom 64 = .ok (.aload_n 1, 1) := by decide +kernel
theorem dX3_seeFrom_65 : decode cX3_seeFrom 65 = .ok (.iload 5, 2) := by decide +kernel
theorem dX3_seeFrom_67 : decode cX3_seeFrom 67 = .ok (.invokevirtual 64, 3) := by decide +kernel
theorem dX3_seeFrom_70 : decode cX3_seeFrom 70 = .ok (.iload_n 3, 1) := by decide +kernel
theorem dX3_seeFrom_71 : decode cX3_seeFrom 71 = .ok (.if_icmp .ne 6, 3) := by decide +kernel
theorem dX3_seeFrom_74 : decode cX3_seeFrom 74 = .ok (.goto 32, 3) := by decide +kernel
set_option maxRecDepth 20000 in
theorem l_X3_seeFrom_22 (d : Nat) {T : CT} {σ0 : MS} {a : Nat} {rx1 : Nat} {c3 : Int} {post : Option Value → CT → MS → Prop} (h_a : OB T a 3) (h_rx1 : OB T rx1 1) (r_c3 : -2147483648 ≤ c3 ∧ c3 ≤ 2147483647) (hw0 : WT T σ0) (hx_112 : ∀ (i4 : Int) (σ : MS) , (WT T σ) → (FrC T [22] σ0 σ) → (0 ≤ i4 ∧ i4 ≤ 2147483647) → Tn (d + 4) m_X3_seeFrom 112 T σ [(0, .ref a), (1, .ref rx1), (3, .int (iI c3)), (4, .int (iI i4))] [] post) : ∀ (n : Nat) (i4 : Int) (σ : MS) , (WT T σ) → (FrC T [22] σ0 σ) → (0 ≤ i4 ∧ i4 ≤ 2147483647) → (2147483700 - i4).toNat = n → Tn (d + 4) m_X3_seeFrom 22 T σ [(0, .ref a), (1, .ref rx1), (3, .int (iI c3)), (4, .int (iI i4))] [] post := by
  intro n
  induction n using Nat.strongRecOn with
  | _ n ih =>
    intro i4 σ hw hF r_i4 hm
    refine tn_aload_n dX3_seeFrom_22 rfl 0 rfl ?_
    refine tn_getI (ci := 3) (i := 4) (n := 22) (t := σ.2.1 22 a) dX3_seeFrom_23 rfl lay_3 (by decide) fl3_94 h_a rfl rfl (rfl) ?_
    have g1 : ((-2147483648 : Int) ≤ σ.2.1 22 a ∧ σ.2.1 22 a ≤ 2147483647) := wf_22 hw h_a
    refine tn_if_le (tgt := 112) dX3_seeFrom_26 (by decide) ⟨by omega, by omega⟩ (fun h2 => ?_) (fun h2 => ?_)
    · exact tn_sub [0, 1, 2, 3] rfl (hx_112 (i4) σ hw (FrC.rfl.trans (FrC.sub hF (by decide))) (by omega))
    · refine tn_iload dX3_seeFrom_29 3 rfl ?_
      refine tn_ldc (n := 1000000) dX3_seeFrom_31 cst3_39 rfl ?_
      refine tn_icmp_ge (tgt := 112) dX3_seeFrom_33 (by decide) ⟨by omega, by omega⟩ ⟨by decide, by decide⟩ (fun h3 => ?_) (fun h3 => ?_)
      · exact tn_sub [0, 1, 2, 3] rfl (hx_112 (i4) σ hw (FrC.rfl.trans (FrC.sub hF (by decide))) (by omega))
      · refine tn_aload_n dX3_seeFrom_36 rfl 0 rfl ?_
        refine tn_dup dX3_seeFrom_37 rfl ?_
        refine tn_getI (ci := 3) (i := 4) (n := 22) (t := σ.2.1 22 a) dX3_seeFrom_38 rfl lay_3 (by decide) fl3_94 h_a rfl rfl (rfl) ?_
        refine tn_iconst dX3_seeFrom_41 ?_
        refine tn_isub dX3_seeFrom_42 ?_
        refine tn_putV (ci := 3) (i := 4) (n := 22) (r := false) (v := (σ.2.1 22 a) - 1) tyX3 tyX3_ok nmX3 dX3_seeFrom_43 rfl lay_3 (by decide) fl3_94 rfl (tyX3_ok 4 (by decide)) rfl rfl rfl h_a rfl rfl ?_
        refine tn_aload_n dX3_seeFrom_46 rfl 0 rfl ?_
        obtain ⟨x4, hx5, hk6, hl7⟩ : ∃ x : Nat, σ0.2.1 21 a = (x : Int) ∧ AR T x 1 201 201 := wf_21 hw0 h_a
        have hk6i : IA T x4 := by unfold IA; omega
        refine tn_getR (ci := 3) (i := 3) (n := 21) (x := x4) dX3_seeFrom_47 rfl lay_3 (by decide) fl3_22 h_a rfl rfl (rc_o (by decide) (rc_F hF (Or.inl (by decide)) (by decide) (hx5))) ?_
        refine tn_aload_n dX3_seeFrom_50 rfl 0 rfl ?_
        refine tn_getI (ci := 3) (i := 4) (n := 22) (t := (σ.2.1 22 a) - 1) dX3_seeFrom_51 rfl lay_3 (by decide) fl3_94 h_a rfl rfl (ra_eq) ?_
        refine tn_callSN (M := m_X3_seeFrom) (pc := 54) (ix := 84) (M' := m_X11_at) (As := [.ref x4, .int (iI ((σ.2.1 22 a) - 1))]) (rest := []) dX3_seeFrom_54 ok_X11_at stt_X11_at nl3_84 np_X11_at rfl (Nat.le_of_ble_eq_true rfl) (Nat.le_of_ble_eq_true rfl) rfl (k_X11_at (d + 2) (T := T) (σ := (sA 22 a ((σ.2.1 22 a) - 1) σ)) (x := x4) (i := (σ.2.1 22 a) - 1) hk6i (by omega) (by omega) (hw.put (by decide) (by decide) (fo_22 (by omega))) ) (fun r8 T10 σ9 gt11 hp => ?_)
        obtain ⟨v15, rfl, rfl, rfl, f12, f13, f14⟩ := hp
        clear gt11
        clear f13 f14
        show Tn _ _ 57 T (sA 22 a ((σ.2.1 22 a) - 1) σ) [(0, .ref a), (1, .ref rx1), (3, .int (iI c3)), (4, .int (iI i4))] [.int (iI v15)] _
        refine tn_istore (L' := [(5, .int (iI v15)), (0, .ref a), (1, .ref rx1), (3, .int (iI c3)), (4, .int (iI i4))]) dX3_seeFrom_57 (by decide) rfl ?_
        refine tn_iload_n dX3_seeFrom_59 rfl 3 rfl ?_
        refine tn_iconst dX3_seeFrom_60 ?_
        refine tn_icmp_eq (tgt := 77) dX3_seeFrom_61 (by decide) ⟨by omega, by omega⟩ ⟨by decide, by decide⟩ (fun h16 => ?_) (fun h16 => ?_)
        · refine tn_aload_n dX3_seeFrom_77 rfl 2 rfl ?_
          refine tn_iload dX3_seeFrom_78 0 rfl ?_
          refine tn_callV (M := m_X3_seeFrom) (pc := 80) (ix := 48) (ci := 1) (M' := m_X1_fallsOn) (As := [.int (iI v15)]) (rest := []) dX3_seeFrom_80 ok_X1_fallsOn im_X1_fallsOn se_X1_fallsOn ml3_48 np_X1_fallsOn rfl rfl h_rx1 rfl (Nat.le_of_ble_eq_true rfl) (Nat.le_of_ble_eq_true rfl) rfl (k_X1_fallsOn (d + 1) (T := T) (σ := (sA 22 a ((σ.2.1 22 a) - 1) σ)) (a := rx1) (k := v15) h_rx1 (by omega) (hw.put (by decide) (by decide) (fo_22 (by omega))) ) (fun r17 T19 σ18 gt20 hp => ?_)
          obtain ⟨v22, rfl, rfl, rfl, f21⟩ := hp
          clear gt20
          show Tn _ _ 83 T (sA 22 a ((σ.2.1 22 a) - 1) σ) [(5, .int (iI v15)), (0, .ref a), (1, .ref rx1), (3, .int (iI c3)), (4, .int (iI i4))] [.int (iI v22)] _
          refine tn_if_eq (tgt := 95) dX3_seeFrom_83 (by decide) ⟨by omega, by omega⟩ (fun h23 => ?_) (fun h23 => ?_)
          · refine tn_aload_n dX3_seeFrom_95 rfl 1 rfl ?_
            refine tn_aload_n dX3_seeFrom_96 rfl 2 rfl ?_
            refine tn_aload_n dX3_seeFrom_97 rfl 2 rfl ?_
            refine tn_iload dX3_seeFrom_98 0 rfl ?_
            refine tn_callV (M := m_X3_seeFrom) (pc := 100) (ix := 52) (ci := 1) (M' := m_X1_targetOf) (As := [.int (iI v15)]) (rest := [.ref rx1, .ref a]) dX3_seeFrom_100 ok_X1_targetOf im_X1_targetOf se_X1_targetOf ml3_52 np_X1_targetOf rfl rfl h_rx1 rfl (Nat.le_of_ble_eq_true rfl) (Nat.le_of_ble_eq_true rfl) rfl (k_X1_targetOf (d + 1) (T := T) (σ := (sA 22 a ((σ.2.1 22 a) - 1) σ)) (a := rx1) (k := v15) h_rx1 (by omega) (hw.put (by decide) (by decide) (fo_22 (by omega))) ) (fun r24 T26 σ25 gt27 hp => ?_)
            obtain ⟨v29, rfl, rfl, rfl, f28⟩ := hp
            clear gt27
            show Tn _ _ 103 T (sA 22 a ((σ.2.1 22 a) - 1) σ) [(5, .int (iI v15)), (0, .ref a), (1, .ref rx1), (3, .int (iI c3)), (4, .int (iI i4))] [.int (iI v29), .ref rx1, .ref a] _
            refine tn_callV (M := m_X3_seeFrom) (pc := 103) (ix := 97) (ci := 3) (M' := m_X3_see) (As := [.ref rx1, .int (iI v29)]) (rest := []) dX3_seeFrom_103 ok_X3_see im_X3_see se_X3_see ml3_97 np_X3_see rfl rfl h_a rfl (Nat.le_of_ble_eq_true rfl) (Nat.le_of_ble_eq_true rfl) rfl (k_X3_see (d) (T := T) (σ := (sA 22 a ((σ.2.1 22 a) - 1) σ)) (a := a) (p1 := rx1) (p2 := v29) h_a h_rx1 (by omega) (hw.put (by decide) (by decide) (fo_22 (by omega))) ) (fun r30 T32 σ31 gt33 hp => ?_)
            obtain ⟨rfl, rfl, w35, F36⟩ := hp
            clear gt33
            show Tn _ _ 106 T σ31 [(5, .int (iI v15)), (0, .ref a), (1, .ref rx1), (3, .int (iI c3)), (4, .int (iI i4))] [] _
            refine tn_iinc (q0 := 4) (L' := [(4, .int (iI (i4 + 1))), (5, .int (iI v15)), (0, .ref a), (1, .ref rx1), (3, .int (iI c3))]) dX3_seeFrom_106 rfl (by decide) rfl ?_
            refine tn_goto (tgt := 22) dX3_seeFrom_109 (by decide) ?_
            exact tn_sub [2, 3, 4, 0] rfl (ih _ (by omega) (i4 + 1) σ31 w35 (((FrC.rfl.trans (FrC.sub hF (by decide))).put (by decide) (by decide)).trans (FrC.sub F36 (by decide))) (by omega) rfl)
          · refine tn_aload_n dX3_seeFrom_86 rfl 1 rfl ?_
            refine tn_aload_n dX3_seeFrom_87 rfl 2 rfl ?_
            refine tn_iload dX3_seeFrom_88 0 rfl ?_
            refine tn_iconst dX3_seeFrom_90 ?_
            refine tn_iadd dX3_seeFrom_91 ?_
            refine tn_any (fun z37 g38 => ?_)
            have g38r : -2147483648 ≤ z37 ∧ z37 ≤ 2147483647 := g38
            refine tn_callV (M := m_X3_seeFrom) (pc := 92) (ix := 97) (ci := 3) (M' := m_X3_see) (As := [.ref rx1, .int (iI z37)]) (rest := []) dX3_seeFrom_92 ok_X3_see im_X3_see se_X3_see ml3_97 np_X3_see rfl rfl h_a rfl (Nat.le_of_ble_eq_true rfl) (Nat.le_of_ble_eq_true rfl) rfl (k_X3_see (d) (T := T) (σ := (sA 22 a ((σ.2.1 22 a) - 1) σ)) (a := a) (p1 := rx1) (p2 := z37) h_a h_rx1 (by omega) (hw.put (by decide) (by decide) (fo_22 (by omega))) ) (fun r39 T41 σ40 gt42 hp => ?_)
            obtain ⟨rfl, rfl, w44, F45⟩ := hp
            clear gt42
            show Tn _ _ 95 T σ40 [(5, .int (iI v15)), (0, .ref a), (1, .ref rx1), (3, .int (iI c3)), (4, .int (iI i4))] [] _
            refine tn_aload_n dX3_seeFrom_95 rfl 1 rfl ?_
            refine tn_aload_n dX3_seeFrom_96 rfl 2 rfl ?_
            refine tn_aload_n dX3_seeFrom_97 rfl 2 rfl ?_
            refine tn_iload dX3_seeFrom_98 0 rfl ?_
            refine tn_callV (M := m_X3_seeFrom) (pc := 100) (ix := 52) (ci := 1) (M' := m_X1_targetOf) (As := [.int (iI v15)]) (rest := [.ref rx1, .ref a]) dX3_seeFrom_100 ok_X1_targetOf im_X1_targetOf se_X1_targetOf ml3_52 np_X1_targetOf rfl rfl h_rx1 rfl (Nat.le_of_ble_eq_true rfl) (Nat.le_of_ble_eq_true rfl) rfl (k_X1_targetOf (d + 1) (T := T) (σ := σ40) (a := rx1) (k := v15) h_rx1 (by omega) w44 ) (fun r46 T48 σ47 gt49 hp => ?_)
            obtain ⟨v51, rfl, rfl, rfl, f50⟩ := hp
            clear gt49
            show Tn _ _ 103 T σ40 [(5, .int (iI v15)), (0, .ref a), (1, .ref rx1), (3, .int (iI c3)), (4, .int (iI i4))] [.int (iI v51), .ref rx1, .ref a] _
            refine tn_callV (M := m_X3_seeFrom) (pc := 103) (ix := 97) (ci := 3) (M' := m_X3_see) (As := [.ref rx1, .int (iI v51)]) (rest := []) dX3_seeFrom_103 ok_X3_see im_X3_see se_X3_see ml3_97 np_X3_see rfl rfl h_a rfl (Nat.le_of_ble_eq_true rfl) (Nat.le_of_ble_eq_true rfl) rfl (k_X3_see (d) (T := T) (σ := σ40) (a := a) (p1 := rx1) (p2 := v51) h_a h_rx1 (by omega) w44 ) (fun r52 T54 σ53 gt55 hp => ?_)
            obtain ⟨rfl, rfl, w57, F58⟩ := hp
            clear gt55
            show Tn _ _ 106 T σ53 [(5, .int (iI v15)), (0, .ref a), (1, .ref rx1), (3, .int (iI c3)), (4, .int (iI i4))] [] _
            refine tn_iinc (q0 := 4) (L' := [(4, .int (iI (i4 + 1))), (5, .int (iI v15)), (0, .ref a), (1, .ref rx1), (3, .int (iI c3))]) dX3_seeFrom_106 rfl (by decide) rfl ?_
            refine tn_goto (tgt := 22) dX3_seeFrom_109 (by decide) ?_
            exact tn_sub [2, 3, 4, 0] rfl (ih _ (by omega) (i4 + 1) σ53 w57 ((((FrC.rfl.trans (FrC.sub hF (by decide))).put (by decide) (by decide)).trans (FrC.sub F45 (by decide))).trans (FrC.sub F58 (by decide))) (by omega) rfl)
        · refine tn_aload_n dX3_seeFrom_64 rfl 2 rfl ?_
          refine tn_iload dX3_seeFrom_65 0 rfl ?_
          refine tn_callV (M := m_X3_seeFrom) (pc := 67) (ix := 64) (ci := 1) (M' := m_X1_writtenBy) (As := [.int (iI v15)]) (rest := []) dX3_seeFrom_67 ok_X1_writtenBy im_X1_writtenBy se_X1_writtenBy ml3_64 np_X1_writtenBy rfl rfl h_rx1 rfl (Nat.le_of_ble_eq_true rfl) (Nat.le_of_ble_eq_true rfl) rfl (k_X1_writtenBy (d + 1) (T := T) (σ := (sA 22 a ((σ.2.1 22 a) - 1) σ)) (a := rx1) (k := v15) h_rx1 (by omega) (hw.put (by decide) (by decide) (fo_22 (by omega))) ) (fun r59 T61 σ60 gt62 hp => ?_)
          obtain ⟨v64, rfl, rfl, rfl, f63⟩ := hp
          clear gt62
          show Tn _ _ 70 T (sA 22 a ((σ.2.1 22 a) - 1) σ) [(5, .int (iI v15)), (0, .ref a), (1, .ref rx1), (3, .int (iI c3)), (4, .int (iI i4))] [.int (iI v64)] _
          refine tn_iload_n dX3_seeFrom_70 rfl 3 rfl ?_
          refine tn_icmp_ne (tgt := 77) dX3_seeFrom_71 (by decide) ⟨by omega, by omega⟩ ⟨by omega, by omega⟩ (fun h65 => ?_) (fun h65 => ?_)
          · refine tn_aload_n dX3_seeFrom_77 rfl 2 rfl ?_
            refine tn_iload dX3_seeFrom_78 0 rfl ?_
            refine tn_callV (M := m_X3_seeFrom) (pc := 80) (ix := 48) (ci := 1) (M' := m_X1_fallsOn) (As := [.int (iI v15)]) (rest := []) dX3_seeFrom_80 ok_X1_fallsOn im_X1_fallsOn se_X1_fallsOn ml3_48 np_X1_fallsOn rfl rfl h_rx1 rfl (Nat.le_of_ble_eq_true rfl) (Nat.le_of_ble_eq_true rfl) rfl (k_X1_fallsOn (d + 1) (T := T) (σ := (sA 22 a ((σ.2.1 22 a) - 1) σ)) (a := rx1) (k := v15) h_rx1 (by omega) (hw.put (by decide) (by decide) (fo_22 (by omega))) ) (fun r66 T68 σ67 gt69 hp => ?_)
            obtain ⟨v71, rfl, rfl, rfl, f70⟩ := hp
            clear gt69
            show Tn _ _ 83 T (sA 22 a ((σ.2.1 22 a) - 1) σ) [(5, .int (iI v15)), (0, .ref a), (1, .ref rx1), (3, .int (iI c3)), (4, .int (iI i4))] [.int (iI v71)] _
            refine tn_if_eq (tgt := 95) dX3_seeFrom_83 (by decide) ⟨by omega, by omega⟩ (fun h72 => ?_) (fun h72 => ?_)
            · refine tn_aload_n dX3_seeFrom_95 rfl 1 rfl ?_
              refine tn_aload_n dX3_seeFrom_96 rfl 2 rfl ?_
              refine tn_aload_n dX3_seeFrom_97 rfl 2 rfl ?_
              refine tn_iload dX3_seeFrom_98 0 rfl ?_
              refine tn_callV (M := m_X3_seeFrom) (pc := 100) (ix := 52) (ci := 1) (M' := m_X1_targetOf) (As := [.int (iI v15)]) (rest := [.ref rx1, .ref a]) dX3_seeFrom_100 ok_X1_targetOf im_X1_targetOf se_X1_targetOf ml3_52 np_X1_targetOf rfl rfl h_rx1 rfl (Nat.le_of_ble_eq_true rfl) (Nat.le_of_ble_eq_true rfl) rfl (k_X1_targetOf (d + 1) (T := T) (σ := (sA 22 a ((σ.2.1 22 a) - 1) σ)) (a := rx1) (k := v15) h_rx1 (by omega) (hw.put (by decide) (by decide) (fo_22 (by omega))) ) (fun r73 T75 σ74 gt76 hp => ?_)
              obtain ⟨v78, rfl, rfl, rfl, f77⟩ := hp
              clear gt76
              show Tn _ _ 103 T (sA 22 a ((σ.2.1 22 a) - 1) σ) [(5, .int (iI v15)), (0, .ref a), (1, .ref rx1), (3, .int (iI c3)), (4, .int (iI i4))] [.int (iI v78), .ref rx1, .ref a] _
              refine tn_callV (M := m_X3_seeFrom) (pc := 103) (ix := 97) (ci := 3) (M' := m_X3_see) (As := [.ref rx1, .int (iI v78)]) (rest := []) dX3_seeFrom_103 ok_X3_see im_X3_see se_X3_see ml3_97 np_X3_see rfl rfl h_a rfl (Nat.le_of_ble_eq_true rfl) (Nat.le_of_ble_eq_true rfl) rfl (k_X3_see (d) (T := T) (σ := (sA 22 a ((σ.2.1 22 a) - 1) σ)) (a := a) (p1 := rx1) (p2 := v78) h_a h_rx1 (by omega) (hw.put (by decide) (by decide) (fo_22 (by omega))) ) (fun r79 T81 σ80 gt82 hp => ?_)
              obtain ⟨rfl, rfl, w84, F85⟩ := hp
              clear gt82
              show Tn _ _ 106 T σ80 [(5, .int (iI v15)), (0, .ref a), (1, .ref rx1), (3, .int (iI c3)), (4, .int (iI i4))] [] _
              refine tn_iinc (q0 := 4) (L' := [(4, .int (iI (i4 + 1))), (5, .int (iI v15)), (0, .ref a), (1, .ref rx1), (3, .int (iI c3))]) dX3_seeFrom_106 rfl (by decide) rfl ?_
              refine tn_goto (tgt := 22) dX3_seeFrom_109 (by decide) ?_
              exact tn_sub [2, 3, 4, 0] rfl (ih _ (by omega) (i4 + 1) σ80 w84 (((FrC.rfl.trans (FrC.sub hF (by decide))).put (by decide) (by decide)).trans (FrC.sub F85 (by decide))) (by omega) rfl)
            · refine tn_aload_n dX3_seeFrom_86 rfl 1 rfl ?_
              refine tn_aload_n dX3_seeFrom_87 rfl 2 rfl ?_
              refine tn_iload dX3_seeFrom_88 0 rfl ?_
              refine tn_iconst dX3_seeFrom_90 ?_
              refine tn_iadd dX3_seeFrom_91 ?_
              refine tn_any (fun z86 g87 => ?_)
              have g87r : -2147483648 ≤ z86 ∧ z86 ≤ 2147483647 := g87
              refine tn_callV (M := m_X3_seeFrom) (pc := 92) (ix := 97) (ci := 3) (M' := m_X3_see) (As := [.ref rx1, .int (iI z86)]) (rest := []) dX3_seeFrom_92 ok_X3_see im_X3_see se_X3_see ml3_97 np_X3_see rfl rfl h_a rfl (Nat.le_of_ble_eq_true rfl) (Nat.le_of_ble_eq_true rfl) rfl (k_X3_see (d) (T := T) (σ := (sA 22 a ((σ.2.1 22 a) - 1) σ)) (a := a) (p1 := rx1) (p2 := z86) h_a h_rx1 (by omega) (hw.put (by decide) (by decide) (fo_22 (by omega))) ) (fun r88 T90 σ89 gt91 hp => ?_)
              obtain ⟨rfl, rfl, w93, F94⟩ := hp
              clear gt91
              show Tn _ _ 95 T σ89 [(5, .int (iI v15)), (0, .ref a), (1, .ref rx1), (3, .int (iI c3)), (4, .int (iI i4))] [] _
              refine tn_aload_n dX3_seeFrom_95 rfl 1 rfl ?_
              refine tn_aload_n dX3_seeFrom_96 rfl 2 rfl ?_
              refine tn_aload_n dX3_seeFrom_97 rfl 2 rfl ?_
              refine tn_iload dX3_seeFrom_98 0 rfl ?_
              refine tn_callV (M := m_X3_seeFrom) (pc := 100) (ix := 52) (ci := 1) (M' := m_X1_targetOf) (As := [.int (iI v15)]) (rest := [.ref rx1, .ref a]) dX3_seeFrom_100 ok_X1_targetOf im_X1_targetOf se_X1_targetOf ml3_52 np_X1_targetOf rfl rfl h_rx1 rfl (Nat.le_of_ble_eq_true rfl) (Nat.le_of_ble_eq_true rfl) rfl (k_X1_targetOf (d + 1) (T := T) (σ := σ89) (a := rx1) (k := v15) h_rx1 (by omega) w93 ) (fun r95 T97 σ96 gt98 hp => ?_)
              obtain ⟨v100, rfl, rfl, rfl, f99⟩ := hp
              clear gt98
              show Tn _ _ 103 T σ89 [(5, .int (iI v15)), (0, .ref a), (1, .ref rx1), (3, .int (iI c3)), (4, .int (iI i4))] [.int (iI v100), .ref rx1, .ref a] _
              refine tn_callV (M := m_X3_seeFrom) (pc := 103) (ix := 97) (ci := 3) (M' := m_X3_see) (As := [.ref rx1, .int (iI v100)]) (rest := []) dX3_seeFrom_103 ok_X3_see im_X3_see se_X3_see ml3_97 np_X3_see rfl rfl h_a rfl (Nat.le_of_ble_eq_true rfl) (Nat.le_of_ble_eq_true rfl) rfl (k_X3_see (d) (T := T) (σ := σ89) (a := a) (p1 := rx1) (p2 := v100) h_a h_rx1 (by omega) w93 ) (fun r101 T103 σ102 gt104 hp => ?_)
              obtain ⟨rfl, rfl, w106, F107⟩ := hp
              clear gt104
              show Tn _ _ 106 T σ102 [(5, .int (iI v15)), (0, .ref a), (1, .ref rx1), (3, .int (iI c3)), (4, .int (iI i4))] [] _
              refine tn_iinc (q0 := 4) (L' := [(4, .int (iI (i4 + 1))), (5, .int (iI v15)), (0, .ref a), (1, .ref rx1), (3, .int (iI c3))]) dX3_seeFrom_106 rfl (by decide) rfl ?_
              refine tn_goto (tgt := 22) dX3_seeFrom_109 (by decide) ?_
              exact tn_sub [2, 3, 4, 0] rfl (ih _ (by omega) (i4 + 1) σ102 w106 ((((FrC.rfl.trans (FrC.sub hF (by decide))).put (by decide) (by decide)).trans (FrC.sub F94 (by decide))).trans (FrC.sub F107 (by decide))) (by omega) rfl)
          · refine tn_goto (tgt := 106) dX3_seeFrom_74 (by decide) ?_
            refine tn_iinc (q0 := 4) (L' := [(4, .int (iI (i4 + 1))), (5, .int (iI v15)), (0, .ref a), (1, .ref rx1), (3, .int (iI c3))]) dX3_seeFrom_106 rfl (by decide) rfl ?_
            refine tn_goto (tgt := 22) dX3_seeFrom_109 (by decide) ?_
            exact tn_sub [2, 3, 4, 0] rfl (ih _ (by omega) (i4 + 1) (sA 22 a ((σ.2.1 22 a) - 1) σ) (hw.put (by decide) (by decide) (fo_22 (by omega))) ((FrC.rfl.trans (FrC.sub hF (by decide))).put (by decide) (by decide)) (by omega) rfl)
theorem dX3_seeFrom_112 : decode cX3_seeFrom 112 = .ok (.return_, 1) := by decide +kernel
set_option maxRecDepth 20000 in
theorem k_X3_seeFrom (d : Nat) {T : CT} {σ : MS} {a : Nat} {p1 : Nat} {p2 : Int} {p3 : Int} (ha : OB T a 3) (h_p1 : OB T p1 1) (h_p2 : -2147483648 ≤ p2 ∧ p2 ≤ 2147483647) (h_p3 : -2147483648 ≤ p3 ∧ p3 ≤ 2147483647) (hw : WT T σ) : Tn (d + 4) m_X3_seeFrom 0 T σ [(0, .ref a), (1, .ref p1), (2, .int (iI p2)), (3, .int (iI p3))] [] (fun ro T2 σ2 => ro = none ∧ T = T2 ∧ WT T2 σ2 ∧ FrC T [22] σ σ2) := by
  refine tn_aload_n dX3_seeFrom_0 rfl 0 rfl ?_
  obtain ⟨x1, hx2, hk3, hl4⟩ : ∃ x : Nat, σ.2.1 20 a = (x : Int) ∧ AR T x 1 201 201 := wf_20 hw ha
  have hk3i : IA T x1 := by unfold IA; omega
  refine tn_getR (ci := 3) (i := 2) (n := 20) (x := x1) dX3_seeFrom_1 rfl lay_3 (by decide) fl3_18 ha rfl rfl (hx2) ?_
  refine tn_iconst dX3_seeFrom_4 ?_
  refine tn_callS (M := m_X3_seeFrom) (pc := 5) (ix := 88) (M' := m_J7_fill_53178) (As := [.ref x1, .int (iI 0)]) (rest := []) dX3_seeFrom_5 ok_J7_fill_53178 stt_J7_fill_53178 ml3_88 np_J7_fill_53178 rfl (Nat.le_of_ble_eq_true rfl) (Nat.le_of_ble_eq_true rfl) rfl (k_J7_fill_53178 (d + 2) (T := T) (σ := σ) (x := x1) (y := 0) hk3i (by omega) (by decide) hw (nh_k hk3 (by unfold HT; omega)) (by omega)) (fun r5 T7 σ6 gt8 hp => ?_)
  obtain ⟨rfl, rfl, w10, F11⟩ := hp
  clear gt8
  show Tn _ _ 8 T σ6 [(0, .ref a), (1, .ref p1), (2, .int (iI p2)), (3, .int (iI p3))] [] _
  refine tn_aload_n dX3_seeFrom_8 rfl 0 rfl ?_
  refine tn_iconst dX3_seeFrom_9 ?_
  refine tn_putV (ci := 3) (i := 4) (n := 22) (r := false) (v := 0) tyX3 tyX3_ok nmX3 dX3_seeFrom_10 rfl lay_3 (by decide) fl3_94 rfl (tyX3_ok 4 (by decide)) rfl rfl rfl ha rfl rfl ?_
  refine tn_aload_n dX3_seeFrom_13 rfl 0 rfl ?_
  refine tn_aload_n dX3_seeFrom_14 rfl 1 rfl ?_
  refine tn_iload_n dX3_seeFrom_15 rfl 2 rfl ?_
  refine tn_callV (M := m_X3_seeFrom) (pc := 16) (ix := 97) (ci := 3) (M' := m_X3_see) (As := [.ref p1, .int (iI p2)]) (rest := []) dX3_seeFrom_16 ok_X3_see im_X3_see se_X3_see ml3_97 np_X3_see rfl rfl ha rfl (Nat.le_of_ble_eq_true rfl) (Nat.le_of_ble_eq_true rfl) rfl (k_X3_see (d) (T := T) (σ := (sA 22 a (0) σ6)) (a := a) (p1 := p1) (p2 := p2) ha h_p1 (by omega) (w10.put (by decide) (by decide) (fo_22 (by omega))) ) (fun r12 T14 σ13 gt15 hp => ?_)
  obtain ⟨rfl, rfl, w17, F18⟩ := hp
  clear gt15
  show Tn _ _ 19 T σ13 [(0, .ref a), (1, .ref p1), (2, .int (iI p2)), (3, .int (iI p3))] [] _
  refine tn_iconst dX3_seeFrom_19 ?_
  refine tn_istore (L' := [(4, .int (iI 0)), (0, .ref a), (1, .ref p1), (2, .int (iI p2)), (3, .int (iI p3))]) dX3_seeFrom_20 (by decide) rfl ?_
  refine tn_sub [1, 2, 4, 0] rfl (l_X3_seeFrom_22 (d) (T := T) (σ0 := σ13) (a := a) (rx1 := p1) (c3 := p3) ha h_p1 (by omega) w17 (fun i419 σ20 w23 F24 r25 => ?_) _ (0) σ13 w17 FrC.rfl (by omega) rfl)
  show Tn _ _ 112 T σ20 [(0, .ref a), (1, .ref p1), (3, .int (iI p3)), (4, .int (iI i419))] [] _
  exact tn_vret rfl dX3_seeFrom_112 ⟨rfl, rfl, w23, ((((FrC.rfl.trans (FrC.sub F11 (by decide))).put (by decide) (by decide)).trans (FrC.sub F18 (by decide))).trans (FrC.sub F24 (by decide)))⟩
