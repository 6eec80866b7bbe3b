theorem cd_X5_take : Cond.code yX5_take cX5_take 5 (some .boolean) ∈ pWW := pw3 (List.mem_of_getElem? (i := 24) rfl) rfl
abbrev m_X5_take : MT := (yX5_take, cX5_take, 5, (some .boolean))
theorem ok_X5_take : pOk m_X5_take := ⟨⟨cd_X5_take, ini_5⟩, by decide +kernel, ⟨by decide +kernel, by decide +kernel⟩, Nat.le_of_ble_eq_true rfl⟩
theorem np_X5_take : (parseMethodDescriptor yX5_take.desc).map (fun d => d.parameters.length) = some 2 := by decide +kernel
theorem im_X5_take : Cond.instanceMethod yX5_take ∈ pWW := pw3 (List.mem_of_getElem? (i := 22) rfl) rfl
theorem se_X5_take : Cond.selects RX5 yX5_take yX5_take ∈ pWW := pw3 (List.mem_of_getElem? (i := 23) rfl) rfl
theorem ml5_67 : Cond.methodLink RX5 67 yX9_scan ∈ pWW := pw3 (List.mem_of_getElem? (i := 25) rfl) rfl
theorem ml5_75 : Cond.methodLink RX5 75 yX5_header ∈ pWW := pw3 (List.mem_of_getElem? (i := 61) rfl) rfl
theorem ml5_83 : Cond.methodLink RX5 83 yX5_closeRoutine ∈ pWW := pw3 (List.mem_of_getElem? (i := 226) rfl) rfl
theorem dX5_take_0 : decode cX5_take 0 = .ok (.aload_n 0, 1) := by decide +kernel
theorem dX5_take_1 : decode cX5_take 1 = .ok (.iconst 0, 1) := by decide +kernel
theorem dX5_take_2 : decode cX5_take 2 = .ok (.putfield 51, 3) := by decide +kernel
theorem dX5_take_5 : decode cX5_take 5 = .ok (.aload_n 0, 1) := by decide +kernel
theorem dX5_take_6 : decode cX5_take 6 = .ok (.iconst (-1), 1) := by decide +kernel
theorem dX5_take_7 : decode cX5_take 7 = .ok (.putfield 55, 3) := by decide +kernel
theorem dX5_take_10 : decode cX5_take 10 = .ok (.aload_n 0, 1) := by decide +kernel
theorem dX5_take_11 : decode cX5_take 11 = .ok (.iconst 0, 1) := by decide +kernel
theorem dX5_take_12 : decode cX5_take 12 = .ok (.putfield 58, 3) := by decide +kernel
theorem dX5_take_15 : decode cX5_take 15 = .ok (.aload_n 0, 1) := by decide +kernel
theorem dX5_take_16 : decode cX5_take 16 = .ok (.iconst 0, 1) := by decide +kernel
theorem dX5_take_17 : decode cX5_take 17 = .ok (.putfield 61, 3) := by decide +kernel
theorem dX5_take_20 : decode cX5_take 20 = .ok (.aload_n 0, 1) := by decide +kernel
theorem dX5_take_21 : decode cX5_take 21 = .ok (.iconst 0, 1) := by decide +kernel
theorem dX5_take_22 : decode cX5_take 22 = .ok (.putfield 64, 3) := by decide +kernel
theorem dX5_take_25 : decode cX5_take 25 = .ok (.aload_n 0, 1) := by decide +kernel
theorem dX5_take_26 : decode cX5_take 26 = .ok (.getfield 12, 3) := by decide +kernel
theorem dX5_take_29 : decode cX5_take 29 = .ok (.aload_n 1, 1) := by decide +kernel
theorem dX5_take_30 : decode cX5_take 30 = .ok (.iload_n 2, 1) := by decide +kernel
theorem dX5_take_31 : decode cX5_take 31 = .ok (.invokevirtual 67, 3) := by decide +kernel
theorem dX5_take_34 : decode cX5_take 34 = .ok (.iconst 0, 1) := by decide +kernel
theorem dX5_take_35 : decode cX5_take 35 = .ok (.istore_n 3, 1) := by decide +kernel
theorem dX5_take_36 : decode cX5_take 36 = .ok (.iload_n 3, 1) := by decide +kernel
theorem dX5_take_37 : decode cX5_take 37 = .ok (.sipush 1200, 3) := by decide +kernel
theorem dX5_take_40 : decode cX5_take 40 = .ok (.if_icmp .ge 54, 3) := by decide +kernel
theorem dX5_take_43 : decode cX5_take 43 = .ok (.aload_n 0, 1) := by decide +kernel
theorem dX5_take_44 : decode cX5_take 44 = .ok (.getfield 12, 3) := by decide +kernel
theorem dX5_take_47 : decode cX5_take 47 = .ok (.getfield 71, 3) := by decide +kernel
theorem dX5_take_50 : decode cX5_take 50 = .ok (.sipush 264, 3) := by decide +kernel
theorem dX5_take_53 : decode cX5_take 53 = .ok (.if_icmp .eq 41, 3) := by decide +kernel
theorem dX5_take_56 : decode cX5_take 56 = .ok (.aload_n 0, 1) := by decide +kernel
theorem dX5_take_57 : decode cX5_take 57 = .ok (.getfield 12, 3) := by decide +kernel
theorem dX5_take_60 : decode cX5_take 60 = .ok (.getfield 74, 3) := by decide +kernel
theorem dX5_take_63 : decode cX5_take 63 = .ok (.istore 4, 2) := by decide +kernel
theorem dX5_take_65 : decode cX5_take 65 = .ok (.aload_n 0, 1) := by decide +kernel
theorem dX5_take_66 : decode cX5_take 66 = .ok (.invokevirtual 75, 3) := by decide +kernel
theorem dX5_take_69 : decode cX5_take 69 = .ok (.ifCond .eq 11, 3) := by decide +kernel
theorem dX5_take_72 : decode cX5_take 72 = .ok (.aload_n 0, 1) := by decide +kernel
theorem dX5_take_73 : decode cX5_take 73 = .ok (.iconst 1, 1) := by decide +kernel
theorem dX5_take_74 : decode cX5_take 74 = .ok (.invokevirtual 79, 3) := by decide +kernel
theorem dX5_take_77 : decode cX5_take 77 = .ok (.ifCond .ne 5, 3) := by decide +kernel
theorem dX5_take_82 : decode cX5_take 82 = .ok (.aload_n 0, 1) := by decide +kernel
theorem dX5_take_83 : decode cX5_take 83 = .ok (.iload 4, 2) := by decide +kernel
theorem dX5_take_85 : decode cX5_take 85 = .ok (.invokevirtual 83, 3) := by decide +kernel
theorem dX5_take_88 : decode cX5_take 88 = .ok (.iinc 3 1, 3) := by decide +kernel
theorem dX5_take_91 : decode cX5_take 91 = .ok (.goto (-55), 3) := by decide +kernel
set_option maxRecDepth 20000 in
theorem l_X5_take_36 (d : Nat) {T0 : CT} {σ0 : MS} {a : Nat} {post : Option Value → CT → MS → Prop} (hw0 : WT T0 σ0) (hx_80 : ∀ (T : CT) (i3 : Int) (σ : MS) , (GT T0 T) → (WT T σ) → (FrC T0 [5, 6, 7, 8, 9, 10, 35, 38, 42, 43, 44, 45, 46, 47, 50, 51, 84, 85, 86, 87, 516, 517, 518, 519, 520, 521] σ0 σ) → (OB T a 5) → (0 ≤ i3 ∧ i3 ≤ 2147483647) → (True) → Tn (d + 79) m_X5_take 80 T σ [(0, .ref a), (3, .int (iI i3))] [] post) (hx_94 : ∀ (T : CT) (i3 : Int) (σ : MS) , (GT T0 T) → (WT T σ) → (FrC T0 [5, 6, 7, 8, 9, 10, 35, 38, 42, 43, 44, 45, 46, 47, 50, 51, 84, 85, 86, 87, 516, 517, 518, 519, 520, 521] σ0 σ) → (OB T a 5) → (0 ≤ i3 ∧ i3 ≤ 2147483647) → (True) → Tn (d + 79) m_X5_take 94 T σ [(0, .ref a), (3, .int (iI i3))] [] post) : ∀ (n : Nat) (T : CT) (i3 : Int) (σ : MS) , (GT T0 T) → (WT T σ) → (FrC T0 [5, 6, 7, 8, 9, 10, 35, 38, 42, 43, 44, 45, 46, 47, 50, 51, 84, 85, 86, 87, 516, 517, 518, 519, 520, 521] σ0 σ) → (OB T a 5) → (0 ≤ i3 ∧ i3 ≤ 2147483647) → (RT σ a) → (2147483700 - i3).toNat = n → Tn (d + 79) m_X5_take 36 T σ [(0, .ref a), (3, .int (iI i3))] [] post := by
  intro n
  induction n using Nat.strongRecOn with
  | _ n ih =>
    intro T i3 σ hG hw hF h_a r_i3 hrt hm
    refine tn_iload_n dX5_take_36 rfl 1 rfl ?_
    refine tn_sipush dX5_take_37 (by decide) ?_
    refine tn_icmp_ge (tgt := 94) dX5_take_40 (by decide) ⟨by omega, by omega⟩ ⟨by decide, by decide⟩ (fun h1 => ?_) (fun h1 => ?_)
    · exact tn_sub [0, 1] rfl (hx_94 T (i3) σ hG hw (FrC.rfl.trans (FrC.sub hF (by decide))) h_a (by omega) True.intro)
    · refine tn_aload_n dX5_take_43 rfl 0 rfl ?_
      obtain ⟨x2, hx3, hk4⟩ : ∃ x : Nat, σ.2.1 33 a = (x : Int) ∧ (T x).1 = 39 := wf_33 hw h_a
      have hk4o : OB T x2 9 := ⟨by omega, by rw [hk4]; rfl, by omega⟩
      refine tn_getR (ci := 5) (i := 0) (n := 33) (x := x2) dX5_take_44 rfl lay_5 (by decide) fl5_12 h_a rfl rfl (hx3) ?_
      refine tn_getI (ci := 9) (i := 4) (n := 85) (t := σ.2.1 85 x2) dX5_take_47 rfl lay_9 (by decide) fl5_71 hk4o rfl rfl (rfl) ?_
      have g6 : ((-2147483648 : Int) ≤ σ.2.1 85 x2 ∧ σ.2.1 85 x2 ≤ 2147483647) := wf_85 hw hk4o
      refine tn_sipush dX5_take_50 (by decide) ?_
      refine tn_icmp_eq (tgt := 94) dX5_take_53 (by decide) ⟨by omega, by omega⟩ ⟨by decide, by decide⟩ (fun h7 => ?_) (fun h7 => ?_)
      · exact tn_sub [0, 1] rfl (hx_94 T (i3) σ hG hw (FrC.rfl.trans (FrC.sub hF (by decide))) h_a (by omega) True.intro)
      · refine tn_aload_n dX5_take_56 rfl 0 rfl ?_
        refine tn_getR (ci := 5) (i := 0) (n := 33) (x := x2) dX5_take_57 rfl lay_5 (by decide) fl5_12 h_a rfl rfl (hx3) ?_
        refine tn_getI (ci := 9) (i := 6) (n := 87) (t := σ.2.1 87 x2) dX5_take_60 rfl lay_9 (by decide) fl5_74 hk4o rfl rfl (rfl) ?_
        have g8 : ((-2147483648 : Int) ≤ σ.2.1 87 x2 ∧ σ.2.1 87 x2 ≤ 2147483647) := wf_87 hw hk4o
        refine tn_istore (L' := [(4, .int (iI (σ.2.1 87 x2))), (0, .ref a), (3, .int (iI i3))]) dX5_take_63 (by decide) rfl ?_
        refine tn_aload_n dX5_take_65 rfl 1 rfl ?_
        refine tn_callV (M := m_X5_take) (pc := 66) (ix := 75) (ci := 5) (M' := m_X5_header) (As := []) (rest := []) dX5_take_66 ok_X5_header im_X5_header se_X5_header ml5_75 np_X5_header rfl rfl h_a rfl (Nat.le_of_ble_eq_true rfl) (Nat.le_of_ble_eq_true rfl) rfl (k_X5_header (d + 73) (T := T) (σ := σ) (a := a) h_a hw hrt) (fun r9 T11 σ10 gt12 hp => ?_)
        obtain ⟨v15, rfl, rfl, w16, F17, f13, f14⟩ := hp
        clear gt12
        show Tn _ _ 69 T σ10 [(4, .int (iI (σ.2.1 87 x2))), (0, .ref a), (3, .int (iI i3))] [.int (iI v15)] _
        refine tn_if_eq (tgt := 80) dX5_take_69 (by decide) ⟨by omega, by omega⟩ (fun h18 => ?_) (fun h18 => ?_)
        · exact tn_sub [1, 2] rfl (hx_80 T (i3) σ10 hG w16 ((FrC.rfl.trans (FrC.sub hF (by decide))).trans (FrC.sub (FrC.old F17 hG) (by decide))) h_a (by omega) True.intro)
        · have rp19 := f14 (by omega)
          refine tn_aload_n dX5_take_72 rfl 1 rfl ?_
          refine tn_iconst dX5_take_73 ?_
          refine tn_callV (M := m_X5_take) (pc := 74) (ix := 79) (ci := 5) (M' := m_X5_block) (As := [.int (iI 1)]) (rest := []) dX5_take_74 ok_X5_block im_X5_block se_X5_block ml5_79 np_X5_block rfl rfl h_a rfl (Nat.le_of_ble_eq_true rfl) (Nat.le_of_ble_eq_true rfl) rfl (k_X5_block (d) (T := T) (σ := σ10) (a := a) (dp := 1) (kp := 4) h_a (by decide) w16 (by omega) (by omega) rp19) (fun r20 T22 σ21 gt23 hp => ?_)
          obtain ⟨v26, rfl, w27, F28, f24, f25⟩ := hp
          replace h_a : OB T22 a 5 := gt23.ob h_a
          have rp30 : RP σ21 a (- 10 * v26 + 6) := RP.up f25 (by omega)
          show Tn _ _ 77 T22 σ21 [(4, .int (iI (σ.2.1 87 x2))), (0, .ref a), (3, .int (iI i3))] [.int (iI v26)] _
          refine tn_if_ne (tgt := 82) dX5_take_77 (by decide) ⟨by omega, by omega⟩ (fun h31 => ?_) (fun h31 => ?_)
          · refine tn_aload_n dX5_take_82 rfl 1 rfl ?_
            refine tn_iload dX5_take_83 0 rfl ?_
            refine tn_callV (M := m_X5_take) (pc := 85) (ix := 83) (ci := 5) (M' := m_X5_closeRoutine) (As := [.int (iI (σ.2.1 87 x2))]) (rest := []) dX5_take_85 ok_X5_closeRoutine im_X5_closeRoutine se_X5_closeRoutine ml5_83 np_X5_closeRoutine rfl rfl h_a rfl (Nat.le_of_ble_eq_true rfl) (Nat.le_of_ble_eq_true rfl) rfl (k_X5_closeRoutine (d + 74) (T := T22) (σ := σ21) (a := a) (w := σ.2.1 87 x2) (kp := - 10 * v26 + 6) h_a (by omega) w27 (by omega) rp30) (fun r32 T34 σ33 gt35 hp => ?_)
            obtain ⟨rfl, w38, F39, f36⟩ := hp
            replace h_a : OB T34 a 5 := gt35.ob h_a
            have rp41 : RP σ33 a (- 10 * v26 + 7) := RP.up f36 (by omega)
            show Tn _ _ 88 T34 σ33 [(4, .int (iI (σ.2.1 87 x2))), (0, .ref a), (3, .int (iI i3))] [] _
            refine tn_iinc (q0 := 2) (L' := [(3, .int (iI (i3 + 1))), (4, .int (iI (σ.2.1 87 x2))), (0, .ref a)]) dX5_take_88 rfl (by decide) rfl ?_
            refine tn_goto (tgt := 36) dX5_take_91 (by decide) ?_
            exact tn_sub [2, 0] rfl (ih _ (by omega) T34 (i3 + 1) σ33 (GT.trans (GT.trans hG gt23) gt35) w38 ((((FrC.rfl.trans (FrC.sub hF (by decide))).trans (FrC.sub (FrC.old F17 hG) (by decide))).trans (FrC.sub (FrC.old F28 hG) (by decide))).trans (FrC.sub (FrC.old F39 (GT.trans hG gt23)) (by decide))) h_a (by omega) (RP.rt rp41 w38 h_a) rfl)
          · exact tn_sub [1, 2] rfl (hx_80 T22 (i3) σ21 (GT.trans hG gt23) w27 (((FrC.rfl.trans (FrC.sub hF (by decide))).trans (FrC.sub (FrC.old F17 hG) (by decide))).trans (FrC.sub (FrC.old F28 hG) (by decide))) h_a (by omega) True.intro)
theorem ml5_87 : Cond.methodLink RX5 87 yX5_settleCalls ∈ pWW := pw4 (List.mem_of_getElem? (i := 11) rfl) rfl
theorem dX5_take_80 : decode cX5_take 80 = .ok (.iconst 0, 1) := by decide +kernel
theorem dX5_take_81 : decode cX5_take 81 = .ok (.ireturn, 1) := by decide +kernel
theorem dX5_take_94 : decode cX5_take 94 = .ok (.aload_n 0, 1) := by decide +kernel
theorem dX5_take_95 : decode cX5_take 95 = .ok (.invokevirtual 87, 3) := by decide +kernel
theorem dX5_take_98 : decode cX5_take 98 = .ok (.ireturn, 1) := by decide +kernel
set_option maxRecDepth 20000 in
theorem k_X5_take (d : Nat) {T : CT} {σ : MS} {a : Nat} {t : Nat} {n : Int} (ha : OB T a 5) (h_t : (T t).1 = 2) (l_t : (T t).2 ≤ 1000000) (h_n : -2147483648 ≤ n ∧ n ≤ 2147483647) (hw : WT T σ) (ht : (T t).2 = 1200) : Tn (d + 79) m_X5_take 0 T σ [(0, .ref a), (1, .ref t), (2, .int (iI n))] [] (fun ro T2 σ2 => ∃ v : Int, ro = some (.int (iI v)) ∧ WT T2 σ2 ∧ FrC T [5, 6, 7, 8, 9, 10, 35, 38, 42, 43, 44, 45, 46, 47, 50, 51, 84, 85, 86, 87, 512, 516, 517, 518, 519, 520, 521, 522, 523] σ σ2 ∧ (v = 0 ∨ v = 1)) := by
  refine tn_aload_n dX5_take_0 rfl 0 rfl ?_
  refine tn_iconst dX5_take_1 ?_
  refine tn_putV (ci := 5) (i := 10) (n := 43) (r := false) (v := 0) tyX5 tyX5_ok nmX5 dX5_take_2 rfl lay_5 (by decide) fl5_51 rfl (tyX5_ok 10 (by decide)) rfl rfl rfl ha rfl rfl ?_
  refine tn_aload_n dX5_take_5 rfl 0 rfl ?_
  refine tn_iconst dX5_take_6 ?_
  refine tn_putV (ci := 5) (i := 11) (n := 44) (r := false) (v := -1) tyX5 tyX5_ok nmX5 dX5_take_7 rfl lay_5 (by decide) fl5_55 rfl (tyX5_ok 11 (by decide)) rfl rfl rfl ha rfl rfl ?_
  refine tn_aload_n dX5_take_10 rfl 0 rfl ?_
  refine tn_iconst dX5_take_11 ?_
  refine tn_putV (ci := 5) (i := 5) (n := 38) (r := false) (v := 0) tyX5 tyX5_ok nmX5 dX5_take_12 rfl lay_5 (by decide) fl5_58 rfl (tyX5_ok 5 (by decide)) rfl rfl rfl ha rfl rfl ?_
  refine tn_aload_n dX5_take_15 rfl 0 rfl ?_
  refine tn_iconst dX5_take_16 ?_
  refine tn_putV (ci := 5) (i := 9) (n := 42) (r := false) (v := 0) tyX5 tyX5_ok nmX5 dX5_take_17 rfl lay_5 (by decide) fl5_61 rfl (tyX5_ok 9 (by decide)) rfl rfl rfl ha rfl rfl ?_
  refine tn_aload_n dX5_take_20 rfl 0 rfl ?_
  refine tn_iconst dX5_take_21 ?_
  refine tn_putV (ci := 5) (i := 12) (n := 45) (r := false) (v := 0) tyX5 tyX5_ok nmX5 dX5_take_22 rfl lay_5 (by decide) fl5_64 rfl (tyX5_ok 12 (by decide)) rfl rfl rfl ha rfl rfl ?_
  refine tn_aload_n dX5_take_25 rfl 0 rfl ?_
  obtain ⟨x1, hx2, hk3⟩ : ∃ x : Nat, σ.2.1 33 a = (x : Int) ∧ (T x).1 = 39 := wf_33 hw ha
  have hk3o : OB T x1 9 := ⟨by omega, by rw [hk3]; rfl, by omega⟩
  refine tn_getR (ci := 5) (i := 0) (n := 33) (x := x1) dX5_take_26 rfl lay_5 (by decide) fl5_12 ha rfl rfl (rc_o (by decide) (rc_o (by decide) (rc_o (by decide) (rc_o (by decide) (rc_o (by decide) (hx2)))))) ?_
  refine tn_aload_n dX5_take_29 rfl 1 rfl ?_
  refine tn_iload_n dX5_take_30 rfl 2 rfl ?_
  refine tn_callV (M := m_X5_take) (pc := 31) (ix := 67) (ci := 9) (M' := m_X9_scan) (As := [.ref t, .int (iI n)]) (rest := []) dX5_take_31 ok_X9_scan im_X9_scan se_X9_scan ml5_67 np_X9_scan rfl rfl hk3o rfl (Nat.le_of_ble_eq_true rfl) (Nat.le_of_ble_eq_true rfl) rfl (k_X9_scan (d + 75) (T := T) (σ := (sA 45 a (0) (sA 42 a (0) (sA 38 a (0) (sA 44 a (-1) (sA 43 a (0) σ)))))) (a := x1) (t := t) (n := n) hk3o h_t (by omega) (by omega) (((((hw.put (by decide) (by decide) (fo_43 (by omega))).put (by decide) (by decide) (fo_44 (by omega))).put (by decide) (by decide) (fo_38 (by omega))).put (by decide) (by decide) (fo_42 (by omega))).put (by decide) (by decide) (fo_45 (by omega))) (by omega)) (fun r5 T7 σ6 gt8 hp => ?_)
  obtain ⟨rfl, rfl, w11, F12, f9⟩ := hp
  clear gt8
  show Tn _ _ 34 T σ6 [(0, .ref a), (1, .ref t), (2, .int (iI n))] [] _
  refine tn_iconst dX5_take_34 ?_
  refine tn_istore_n (L' := [(3, .int (iI 0)), (0, .ref a), (1, .ref t), (2, .int (iI n))]) dX5_take_35 rfl (by decide) rfl ?_
  refine tn_sub [1, 0] rfl (l_X5_take_36 (d) (σ0 := σ6) (T0 := T) (a := a) w11 (fun T15 i313 σ14 gt16 w17 F18 q19 r20 f21 => ?_) (fun T24 i322 σ23 gt25 w26 F27 q28 r29 f30 => ?_) _ T (0) σ6 GT.rfl w11 FrC.rfl ha (by omega) (RT.of (rc_F F12 (Or.inl (by decide)) (by decide) (rc_o (by decide) (rc_o (by decide) (rc_o (by decide) (rc_o (by decide) (rc_o (by decide) (hx2))))))) f9) rfl)
  · show Tn _ _ 80 T15 σ14 [(0, .ref a), (3, .int (iI i313))] [] _
    refine tn_iconst dX5_take_80 ?_
    exact tn_zret (v := 0) rfl (by decide) dX5_take_81 ⟨_, rfl, w17, (((((((FrC.rfl.put (by decide) (by decide)).put (by decide) (by decide)).put (by decide) (by decide)).put (by decide) (by decide)).put (by decide) (by decide)).trans (FrC.sub F12 (by decide))).trans (FrC.sub F18 (by decide))), by omega⟩
  · show Tn _ _ 94 T24 σ23 [(0, .ref a), (3, .int (iI i322))] [] _
    refine tn_aload_n dX5_take_94 rfl 0 rfl ?_
    refine tn_callV (M := m_X5_take) (pc := 95) (ix := 87) (ci := 5) (M' := m_X5_settleCalls) (As := []) (rest := []) dX5_take_95 ok_X5_settleCalls im_X5_settleCalls se_X5_settleCalls ml5_87 np_X5_settleCalls rfl rfl q28 rfl (Nat.le_of_ble_eq_true rfl) (Nat.le_of_ble_eq_true rfl) rfl (k_X5_settleCalls (d + 75) (T := T24) (σ := σ23) (a := a) q28 w26 ) (fun r31 T33 σ32 gt34 hp => ?_)
    obtain ⟨v36, rfl, rfl, w37, F38, f35⟩ := hp
    clear gt34
    show Tn _ _ 98 T24 σ32 [(0, .ref a), (3, .int (iI i322))] [.int (iI v36)] _
    exact tn_zret (v := v36) rfl (by omega) dX5_take_98 ⟨_, rfl, w37, ((((((((FrC.rfl.put (by decide) (by decide)).put (by decide) (by decide)).put (by decide) (by decide)).put (by decide) (by decide)).put (by decide) (by decide)).trans (FrC.sub F12 (by decide))).trans (FrC.sub F27 (by decide))).trans (FrC.sub (FrC.old F38 gt25) (by decide))), by omega⟩
