theorem cd_X7_openCall : Cond.code yX7_openCall cX7_openCall 4 none ∈ pWW := pw6 (List.mem_of_getElem? (i := 36) rfl) rfl
abbrev m_X7_openCall : MT := (yX7_openCall, cX7_openCall, 4, none)
theorem ok_X7_openCall : pOk m_X7_openCall := ⟨⟨cd_X7_openCall, ini_7⟩, by decide +kernel, ⟨by decide +kernel, by decide +kernel⟩, Nat.le_of_ble_eq_true rfl⟩
theorem np_X7_openCall : (parseMethodDescriptor yX7_openCall.desc).map (fun d => d.parameters.length) = some 2 := by decide +kernel
theorem im_X7_openCall : Cond.instanceMethod yX7_openCall ∈ pWW := pw6 (List.mem_of_getElem? (i := 35) rfl) rfl
theorem se_X7_openCall : Cond.selects RX7 yX7_openCall yX7_openCall ∈ pWW := pws (List.mem_map.mpr ⟨_, lw_pin 85 rfl, rfl⟩) rfl
theorem fl7_21 : Cond.fieldLink RX7 21 (TX7 7).1 (TX7 7).2.1 (TX7 7).2.2.1 ∈ pWW := pw2 (List.mem_of_getElem? (i := 144) rfl) rfl
theorem ml7_76 : Cond.methodLink RX7 76 yJ7_fill_fda19 ∈ pWW := pw6 (List.mem_of_getElem? (i := 42) rfl) rfl
theorem dX7_openCall_0 : decode cX7_openCall 0 = .ok (.aload_n 0, 1) := by decide +kernel
theorem dX7_openCall_1 : decode cX7_openCall 1 = .ok (.iload_n 1, 1) := by decide +kernel
theorem dX7_openCall_2 : decode cX7_openCall 2 = .ok (.putfield 65, 3) := by decide +kernel
theorem dX7_openCall_5 : decode cX7_openCall 5 = .ok (.aload_n 0, 1) := by decide +kernel
theorem dX7_openCall_6 : decode cX7_openCall 6 = .ok (.dup, 1) := by decide +kernel
theorem dX7_openCall_7 : decode cX7_openCall 7 = .ok (.getfield 38, 3) := by decide +kernel
theorem dX7_openCall_10 : decode cX7_openCall 10 = .ok (.iconst 1, 1) := by decide +kernel
theorem dX7_openCall_11 : decode cX7_openCall 11 = .ok (.iadd, 1) := by decide +kernel
theorem dX7_openCall_12 : decode cX7_openCall 12 = .ok (.putfield 38, 3) := by decide +kernel
theorem dX7_openCall_15 : decode cX7_openCall 15 = .ok (.aload_n 0, 1) := by decide +kernel
theorem dX7_openCall_16 : decode cX7_openCall 16 = .ok (.aload_n 0, 1) := by decide +kernel
theorem dX7_openCall_17 : decode cX7_openCall 17 = .ok (.iload_n 2, 1) := by decide +kernel
theorem dX7_openCall_18 : decode cX7_openCall 18 = .ok (.invokevirtual 68, 3) := by decide +kernel
theorem dX7_openCall_21 : decode cX7_openCall 21 = .ok (.putfield 72, 3) := by decide +kernel
theorem dX7_openCall_24 : decode cX7_openCall 24 = .ok (.aload_n 0, 1) := by decide +kernel
theorem dX7_openCall_25 : decode cX7_openCall 25 = .ok (.getfield 9, 3) := by decide +kernel
theorem dX7_openCall_28 : decode cX7_openCall 28 = .ok (.iload_n 1, 1) := by decide +kernel
theorem dX7_openCall_29 : decode cX7_openCall 29 = .ok (.iload_n 2, 1) := by decide +kernel
theorem dX7_openCall_30 : decode cX7_openCall 30 = .ok (.invokestatic 61, 3) := by decide +kernel
theorem dX7_openCall_33 : decode cX7_openCall 33 = .ok (.aload_n 0, 1) := by decide +kernel
theorem dX7_openCall_34 : decode cX7_openCall 34 = .ok (.getfield 15, 3) := by decide +kernel
theorem dX7_openCall_37 : decode cX7_openCall 37 = .ok (.iload_n 1, 1) := by decide +kernel
theorem dX7_openCall_38 : decode cX7_openCall 38 = .ok (.iconst 0, 1) := by decide +kernel
theorem dX7_openCall_39 : decode cX7_openCall 39 = .ok (.invokestatic 61, 3) := by decide +kernel
theorem dX7_openCall_42 : decode cX7_openCall 42 = .ok (.aload_n 0, 1) := by decide +kernel
theorem dX7_openCall_43 : decode cX7_openCall 43 = .ok (.getfield 18, 3) := by decide +kernel
theorem dX7_openCall_46 : decode cX7_openCall 46 = .ok (.iload_n 1, 1) := by decide +kernel
theorem dX7_openCall_47 : decode cX7_openCall 47 = .ok (.iconst 0, 1) := by decide +kernel
theorem dX7_openCall_48 : decode cX7_openCall 48 = .ok (.invokestatic 61, 3) := by decide +kernel
theorem dX7_openCall_51 : decode cX7_openCall 51 = .ok (.aload_n 0, 1) := by decide +kernel
theorem dX7_openCall_52 : decode cX7_openCall 52 = .ok (.getfield 21, 3) := by decide +kernel
theorem dX7_openCall_55 : decode cX7_openCall 55 = .ok (.iload_n 1, 1) := by decide +kernel
theorem dX7_openCall_56 : decode cX7_openCall 56 = .ok (.bipush 12, 2) := by decide +kernel
theorem dX7_openCall_58 : decode cX7_openCall 58 = .ok (.imul, 1) := by decide +kernel
theorem dX7_openCall_59 : decode cX7_openCall 59 = .ok (.iconst 0, 1) := by decide +kernel
theorem dX7_openCall_60 : decode cX7_openCall 60 = .ok (.invokestatic 61, 3) := by decide +kernel
theorem dX7_openCall_63 : decode cX7_openCall 63 = .ok (.iload_n 1, 1) := by decide +kernel
theorem dX7_openCall_64 : decode cX7_openCall 64 = .ok (.sipush 192, 3) := by decide +kernel
theorem dX7_openCall_67 : decode cX7_openCall 67 = .ok (.imul, 1) := by decide +kernel
theorem dX7_openCall_68 : decode cX7_openCall 68 = .ok (.istore_n 3, 1) := by decide +kernel
theorem dX7_openCall_69 : decode cX7_openCall 69 = .ok (.iload_n 3, 1) := by decide +kernel
theorem dX7_openCall_70 : decode cX7_openCall 70 = .ok (.ifCond .lt 30, 3) := by decide +kernel
theorem dX7_openCall_73 : decode cX7_openCall 73 = .ok (.iload_n 3, 1) := by decide +kernel
theorem dX7_openCall_74 : decode cX7_openCall 74 = .ok (.sipush 192, 3) := by decide +kernel
theorem dX7_openCall_77 : decode cX7_openCall 77 = .ok (.iadd, 1) := by decide +kernel
theorem dX7_openCall_78 : decode cX7_openCall 78 = .ok (.aload_n 0, 1) := by decide +kernel
theorem dX7_openCall_79 : decode cX7_openCall 79 = .ok (.getfield 24, 3) := by decide +kernel
theorem dX7_openCall_82 : decode cX7_openCall 82 = .ok (.arraylength, 1) := by decide +kernel
theorem dX7_openCall_83 : decode cX7_openCall 83 = .ok (.if_icmp .gt 17, 3) := by decide +kernel
theorem dX7_openCall_100 : decode cX7_openCall 100 = .ok (.return_, 1) := by decide +kernel
theorem dX7_openCall_86 : decode cX7_openCall 86 = .ok (.aload_n 0, 1) := by decide +kernel
theorem dX7_openCall_87 : decode cX7_openCall 87 = .ok (.getfield 24, 3) := by decide +kernel
theorem dX7_openCall_90 : decode cX7_openCall 90 = .ok (.iload_n 3, 1) := by decide +kernel
theorem dX7_openCall_91 : decode cX7_openCall 91 = .ok (.iload_n 3, 1) := by decide +kernel
theorem dX7_openCall_92 : decode cX7_openCall 92 = .ok (.sipush 192, 3) := by decide +kernel
theorem dX7_openCall_95 : decode cX7_openCall 95 = .ok (.iadd, 1) := by decide +kernel
theorem dX7_openCall_96 : decode cX7_openCall 96 = .ok (.iconst 0, 1) := by decide +kernel
theorem dX7_openCall_97 : decode cX7_openCall 97 = .ok (.invokestatic 76, 3) := by decide +kernel
set_option maxRecDepth 20000 in
theorem k_X7_openCall (d : Nat) {T : CT} {σ : MS} {a : Nat} {c : Int} {r : Int} (ha : OB T a 7) (hta : (T a).1 = 37) (h_c : -2147483648 ≤ c ∧ c ≤ 2147483647) (h_r : -2147483648 ≤ r ∧ r ≤ 2147483647) (hw : WT T σ) (h8 : 0 ≤ c ∧ c ≤ 11184800) : Tn (d + 3) m_X7_openCall 0 T σ [(0, .ref a), (1, .int (iI c)), (2, .int (iI r))] [] (fun ro T2 σ2 => ro = none ∧ T = T2 ∧ WT T2 σ2 ∧ FrC T [57, 58, 69, 515] σ σ2 ∧ (σ2.2.1 57 a = c) ∧ (FA a σ σ2)) := by
  refine tn_aload_n dX7_openCall_0 rfl 0 rfl ?_
  refine tn_iload_n dX7_openCall_1 rfl 1 rfl ?_
  refine tn_putV (ci := 7) (i := 2) (n := 57) (r := false) (v := c) tyX7 tyX7_ok nmX7 dX7_openCall_2 rfl lay_7 (by decide) fl7_65 rfl (tyX7_ok 2 (by decide)) rfl rfl rfl ha rfl rfl ?_
  refine tn_aload_n dX7_openCall_5 rfl 0 rfl ?_
  refine tn_dup dX7_openCall_6 rfl ?_
  refine tn_getI (ci := 7) (i := 3) (n := 58) (t := σ.2.1 58 a) dX7_openCall_7 rfl lay_7 (by decide) fl7_38 ha rfl rfl (rc_o (by decide) (rfl)) ?_
  have g1 : ((-2147483648 : Int) ≤ σ.2.1 58 a ∧ σ.2.1 58 a ≤ 2147483647) := wf_58 hw ha
  refine tn_iconst dX7_openCall_10 ?_
  refine tn_iadd dX7_openCall_11 ?_
  refine tn_any (fun z2 g3 => ?_)
  have g3r : -2147483648 ≤ z2 ∧ z2 ≤ 2147483647 := g3
  refine tn_putV (ci := 7) (i := 3) (n := 58) (r := false) (v := z2) tyX7 tyX7_ok nmX7 dX7_openCall_12 rfl lay_7 (by decide) fl7_38 rfl (tyX7_ok 3 (by decide)) rfl rfl rfl ha rfl rfl ?_
  refine tn_aload_n dX7_openCall_15 rfl 0 rfl ?_
  refine tn_aload_n dX7_openCall_16 rfl 0 rfl ?_
  refine tn_iload_n dX7_openCall_17 rfl 2 rfl ?_
  refine tn_callV (M := m_X7_openCall) (pc := 18) (ix := 68) (ci := 7) (M' := m_X7_codeAt) (As := [.int (iI r)]) (rest := [.ref a]) dX7_openCall_18 ok_X7_codeAt im_X7_codeAt se_X7_codeAt ml7_68 np_X7_codeAt rfl rfl ha rfl (Nat.le_of_ble_eq_true rfl) (Nat.le_of_ble_eq_true rfl) rfl (k_X7_codeAt (d + 1) (T := T) (σ := (sA 58 a (z2) (sA 57 a (c) σ))) (a := a) (r := r) ha (by omega) ((hw.put (by decide) (by decide) (fo_57 ⟨by omega, by omega⟩)).put (by decide) (by decide) (fo_58 (by omega))) ) (fun r4 T6 σ5 gt7 hp => ?_)
  obtain ⟨v9, rfl, rfl, rfl, rv10, f8⟩ := hp
  clear gt7
  clear f8
  rcases rv10 with rv10 | ⟨x11, rfl, hk12⟩
  · show Tn _ _ 21 T (sA 58 a (z2) (sA 57 a (c) σ)) [(0, .ref a), (1, .int (iI c)), (2, .int (iI r))] (vl true v9 :: [.ref a]) _
    rw [vl_null rv10]
    refine tn_putV (ci := 7) (i := 14) (n := 69) (r := true) (v := -1) tyX7 tyX7_ok nmX7 dX7_openCall_21 rfl lay_7 (by decide) fl7_72 rfl (tyX7_ok 14 (by decide)) (vl_null (by decide)).symm rfl rfl ha rfl rfl ?_
    refine tn_aload_n dX7_openCall_24 rfl 0 rfl ?_
    obtain ⟨x13, hx14, hk15, hl16⟩ : ∃ x : Nat, σ.2.1 59 a = (x : Int) ∧ AR T x 15 9 9 := wf_59 hw ha
    have hk15i : IA T x13 := by unfold IA; omega
    refine tn_getR (ci := 7) (i := 4) (n := 59) (x := x13) dX7_openCall_25 rfl lay_7 (by decide) fl7_9 ha rfl rfl (rc_o (by decide) (rc_o (by decide) (rc_o (by decide) (hx14)))) ?_
    refine tn_iload_n dX7_openCall_28 rfl 1 rfl ?_
    refine tn_iload_n dX7_openCall_29 rfl 2 rfl ?_
    refine tn_callSN (M := m_X7_openCall) (pc := 30) (ix := 61) (M' := m_X11_put) (As := [.ref x13, .int (iI c), .int (iI r)]) (rest := []) dX7_openCall_30 ok_X11_put stt_X11_put nl7_61 np_X11_put rfl (Nat.le_of_ble_eq_true rfl) (Nat.le_of_ble_eq_true rfl) rfl (k_X11_put_15 (d + 1) (T := T) (σ := (sA 69 a (-1) (sA 58 a (z2) (sA 57 a (c) σ)))) (x := x13) (i := c) (y := r) hk15i (by omega) hk15 (by omega) (by omega) (((hw.put (by decide) (by decide) (fo_57 ⟨by omega, by omega⟩)).put (by decide) (by decide) (fo_58 (by omega))).put (by decide) (by decide) (fo_69 (Or.inl (by decide)))) ) (fun r17 T19 σ18 gt20 hp => ?_)
    obtain ⟨rfl, rfl, w22, F23⟩ := hp
    clear gt20
    show Tn _ _ 33 T σ18 [(0, .ref a), (1, .int (iI c)), (2, .int (iI r))] [] _
    refine tn_aload_n dX7_openCall_33 rfl 0 rfl ?_
    obtain ⟨x24, hx25, hk26, hl27⟩ : ∃ x : Nat, σ.2.1 60 a = (x : Int) ∧ AR T x 1 9 9 := wf_60 hw ha
    have hk26i : IA T x24 := by unfold IA; omega
    refine tn_getR (ci := 7) (i := 5) (n := 60) (x := x24) dX7_openCall_34 rfl lay_7 (by decide) fl7_15 ha rfl rfl (rc_F F23 (Or.inl (by decide)) (by decide) (rc_o (by decide) (rc_o (by decide) (rc_o (by decide) (hx25))))) ?_
    refine tn_iload_n dX7_openCall_37 rfl 1 rfl ?_
    refine tn_iconst dX7_openCall_38 ?_
    refine tn_callSN (M := m_X7_openCall) (pc := 39) (ix := 61) (M' := m_X11_put) (As := [.ref x24, .int (iI c), .int (iI 0)]) (rest := []) dX7_openCall_39 ok_X11_put stt_X11_put nl7_61 np_X11_put rfl (Nat.le_of_ble_eq_true rfl) (Nat.le_of_ble_eq_true rfl) rfl (k_X11_put (d + 1) (T := T) (σ := σ18) (x := x24) (i := c) (y := 0) hk26i (by omega) (by omega) (by decide) w22 ((by have q9 := hk26; omega)) vok_0) (fun r28 T30 σ29 gt31 hp => ?_)
    obtain ⟨rfl, rfl, w33, F34⟩ := hp
    clear gt31
    show Tn _ _ 42 T σ29 [(0, .ref a), (1, .int (iI c)), (2, .int (iI r))] [] _
    refine tn_aload_n dX7_openCall_42 rfl 0 rfl ?_
    obtain ⟨x35, hx36, hl38, hk37a, hk37b⟩ := wf_61 hw ha
    have hk37 : (T x35).1 = 1 := hk37b (by omega)
    clear hk37a hk37b
    have hk37i : IA T x35 := by unfold IA; omega
    refine tn_getR (ci := 7) (i := 6) (n := 61) (x := x35) dX7_openCall_43 rfl lay_7 (by decide) fl7_18 ha rfl rfl (rc_F F34 (Or.inl (by decide)) (by decide) (rc_F F23 (Or.inl (by decide)) (by decide) (rc_o (by decide) (rc_o (by decide) (rc_o (by decide) (hx36)))))) ?_
    refine tn_iload_n dX7_openCall_46 rfl 1 rfl ?_
    refine tn_iconst dX7_openCall_47 ?_
    refine tn_callSN (M := m_X7_openCall) (pc := 48) (ix := 61) (M' := m_X11_put) (As := [.ref x35, .int (iI c), .int (iI 0)]) (rest := []) dX7_openCall_48 ok_X11_put stt_X11_put nl7_61 np_X11_put rfl (Nat.le_of_ble_eq_true rfl) (Nat.le_of_ble_eq_true rfl) rfl (k_X11_put (d + 1) (T := T) (σ := σ29) (x := x35) (i := c) (y := 0) hk37i (by omega) (by omega) (by decide) w33 ((by have q9 := hk37; omega)) vok_0) (fun r39 T41 σ40 gt42 hp => ?_)
    obtain ⟨rfl, rfl, w44, F45⟩ := hp
    clear gt42
    show Tn _ _ 51 T σ40 [(0, .ref a), (1, .int (iI c)), (2, .int (iI r))] [] _
    refine tn_aload_n dX7_openCall_51 rfl 0 rfl ?_
    obtain ⟨x46, hx47, hk48, hl49⟩ : ∃ x : Nat, σ.2.1 62 a = (x : Int) ∧ AR T x 1 108 108 := wf_62 hw ha
    have hk48i : IA T x46 := by unfold IA; omega
    refine tn_getR (ci := 7) (i := 7) (n := 62) (x := x46) dX7_openCall_52 rfl lay_7 (by decide) fl7_21 ha rfl rfl (rc_F F45 (Or.inl (by decide)) (by decide) (rc_F F34 (Or.inl (by decide)) (by decide) (rc_F F23 (Or.inl (by decide)) (by decide) (rc_o (by decide) (rc_o (by decide) (rc_o (by decide) (hx47))))))) ?_
    refine tn_iload_n dX7_openCall_55 rfl 1 rfl ?_
    refine tn_bipush dX7_openCall_56 (by decide) ?_
    refine tn_imul dX7_openCall_58 ?_
    refine tn_iconst dX7_openCall_59 ?_
    refine tn_callSN (M := m_X7_openCall) (pc := 60) (ix := 61) (M' := m_X11_put) (As := [.ref x46, .int (iI (c * 12)), .int (iI 0)]) (rest := []) dX7_openCall_60 ok_X11_put stt_X11_put nl7_61 np_X11_put rfl (Nat.le_of_ble_eq_true rfl) (Nat.le_of_ble_eq_true rfl) rfl (k_X11_put (d + 1) (T := T) (σ := σ40) (x := x46) (i := c * 12) (y := 0) hk48i (by omega) (by omega) (by decide) w44 ((by have q9 := hk48; omega)) vok_0) (fun r50 T52 σ51 gt53 hp => ?_)
    obtain ⟨rfl, rfl, w55, F56⟩ := hp
    clear gt53
    show Tn _ _ 63 T σ51 [(0, .ref a), (1, .int (iI c)), (2, .int (iI r))] [] _
    refine tn_iload_n dX7_openCall_63 rfl 1 rfl ?_
    refine tn_sipush dX7_openCall_64 (by decide) ?_
    refine tn_imul dX7_openCall_67 ?_
    refine tn_istore_n (L' := [(3, .int (iI (c * 192))), (0, .ref a), (1, .int (iI c)), (2, .int (iI r))]) dX7_openCall_68 rfl (by decide) rfl ?_
    refine tn_iload_n dX7_openCall_69 rfl 0 rfl ?_
    refine tn_if_lt (tgt := 100) dX7_openCall_70 (by decide) ⟨by omega, by omega⟩ (fun h57 => absurd h57 (by omega)) (fun h57 => ?_)
    refine tn_iload_n dX7_openCall_73 rfl 0 rfl ?_
    refine tn_sipush dX7_openCall_74 (by decide) ?_
    refine tn_iadd dX7_openCall_77 ?_
    refine tn_aload_n dX7_openCall_78 rfl 1 rfl ?_
    obtain ⟨x58, hx59, hk60, hl61⟩ : ∃ x : Nat, σ.2.1 63 a = (x : Int) ∧ AR T x 1 1728 1728 := wf_63 hw ha
    have hk60i : IA T x58 := by unfold IA; omega
    refine tn_getR (ci := 7) (i := 8) (n := 63) (x := x58) dX7_openCall_79 rfl lay_7 (by decide) fl7_24 ha rfl rfl (rc_F F56 (Or.inl (by decide)) (by decide) (rc_F F45 (Or.inl (by decide)) (by decide) (rc_F F34 (Or.inl (by decide)) (by decide) (rc_F F23 (Or.inl (by decide)) (by decide) (rc_o (by decide) (rc_o (by decide) (rc_o (by decide) (hx59)))))))) ?_
    refine tn_alenX dX7_openCall_82 (Or.inl hk60i) ?_
    refine tn_icmp_gt (tgt := 100) dX7_openCall_83 (by decide) ⟨by omega, by omega⟩ ⟨by omega, by omega⟩ (fun h62 => ?_) (fun h62 => ?_)
    · have q63 : σ51.2.1 57 a = c := rc_F F56 (Or.inl (by decide)) (by decide) (rc_F F45 (Or.inl (by decide)) (by decide) (rc_F F34 (Or.inl (by decide)) (by decide) (rc_F F23 (Or.inl (by decide)) (by decide) (rc_o (by decide) (rc_o (by decide) (ra_eq))))))
      exact tn_vret rfl dX7_openCall_100 ⟨rfl, rfl, w55, (((((((FrC.rfl.put (by decide) (by decide)).put (by decide) (by decide)).put (by decide) (by decide)).trans (FrC.sub F23 (by decide))).trans (FrC.sub F34 (by decide))).trans (FrC.sub F45 (by decide))).trans (FrC.sub F56 (by decide))), by omega, (((((((FA.rfl.put).put).put).trans (FA.of F23 (by decide))).trans (FA.of F34 (by decide))).trans (FA.of F45 (by decide))).trans (FA.of F56 (by decide)))⟩
    · refine tn_aload_n dX7_openCall_86 rfl 1 rfl ?_
      refine tn_getR (ci := 7) (i := 8) (n := 63) (x := x58) dX7_openCall_87 rfl lay_7 (by decide) fl7_24 ha rfl rfl (rc_F F56 (Or.inl (by decide)) (by decide) (rc_F F45 (Or.inl (by decide)) (by decide) (rc_F F34 (Or.inl (by decide)) (by decide) (rc_F F23 (Or.inl (by decide)) (by decide) (rc_o (by decide) (rc_o (by decide) (rc_o (by decide) (hx59)))))))) ?_
      refine tn_iload_n dX7_openCall_90 rfl 0 rfl ?_
      refine tn_iload_n dX7_openCall_91 rfl 0 rfl ?_
      refine tn_sipush dX7_openCall_92 (by decide) ?_
      refine tn_iadd dX7_openCall_95 ?_
      refine tn_iconst dX7_openCall_96 ?_
      refine tn_callS (M := m_X7_openCall) (pc := 97) (ix := 76) (M' := m_J7_fill_fda19) (As := [.ref x58, .int (iI (c * 192)), .int (iI ((c * 192) + 192)), .int (iI 0)]) (rest := []) dX7_openCall_97 ok_J7_fill_fda19 stt_J7_fill_fda19 ml7_76 np_J7_fill_fda19 rfl (Nat.le_of_ble_eq_true rfl) (Nat.le_of_ble_eq_true rfl) rfl (k_J7_fill_fda19 (d) (T := T) (σ := σ51) (x := x58) (f := c * 192) (t := (c * 192) + 192) (y := 0) hk60i (by omega) (by omega) (by omega) (by decide) w55 ((by have q9 := hk60; omega)) (by omega) (by omega)) (fun r64 T66 σ65 gt67 hp => ?_)
      obtain ⟨rfl, rfl, w69, F70⟩ := hp
      clear gt67
      show Tn _ _ 100 T σ65 [(3, .int (iI (c * 192))), (0, .ref a), (1, .int (iI c)), (2, .int (iI r))] [] _
      have q71 : σ65.2.1 57 a = c := rc_F F70 (Or.inl (by decide)) (by decide) (rc_F F56 (Or.inl (by decide)) (by decide) (rc_F F45 (Or.inl (by decide)) (by decide) (rc_F F34 (Or.inl (by decide)) (by decide) (rc_F F23 (Or.inl (by decide)) (by decide) (rc_o (by decide) (rc_o (by decide) (ra_eq)))))))
      exact tn_vret rfl dX7_openCall_100 ⟨rfl, rfl, w69, ((((((((FrC.rfl.put (by decide) (by decide)).put (by decide) (by decide)).put (by decide) (by decide)).trans (FrC.sub F23 (by decide))).trans (FrC.sub F34 (by decide))).trans (FrC.sub F45 (by decide))).trans (FrC.sub F56 (by decide))).trans (FrC.sub F70 (by decide))), by omega, ((((((((FA.rfl.put).put).put).trans (FA.of F23 (by decide))).trans (FA.of F34 (by decide))).trans (FA.of F45 (by decide))).trans (FA.of F56 (by decide))).trans (FA.of F70 (by decide)))⟩
  · show Tn _ _ 21 T (sA 58 a (z2) (sA 57 a (c) σ)) [(0, .ref a), (1, .int (iI c)), (2, .int (iI r))] (vl true (x11 : Int) :: [.ref a]) _
    rw [vl_ref rfl]
    have hk12o : OB T x11 1 := hk12.1
    refine tn_putV (ci := 7) (i := 14) (n := 69) (r := true) (v := (x11 : Int)) tyX7 tyX7_ok nmX7 dX7_openCall_21 rfl lay_7 (by decide) fl7_72 rfl (tyX7_ok 14 (by decide)) (vl_ref rfl).symm rfl rfl ha rfl rfl ?_
    refine tn_aload_n dX7_openCall_24 rfl 0 rfl ?_
    obtain ⟨x72, hx73, hk74, hl75⟩ : ∃ x : Nat, σ.2.1 59 a = (x : Int) ∧ AR T x 15 9 9 := wf_59 hw ha
    have hk74i : IA T x72 := by unfold IA; omega
    refine tn_getR (ci := 7) (i := 4) (n := 59) (x := x72) dX7_openCall_25 rfl lay_7 (by decide) fl7_9 ha rfl rfl (rc_o (by decide) (rc_o (by decide) (rc_o (by decide) (hx73)))) ?_
    refine tn_iload_n dX7_openCall_28 rfl 1 rfl ?_
    refine tn_iload_n dX7_openCall_29 rfl 2 rfl ?_
    refine tn_callSN (M := m_X7_openCall) (pc := 30) (ix := 61) (M' := m_X11_put) (As := [.ref x72, .int (iI c), .int (iI r)]) (rest := []) dX7_openCall_30 ok_X11_put stt_X11_put nl7_61 np_X11_put rfl (Nat.le_of_ble_eq_true rfl) (Nat.le_of_ble_eq_true rfl) rfl (k_X11_put_15 (d + 1) (T := T) (σ := (sA 69 a ((x11 : Int)) (sA 58 a (z2) (sA 57 a (c) σ)))) (x := x72) (i := c) (y := r) hk74i (by omega) hk74 (by omega) (by omega) (((hw.put (by decide) (by decide) (fo_57 ⟨by omega, by omega⟩)).put (by decide) (by decide) (fo_58 (by omega))).put (by decide) (by decide) (fo_69 (Or.inr ⟨_, rfl, hk12.2.1, hk12.2.2⟩))) ) (fun r76 T78 σ77 gt79 hp => ?_)
    obtain ⟨rfl, rfl, w81, F82⟩ := hp
    clear gt79
    show Tn _ _ 33 T σ77 [(0, .ref a), (1, .int (iI c)), (2, .int (iI r))] [] _
    refine tn_aload_n dX7_openCall_33 rfl 0 rfl ?_
    obtain ⟨x83, hx84, hk85, hl86⟩ : ∃ x : Nat, σ.2.1 60 a = (x : Int) ∧ AR T x 1 9 9 := wf_60 hw ha
    have hk85i : IA T x83 := by unfold IA; omega
    refine tn_getR (ci := 7) (i := 5) (n := 60) (x := x83) dX7_openCall_34 rfl lay_7 (by decide) fl7_15 ha rfl rfl (rc_F F82 (Or.inl (by decide)) (by decide) (rc_o (by decide) (rc_o (by decide) (rc_o (by decide) (hx84))))) ?_
    refine tn_iload_n dX7_openCall_37 rfl 1 rfl ?_
    refine tn_iconst dX7_openCall_38 ?_
    refine tn_callSN (M := m_X7_openCall) (pc := 39) (ix := 61) (M' := m_X11_put) (As := [.ref x83, .int (iI c), .int (iI 0)]) (rest := []) dX7_openCall_39 ok_X11_put stt_X11_put nl7_61 np_X11_put rfl (Nat.le_of_ble_eq_true rfl) (Nat.le_of_ble_eq_true rfl) rfl (k_X11_put (d + 1) (T := T) (σ := σ77) (x := x83) (i := c) (y := 0) hk85i (by omega) (by omega) (by decide) w81 ((by have q9 := hk85; omega)) vok_0) (fun r87 T89 σ88 gt90 hp => ?_)
    obtain ⟨rfl, rfl, w92, F93⟩ := hp
    clear gt90
    show Tn _ _ 42 T σ88 [(0, .ref a), (1, .int (iI c)), (2, .int (iI r))] [] _
    refine tn_aload_n dX7_openCall_42 rfl 0 rfl ?_
    obtain ⟨x94, hx95, hl97, hk96a, hk96b⟩ := wf_61 hw ha
    have hk96 : (T x94).1 = 1 := hk96b (by omega)
    clear hk96a hk96b
    have hk96i : IA T x94 := by unfold IA; omega
    refine tn_getR (ci := 7) (i := 6) (n := 61) (x := x94) dX7_openCall_43 rfl lay_7 (by decide) fl7_18 ha rfl rfl (rc_F F93 (Or.inl (by decide)) (by decide) (rc_F F82 (Or.inl (by decide)) (by decide) (rc_o (by decide) (rc_o (by decide) (rc_o (by decide) (hx95)))))) ?_
    refine tn_iload_n dX7_openCall_46 rfl 1 rfl ?_
    refine tn_iconst dX7_openCall_47 ?_
    refine tn_callSN (M := m_X7_openCall) (pc := 48) (ix := 61) (M' := m_X11_put) (As := [.ref x94, .int (iI c), .int (iI 0)]) (rest := []) dX7_openCall_48 ok_X11_put stt_X11_put nl7_61 np_X11_put rfl (Nat.le_of_ble_eq_true rfl) (Nat.le_of_ble_eq_true rfl) rfl (k_X11_put (d + 1) (T := T) (σ := σ88) (x := x94) (i := c) (y := 0) hk96i (by omega) (by omega) (by decide) w92 ((by have q9 := hk96; omega)) vok_0) (fun r98 T100 σ99 gt101 hp => ?_)
    obtain ⟨rfl, rfl, w103, F104⟩ := hp
    clear gt101
    show Tn _ _ 51 T σ99 [(0, .ref a), (1, .int (iI c)), (2, .int (iI r))] [] _
    refine tn_aload_n dX7_openCall_51 rfl 0 rfl ?_
    obtain ⟨x105, hx106, hk107, hl108⟩ : ∃ x : Nat, σ.2.1 62 a = (x : Int) ∧ AR T x 1 108 108 := wf_62 hw ha
    have hk107i : IA T x105 := by unfold IA; omega
    refine tn_getR (ci := 7) (i := 7) (n := 62) (x := x105) dX7_openCall_52 rfl lay_7 (by decide) fl7_21 ha rfl rfl (rc_F F104 (Or.inl (by decide)) (by decide) (rc_F F93 (Or.inl (by decide)) (by decide) (rc_F F82 (Or.inl (by decide)) (by decide) (rc_o (by decide) (rc_o (by decide) (rc_o (by decide) (hx106))))))) ?_
    refine tn_iload_n dX7_openCall_55 rfl 1 rfl ?_
    refine tn_bipush dX7_openCall_56 (by decide) ?_
    refine tn_imul dX7_openCall_58 ?_
    refine tn_iconst dX7_openCall_59 ?_
    refine tn_callSN (M := m_X7_openCall) (pc := 60) (ix := 61) (M' := m_X11_put) (As := [.ref x105, .int (iI (c * 12)), .int (iI 0)]) (rest := []) dX7_openCall_60 ok_X11_put stt_X11_put nl7_61 np_X11_put rfl (Nat.le_of_ble_eq_true rfl) (Nat.le_of_ble_eq_true rfl) rfl (k_X11_put (d + 1) (T := T) (σ := σ99) (x := x105) (i := c * 12) (y := 0) hk107i (by omega) (by omega) (by decide) w103 ((by have q9 := hk107; omega)) vok_0) (fun r109 T111 σ110 gt112 hp => ?_)
    obtain ⟨rfl, rfl, w114, F115⟩ := hp
    clear gt112
    show Tn _ _ 63 T σ110 [(0, .ref a), (1, .int (iI c)), (2, .int (iI r))] [] _
    refine tn_iload_n dX7_openCall_63 rfl 1 rfl ?_
    refine tn_sipush dX7_openCall_64 (by decide) ?_
    refine tn_imul dX7_openCall_67 ?_
    refine tn_istore_n (L' := [(3, .int (iI (c * 192))), (0, .ref a), (1, .int (iI c)), (2, .int (iI r))]) dX7_openCall_68 rfl (by decide) rfl ?_
    refine tn_iload_n dX7_openCall_69 rfl 0 rfl ?_
    refine tn_if_lt (tgt := 100) dX7_openCall_70 (by decide) ⟨by omega, by omega⟩ (fun h116 => absurd h116 (by omega)) (fun h116 => ?_)
    refine tn_iload_n dX7_openCall_73 rfl 0 rfl ?_
    refine tn_sipush dX7_openCall_74 (by decide) ?_
    refine tn_iadd dX7_openCall_77 ?_
    refine tn_aload_n dX7_openCall_78 rfl 1 rfl ?_
    obtain ⟨x117, hx118, hk119, hl120⟩ : ∃ x : Nat, σ.2.1 63 a = (x : Int) ∧ AR T x 1 1728 1728 := wf_63 hw ha
    have hk119i : IA T x117 := by unfold IA; omega
    refine tn_getR (ci := 7) (i := 8) (n := 63) (x := x117) dX7_openCall_79 rfl lay_7 (by decide) fl7_24 ha rfl rfl (rc_F F115 (Or.inl (by decide)) (by decide) (rc_F F104 (Or.inl (by decide)) (by decide) (rc_F F93 (Or.inl (by decide)) (by decide) (rc_F F82 (Or.inl (by decide)) (by decide) (rc_o (by decide) (rc_o (by decide) (rc_o (by decide) (hx118)))))))) ?_
    refine tn_alenX dX7_openCall_82 (Or.inl hk119i) ?_
    refine tn_icmp_gt (tgt := 100) dX7_openCall_83 (by decide) ⟨by omega, by omega⟩ ⟨by omega, by omega⟩ (fun h121 => ?_) (fun h121 => ?_)
    · have q122 : σ110.2.1 57 a = c := rc_F F115 (Or.inl (by decide)) (by decide) (rc_F F104 (Or.inl (by decide)) (by decide) (rc_F F93 (Or.inl (by decide)) (by decide) (rc_F F82 (Or.inl (by decide)) (by decide) (rc_o (by decide) (rc_o (by decide) (ra_eq))))))
      exact tn_vret rfl dX7_openCall_100 ⟨rfl, rfl, w114, (((((((FrC.rfl.put (by decide) (by decide)).put (by decide) (by decide)).put (by decide) (by decide)).trans (FrC.sub F82 (by decide))).trans (FrC.sub F93 (by decide))).trans (FrC.sub F104 (by decide))).trans (FrC.sub F115 (by decide))), by omega, (((((((FA.rfl.put).put).put).trans (FA.of F82 (by decide))).trans (FA.of F93 (by decide))).trans (FA.of F104 (by decide))).trans (FA.of F115 (by decide)))⟩
    · refine tn_aload_n dX7_openCall_86 rfl 1 rfl ?_
      refine tn_getR (ci := 7) (i := 8) (n := 63) (x := x117) dX7_openCall_87 rfl lay_7 (by decide) fl7_24 ha rfl rfl (rc_F F115 (Or.inl (by decide)) (by decide) (rc_F F104 (Or.inl (by decide)) (by decide) (rc_F F93 (Or.inl (by decide)) (by decide) (rc_F F82 (Or.inl (by decide)) (by decide) (rc_o (by decide) (rc_o (by decide) (rc_o (by decide) (hx118)))))))) ?_
      refine tn_iload_n dX7_openCall_90 rfl 0 rfl ?_
      refine tn_iload_n dX7_openCall_91 rfl 0 rfl ?_
      refine tn_sipush dX7_openCall_92 (by decide) ?_
      refine tn_iadd dX7_openCall_95 ?_
      refine tn_iconst dX7_openCall_96 ?_
      refine tn_callS (M := m_X7_openCall) (pc := 97) (ix := 76) (M' := m_J7_fill_fda19) (As := [.ref x117, .int (iI (c * 192)), .int (iI ((c * 192) + 192)), .int (iI 0)]) (rest := []) dX7_openCall_97 ok_J7_fill_fda19 stt_J7_fill_fda19 ml7_76 np_J7_fill_fda19 rfl (Nat.le_of_ble_eq_true rfl) (Nat.le_of_ble_eq_true rfl) rfl (k_J7_fill_fda19 (d) (T := T) (σ := σ110) (x := x117) (f := c * 192) (t := (c * 192) + 192) (y := 0) hk119i (by omega) (by omega) (by omega) (by decide) w114 ((by have q9 := hk119; omega)) (by omega) (by omega)) (fun r123 T125 σ124 gt126 hp => ?_)
      obtain ⟨rfl, rfl, w128, F129⟩ := hp
      clear gt126
      show Tn _ _ 100 T σ124 [(3, .int (iI (c * 192))), (0, .ref a), (1, .int (iI c)), (2, .int (iI r))] [] _
      have q130 : σ124.2.1 57 a = c := rc_F F129 (Or.inl (by decide)) (by decide) (rc_F F115 (Or.inl (by decide)) (by decide) (rc_F F104 (Or.inl (by decide)) (by decide) (rc_F F93 (Or.inl (by decide)) (by decide) (rc_F F82 (Or.inl (by decide)) (by decide) (rc_o (by decide) (rc_o (by decide) (ra_eq)))))))
      exact tn_vret rfl dX7_openCall_100 ⟨rfl, rfl, w128, ((((((((FrC.rfl.put (by decide) (by decide)).put (by decide) (by decide)).put (by decide) (by decide)).trans (FrC.sub F82 (by decide))).trans (FrC.sub F93 (by decide))).trans (FrC.sub F104 (by decide))).trans (FrC.sub F115 (by decide))).trans (FrC.sub F129 (by decide))), by omega, ((((((((FA.rfl.put).put).put).trans (FA.of F82 (by decide))).trans (FA.of F93 (by decide))).trans (FA.of F104 (by decide))).trans (FA.of F115 (by decide))).trans (FA.of F129 (by decide)))⟩
