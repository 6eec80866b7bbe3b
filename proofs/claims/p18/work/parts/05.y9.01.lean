section
theorem cd_X7_openCall : Cond.code yX7_openCall cX7_openCall 4 none ∈ pWW := pw6 (List.mem_of_getElem? (i := 36) rfl) rfl
abbrev m_X7_openCall : MT := (yX7_openCall, cX7_openCall, 4, none)
theorem ok_X7_openCall : pOk m_X7_openCall := ⟨⟨cd_X7_openCall, ini_7⟩, by decide +kernel, ⟨by decide +kernel, by decide +kernel⟩, Nat.le_of_ble_eq_true rfl⟩
theorem np_X7_openCall : (parseMethodDescriptor yX7_openCall.desc).map (fun d => d.parameters.length) = some 2 := by decide +kernel
theorem im_X7_openCall : Cond.instanceMethod yX7_openCall ∈ pWW := pw6 (List.mem_of_getElem? (i := 35) rfl) rfl
theorem se_X7_openCall : Cond.selects RX7 yX7_openCall yX7_openCall ∈ pWW := pws (List.mem_map.mpr ⟨_, lw_pin 85 rfl, rfl⟩) rfl
theorem fl7_21 : Cond.fieldLink RX7 21 (TX7 7).1 (TX7 7).2.1 (TX7 7).2.2.1 ∈ pWW := pw2 (List.mem_of_getElem? (i := 144) rfl) rfl
theorem ml7_76 : Cond.methodLink RX7 76 yJ7_fill_fda19 ∈ pWW := pw6 (List.mem_of_getElem? (i := 42) rfl) rfl
theorem dX7_openCall_0 : decode cX7_openCall 0 = .ok (.aload_n 0, 1) := by decide +kernel
theorem dX7_openCall_1 : decode cX7_openCall 1 = .ok (.iload_n 1, 1) := by decide +kernel
theorem dX7_openCall_2 : decode cX7_openCall 2 = .ok (.putfield 65, 3) := by decide +kernel
theorem dX7_openCall_5 : decode cX7_openCall 5 = .ok (.aload_n 0, 1) := by decide +kernel
theorem dX7_openCall_6 : decode cX7_openCall 6 = .ok (.dup, 1) := by decide +kernel
theorem dX7_openCall_7 : decode cX7_openCall 7 = .ok (.getfield 38, 3) := by decide +kernel
theorem dX7_openCall_10 : decode cX7_openCall 10 = .ok (.iconst 1, 1) := by decide +kernel
theorem dX7_openCall_11 : decode cX7_openCall 11 = .ok (.iadd, 1) := by decide +kernel
theorem dX7_openCall_12 : decode cX7_openCall 12 = .ok (.putfield 38, 3) := by decide +kernel
theorem dX7_openCall_15 : decode cX7_openCall 15 = .ok (.aload_n 0, 1) := by decide +kernel
theorem dX7_openCall_16 : decode cX7_openCall 16 = .ok (.aload_n 0, 1) := by decide +kernel
theorem dX7_openCall_17 : decode cX7_openCall 17 = .ok (.iload_n 2, 1) := by decide +kernel
theorem dX7_openCall_18 : decode cX7_openCall 18 = .ok (.invokevirtual 68, 3) := by decide +kernel
theorem dX7_openCall_21 : decode cX7_openCall 21 = .ok (.putfield 72, 3) := by decide +kernel
theorem dX7_openCall_24 : decode cX7_openCall 24 = .ok (.aload_n 0, 1) := by decide +kernel
theorem dX7_openCall_25 : decode cX7_openCall 25 = .ok (.getfield 9, 3) := by decide +kernel
theorem dX7_openCall_28 : decode cX7_openCall 28 = .ok (.iload_n 1, 1) := by decide +kernel
theorem dX7_openCall_29 : decode cX7_openCall 29 = .ok (.iload_n 2, 1) := by decide +kernel
theorem dX7_openCall_30 : decode cX7_openCall 30 = .ok (.invokestatic 61, 3) := by decide +kernel
theorem dX7_openCall_33 : decode cX7_openCall 33 = .ok (.aload_n 0, 1) := by decide +kernel
theorem dX7_openCall_34 : decode cX7_openCall 34 = .ok (.getfield 15, 3) := by decide +kernel
theorem dX7_openCall_37 : decode cX7_openCall 37 = .ok (.iload_n 1, 1) := by decide +kernel
theorem dX7_openCall_38 : decode cX7_openCall 38 = .ok (.iconst 0, 1) := by decide +kernel
theorem dX7_openCall_39 : decode cX7_openCall 39 = .ok (.invokestatic 61, 3) := by decide +kernel
theorem dX7_openCall_42 : decode cX7_openCall 42 = .ok (.aload_n 0, 1) := by decide +kernel
theorem dX7_openCall_43 : decode cX7_openCall 43 = .ok (.getfield 18, 3) := by decide +kernel
theorem dX7_openCall_46 : decode cX7_openCall 46 = .ok (.iload_n 1, 1) := by decide +kernel
theorem dX7_openCall_47 : decode cX7_openCall 47 = .ok (.iconst 0, 1) := by decide +kernel
theorem dX7_openCall_48 : decode cX7_openCall 48 = .ok (.invokestatic 61, 3) := by decide +kernel
theorem dX7_openCall_51 : decode cX7_openCall 51 = .ok (.aload_n 0, 1) := by decide +kernel
theorem dX7_openCall_52 : decode cX7_openCall 52 = .ok (.getfield 21, 3) := by decide +kernel
theorem dX7_openCall_55 : decode cX7_openCall 55 = .ok (.iload_n 1, 1) := by decide +kernel
theorem dX7_openCall_56 : decode cX7_openCall 56 = .ok (.bipush 12, 2) := by decide +kernel
theorem dX7_openCall_58 : decode cX7_openCall 58 = .ok (.imul, 1) := by decide +kernel
theorem dX7_openCall_59 : decode cX7_openCall 59 = .ok (.iconst 0, 1) := by decide +kernel
theorem dX7_openCall_60 : decode cX7_openCall 60 = .ok (.invokestatic 61, 3) := by decide +kernel
theorem dX7_openCall_63 : decode cX7_openCall 63 = .ok (.iload_n 1, 1) := by decide +kernel
theorem dX7_openCall_64 : decode cX7_openCall 64 = .ok (.sipush 192, 3) := by decide +kernel
theorem dX7_openCall_67 : decode cX7_openCall 67 = .ok (.imul, 1) := by decide +kernel
theorem dX7_openCall_68 : decode cX7_openCall 68 = .ok (.istore_n 3, 1) := by decide +kernel
theorem dX7_openCall_69 : decode cX7_openCall 69 = .ok (.iload_n 3, 1) := by decide +kernel
theorem dX7_openCall_70 : decode cX7_openCall 70 = .ok (.ifCond .lt 30, 3) := by decide +kernel
theorem dX7_openCall_73 : decode cX7_openCall 73 = .ok (.iload_n 3, 1) := by decide +kernel
theorem dX7_openCall_74 : decode cX7_openCall 74 = .ok (.sipush 192, 3) := by decide +kernel
theorem dX7_openCall_77 : decode cX7_openCall 77 = .ok (.iadd, 1) := by decide +kernel
theorem dX7_openCall_78 : decode cX7_openCall 78 = .ok (.aload_n 0, 1) := by decide +kernel
theorem dX7_openCall_79 : decode cX7_openCall 79 = .ok (.getfield 24, 3) := by decide +kernel
theorem dX7_openCall_82 : decode cX7_openCall 82 = .ok (.arraylength, 1) := by decide +kernel
theorem dX7_openCall_83 : decode cX7_openCall 83 = .ok (.if_icmp .gt 17, 3) := by decide +kernel
theorem dX7_openCall_100 : decode cX7_openCall 100 = .ok (.return_, 1) := by decide +kernel
theorem dX7_openCall_86 : decode cX7_openCall 86 = .ok (.aload_n 0, 1) := by decide +kernel
theorem dX7_openCall_87 : decode cX7_openCall 87 = .ok (.getfield 24, 3) := by decide +kernel
theorem dX7_openCall_90 : decode cX7_openCall 90 = .ok (.iload_n 3, 1) := by decide +kernel
theorem dX7_openCall_91 : decode cX7_openCall 91 = .ok (.iload_n 3, 1) := by decide +kernel
theorem dX7_openCall_92 : decode cX7_openCall 92 = .ok (.sipush 192, 3) := by decide +kernel
theorem dX7_openCall_95 : decode cX7_openCall 95 = .ok (.iadd, 1) := by decide +kernel
theorem dX7_openCall_96 : decode cX7_openCall 96 = .ok (.iconst 0, 1) := by decide +kernel
theorem dX7_openCall_97 : decode cX7_openCall 97 = .ok (.invokestatic 76, 3) := by decide +kernel
set_option maxRecDepth 20000 in
theorem k_X7_openCall (d : Nat) {T : CT} {σ : MS} {a : Nat} {c : Int} {r : Int} (ha : OB T a 7) (hta : (T a).1 = 37) (h_c : -2147483648 ≤ c ∧ c ≤ 2147483647) (h_r : -2147483648 ≤ r ∧ r ≤ 2147483647) (hw : WT T σ) (h8 : 0 ≤ c ∧ c ≤ 11184800) : Tn (d + 3) m_X7_openCall 0 T σ [(0, .ref a), (1, .int (iI c)), (2, .int (iI r))] [] (fun ro T2 σ2 => ro = none ∧ T = T2 ∧ WT T2 σ2 ∧ FrC T [57, 58, 69, 515] σ σ2 ∧ (σ2.2.1 57 a = c) ∧ (FA a σ σ2)) := by
  refine tn_aload_n dX7_openCall_0 rfl 0 rfl ?_
  refine tn_iload_n dX7_openCall_1 rfl 1 rfl ?_
  refine tn_putV (ci := 7) (i := 2) (n := 57) (r := false) (v := c) tyX7 tyX7_ok nmX7 dX7_openCall_2 rfl lay_7 (by decide) fl7_65 rfl (tyX7_ok 2 (by decide)) rfl rfl rfl ha rfl rfl ?_
  refine tn_aload_n dX7_openCall_5 rfl 0 rfl ?_
  refine tn_dup dX7_openCall_6 rfl ?_
  refine tn_getI (ci := 7) (i := 3) (n := 58) (t := σ.2.1 58 a) dX7_openCall_7 rfl lay_7 (by decide) fl7_38 ha rfl rfl (rc_o (by decide) (rfl)) ?_
  have g1 : ((-2147483648 : Int) ≤ σ.2.1 58 a ∧ σ.2.1 58 a ≤ 2147483647) := wf_58 hw ha
  refine tn_iconst dX7_openCall_10 ?_
  refine tn_iadd dX7_openCall_11 ?_
  refine tn_any (fun z2 g3 => ?_)
  have g3r : -2147483648 ≤ z2 ∧ z2 ≤ 2147483647 := g3
  refine tn_putV (ci := 7) (i := 3) (n := 58) (r := false) (v := z2) tyX7 tyX7_ok nmX7 dX7_openCall_12 rfl lay_7 (by decide) fl7_38 rfl (tyX7_ok 3 (by decide)) rfl rfl rfl ha rfl rfl ?_
  refine tn_aload_n dX7_openCall_15 rfl 0 rfl ?_
  refine tn_aload_n dX7_openCall_16 rfl 0 rfl ?_
  refine tn_iload_n dX7_openCall_17 rfl 2 rfl ?_
  refine tn_callV (M := m_X7_openCall) (pc := 18) (ix := 68) (ci := 7) (M' := m_X7_codeAt) (As := [.int (iI r)]) (rest := [.ref a]) dX7_openCall_18 ok_X7_codeAt im_X7_codeAt se_X7_codeAt ml7_68 np_X7_codeAt rfl rfl ha rfl (Nat.le_of_ble_eq_true rfl) (Nat.le_of_ble_eq_true rfl) rfl (k_X7_codeAt (d + 1) (T := T) (σ := (sA 58 a (z2) (sA 57 a (c) σ))) (a := a) (r := r) ha (by omega) ((hw.put (by decide) (by decide) (fo_57 ⟨by omega, by omega⟩)).put (by decide) (by decide) (fo_58 (by omega))) ) (fun r4 T6 σ5 gt7 hp => ?_)
  obtain ⟨v9, rfl, rfl, rfl, rv10, f8⟩ := hp
  clear gt7
  clear f8
  rcases rv10 with rv10 | ⟨x11, rfl, hk12⟩
  · show Tn _ _ 21 T (sA 58 a (z2) (sA 57 a (c) σ)) [(0, .ref a), (1, .int (iI c)), (2, .int (iI r))] (vl true v9 :: [.ref a]) _
    rw [vl_null rv10]
    refine tn_putV (ci := 7) (i := 14) (n := 69) (r := true) (v := -1) tyX7 tyX7_ok nmX7 dX7_openCall_21 rfl lay_7 (by decide) fl7_72 rfl (tyX7_ok 14 (by decide)) (vl_null (by decide)).symm rfl rfl ha rfl rfl ?_
    refine tn_aload_n dX7_openCall_24 rfl 0 rfl ?_
    obtain ⟨x13, hx14, hk15, hl16⟩ : ∃ x : Nat, σ.2.1 59 a = (x : Int) ∧ AR T x 15 9 9 := wf_59 hw ha
    have hk15i : IA T x13 := by unfold IA; omega
    refine tn_getR (ci := 7) (i := 4) (n := 59) (x := x13) dX7_openCall_25 rfl lay_7 (by decide) fl7_9 ha rfl rfl (rc_o (by decide) (rc_o (by decide) (rc_o (by decide) (hx14)))) ?_
    refine tn_iload_n dX7_openCall_28 rfl 1 rfl ?_
    refine tn_iload_n dX7_openCall_29 rfl 2 rfl ?_
    refine tn_callSN (M := m_X7_openCall) (pc := 30) (ix := 61) (M' := m_X11_put) (As := [.ref x13, .int (iI c), .int (iI r)]) (rest := []) dX7_openCall_30 ok_X11_put stt_X11_put nl7_61 np_X11_put rfl (Nat.le_of_ble_eq_true rfl) (Nat.le_of_ble_eq_true rfl) rfl (k_X11_put_15 (d + 1) (T := T) (σ := (sA 69 a (-1) (sA 58 a (z2) (sA 57 a (c) σ)))) (x := x13) (i := c) (y := r) hk15i (by omega) hk15 (by omega) (by omega) (((hw.put (by decide) (by decide) (fo_57 ⟨by omega, by omega⟩)).put (by decide) (by decide) (fo_58 (by omega))).put (by decide) (by decide) (fo_69 (Or.inl (by decide)))) ) (fun r17 T19 σ18 gt20 hp => ?_)
    obtain ⟨rfl, rfl, w23, F24, f21⟩ := hp
    clear gt20
    show Tn _ _ 33 T σ18 [(0, .ref a), (1, .int (iI c)), (2, .int (iI r))] [] _
    refine tn_aload_n dX7_openCall_33 rfl 0 rfl ?_
    obtain ⟨x25, hx26, hk27, hl28⟩ : ∃ x : Nat, σ.2.1 60 a = (x : Int) ∧ AR T x 1 9 9 := wf_60 hw ha
    have hk27i : IA T x25 := by unfold IA; omega
    refine tn_getR (ci := 7) (i := 5) (n := 60) (x := x25) dX7_openCall_34 rfl lay_7 (by decide) fl7_15 ha rfl rfl (rc_F F24 (Or.inl (by decide)) (by decide) (rc_o (by decide) (rc_o (by decide) (rc_o (by decide) (hx26))))) ?_
    refine tn_iload_n dX7_openCall_37 rfl 1 rfl ?_
    refine tn_iconst dX7_openCall_38 ?_
    refine tn_callSN (M := m_X7_openCall) (pc := 39) (ix := 61) (M' := m_X11_put) (As := [.ref x25, .int (iI c), .int (iI 0)]) (rest := []) dX7_openCall_39 ok_X11_put stt_X11_put nl7_61 np_X11_put rfl (Nat.le_of_ble_eq_true rfl) (Nat.le_of_ble_eq_true rfl) rfl (k_X11_put (d + 1) (T := T) (σ := σ18) (x := x25) (i := c) (y := 0) hk27i (by omega) (by omega) (by decide) w23 (nh_k hk27 (by unfold HT; omega)) vok_0) (fun r29 T31 σ30 gt32 hp => ?_)
    obtain ⟨rfl, rfl, w34, F35⟩ := hp
    clear gt32
    show Tn _ _ 42 T σ30 [(0, .ref a), (1, .int (iI c)), (2, .int (iI r))] [] _
    refine tn_aload_n dX7_openCall_42 rfl 0 rfl ?_
    obtain ⟨x36, hx37, hl39, hk38a, hk38b⟩ := wf_61 hw ha
    have hk38 : (T x36).1 = 1 := hk38b (by omega)
    clear hk38a hk38b
    have hk38i : IA T x36 := by unfold IA; omega
    refine tn_getR (ci := 7) (i := 6) (n := 61) (x := x36) dX7_openCall_43 rfl lay_7 (by decide) fl7_18 ha rfl rfl (rc_F F35 (Or.inl (by decide)) (by decide) (rc_F F24 (Or.inl (by decide)) (by decide) (rc_o (by decide) (rc_o (by decide) (rc_o (by decide) (hx37)))))) ?_
    refine tn_iload_n dX7_openCall_46 rfl 1 rfl ?_
    refine tn_iconst dX7_openCall_47 ?_
    refine tn_callSN (M := m_X7_openCall) (pc := 48) (ix := 61) (M' := m_X11_put) (As := [.ref x36, .int (iI c), .int (iI 0)]) (rest := []) dX7_openCall_48 ok_X11_put stt_X11_put nl7_61 np_X11_put rfl (Nat.le_of_ble_eq_true rfl) (Nat.le_of_ble_eq_true rfl) rfl (k_X11_put (d + 1) (T := T) (σ := σ30) (x := x36) (i := c) (y := 0) hk38i (by omega) (by omega) (by decide) w34 (nh_k hk38 (by unfold HT; omega)) vok_0) (fun r40 T42 σ41 gt43 hp => ?_)
    obtain ⟨rfl, rfl, w45, F46⟩ := hp
    clear gt43
    show Tn _ _ 51 T σ41 [(0, .ref a), (1, .int (iI c)), (2, .int (iI r))] [] _
    refine tn_aload_n dX7_openCall_51 rfl 0 rfl ?_
    obtain ⟨x47, hx48, hk49, hl50⟩ : ∃ x : Nat, σ.2.1 62 a = (x : Int) ∧ AR T x 1 108 108 := wf_62 hw ha
    have hk49i : IA T x47 := by unfold IA; omega
    refine tn_getR (ci := 7) (i := 7) (n := 62) (x := x47) dX7_openCall_52 rfl lay_7 (by decide) fl7_21 ha rfl rfl (rc_F F46 (Or.inl (by decide)) (by decide) (rc_F F35 (Or.inl (by decide)) (by decide) (rc_F F24 (Or.inl (by decide)) (by decide) (rc_o (by decide) (rc_o (by decide) (rc_o (by decide) (hx48))))))) ?_
    refine tn_iload_n dX7_openCall_55 rfl 1 rfl ?_
    refine tn_bipush dX7_openCall_56 (by decide) ?_
    refine tn_imul dX7_openCall_58 ?_
    refine tn_iconst dX7_openCall_59 ?_
    refine tn_callSN (M := m_X7_openCall) (pc := 60) (ix := 61) (M' := m_X11_put) (As := [.ref x47, .int (iI (c * 12)), .int (iI 0)]) (rest := []) dX7_openCall_60 ok_X11_put stt_X11_put nl7_61 np_X11_put rfl (Nat.le_of_ble_eq_true rfl) (Nat.le_of_ble_eq_true rfl) rfl (k_X11_put (d + 1) (T := T) (σ := σ41) (x := x47) (i := c * 12) (y := 0) hk49i (by omega) (by omega) (by decide) w45 (nh_k hk49 (by unfold HT; omega)) vok_0) (fun r51 T53 σ52 gt54 hp => ?_)
    obtain ⟨rfl, rfl, w56, F57⟩ := hp
    clear gt54
    show Tn _ _ 63 T σ52 [(0, .ref a), (1, .int (iI c)), (2, .int (iI r))] [] _
    refine tn_iload_n dX7_openCall_63 rfl 1 rfl ?_
    refine tn_sipush dX7_openCall_64 (by decide) ?_
    refine tn_imul dX7_openCall_67 ?_
    refine tn_istore_n (L' := [(3, .int (iI (c * 192))), (0, .ref a), (1, .int (iI c)), (2, .int (iI r))]) dX7_openCall_68 rfl (by decide) rfl ?_
    refine tn_iload_n dX7_openCall_69 rfl 0 rfl ?_
    refine tn_if_lt (tgt := 100) dX7_openCall_70 (by decide) ⟨by omega, by omega⟩ (fun h58 => absurd h58 (by omega)) (fun h58 => ?_)
    refine tn_iload_n dX7_openCall_73 rfl 0 rfl ?_
    refine tn_sipush dX7_openCall_74 (by decide) ?_
    refine tn_iadd dX7_openCall_77 ?_
    refine tn_aload_n dX7_openCall_78 rfl 1 rfl ?_
    obtain ⟨x59, hx60, hk61, hl62⟩ : ∃ x : Nat, σ.2.1 63 a = (x : Int) ∧ AR T x 1 1728 1728 := wf_63 hw ha
    have hk61i : IA T x59 := by unfold IA; omega
    refine tn_getR (ci := 7) (i := 8) (n := 63) (x := x59) dX7_openCall_79 rfl lay_7 (by decide) fl7_24 ha rfl rfl (rc_F F57 (Or.inl (by decide)) (by decide) (rc_F F46 (Or.inl (by decide)) (by decide) (rc_F F35 (Or.inl (by decide)) (by decide) (rc_F F24 (Or.inl (by decide)) (by decide) (rc_o (by decide) (rc_o (by decide) (rc_o (by decide) (hx60)))))))) ?_
    refine tn_alenX dX7_openCall_82 (Or.inl hk61i) ?_
    refine tn_icmp_gt (tgt := 100) dX7_openCall_83 (by decide) ⟨by omega, by omega⟩ ⟨by omega, by omega⟩ (fun h63 => ?_) (fun h63 => ?_)
    · have q64 : σ52.2.1 57 a = c := rc_F F57 (Or.inl (by decide)) (by decide) (rc_F F46 (Or.inl (by decide)) (by decide) (rc_F F35 (Or.inl (by decide)) (by decide) (rc_F F24 (Or.inl (by decide)) (by decide) (rc_o (by decide) (rc_o (by decide) (ra_eq))))))
      exact tn_vret rfl dX7_openCall_100 ⟨rfl, rfl, w56, (((((((FrC.rfl.put (by decide) (by decide)).put (by decide) (by decide)).put (by decide) (by decide)).trans (FrC.sub F24 (by decide))).trans (FrC.sub F35 (by decide))).trans (FrC.sub F46 (by decide))).trans (FrC.sub F57 (by decide))), by omega, (((((((FA.rfl.put).put).put).trans (FA.of F24 (by decide))).trans (FA.of F35 (by decide))).trans (FA.of F46 (by decide))).trans (FA.of F57 (by decide)))⟩
    · refine tn_aload_n dX7_openCall_86 rfl 1 rfl ?_
      refine tn_getR (ci := 7) (i := 8) (n := 63) (x := x59) dX7_openCall_87 rfl lay_7 (by decide) fl7_24 ha rfl rfl (rc_F F57 (Or.inl (by decide)) (by decide) (rc_F F46 (Or.inl (by decide)) (by decide) (rc_F F35 (Or.inl (by decide)) (by decide) (rc_F F24 (Or.inl (by decide)) (by decide) (rc_o (by decide) (rc_o (by decide) (rc_o (by decide) (hx60)))))))) ?_
      refine tn_iload_n dX7_openCall_90 rfl 0 rfl ?_
      refine tn_iload_n dX7_openCall_91 rfl 0 rfl ?_
      refine tn_sipush dX7_openCall_92 (by decide) ?_
      refine tn_iadd dX7_openCall_95 ?_
      refine tn_iconst dX7_openCall_96 ?_
      refine tn_callS (M := m_X7_openCall) (pc := 97) (ix := 76) (M' := m_J7_fill_fda19) (As := [.ref x59, .int (iI (c * 192)), .int (iI ((c * 192) + 192)), .int (iI 0)]) (rest := []) dX7_openCall_97 ok_J7_fill_fda19 stt_J7_fill_fda19 ml7_76 np_J7_fill_fda19 rfl (Nat.le_of_ble_eq_true rfl) (Nat.le_of_ble_eq_true rfl) rfl (k_J7_fill_fda19 (d) (T := T) (σ := σ52) (x := x59) (f := c * 192) (t := (c * 192) + 192) (y := 0) hk61i (by omega) (by omega) (by omega) (by decide) w56 (nh_k hk61 (by unfold HT; omega)) (by omega) (by omega)) (fun r65 T67 σ66 gt68 hp => ?_)
      obtain ⟨rfl, rfl, w70, F71⟩ := hp
      clear gt68
      show Tn _ _ 100 T σ66 [(3, .int (iI (c * 192))), (0, .ref a), (1, .int (iI c)), (2, .int (iI r))] [] _
      have q72 : σ66.2.1 57 a = c := rc_F F71 (Or.inl (by decide)) (by decide) (rc_F F57 (Or.inl (by decide)) (by decide) (rc_F F46 (Or.inl (by decide)) (by decide) (rc_F F35 (Or.inl (by decide)) (by decide) (rc_F F24 (Or.inl (by decide)) (by decide) (rc_o (by decide) (rc_o (by decide) (ra_eq)))))))
      exact tn_vret rfl dX7_openCall_100 ⟨rfl, rfl, w70, ((((((((FrC.rfl.put (by decide) (by decide)).put (by decide) (by decide)).put (by decide) (by decide)).trans (FrC.sub F24 (by decide))).trans (FrC.sub F35 (by decide))).trans (FrC.sub F46 (by decide))).trans (FrC.sub F57 (by decide))).trans (FrC.sub F71 (by decide))), by omega, ((((((((FA.rfl.put).put).put).trans (FA.of F24 (by decide))).trans (FA.of F35 (by decide))).trans (FA.of F46 (by decide))).trans (FA.of F57 (by decide))).trans (FA.of F71 (by decide)))⟩
  · show Tn _ _ 21 T (sA 58 a (z2) (sA 57 a (c) σ)) [(0, .ref a), (1, .int (iI c)), (2, .int (iI r))] (vl true (x11 : Int) :: [.ref a]) _
    rw [vl_ref rfl]
    have hk12o : OB T x11 1 := hk12.1
    refine tn_putV (ci := 7) (i := 14) (n := 69) (r := true) (v := (x11 : Int)) tyX7 tyX7_ok nmX7 dX7_openCall_21 rfl lay_7 (by decide) fl7_72 rfl (tyX7_ok 14 (by decide)) (vl_ref rfl).symm rfl rfl ha rfl rfl ?_
    refine tn_aload_n dX7_openCall_24 rfl 0 rfl ?_
    obtain ⟨x73, hx74, hk75, hl76⟩ : ∃ x : Nat, σ.2.1 59 a = (x : Int) ∧ AR T x 15 9 9 := wf_59 hw ha
    have hk75i : IA T x73 := by unfold IA; omega
    refine tn_getR (ci := 7) (i := 4) (n := 59) (x := x73) dX7_openCall_25 rfl lay_7 (by decide) fl7_9 ha rfl rfl (rc_o (by decide) (rc_o (by decide) (rc_o (by decide) (hx74)))) ?_
    refine tn_iload_n dX7_openCall_28 rfl 1 rfl ?_
    refine tn_iload_n dX7_openCall_29 rfl 2 rfl ?_
    refine tn_callSN (M := m_X7_openCall) (pc := 30) (ix := 61) (M' := m_X11_put) (As := [.ref x73, .int (iI c), .int (iI r)]) (rest := []) dX7_openCall_30 ok_X11_put stt_X11_put nl7_61 np_X11_put rfl (Nat.le_of_ble_eq_true rfl) (Nat.le_of_ble_eq_true rfl) rfl (k_X11_put_15 (d + 1) (T := T) (σ := (sA 69 a ((x11 : Int)) (sA 58 a (z2) (sA 57 a (c) σ)))) (x := x73) (i := c) (y := r) hk75i (by omega) hk75 (by omega) (by omega) (((hw.put (by decide) (by decide) (fo_57 ⟨by omega, by omega⟩)).put (by decide) (by decide) (fo_58 (by omega))).put (by decide) (by decide) (fo_69 (Or.inr ⟨_, rfl, hk12.2.1, hk12.2.2⟩))) ) (fun r77 T79 σ78 gt80 hp => ?_)
    obtain ⟨rfl, rfl, w83, F84, f81⟩ := hp
    clear gt80
    show Tn _ _ 33 T σ78 [(0, .ref a), (1, .int (iI c)), (2, .int (iI r))] [] _
    refine tn_aload_n dX7_openCall_33 rfl 0 rfl ?_
    obtain ⟨x85, hx86, hk87, hl88⟩ : ∃ x : Nat, σ.2.1 60 a = (x : Int) ∧ AR T x 1 9 9 := wf_60 hw ha
    have hk87i : IA T x85 := by unfold IA; omega
    refine tn_getR (ci := 7) (i := 5) (n := 60) (x := x85) dX7_openCall_34 rfl lay_7 (by decide) fl7_15 ha rfl rfl (rc_F F84 (Or.inl (by decide)) (by decide) (rc_o (by decide) (rc_o (by decide) (rc_o (by decide) (hx86))))) ?_
    refine tn_iload_n dX7_openCall_37 rfl 1 rfl ?_
    refine tn_iconst dX7_openCall_38 ?_
    refine tn_callSN (M := m_X7_openCall) (pc := 39) (ix := 61) (M' := m_X11_put) (As := [.ref x85, .int (iI c), .int (iI 0)]) (rest := []) dX7_openCall_39 ok_X11_put stt_X11_put nl7_61 np_X11_put rfl (Nat.le_of_ble_eq_true rfl) (Nat.le_of_ble_eq_true rfl) rfl (k_X11_put (d + 1) (T := T) (σ := σ78) (x := x85) (i := c) (y := 0) hk87i (by omega) (by omega) (by decide) w83 (nh_k hk87 (by unfold HT; omega)) vok_0) (fun r89 T91 σ90 gt92 hp => ?_)
    obtain ⟨rfl, rfl, w94, F95⟩ := hp
    clear gt92
    show Tn _ _ 42 T σ90 [(0, .ref a), (1, .int (iI c)), (2, .int (iI r))] [] _
    refine tn_aload_n dX7_openCall_42 rfl 0 rfl ?_
    obtain ⟨x96, hx97, hl99, hk98a, hk98b⟩ := wf_61 hw ha
    have hk98 : (T x96).1 = 1 := hk98b (by omega)
    clear hk98a hk98b
    have hk98i : IA T x96 := by unfold IA; omega
    refine tn_getR (ci := 7) (i := 6) (n := 61) (x := x96) dX7_openCall_43 rfl lay_7 (by decide) fl7_18 ha rfl rfl (rc_F F95 (Or.inl (by decide)) (by decide) (rc_F F84 (Or.inl (by decide)) (by decide) (rc_o (by decide) (rc_o (by decide) (rc_o (by decide) (hx97)))))) ?_
    refine tn_iload_n dX7_openCall_46 rfl 1 rfl ?_
    refine tn_iconst dX7_openCall_47 ?_
    refine tn_callSN (M := m_X7_openCall) (pc := 48) (ix := 61) (M' := m_X11_put) (As := [.ref x96, .int (iI c), .int (iI 0)]) (rest := []) dX7_openCall_48 ok_X11_put stt_X11_put nl7_61 np_X11_put rfl (Nat.le_of_ble_eq_true rfl) (Nat.le_of_ble_eq_true rfl) rfl (k_X11_put (d + 1) (T := T) (σ := σ90) (x := x96) (i := c) (y := 0) hk98i (by omega) (by omega) (by decide) w94 (nh_k hk98 (by unfold HT; omega)) vok_0) (fun r100 T102 σ101 gt103 hp => ?_)
    obtain ⟨rfl, rfl, w105, F106⟩ := hp
    clear gt103
    show Tn _ _ 51 T σ101 [(0, .ref a), (1, .int (iI c)), (2, .int (iI r))] [] _
    refine tn_aload_n dX7_openCall_51 rfl 0 rfl ?_
    obtain ⟨x107, hx108, hk109, hl110⟩ : ∃ x : Nat, σ.2.1 62 a = (x : Int) ∧ AR T x 1 108 108 := wf_62 hw ha
    have hk109i : IA T x107 := by unfold IA; omega
    refine tn_getR (ci := 7) (i := 7) (n := 62) (x := x107) dX7_openCall_52 rfl lay_7 (by decide) fl7_21 ha rfl rfl (rc_F F106 (Or.inl (by decide)) (by decide) (rc_F F95 (Or.inl (by decide)) (by decide) (rc_F F84 (Or.inl (by decide)) (by decide) (rc_o (by decide) (rc_o (by decide) (rc_o (by decide) (hx108))))))) ?_
    refine tn_iload_n dX7_openCall_55 rfl 1 rfl ?_
    refine tn_bipush dX7_openCall_56 (by decide) ?_
    refine tn_imul dX7_openCall_58 ?_
    refine tn_iconst dX7_openCall_59 ?_
    refine tn_callSN (M := m_X7_openCall) (pc := 60) (ix := 61) (M' := m_X11_put) (As := [.ref x107, .int (iI (c * 12)), .int (iI 0)]) (rest := []) dX7_openCall_60 ok_X11_put stt_X11_put nl7_61 np_X11_put rfl (Nat.le_of_ble_eq_true rfl) (Nat.le_of_ble_eq_true rfl) rfl (k_X11_put (d + 1) (T := T) (σ := σ101) (x := x107) (i := c * 12) (y := 0) hk109i (by omega) (by omega) (by decide) w105 (nh_k hk109 (by unfold HT; omega)) vok_0) (fun r111 T113 σ112 gt114 hp => ?_)
    obtain ⟨rfl, rfl, w116, F117⟩ := hp
    clear gt114
    show Tn _ _ 63 T σ112 [(0, .ref a), (1, .int (iI c)), (2, .int (iI r))] [] _
    refine tn_iload_n dX7_openCall_63 rfl 1 rfl ?_
    refine tn_sipush dX7_openCall_64 (by decide) ?_
    refine tn_imul dX7_openCall_67 ?_
    refine tn_istore_n (L' := [(3, .int (iI (c * 192))), (0, .ref a), (1, .int (iI c)), (2, .int (iI r))]) dX7_openCall_68 rfl (by decide) rfl ?_
    refine tn_iload_n dX7_openCall_69 rfl 0 rfl ?_
    refine tn_if_lt (tgt := 100) dX7_openCall_70 (by decide) ⟨by omega, by omega⟩ (fun h118 => absurd h118 (by omega)) (fun h118 => ?_)
    refine tn_iload_n dX7_openCall_73 rfl 0 rfl ?_
    refine tn_sipush dX7_openCall_74 (by decide) ?_
    refine tn_iadd dX7_openCall_77 ?_
    refine tn_aload_n dX7_openCall_78 rfl 1 rfl ?_
    obtain ⟨x119, hx120, hk121, hl122⟩ : ∃ x : Nat, σ.2.1 63 a = (x : Int) ∧ AR T x 1 1728 1728 := wf_63 hw ha
    have hk121i : IA T x119 := by unfold IA; omega
    refine tn_getR (ci := 7) (i := 8) (n := 63) (x := x119) dX7_openCall_79 rfl lay_7 (by decide) fl7_24 ha rfl rfl (rc_F F117 (Or.inl (by decide)) (by decide) (rc_F F106 (Or.inl (by decide)) (by decide) (rc_F F95 (Or.inl (by decide)) (by decide) (rc_F F84 (Or.inl (by decide)) (by decide) (rc_o (by decide) (rc_o (by decide) (rc_o (by decide) (hx120)))))))) ?_
    refine tn_alenX dX7_openCall_82 (Or.inl hk121i) ?_
    refine tn_icmp_gt (tgt := 100) dX7_openCall_83 (by decide) ⟨by omega, by omega⟩ ⟨by omega, by omega⟩ (fun h123 => ?_) (fun h123 => ?_)
    · have q124 : σ112.2.1 57 a = c := rc_F F117 (Or.inl (by decide)) (by decide) (rc_F F106 (Or.inl (by decide)) (by decide) (rc_F F95 (Or.inl (by decide)) (by decide) (rc_F F84 (Or.inl (by decide)) (by decide) (rc_o (by decide) (rc_o (by decide) (ra_eq))))))
      exact tn_vret rfl dX7_openCall_100 ⟨rfl, rfl, w116, (((((((FrC.rfl.put (by decide) (by decide)).put (by decide) (by decide)).put (by decide) (by decide)).trans (FrC.sub F84 (by decide))).trans (FrC.sub F95 (by decide))).trans (FrC.sub F106 (by decide))).trans (FrC.sub F117 (by decide))), by omega, (((((((FA.rfl.put).put).put).trans (FA.of F84 (by decide))).trans (FA.of F95 (by decide))).trans (FA.of F106 (by decide))).trans (FA.of F117 (by decide)))⟩
    · refine tn_aload_n dX7_openCall_86 rfl 1 rfl ?_
      refine tn_getR (ci := 7) (i := 8) (n := 63) (x := x119) dX7_openCall_87 rfl lay_7 (by decide) fl7_24 ha rfl rfl (rc_F F117 (Or.inl (by decide)) (by decide) (rc_F F106 (Or.inl (by decide)) (by decide) (rc_F F95 (Or.inl (by decide)) (by decide) (rc_F F84 (Or.inl (by decide)) (by decide) (rc_o (by decide) (rc_o (by decide) (rc_o (by decide) (hx120)))))))) ?_
      refine tn_iload_n dX7_openCall_90 rfl 0 rfl ?_
      refine tn_iload_n dX7_openCall_91 rfl 0 rfl ?_
      refine tn_sipush dX7_openCall_92 (by decide) ?_
      refine tn_iadd dX7_openCall_95 ?_
      refine tn_iconst dX7_openCall_96 ?_
      refine tn_callS (M := m_X7_openCall) (pc := 97) (ix := 76) (M' := m_J7_fill_fda19) (As := [.ref x119, .int (iI (c * 192)), .int (iI ((c * 192) + 192)), .int (iI 0)]) (rest := []) dX7_openCall_97 ok_J7_fill_fda19 stt_J7_fill_fda19 ml7_76 np_J7_fill_fda19 rfl (Nat.le_of_ble_eq_true rfl) (Nat.le_of_ble_eq_true rfl) rfl (k_J7_fill_fda19 (d) (T := T) (σ := σ112) (x := x119) (f := c * 192) (t := (c * 192) + 192) (y := 0) hk121i (by omega) (by omega) (by omega) (by decide) w116 (nh_k hk121 (by unfold HT; omega)) (by omega) (by omega)) (fun r125 T127 σ126 gt128 hp => ?_)
      obtain ⟨rfl, rfl, w130, F131⟩ := hp
      clear gt128
      show Tn _ _ 100 T σ126 [(3, .int (iI (c * 192))), (0, .ref a), (1, .int (iI c)), (2, .int (iI r))] [] _
      have q132 : σ126.2.1 57 a = c := rc_F F131 (Or.inl (by decide)) (by decide) (rc_F F117 (Or.inl (by decide)) (by decide) (rc_F F106 (Or.inl (by decide)) (by decide) (rc_F F95 (Or.inl (by decide)) (by decide) (rc_F F84 (Or.inl (by decide)) (by decide) (rc_o (by decide) (rc_o (by decide) (ra_eq)))))))
      exact tn_vret rfl dX7_openCall_100 ⟨rfl, rfl, w130, ((((((((FrC.rfl.put (by decide) (by decide)).put (by decide) (by decide)).put (by decide) (by decide)).trans (FrC.sub F84 (by decide))).trans (FrC.sub F95 (by decide))).trans (FrC.sub F106 (by decide))).trans (FrC.sub F117 (by decide))).trans (FrC.sub F131 (by decide))), by omega, ((((((((FA.rfl.put).put).put).trans (FA.of F84 (by decide))).trans (FA.of F95 (by decide))).trans (FA.of F106 (by decide))).trans (FA.of F117 (by decide))).trans (FA.of F131 (by decide)))⟩
end
section
theorem cd_X7_begin : Cond.code yX7_begin cX7_begin 6 none ∈ pWW := pw6 (List.mem_of_getElem? (i := 32) rfl) rfl
abbrev m_X7_begin : MT := (yX7_begin, cX7_begin, 6, none)
theorem ok_X7_begin : pOk m_X7_begin := ⟨⟨cd_X7_begin, ini_7⟩, by decide +kernel, ⟨by decide +kernel, by decide +kernel⟩, Nat.le_of_ble_eq_true rfl⟩
theorem np_X7_begin : (parseMethodDescriptor yX7_begin.desc).map (fun d => d.parameters.length) = some 5 := by decide +kernel
theorem im_X7_begin : Cond.instanceMethod yX7_begin ∈ pWW := pw6 (List.mem_of_getElem? (i := 30) rfl) rfl
theorem se_X7_begin : Cond.selects RX7 yX7_begin yX7_begin ∈ pWW := pw6 (List.mem_of_getElem? (i := 31) rfl) rfl
theorem fl7_47 : Cond.fieldLink RX7 47 (TX7 12).1 (TX7 12).2.1 (TX7 12).2.2.1 ∈ pWW := pw2 (List.mem_of_getElem? (i := 153) rfl) rfl
theorem fl7_50 : Cond.fieldLink RX7 50 (TX7 13).1 (TX7 13).2.1 (TX7 13).2.2.1 ∈ pWW := pw2 (List.mem_of_getElem? (i := 156) rfl) rfl
theorem ml7_53 : Cond.methodLink RX7 53 yX7_openCall ∈ pWW := pw6 (List.mem_of_getElem? (i := 33) rfl) rfl
theorem ml7_57 : Cond.methodLink RX7 57 yX7_homeOfParam ∈ pWW := pw6 (List.mem_of_getElem? (i := 43) rfl) rfl
theorem dX7_begin_0 : decode cX7_begin 0 = .ok (.aload_n 0, 1) := by decide +kernel
theorem dX7_begin_1 : decode cX7_begin 1 = .ok (.iconst 1, 1) := by decide +kernel
theorem dX7_begin_2 : decode cX7_begin 2 = .ok (.putfield 34, 3) := by decide +kernel
theorem dX7_begin_5 : decode cX7_begin 5 = .ok (.aload_n 0, 1) := by decide +kernel
theorem dX7_begin_6 : decode cX7_begin 6 = .ok (.iconst 0, 1) := by decide +kernel
theorem dX7_begin_7 : decode cX7_begin 7 = .ok (.putfield 38, 3) := by decide +kernel
theorem dX7_begin_10 : decode cX7_begin 10 = .ok (.aload_n 0, 1) := by decide +kernel
theorem dX7_begin_11 : decode cX7_begin 11 = .ok (.iconst 0, 1) := by decide +kernel
theorem dX7_begin_12 : decode cX7_begin 12 = .ok (.putfield 41, 3) := by decide +kernel
theorem dX7_begin_15 : decode cX7_begin 15 = .ok (.aload_n 0, 1) := by decide +kernel
theorem dX7_begin_16 : decode cX7_begin 16 = .ok (.iconst 0, 1) := by decide +kernel
theorem dX7_begin_17 : decode cX7_begin 17 = .ok (.putfield 44, 3) := by decide +kernel
theorem dX7_begin_20 : decode cX7_begin 20 = .ok (.aload_n 0, 1) := by decide +kernel
theorem dX7_begin_21 : decode cX7_begin 21 = .ok (.iconst 0, 1) := by decide +kernel
theorem dX7_begin_22 : decode cX7_begin 22 = .ok (.putfield 47, 3) := by decide +kernel
theorem dX7_begin_25 : decode cX7_begin 25 = .ok (.aload_n 0, 1) := by decide +kernel
theorem dX7_begin_26 : decode cX7_begin 26 = .ok (.iconst 0, 1) := by decide +kernel
theorem dX7_begin_27 : decode cX7_begin 27 = .ok (.putfield 50, 3) := by decide +kernel
theorem dX7_begin_30 : decode cX7_begin 30 = .ok (.aload_n 0, 1) := by decide +kernel
theorem dX7_begin_31 : decode cX7_begin 31 = .ok (.iconst 0, 1) := by decide +kernel
theorem dX7_begin_32 : decode cX7_begin 32 = .ok (.iload_n 1, 1) := by decide +kernel
theorem dX7_begin_33 : decode cX7_begin 33 = .ok (.invokevirtual 53, 3) := by decide +kernel
theorem dX7_begin_36 : decode cX7_begin 36 = .ok (.aload_n 0, 1) := by decide +kernel
theorem dX7_begin_37 : decode cX7_begin 37 = .ok (.getfield 24, 3) := by decide +kernel
theorem dX7_begin_40 : decode cX7_begin 40 = .ok (.aload_n 0, 1) := by decide +kernel
theorem dX7_begin_41 : decode cX7_begin 41 = .ok (.iconst 0, 1) := by decide +kernel
theorem dX7_begin_42 : decode cX7_begin 42 = .ok (.invokevirtual 57, 3) := by decide +kernel
theorem dX7_begin_45 : decode cX7_begin 45 = .ok (.iload_n 2, 1) := by decide +kernel
theorem dX7_begin_46 : decode cX7_begin 46 = .ok (.invokestatic 61, 3) := by decide +kernel
theorem dX7_begin_49 : decode cX7_begin 49 = .ok (.aload_n 0, 1) := by decide +kernel
theorem dX7_begin_50 : decode cX7_begin 50 = .ok (.getfield 24, 3) := by decide +kernel
theorem dX7_begin_53 : decode cX7_begin 53 = .ok (.aload_n 0, 1) := by decide +kernel
theorem dX7_begin_54 : decode cX7_begin 54 = .ok (.iconst 1, 1) := by decide +kernel
theorem dX7_begin_55 : decode cX7_begin 55 = .ok (.invokevirtual 57, 3) := by decide +kernel
theorem dX7_begin_58 : decode cX7_begin 58 = .ok (.iload_n 3, 1) := by decide +kernel
theorem dX7_begin_59 : decode cX7_begin 59 = .ok (.invokestatic 61, 3) := by decide +kernel
theorem dX7_begin_62 : decode cX7_begin 62 = .ok (.aload_n 0, 1) := by decide +kernel
theorem dX7_begin_63 : decode cX7_begin 63 = .ok (.getfield 24, 3) := by decide +kernel
theorem dX7_begin_66 : decode cX7_begin 66 = .ok (.aload_n 0, 1) := by decide +kernel
theorem dX7_begin_67 : decode cX7_begin 67 = .ok (.iconst 2, 1) := by decide +kernel
theorem dX7_begin_68 : decode cX7_begin 68 = .ok (.invokevirtual 57, 3) := by decide +kernel
theorem dX7_begin_71 : decode cX7_begin 71 = .ok (.iload 4, 2) := by decide +kernel
theorem dX7_begin_73 : decode cX7_begin 73 = .ok (.invokestatic 61, 3) := by decide +kernel
theorem dX7_begin_76 : decode cX7_begin 76 = .ok (.aload_n 0, 1) := by decide +kernel
theorem dX7_begin_77 : decode cX7_begin 77 = .ok (.getfield 24, 3) := by decide +kernel
theorem dX7_begin_80 : decode cX7_begin 80 = .ok (.aload_n 0, 1) := by decide +kernel
theorem dX7_begin_81 : decode cX7_begin 81 = .ok (.iconst 3, 1) := by decide +kernel
theorem dX7_begin_82 : decode cX7_begin 82 = .ok (.invokevirtual 57, 3) := by decide +kernel
theorem dX7_begin_85 : decode cX7_begin 85 = .ok (.iload 5, 2) := by decide +kernel
theorem dX7_begin_87 : decode cX7_begin 87 = .ok (.invokestatic 61, 3) := by decide +kernel
theorem dX7_begin_90 : decode cX7_begin 90 = .ok (.return_, 1) := by decide +kernel
set_option maxRecDepth 20000 in
theorem k_X7_begin (d : Nat) {T : CT} {σ : MS} {a : Nat} {p1 : Int} {p2 : Int} {p3 : Int} {p4 : Int} {p5 : Int} (ha : OB T a 7) (hta : (T a).1 = 37) (h_p1 : -2147483648 ≤ p1 ∧ p1 ≤ 2147483647) (h_p2 : -2147483648 ≤ p2 ∧ p2 ≤ 2147483647) (h_p3 : -2147483648 ≤ p3 ∧ p3 ≤ 2147483647) (h_p4 : -2147483648 ≤ p4 ∧ p4 ≤ 2147483647) (h_p5 : -2147483648 ≤ p5 ∧ p5 ≤ 2147483647) (hw : WT T σ) : Tn (d + 4) m_X7_begin 0 T σ [(0, .ref a), (1, .int (iI p1)), (2, .int (iI p2)), (3, .int (iI p3)), (4, .int (iI p4)), (5, .int (iI p5))] [] (fun ro T2 σ2 => ro = none ∧ T = T2 ∧ WT T2 σ2 ∧ FrC T [56, 57, 58, 65, 66, 67, 68, 69, 515] σ σ2 ∧ (σ2.2.1 57 a = 0) ∧ (FA a σ σ2)) := by
  refine tn_aload_n dX7_begin_0 rfl 0 rfl ?_
  refine tn_iconst dX7_begin_1 ?_
  refine tn_putV (ci := 7) (i := 1) (n := 56) (r := false) (v := 1) tyX7 tyX7_ok nmX7 dX7_begin_2 rfl lay_7 (by decide) fl7_34 rfl (tyX7_ok 1 (by decide)) rfl rfl rfl ha rfl rfl ?_
  refine tn_aload_n dX7_begin_5 rfl 0 rfl ?_
  refine tn_iconst dX7_begin_6 ?_
  refine tn_putV (ci := 7) (i := 3) (n := 58) (r := false) (v := 0) tyX7 tyX7_ok nmX7 dX7_begin_7 rfl lay_7 (by decide) fl7_38 rfl (tyX7_ok 3 (by decide)) rfl rfl rfl ha rfl rfl ?_
  refine tn_aload_n dX7_begin_10 rfl 0 rfl ?_
  refine tn_iconst dX7_begin_11 ?_
  refine tn_putV (ci := 7) (i := 10) (n := 65) (r := false) (v := 0) tyX7 tyX7_ok nmX7 dX7_begin_12 rfl lay_7 (by decide) fl7_41 rfl (tyX7_ok 10 (by decide)) rfl rfl rfl ha rfl rfl ?_
  refine tn_aload_n dX7_begin_15 rfl 0 rfl ?_
  refine tn_iconst dX7_begin_16 ?_
  refine tn_putV (ci := 7) (i := 11) (n := 66) (r := false) (v := 0) tyX7 tyX7_ok nmX7 dX7_begin_17 rfl lay_7 (by decide) fl7_44 rfl (tyX7_ok 11 (by decide)) rfl rfl rfl ha rfl rfl ?_
  refine tn_aload_n dX7_begin_20 rfl 0 rfl ?_
  refine tn_iconst dX7_begin_21 ?_
  refine tn_putV (ci := 7) (i := 12) (n := 67) (r := false) (v := 0) tyX7 tyX7_ok nmX7 dX7_begin_22 rfl lay_7 (by decide) fl7_47 rfl (tyX7_ok 12 (by decide)) rfl rfl rfl ha rfl rfl ?_
  refine tn_aload_n dX7_begin_25 rfl 0 rfl ?_
  refine tn_iconst dX7_begin_26 ?_
  refine tn_putV (ci := 7) (i := 13) (n := 68) (r := false) (v := 0) tyX7 tyX7_ok nmX7 dX7_begin_27 rfl lay_7 (by decide) fl7_50 rfl (tyX7_ok 13 (by decide)) rfl rfl rfl ha rfl rfl ?_
  refine tn_aload_n dX7_begin_30 rfl 0 rfl ?_
  refine tn_iconst dX7_begin_31 ?_
  refine tn_iload_n dX7_begin_32 rfl 1 rfl ?_
  refine tn_callV (M := m_X7_begin) (pc := 33) (ix := 53) (ci := 7) (M' := m_X7_openCall) (As := [.int (iI 0), .int (iI p1)]) (rest := []) dX7_begin_33 ok_X7_openCall im_X7_openCall se_X7_openCall ml7_53 np_X7_openCall rfl rfl ha rfl (Nat.le_of_ble_eq_true rfl) (Nat.le_of_ble_eq_true rfl) rfl (k_X7_openCall (d) (T := T) (σ := (sA 68 a (0) (sA 67 a (0) (sA 66 a (0) (sA 65 a (0) (sA 58 a (0) (sA 56 a (1) σ))))))) (a := a) (c := 0) (r := p1) ha hta (by decide) (by omega) ((((((hw.put (by decide) (by decide) (fo_56 (by omega))).put (by decide) (by decide) (fo_58 (by omega))).put (by decide) (by decide) (fo_65 (by omega))).put (by decide) (by decide) (fo_66 (by omega))).put (by decide) (by decide) (fo_67 (by omega))).put (by decide) (by decide) (fo_68 (by omega))) (by omega)) (fun r1 T3 σ2 gt4 hp => ?_)
  obtain ⟨rfl, rfl, w8, F9, f5, f6⟩ := hp
  clear gt4
  show Tn _ _ 36 T σ2 [(0, .ref a), (1, .int (iI p1)), (2, .int (iI p2)), (3, .int (iI p3)), (4, .int (iI p4)), (5, .int (iI p5))] [] _
  refine tn_aload_n dX7_begin_36 rfl 0 rfl ?_
  obtain ⟨x10, hx11, hk12, hl13⟩ : ∃ x : Nat, σ.2.1 63 a = (x : Int) ∧ AR T x 1 1728 1728 := wf_63 hw ha
  have hk12i : IA T x10 := by unfold IA; omega
  refine tn_getR (ci := 7) (i := 8) (n := 63) (x := x10) dX7_begin_37 rfl lay_7 (by decide) fl7_24 ha rfl rfl (rc_F F9 (Or.inl (by decide)) (by decide) (rc_o (by decide) (rc_o (by decide) (rc_o (by decide) (rc_o (by decide) (rc_o (by decide) (rc_o (by decide) (hx11)))))))) ?_
  refine tn_aload_n dX7_begin_40 rfl 0 rfl ?_
  refine tn_iconst dX7_begin_41 ?_
  refine tn_callV (M := m_X7_begin) (pc := 42) (ix := 57) (ci := 7) (M' := m_X7_homeOfParam) (As := [.int (iI 0)]) (rest := [.ref x10]) dX7_begin_42 ok_X7_homeOfParam im_X7_homeOfParam se_X7_homeOfParam ml7_57 np_X7_homeOfParam rfl rfl ha rfl (Nat.le_of_ble_eq_true rfl) (Nat.le_of_ble_eq_true rfl) rfl (k_X7_homeOfParam (d) (T := T) (σ := σ2) (a := a) (p1 := 0) ha (by decide) w8 ) (fun r14 T16 σ15 gt17 hp => ?_)
  obtain ⟨v19, rfl, rfl, rfl, f18⟩ := hp
  clear gt17
  show Tn _ _ 45 T σ2 [(0, .ref a), (1, .int (iI p1)), (2, .int (iI p2)), (3, .int (iI p3)), (4, .int (iI p4)), (5, .int (iI p5))] [.int (iI v19), .ref x10] _
  refine tn_iload_n dX7_begin_45 rfl 2 rfl ?_
  refine tn_callSN (M := m_X7_begin) (pc := 46) (ix := 61) (M' := m_X11_put) (As := [.ref x10, .int (iI v19), .int (iI p2)]) (rest := []) dX7_begin_46 ok_X11_put stt_X11_put nl7_61 np_X11_put rfl (Nat.le_of_ble_eq_true rfl) (Nat.le_of_ble_eq_true rfl) rfl (k_X11_put (d + 2) (T := T) (σ := σ2) (x := x10) (i := v19) (y := p2) hk12i (by omega) (by omega) (by omega) w8 (nh_k hk12 (by unfold HT; omega)) (vok_1 (by have q9 := hk12; omega) (by omega))) (fun r20 T22 σ21 gt23 hp => ?_)
  obtain ⟨rfl, rfl, w25, F26⟩ := hp
  clear gt23
  show Tn _ _ 49 T σ21 [(0, .ref a), (1, .int (iI p1)), (2, .int (iI p2)), (3, .int (iI p3)), (4, .int (iI p4)), (5, .int (iI p5))] [] _
  refine tn_aload_n dX7_begin_49 rfl 0 rfl ?_
  refine tn_getR (ci := 7) (i := 8) (n := 63) (x := x10) dX7_begin_50 rfl lay_7 (by decide) fl7_24 ha rfl rfl (rc_F F26 (Or.inl (by decide)) (by decide) (rc_F F9 (Or.inl (by decide)) (by decide) (rc_o (by decide) (rc_o (by decide) (rc_o (by decide) (rc_o (by decide) (rc_o (by decide) (rc_o (by decide) (hx11))))))))) ?_
  refine tn_aload_n dX7_begin_53 rfl 0 rfl ?_
  refine tn_iconst dX7_begin_54 ?_
  refine tn_callV (M := m_X7_begin) (pc := 55) (ix := 57) (ci := 7) (M' := m_X7_homeOfParam) (As := [.int (iI 1)]) (rest := [.ref x10]) dX7_begin_55 ok_X7_homeOfParam im_X7_homeOfParam se_X7_homeOfParam ml7_57 np_X7_homeOfParam rfl rfl ha rfl (Nat.le_of_ble_eq_true rfl) (Nat.le_of_ble_eq_true rfl) rfl (k_X7_homeOfParam (d) (T := T) (σ := σ21) (a := a) (p1 := 1) ha (by decide) w25 ) (fun r27 T29 σ28 gt30 hp => ?_)
  obtain ⟨v32, rfl, rfl, rfl, f31⟩ := hp
  clear gt30
  show Tn _ _ 58 T σ21 [(0, .ref a), (1, .int (iI p1)), (2, .int (iI p2)), (3, .int (iI p3)), (4, .int (iI p4)), (5, .int (iI p5))] [.int (iI v32), .ref x10] _
  refine tn_iload_n dX7_begin_58 rfl 3 rfl ?_
  refine tn_callSN (M := m_X7_begin) (pc := 59) (ix := 61) (M' := m_X11_put) (As := [.ref x10, .int (iI v32), .int (iI p3)]) (rest := []) dX7_begin_59 ok_X11_put stt_X11_put nl7_61 np_X11_put rfl (Nat.le_of_ble_eq_true rfl) (Nat.le_of_ble_eq_true rfl) rfl (k_X11_put (d + 2) (T := T) (σ := σ21) (x := x10) (i := v32) (y := p3) hk12i (by omega) (by omega) (by omega) w25 (nh_k hk12 (by unfold HT; omega)) (vok_1 (by have q9 := hk12; omega) (by omega))) (fun r33 T35 σ34 gt36 hp => ?_)
  obtain ⟨rfl, rfl, w38, F39⟩ := hp
  clear gt36
  show Tn _ _ 62 T σ34 [(0, .ref a), (1, .int (iI p1)), (2, .int (iI p2)), (3, .int (iI p3)), (4, .int (iI p4)), (5, .int (iI p5))] [] _
  refine tn_aload_n dX7_begin_62 rfl 0 rfl ?_
  refine tn_getR (ci := 7) (i := 8) (n := 63) (x := x10) dX7_begin_63 rfl lay_7 (by decide) fl7_24 ha rfl rfl (rc_F F39 (Or.inl (by decide)) (by decide) (rc_F F26 (Or.inl (by decide)) (by decide) (rc_F F9 (Or.inl (by decide)) (by decide) (rc_o (by decide) (rc_o (by decide) (rc_o (by decide) (rc_o (by decide) (rc_o (by decide) (rc_o (by decide) (hx11)))))))))) ?_
  refine tn_aload_n dX7_begin_66 rfl 0 rfl ?_
  refine tn_iconst dX7_begin_67 ?_
  refine tn_callV (M := m_X7_begin) (pc := 68) (ix := 57) (ci := 7) (M' := m_X7_homeOfParam) (As := [.int (iI 2)]) (rest := [.ref x10]) dX7_begin_68 ok_X7_homeOfParam im_X7_homeOfParam se_X7_homeOfParam ml7_57 np_X7_homeOfParam rfl rfl ha rfl (Nat.le_of_ble_eq_true rfl) (Nat.le_of_ble_eq_true rfl) rfl (k_X7_homeOfParam (d) (T := T) (σ := σ34) (a := a) (p1 := 2) ha (by decide) w38 ) (fun r40 T42 σ41 gt43 hp => ?_)
  obtain ⟨v45, rfl, rfl, rfl, f44⟩ := hp
  clear gt43
  show Tn _ _ 71 T σ34 [(0, .ref a), (1, .int (iI p1)), (2, .int (iI p2)), (3, .int (iI p3)), (4, .int (iI p4)), (5, .int (iI p5))] [.int (iI v45), .ref x10] _
  refine tn_iload dX7_begin_71 4 rfl ?_
  refine tn_callSN (M := m_X7_begin) (pc := 73) (ix := 61) (M' := m_X11_put) (As := [.ref x10, .int (iI v45), .int (iI p4)]) (rest := []) dX7_begin_73 ok_X11_put stt_X11_put nl7_61 np_X11_put rfl (Nat.le_of_ble_eq_true rfl) (Nat.le_of_ble_eq_true rfl) rfl (k_X11_put (d + 2) (T := T) (σ := σ34) (x := x10) (i := v45) (y := p4) hk12i (by omega) (by omega) (by omega) w38 (nh_k hk12 (by unfold HT; omega)) (vok_1 (by have q9 := hk12; omega) (by omega))) (fun r46 T48 σ47 gt49 hp => ?_)
  obtain ⟨rfl, rfl, w51, F52⟩ := hp
  clear gt49
  show Tn _ _ 76 T σ47 [(0, .ref a), (1, .int (iI p1)), (2, .int (iI p2)), (3, .int (iI p3)), (4, .int (iI p4)), (5, .int (iI p5))] [] _
  refine tn_aload_n dX7_begin_76 rfl 0 rfl ?_
  refine tn_getR (ci := 7) (i := 8) (n := 63) (x := x10) dX7_begin_77 rfl lay_7 (by decide) fl7_24 ha rfl rfl (rc_F F52 (Or.inl (by decide)) (by decide) (rc_F F39 (Or.inl (by decide)) (by decide) (rc_F F26 (Or.inl (by decide)) (by decide) (rc_F F9 (Or.inl (by decide)) (by decide) (rc_o (by decide) (rc_o (by decide) (rc_o (by decide) (rc_o (by decide) (rc_o (by decide) (rc_o (by decide) (hx11))))))))))) ?_
  refine tn_aload_n dX7_begin_80 rfl 0 rfl ?_
  refine tn_iconst dX7_begin_81 ?_
  refine tn_callV (M := m_X7_begin) (pc := 82) (ix := 57) (ci := 7) (M' := m_X7_homeOfParam) (As := [.int (iI 3)]) (rest := [.ref x10]) dX7_begin_82 ok_X7_homeOfParam im_X7_homeOfParam se_X7_homeOfParam ml7_57 np_X7_homeOfParam rfl rfl ha rfl (Nat.le_of_ble_eq_true rfl) (Nat.le_of_ble_eq_true rfl) rfl (k_X7_homeOfParam (d) (T := T) (σ := σ47) (a := a) (p1 := 3) ha (by decide) w51 ) (fun r53 T55 σ54 gt56 hp => ?_)
  obtain ⟨v58, rfl, rfl, rfl, f57⟩ := hp
  clear gt56
  show Tn _ _ 85 T σ47 [(0, .ref a), (1, .int (iI p1)), (2, .int (iI p2)), (3, .int (iI p3)), (4, .int (iI p4)), (5, .int (iI p5))] [.int (iI v58), .ref x10] _
  refine tn_iload dX7_begin_85 5 rfl ?_
  refine tn_callSN (M := m_X7_begin) (pc := 87) (ix := 61) (M' := m_X11_put) (As := [.ref x10, .int (iI v58), .int (iI p5)]) (rest := []) dX7_begin_87 ok_X11_put stt_X11_put nl7_61 np_X11_put rfl (Nat.le_of_ble_eq_true rfl) (Nat.le_of_ble_eq_true rfl) rfl (k_X11_put (d + 2) (T := T) (σ := σ47) (x := x10) (i := v58) (y := p5) hk12i (by omega) (by omega) (by omega) w51 (nh_k hk12 (by unfold HT; omega)) (vok_1 (by have q9 := hk12; omega) (by omega))) (fun r59 T61 σ60 gt62 hp => ?_)
  obtain ⟨rfl, rfl, w64, F65⟩ := hp
  clear gt62
  show Tn _ _ 90 T σ60 [(0, .ref a), (1, .int (iI p1)), (2, .int (iI p2)), (3, .int (iI p3)), (4, .int (iI p4)), (5, .int (iI p5))] [] _
  have q66 : σ60.2.1 57 a = σ2.2.1 57 a := rc_F F65 (Or.inl (by decide)) (by decide) (rc_F F52 (Or.inl (by decide)) (by decide) (rc_F F39 (Or.inl (by decide)) (by decide) (rc_F F26 (Or.inl (by decide)) (by decide) (rfl))))
  exact tn_vret rfl dX7_begin_90 ⟨rfl, rfl, w64, (((((((((((FrC.rfl.put (by decide) (by decide)).put (by decide) (by decide)).put (by decide) (by decide)).put (by decide) (by decide)).put (by decide) (by decide)).put (by decide) (by decide)).trans (FrC.sub F9 (by decide))).trans (FrC.sub F26 (by decide))).trans (FrC.sub F39 (by decide))).trans (FrC.sub F52 (by decide))).trans (FrC.sub F65 (by decide))), by omega, (((((((((((FA.rfl.put).put).put).put).put).put).trans f6).trans (FA.of F26 (by decide))).trans (FA.of F39 (by decide))).trans (FA.of F52 (by decide))).trans (FA.of F65 (by decide)))⟩
end
section
theorem cd_X7_callFrom : Cond.code yX7_callFrom cX7_callFrom 6 none ∈ pWW := pw6 (List.mem_of_getElem? (i := 78) rfl) rfl
abbrev m_X7_callFrom : MT := (yX7_callFrom, cX7_callFrom, 6, none)
theorem ok_X7_callFrom : pOk m_X7_callFrom := ⟨⟨cd_X7_callFrom, ini_7⟩, by decide +kernel, ⟨by decide +kernel, by decide +kernel⟩, Nat.le_of_ble_eq_true rfl⟩
theorem np_X7_callFrom : (parseMethodDescriptor yX7_callFrom.desc).map (fun d => d.parameters.length) = some 1 := by decide +kernel
theorem im_X7_callFrom : Cond.instanceMethod yX7_callFrom ∈ pWW := pw6 (List.mem_of_getElem? (i := 77) rfl) rfl
theorem se_X7_callFrom : Cond.selects RX7 yX7_callFrom yX7_callFrom ∈ pWW := pws (List.mem_map.mpr ⟨_, lw_pin 90 rfl, rfl⟩) rfl
theorem dX7_callFrom_0 : decode cX7_callFrom 0 = .ok (.aload_n 0, 1) := by decide +kernel
theorem dX7_callFrom_1 : decode cX7_callFrom 1 = .ok (.iload_n 1, 1) := by decide +kernel
theorem dX7_callFrom_2 : decode cX7_callFrom 2 = .ok (.iconst 3, 1) := by decide +kernel
theorem dX7_callFrom_3 : decode cX7_callFrom 3 = .ok (.invokevirtual 110, 3) := by decide +kernel
theorem dX7_callFrom_6 : decode cX7_callFrom 6 = .ok (.istore_n 2, 1) := by decide +kernel
theorem dX7_callFrom_7 : decode cX7_callFrom 7 = .ok (.aload_n 0, 1) := by decide +kernel
theorem dX7_callFrom_8 : decode cX7_callFrom 8 = .ok (.iload_n 1, 1) := by decide +kernel
theorem dX7_callFrom_9 : decode cX7_callFrom 9 = .ok (.iconst 5, 1) := by decide +kernel
theorem dX7_callFrom_10 : decode cX7_callFrom 10 = .ok (.invokevirtual 110, 3) := by decide +kernel
theorem dX7_callFrom_13 : decode cX7_callFrom 13 = .ok (.istore_n 3, 1) := by decide +kernel
theorem dX7_callFrom_14 : decode cX7_callFrom 14 = .ok (.aload_n 0, 1) := by decide +kernel
theorem dX7_callFrom_15 : decode cX7_callFrom 15 = .ok (.iload_n 1, 1) := by decide +kernel
theorem dX7_callFrom_16 : decode cX7_callFrom 16 = .ok (.bipush 7, 2) := by decide +kernel
theorem dX7_callFrom_18 : decode cX7_callFrom 18 = .ok (.invokevirtual 110, 3) := by decide +kernel
theorem dX7_callFrom_21 : decode cX7_callFrom 21 = .ok (.istore 4, 2) := by decide +kernel
theorem dX7_callFrom_23 : decode cX7_callFrom 23 = .ok (.aload_n 0, 1) := by decide +kernel
theorem dX7_callFrom_24 : decode cX7_callFrom 24 = .ok (.iload_n 1, 1) := by decide +kernel
theorem dX7_callFrom_25 : decode cX7_callFrom 25 = .ok (.bipush 9, 2) := by decide +kernel
theorem dX7_callFrom_27 : decode cX7_callFrom 27 = .ok (.invokevirtual 110, 3) := by decide +kernel
theorem dX7_callFrom_30 : decode cX7_callFrom 30 = .ok (.istore 5, 2) := by decide +kernel
theorem dX7_callFrom_32 : decode cX7_callFrom 32 = .ok (.aload_n 0, 1) := by decide +kernel
theorem dX7_callFrom_33 : decode cX7_callFrom 33 = .ok (.aload_n 0, 1) := by decide +kernel
theorem dX7_callFrom_34 : decode cX7_callFrom 34 = .ok (.getfield 65, 3) := by decide +kernel
theorem dX7_callFrom_37 : decode cX7_callFrom 37 = .ok (.iconst 1, 1) := by decide +kernel
theorem dX7_callFrom_38 : decode cX7_callFrom 38 = .ok (.iadd, 1) := by decide +kernel
theorem dX7_callFrom_39 : decode cX7_callFrom 39 = .ok (.aload_n 0, 1) := by decide +kernel
theorem dX7_callFrom_40 : decode cX7_callFrom 40 = .ok (.getfield 72, 3) := by decide +kernel
theorem dX7_callFrom_43 : decode cX7_callFrom 43 = .ok (.iload_n 1, 1) := by decide +kernel
theorem dX7_callFrom_44 : decode cX7_callFrom 44 = .ok (.iconst 2, 1) := by decide +kernel
theorem dX7_callFrom_45 : decode cX7_callFrom 45 = .ok (.invokevirtual 117, 3) := by decide +kernel
theorem dX7_callFrom_48 : decode cX7_callFrom 48 = .ok (.invokevirtual 53, 3) := by decide +kernel
theorem dX7_callFrom_51 : decode cX7_callFrom 51 = .ok (.aload_n 0, 1) := by decide +kernel
theorem dX7_callFrom_52 : decode cX7_callFrom 52 = .ok (.getfield 24, 3) := by decide +kernel
theorem dX7_callFrom_55 : decode cX7_callFrom 55 = .ok (.aload_n 0, 1) := by decide +kernel
theorem dX7_callFrom_56 : decode cX7_callFrom 56 = .ok (.iconst 0, 1) := by decide +kernel
theorem dX7_callFrom_57 : decode cX7_callFrom 57 = .ok (.invokevirtual 57, 3) := by decide +kernel
theorem dX7_callFrom_60 : decode cX7_callFrom 60 = .ok (.iload_n 2, 1) := by decide +kernel
theorem dX7_callFrom_61 : decode cX7_callFrom 61 = .ok (.invokestatic 61, 3) := by decide +kernel
theorem dX7_callFrom_64 : decode cX7_callFrom 64 = .ok (.aload_n 0, 1) := by decide +kernel
theorem dX7_callFrom_65 : decode cX7_callFrom 65 = .ok (.getfield 24, 3) := by decide +kernel
theorem dX7_callFrom_68 : decode cX7_callFrom 68 = .ok (.aload_n 0, 1) := by decide +kernel
theorem dX7_callFrom_69 : decode cX7_callFrom 69 = .ok (.iconst 1, 1) := by decide +kernel
theorem dX7_callFrom_70 : decode cX7_callFrom 70 = .ok (.invokevirtual 57, 3) := by decide +kernel
theorem dX7_callFrom_73 : decode cX7_callFrom 73 = .ok (.iload_n 3, 1) := by decide +kernel
theorem dX7_callFrom_74 : decode cX7_callFrom 74 = .ok (.invokestatic 61, 3) := by decide +kernel
theorem dX7_callFrom_77 : decode cX7_callFrom 77 = .ok (.aload_n 0, 1) := by decide +kernel
theorem dX7_callFrom_78 : decode cX7_callFrom 78 = .ok (.getfield 24, 3) := by decide +kernel
theorem dX7_callFrom_81 : decode cX7_callFrom 81 = .ok (.aload_n 0, 1) := by decide +kernel
theorem dX7_callFrom_82 : decode cX7_callFrom 82 = .ok (.iconst 2, 1) := by decide +kernel
theorem dX7_callFrom_83 : decode cX7_callFrom 83 = .ok (.invokevirtual 57, 3) := by decide +kernel
theorem dX7_callFrom_86 : decode cX7_callFrom 86 = .ok (.iload 4, 2) := by decide +kernel
theorem dX7_callFrom_88 : decode cX7_callFrom 88 = .ok (.invokestatic 61, 3) := by decide +kernel
theorem dX7_callFrom_91 : decode cX7_callFrom 91 = .ok (.aload_n 0, 1) := by decide +kernel
theorem dX7_callFrom_92 : decode cX7_callFrom 92 = .ok (.getfield 24, 3) := by decide +kernel
theorem dX7_callFrom_95 : decode cX7_callFrom 95 = .ok (.aload_n 0, 1) := by decide +kernel
theorem dX7_callFrom_96 : decode cX7_callFrom 96 = .ok (.iconst 3, 1) := by decide +kernel
theorem dX7_callFrom_97 : decode cX7_callFrom 97 = .ok (.invokevirtual 57, 3) := by decide +kernel
theorem dX7_callFrom_100 : decode cX7_callFrom 100 = .ok (.iload 5, 2) := by decide +kernel
theorem dX7_callFrom_102 : decode cX7_callFrom 102 = .ok (.invokestatic 61, 3) := by decide +kernel
theorem dX7_callFrom_105 : decode cX7_callFrom 105 = .ok (.return_, 1) := by decide +kernel
end
section
theorem cd_X7_giveBack : Cond.code yX7_giveBack cX7_giveBack 2 none ∈ pWW := pw6 (List.mem_of_getElem? (i := 82) rfl) rfl
abbrev m_X7_giveBack : MT := (yX7_giveBack, cX7_giveBack, 2, none)
theorem ok_X7_giveBack : pOk m_X7_giveBack := ⟨⟨cd_X7_giveBack, ini_7⟩, by decide +kernel, ⟨by decide +kernel, by decide +kernel⟩, Nat.le_of_ble_eq_true rfl⟩
theorem np_X7_giveBack : (parseMethodDescriptor yX7_giveBack.desc).map (fun d => d.parameters.length) = some 1 := by decide +kernel
theorem im_X7_giveBack : Cond.instanceMethod yX7_giveBack ∈ pWW := pw6 (List.mem_of_getElem? (i := 81) rfl) rfl
theorem se_X7_giveBack : Cond.selects RX7 yX7_giveBack yX7_giveBack ∈ pWW := pws (List.mem_map.mpr ⟨_, lw_pin 91 rfl, rfl⟩) rfl
theorem ml7_140 : Cond.methodLink RX7 140 yX7_chainOf ∈ pWW := pw6 (List.mem_of_getElem? (i := 83) rfl) rfl
theorem ml7_103 : Cond.methodLink RX7 103 yX7_place ∈ pWW := pw6 (List.mem_of_getElem? (i := 60) rfl) rfl
theorem dX7_giveBack_0 : decode cX7_giveBack 0 = .ok (.aload_n 0, 1) := by decide +kernel
theorem dX7_giveBack_1 : decode cX7_giveBack 1 = .ok (.dup, 1) := by decide +kernel
theorem dX7_giveBack_2 : decode cX7_giveBack 2 = .ok (.getfield 38, 3) := by decide +kernel
theorem dX7_giveBack_5 : decode cX7_giveBack 5 = .ok (.aload_n 0, 1) := by decide +kernel
theorem dX7_giveBack_6 : decode cX7_giveBack 6 = .ok (.aload_n 0, 1) := by decide +kernel
theorem dX7_giveBack_7 : decode cX7_giveBack 7 = .ok (.getfield 65, 3) := by decide +kernel
theorem dX7_giveBack_10 : decode cX7_giveBack 10 = .ok (.invokevirtual 140, 3) := by decide +kernel
theorem dX7_giveBack_13 : decode cX7_giveBack 13 = .ok (.isub, 1) := by decide +kernel
theorem dX7_giveBack_14 : decode cX7_giveBack 14 = .ok (.putfield 38, 3) := by decide +kernel
theorem dX7_giveBack_17 : decode cX7_giveBack 17 = .ok (.aload_n 0, 1) := by decide +kernel
theorem dX7_giveBack_18 : decode cX7_giveBack 18 = .ok (.getfield 65, 3) := by decide +kernel
theorem dX7_giveBack_21 : decode cX7_giveBack 21 = .ok (.ifCond .ne 19, 3) := by decide +kernel
theorem dX7_giveBack_40 : decode cX7_giveBack 40 = .ok (.aload_n 0, 1) := by decide +kernel
theorem dX7_giveBack_41 : decode cX7_giveBack 41 = .ok (.dup, 1) := by decide +kernel
theorem dX7_giveBack_42 : decode cX7_giveBack 42 = .ok (.getfield 65, 3) := by decide +kernel
theorem dX7_giveBack_45 : decode cX7_giveBack 45 = .ok (.iconst 1, 1) := by decide +kernel
theorem dX7_giveBack_46 : decode cX7_giveBack 46 = .ok (.isub, 1) := by decide +kernel
theorem dX7_giveBack_47 : decode cX7_giveBack 47 = .ok (.putfield 65, 3) := by decide +kernel
theorem dX7_giveBack_50 : decode cX7_giveBack 50 = .ok (.aload_n 0, 1) := by decide +kernel
theorem dX7_giveBack_51 : decode cX7_giveBack 51 = .ok (.aload_n 0, 1) := by decide +kernel
theorem dX7_giveBack_52 : decode cX7_giveBack 52 = .ok (.aload_n 0, 1) := by decide +kernel
theorem dX7_giveBack_53 : decode cX7_giveBack 53 = .ok (.getfield 9, 3) := by decide +kernel
theorem dX7_giveBack_56 : decode cX7_giveBack 56 = .ok (.aload_n 0, 1) := by decide +kernel
theorem dX7_giveBack_57 : decode cX7_giveBack 57 = .ok (.getfield 65, 3) := by decide +kernel
theorem dX7_giveBack_60 : decode cX7_giveBack 60 = .ok (.invokestatic 91, 3) := by decide +kernel
theorem dX7_giveBack_63 : decode cX7_giveBack 63 = .ok (.invokevirtual 68, 3) := by decide +kernel
theorem dX7_giveBack_66 : decode cX7_giveBack 66 = .ok (.putfield 72, 3) := by decide +kernel
theorem dX7_giveBack_69 : decode cX7_giveBack 69 = .ok (.aload_n 0, 1) := by decide +kernel
theorem dX7_giveBack_70 : decode cX7_giveBack 70 = .ok (.getfield 72, 3) := by decide +kernel
theorem dX7_giveBack_73 : decode cX7_giveBack 73 = .ok (.ifnull 32, 3) := by decide +kernel
theorem dX7_giveBack_105 : decode cX7_giveBack 105 = .ok (.aload_n 0, 1) := by decide +kernel
theorem dX7_giveBack_106 : decode cX7_giveBack 106 = .ok (.getfield 15, 3) := by decide +kernel
theorem dX7_giveBack_109 : decode cX7_giveBack 109 = .ok (.aload_n 0, 1) := by decide +kernel
theorem dX7_giveBack_110 : decode cX7_giveBack 110 = .ok (.getfield 65, 3) := by decide +kernel
theorem dX7_giveBack_113 : decode cX7_giveBack 113 = .ok (.aload_n 0, 1) := by decide +kernel
theorem dX7_giveBack_114 : decode cX7_giveBack 114 = .ok (.invokevirtual 103, 3) := by decide +kernel
theorem dX7_giveBack_117 : decode cX7_giveBack 117 = .ok (.iconst 1, 1) := by decide +kernel
theorem dX7_giveBack_118 : decode cX7_giveBack 118 = .ok (.iadd, 1) := by decide +kernel
theorem dX7_giveBack_119 : decode cX7_giveBack 119 = .ok (.invokestatic 61, 3) := by decide +kernel
theorem dX7_giveBack_122 : decode cX7_giveBack 122 = .ok (.return_, 1) := by decide +kernel
theorem dX7_giveBack_76 : decode cX7_giveBack 76 = .ok (.aload_n 0, 1) := by decide +kernel
theorem dX7_giveBack_77 : decode cX7_giveBack 77 = .ok (.getfield 24, 3) := by decide +kernel
theorem dX7_giveBack_80 : decode cX7_giveBack 80 = .ok (.aload_n 0, 1) := by decide +kernel
theorem dX7_giveBack_81 : decode cX7_giveBack 81 = .ok (.getfield 65, 3) := by decide +kernel
theorem dX7_giveBack_84 : decode cX7_giveBack 84 = .ok (.sipush 192, 3) := by decide +kernel
theorem dX7_giveBack_87 : decode cX7_giveBack 87 = .ok (.imul, 1) := by decide +kernel
theorem dX7_giveBack_88 : decode cX7_giveBack 88 = .ok (.aload_n 0, 1) := by decide +kernel
theorem dX7_giveBack_89 : decode cX7_giveBack 89 = .ok (.getfield 72, 3) := by decide +kernel
theorem dX7_giveBack_92 : decode cX7_giveBack 92 = .ok (.aload_n 0, 1) := by decide +kernel
theorem dX7_giveBack_93 : decode cX7_giveBack 93 = .ok (.invokevirtual 103, 3) := by decide +kernel
theorem dX7_giveBack_96 : decode cX7_giveBack 96 = .ok (.iconst 1, 1) := by decide +kernel
theorem dX7_giveBack_97 : decode cX7_giveBack 97 = .ok (.invokevirtual 117, 3) := by decide +kernel
theorem dX7_giveBack_100 : decode cX7_giveBack 100 = .ok (.iadd, 1) := by decide +kernel
theorem dX7_giveBack_101 : decode cX7_giveBack 101 = .ok (.iload_n 1, 1) := by decide +kernel
theorem dX7_giveBack_102 : decode cX7_giveBack 102 = .ok (.invokestatic 61, 3) := by decide +kernel
theorem dX7_giveBack_24 : decode cX7_giveBack 24 = .ok (.aload_n 0, 1) := by decide +kernel
theorem dX7_giveBack_25 : decode cX7_giveBack 25 = .ok (.iconst 2, 1) := by decide +kernel
theorem dX7_giveBack_26 : decode cX7_giveBack 26 = .ok (.putfield 34, 3) := by decide +kernel
theorem dX7_giveBack_29 : decode cX7_giveBack 29 = .ok (.aload_n 0, 1) := by decide +kernel
theorem dX7_giveBack_30 : decode cX7_giveBack 30 = .ok (.iload_n 1, 1) := by decide +kernel
theorem dX7_giveBack_31 : decode cX7_giveBack 31 = .ok (.putfield 50, 3) := by decide +kernel
theorem dX7_giveBack_34 : decode cX7_giveBack 34 = .ok (.aload_n 0, 1) := by decide +kernel
theorem dX7_giveBack_35 : decode cX7_giveBack 35 = .ok (.iconst 0, 1) := by decide +kernel
theorem dX7_giveBack_36 : decode cX7_giveBack 36 = .ok (.putfield 38, 3) := by decide +kernel
theorem dX7_giveBack_39 : decode cX7_giveBack 39 = .ok (.return_, 1) := by decide +kernel
end
section
theorem cd_X7_step : Cond.code yX7_step cX7_step 4 (some .boolean) ∈ pWW := pw6 (List.mem_of_getElem? (i := 59) rfl) rfl
abbrev m_X7_step : MT := (yX7_step, cX7_step, 4, (some .boolean))
theorem ok_X7_step : pOk m_X7_step := ⟨⟨cd_X7_step, ini_7⟩, by decide +kernel, ⟨by decide +kernel, by decide +kernel⟩, Nat.le_of_ble_eq_true rfl⟩
theorem np_X7_step : (parseMethodDescriptor yX7_step.desc).map (fun d => d.parameters.length) = some 0 := by decide +kernel
theorem im_X7_step : Cond.instanceMethod yX7_step ∈ pWW := pw6 (List.mem_of_getElem? (i := 57) rfl) rfl
theorem se_X7_step : Cond.selects RX7 yX7_step yX7_step ∈ pWW := pw6 (List.mem_of_getElem? (i := 58) rfl) rfl
theorem ml7_123 : Cond.methodLink RX7 123 yX7_giveBack ∈ pWW := pw6 (List.mem_of_getElem? (i := 79) rfl) rfl
theorem ml7_107 : Cond.methodLink RX7 107 yX1_kindAt ∈ pWW := pw6 (List.mem_of_getElem? (i := 65) rfl) rfl
theorem ml7_129 : Cond.methodLink RX7 129 yX7_reckonAt ∈ pWW := pw6 (List.mem_of_getElem? (i := 87) rfl) rfl
theorem ml7_113 : Cond.methodLink RX7 113 yX7_emit ∈ pWW := pw6 (List.mem_of_getElem? (i := 71) rfl) rfl
theorem ml7_120 : Cond.methodLink RX7 120 yX7_callFrom ∈ pWW := pw6 (List.mem_of_getElem? (i := 75) rfl) rfl
theorem dX7_step_0 : decode cX7_step 0 = .ok (.aload_n 0, 1) := by decide +kernel
theorem dX7_step_1 : decode cX7_step 1 = .ok (.invokevirtual 103, 3) := by decide +kernel
theorem dX7_step_4 : decode cX7_step 4 = .ok (.istore_n 1, 1) := by decide +kernel
theorem dX7_step_5 : decode cX7_step 5 = .ok (.aload_n 0, 1) := by decide +kernel
theorem dX7_step_6 : decode cX7_step 6 = .ok (.getfield 72, 3) := by decide +kernel
theorem dX7_step_9 : decode cX7_step 9 = .ok (.ifnonnull 7, 3) := by decide +kernel
theorem dX7_step_12 : decode cX7_step 12 = .ok (.iconst (-1), 1) := by decide +kernel
theorem dX7_step_13 : decode cX7_step 13 = .ok (.goto 11, 3) := by decide +kernel
theorem dX7_step_24 : decode cX7_step 24 = .ok (.istore_n 2, 1) := by decide +kernel
theorem dX7_step_25 : decode cX7_step 25 = .ok (.iload_n 2, 1) := by decide +kernel
theorem dX7_step_26 : decode cX7_step 26 = .ok (.bipush 10, 2) := by decide +kernel
theorem dX7_step_28 : decode cX7_step 28 = .ok (.if_icmp .eq 9, 3) := by decide +kernel
theorem dX7_step_31 : decode cX7_step 31 = .ok (.iload_n 2, 1) := by decide +kernel
theorem dX7_step_32 : decode cX7_step 32 = .ok (.bipush 14, 2) := by decide +kernel
theorem dX7_step_34 : decode cX7_step 34 = .ok (.if_icmp .ne 19, 3) := by decide +kernel
theorem dX7_step_53 : decode cX7_step 53 = .ok (.aload_n 0, 1) := by decide +kernel
theorem dX7_step_54 : decode cX7_step 54 = .ok (.dup, 1) := by decide +kernel
theorem dX7_step_55 : decode cX7_step 55 = .ok (.getfield 47, 3) := by decide +kernel
theorem dX7_step_58 : decode cX7_step 58 = .ok (.iconst 1, 1) := by decide +kernel
theorem dX7_step_59 : decode cX7_step 59 = .ok (.iadd, 1) := by decide +kernel
theorem dX7_step_60 : decode cX7_step 60 = .ok (.putfield 47, 3) := by decide +kernel
theorem dX7_step_63 : decode cX7_step 63 = .ok (.iload_n 1, 1) := by decide +kernel
theorem dX7_step_64 : decode cX7_step 64 = .ok (.iconst 1, 1) := by decide +kernel
theorem dX7_step_65 : decode cX7_step 65 = .ok (.iadd, 1) := by decide +kernel
theorem dX7_step_66 : decode cX7_step 66 = .ok (.istore_n 3, 1) := by decide +kernel
theorem dX7_step_67 : decode cX7_step 67 = .ok (.iload_n 2, 1) := by decide +kernel
theorem dX7_step_68 : decode cX7_step 68 = .ok (.tableswitch 301 (-1) 15 #[294, 301, 301, 301, 301, 301, 301, 84, 145, 97, 111, 138, 157, 301, 301, 193, 251], 84) := by decide +kernel
theorem dX7_step_362 : decode cX7_step 362 = .ok (.aload_n 0, 1) := by decide +kernel
theorem dX7_step_363 : decode cX7_step 363 = .ok (.iconst 0, 1) := by decide +kernel
theorem dX7_step_364 : decode cX7_step 364 = .ok (.invokevirtual 123, 3) := by decide +kernel
theorem dX7_step_367 : decode cX7_step 367 = .ok (.iconst 0, 1) := by decide +kernel
theorem dX7_step_368 : decode cX7_step 368 = .ok (.ireturn, 1) := by decide +kernel
theorem dX7_step_16 : decode cX7_step 16 = .ok (.aload_n 0, 1) := by decide +kernel
theorem dX7_step_17 : decode cX7_step 17 = .ok (.getfield 72, 3) := by decide +kernel
theorem dX7_step_20 : decode cX7_step 20 = .ok (.iload_n 1, 1) := by decide +kernel
theorem dX7_step_21 : decode cX7_step 21 = .ok (.invokevirtual 107, 3) := by decide +kernel
theorem dX7_step_37 : decode cX7_step 37 = .ok (.aload_n 0, 1) := by decide +kernel
theorem dX7_step_38 : decode cX7_step 38 = .ok (.getfield 38, 3) := by decide +kernel
theorem dX7_step_41 : decode cX7_step 41 = .ok (.bipush 8, 2) := by decide +kernel
theorem dX7_step_43 : decode cX7_step 43 = .ok (.if_icmp .le 10, 3) := by decide +kernel
theorem dX7_step_369 : decode cX7_step 369 = .ok (.aload_n 0, 1) := by decide +kernel
theorem dX7_step_370 : decode cX7_step 370 = .ok (.iload_n 1, 1) := by decide +kernel
theorem dX7_step_371 : decode cX7_step 371 = .ok (.iload_n 2, 1) := by decide +kernel
theorem dX7_step_372 : decode cX7_step 372 = .ok (.invokevirtual 129, 3) := by decide +kernel
theorem dX7_step_375 : decode cX7_step 375 = .ok (.aload_n 0, 1) := by decide +kernel
theorem dX7_step_376 : decode cX7_step 376 = .ok (.getfield 15, 3) := by decide +kernel
theorem dX7_step_379 : decode cX7_step 379 = .ok (.aload_n 0, 1) := by decide +kernel
theorem dX7_step_380 : decode cX7_step 380 = .ok (.getfield 65, 3) := by decide +kernel
theorem dX7_step_383 : decode cX7_step 383 = .ok (.iload_n 3, 1) := by decide +kernel
theorem dX7_step_384 : decode cX7_step 384 = .ok (.invokestatic 61, 3) := by decide +kernel
theorem dX7_step_387 : decode cX7_step 387 = .ok (.iload_n 2, 1) := by decide +kernel
theorem dX7_step_388 : decode cX7_step 388 = .ok (.bipush 11, 2) := by decide +kernel
theorem dX7_step_390 : decode cX7_step 390 = .ok (.if_icmp .ne 7, 3) := by decide +kernel
theorem dX7_step_397 : decode cX7_step 397 = .ok (.iconst 0, 1) := by decide +kernel
theorem dX7_step_398 : decode cX7_step 398 = .ok (.ireturn, 1) := by decide +kernel
theorem dX7_step_152 : decode cX7_step 152 = .ok (.aload_n 0, 1) := by decide +kernel
theorem dX7_step_153 : decode cX7_step 153 = .ok (.aload_n 0, 1) := by decide +kernel
theorem dX7_step_154 : decode cX7_step 154 = .ok (.iload_n 1, 1) := by decide +kernel
theorem dX7_step_155 : decode cX7_step 155 = .ok (.iconst 3, 1) := by decide +kernel
theorem dX7_step_156 : decode cX7_step 156 = .ok (.invokevirtual 110, 3) := by decide +kernel
theorem dX7_step_159 : decode cX7_step 159 = .ok (.invokevirtual 113, 3) := by decide +kernel
theorem dX7_step_162 : decode cX7_step 162 = .ok (.goto 213, 3) := by decide +kernel
theorem dX7_step_213 : decode cX7_step 213 = .ok (.aload_n 0, 1) := by decide +kernel
theorem dX7_step_214 : decode cX7_step 214 = .ok (.aload_n 0, 1) := by decide +kernel
theorem dX7_step_215 : decode cX7_step 215 = .ok (.iload_n 1, 1) := by decide +kernel
theorem dX7_step_216 : decode cX7_step 216 = .ok (.iconst 3, 1) := by decide +kernel
theorem dX7_step_217 : decode cX7_step 217 = .ok (.invokevirtual 110, 3) := by decide +kernel
theorem dX7_step_220 : decode cX7_step 220 = .ok (.invokevirtual 123, 3) := by decide +kernel
theorem dX7_step_223 : decode cX7_step 223 = .ok (.iconst 0, 1) := by decide +kernel
theorem dX7_step_224 : decode cX7_step 224 = .ok (.ireturn, 1) := by decide +kernel
theorem dX7_step_165 : decode cX7_step 165 = .ok (.aload_n 0, 1) := by decide +kernel
theorem dX7_step_166 : decode cX7_step 166 = .ok (.getfield 72, 3) := by decide +kernel
theorem dX7_step_169 : decode cX7_step 169 = .ok (.iload_n 1, 1) := by decide +kernel
theorem dX7_step_170 : decode cX7_step 170 = .ok (.bipush 12, 2) := by decide +kernel
theorem dX7_step_172 : decode cX7_step 172 = .ok (.invokevirtual 117, 3) := by decide +kernel
theorem dX7_step_175 : decode cX7_step 175 = .ok (.istore_n 3, 1) := by decide +kernel
theorem dX7_step_176 : decode cX7_step 176 = .ok (.goto 199, 3) := by decide +kernel
theorem dX7_step_179 : decode cX7_step 179 = .ok (.aload_n 0, 1) := by decide +kernel
theorem dX7_step_180 : decode cX7_step 180 = .ok (.iload_n 1, 1) := by decide +kernel
theorem dX7_step_181 : decode cX7_step 181 = .ok (.iconst 3, 1) := by decide +kernel
theorem dX7_step_182 : decode cX7_step 182 = .ok (.invokevirtual 110, 3) := by decide +kernel
theorem dX7_step_185 : decode cX7_step 185 = .ok (.ifCond .ne 16, 3) := by decide +kernel
theorem dX7_step_201 : decode cX7_step 201 = .ok (.iload_n 3, 1) := by decide +kernel
theorem dX7_step_202 : decode cX7_step 202 = .ok (.istore_n 3, 1) := by decide +kernel
theorem dX7_step_203 : decode cX7_step 203 = .ok (.goto 172, 3) := by decide +kernel
theorem dX7_step_188 : decode cX7_step 188 = .ok (.aload_n 0, 1) := by decide +kernel
theorem dX7_step_189 : decode cX7_step 189 = .ok (.getfield 72, 3) := by decide +kernel
theorem dX7_step_192 : decode cX7_step 192 = .ok (.iload_n 1, 1) := by decide +kernel
theorem dX7_step_193 : decode cX7_step 193 = .ok (.bipush 12, 2) := by decide +kernel
theorem dX7_step_195 : decode cX7_step 195 = .ok (.invokevirtual 117, 3) := by decide +kernel
theorem dX7_step_198 : decode cX7_step 198 = .ok (.goto 4, 3) := by decide +kernel
theorem dX7_step_206 : decode cX7_step 206 = .ok (.aload_n 0, 1) := by decide +kernel
theorem dX7_step_207 : decode cX7_step 207 = .ok (.iload_n 1, 1) := by decide +kernel
theorem dX7_step_208 : decode cX7_step 208 = .ok (.invokevirtual 120, 3) := by decide +kernel
theorem dX7_step_211 : decode cX7_step 211 = .ok (.iconst 0, 1) := by decide +kernel
theorem dX7_step_212 : decode cX7_step 212 = .ok (.ireturn, 1) := by decide +kernel
theorem dX7_step_225 : decode cX7_step 225 = .ok (.aload_n 0, 1) := by decide +kernel
theorem dX7_step_226 : decode cX7_step 226 = .ok (.getfield 21, 3) := by decide +kernel
theorem dX7_step_229 : decode cX7_step 229 = .ok (.aload_n 0, 1) := by decide +kernel
theorem dX7_step_230 : decode cX7_step 230 = .ok (.getfield 65, 3) := by decide +kernel
theorem dX7_step_233 : decode cX7_step 233 = .ok (.bipush 12, 2) := by decide +kernel
theorem dX7_step_235 : decode cX7_step 235 = .ok (.imul, 1) := by decide +kernel
theorem dX7_step_236 : decode cX7_step 236 = .ok (.aload_n 0, 1) := by decide +kernel
theorem dX7_step_237 : decode cX7_step 237 = .ok (.getfield 72, 3) := by decide +kernel
theorem dX7_step_240 : decode cX7_step 240 = .ok (.iload_n 1, 1) := by decide +kernel
theorem dX7_step_241 : decode cX7_step 241 = .ok (.iconst 2, 1) := by decide +kernel
theorem dX7_step_242 : decode cX7_step 242 = .ok (.invokevirtual 117, 3) := by decide +kernel
theorem dX7_step_245 : decode cX7_step 245 = .ok (.iadd, 1) := by decide +kernel
theorem dX7_step_246 : decode cX7_step 246 = .ok (.aload_n 0, 1) := by decide +kernel
theorem dX7_step_247 : decode cX7_step 247 = .ok (.getfield 72, 3) := by decide +kernel
theorem dX7_step_250 : decode cX7_step 250 = .ok (.iload_n 1, 1) := by decide +kernel
theorem dX7_step_251 : decode cX7_step 251 = .ok (.iconst 1, 1) := by decide +kernel
theorem dX7_step_252 : decode cX7_step 252 = .ok (.invokevirtual 117, 3) := by decide +kernel
theorem dX7_step_255 : decode cX7_step 255 = .ok (.invokestatic 61, 3) := by decide +kernel
theorem dX7_step_258 : decode cX7_step 258 = .ok (.goto 117, 3) := by decide +kernel
theorem dX7_step_393 : decode cX7_step 393 = .ok (.iconst 1, 1) := by decide +kernel
theorem dX7_step_394 : decode cX7_step 394 = .ok (.goto 4, 3) := by decide +kernel
theorem dX7_step_261 : decode cX7_step 261 = .ok (.aload_n 0, 1) := by decide +kernel
theorem dX7_step_262 : decode cX7_step 262 = .ok (.dup, 1) := by decide +kernel
theorem dX7_step_263 : decode cX7_step 263 = .ok (.getfield 38, 3) := by decide +kernel
theorem dX7_step_266 : decode cX7_step 266 = .ok (.iconst 1, 1) := by decide +kernel
theorem dX7_step_267 : decode cX7_step 267 = .ok (.iadd, 1) := by decide +kernel
theorem dX7_step_268 : decode cX7_step 268 = .ok (.putfield 38, 3) := by decide +kernel
theorem dX7_step_271 : decode cX7_step 271 = .ok (.aload_n 0, 1) := by decide +kernel
theorem dX7_step_272 : decode cX7_step 272 = .ok (.getfield 18, 3) := by decide +kernel
theorem dX7_step_275 : decode cX7_step 275 = .ok (.aload_n 0, 1) := by decide +kernel
theorem dX7_step_276 : decode cX7_step 276 = .ok (.getfield 65, 3) := by decide +kernel
theorem dX7_step_279 : decode cX7_step 279 = .ok (.aload_n 0, 1) := by decide +kernel
theorem dX7_step_280 : decode cX7_step 280 = .ok (.getfield 72, 3) := by decide +kernel
theorem dX7_step_283 : decode cX7_step 283 = .ok (.iload_n 1, 1) := by decide +kernel
theorem dX7_step_284 : decode cX7_step 284 = .ok (.iconst 1, 1) := by decide +kernel
theorem dX7_step_285 : decode cX7_step 285 = .ok (.invokevirtual 117, 3) := by decide +kernel
theorem dX7_step_288 : decode cX7_step 288 = .ok (.invokestatic 61, 3) := by decide +kernel
theorem dX7_step_291 : decode cX7_step 291 = .ok (.aload_n 0, 1) := by decide +kernel
theorem dX7_step_292 : decode cX7_step 292 = .ok (.getfield 21, 3) := by decide +kernel
theorem dX7_step_295 : decode cX7_step 295 = .ok (.aload_n 0, 1) := by decide +kernel
theorem dX7_step_296 : decode cX7_step 296 = .ok (.getfield 65, 3) := by decide +kernel
theorem dX7_step_299 : decode cX7_step 299 = .ok (.bipush 12, 2) := by decide +kernel
theorem dX7_step_301 : decode cX7_step 301 = .ok (.imul, 1) := by decide +kernel
theorem dX7_step_302 : decode cX7_step 302 = .ok (.aload_n 0, 1) := by decide +kernel
theorem dX7_step_303 : decode cX7_step 303 = .ok (.getfield 72, 3) := by decide +kernel
theorem dX7_step_306 : decode cX7_step 306 = .ok (.iload_n 1, 1) := by decide +kernel
theorem dX7_step_307 : decode cX7_step 307 = .ok (.iconst 1, 1) := by decide +kernel
theorem dX7_step_308 : decode cX7_step 308 = .ok (.invokevirtual 117, 3) := by decide +kernel
theorem dX7_step_311 : decode cX7_step 311 = .ok (.iadd, 1) := by decide +kernel
theorem dX7_step_312 : decode cX7_step 312 = .ok (.iconst 0, 1) := by decide +kernel
theorem dX7_step_313 : decode cX7_step 313 = .ok (.invokestatic 61, 3) := by decide +kernel
theorem dX7_step_316 : decode cX7_step 316 = .ok (.goto 59, 3) := by decide +kernel
theorem dX7_step_319 : decode cX7_step 319 = .ok (.aload_n 0, 1) := by decide +kernel
theorem dX7_step_320 : decode cX7_step 320 = .ok (.dup, 1) := by decide +kernel
theorem dX7_step_321 : decode cX7_step 321 = .ok (.getfield 38, 3) := by decide +kernel
theorem dX7_step_324 : decode cX7_step 324 = .ok (.iconst 1, 1) := by decide +kernel
theorem dX7_step_325 : decode cX7_step 325 = .ok (.isub, 1) := by decide +kernel
theorem dX7_step_326 : decode cX7_step 326 = .ok (.putfield 38, 3) := by decide +kernel
theorem dX7_step_329 : decode cX7_step 329 = .ok (.aload_n 0, 1) := by decide +kernel
theorem dX7_step_330 : decode cX7_step 330 = .ok (.getfield 18, 3) := by decide +kernel
theorem dX7_step_333 : decode cX7_step 333 = .ok (.aload_n 0, 1) := by decide +kernel
theorem dX7_step_334 : decode cX7_step 334 = .ok (.getfield 65, 3) := by decide +kernel
theorem dX7_step_337 : decode cX7_step 337 = .ok (.aload_n 0, 1) := by decide +kernel
theorem dX7_step_338 : decode cX7_step 338 = .ok (.getfield 72, 3) := by decide +kernel
theorem dX7_step_341 : decode cX7_step 341 = .ok (.getfield 126, 3) := by decide +kernel
theorem dX7_step_344 : decode cX7_step 344 = .ok (.aload_n 0, 1) := by decide +kernel
theorem dX7_step_345 : decode cX7_step 345 = .ok (.getfield 72, 3) := by decide +kernel
theorem dX7_step_348 : decode cX7_step 348 = .ok (.iload_n 1, 1) := by decide +kernel
theorem dX7_step_349 : decode cX7_step 349 = .ok (.iconst 1, 1) := by decide +kernel
theorem dX7_step_350 : decode cX7_step 350 = .ok (.invokevirtual 117, 3) := by decide +kernel
theorem dX7_step_353 : decode cX7_step 353 = .ok (.invokestatic 91, 3) := by decide +kernel
theorem dX7_step_356 : decode cX7_step 356 = .ok (.invokestatic 61, 3) := by decide +kernel
theorem dX7_step_359 : decode cX7_step 359 = .ok (.goto 16, 3) := by decide +kernel
theorem dX7_step_46 : decode cX7_step 46 = .ok (.aload_n 0, 1) := by decide +kernel
theorem dX7_step_47 : decode cX7_step 47 = .ok (.iconst 3, 1) := by decide +kernel
theorem dX7_step_48 : decode cX7_step 48 = .ok (.putfield 34, 3) := by decide +kernel
theorem dX7_step_51 : decode cX7_step 51 = .ok (.iconst 0, 1) := by decide +kernel
theorem dX7_step_52 : decode cX7_step 52 = .ok (.ireturn, 1) := by decide +kernel
end
section
theorem cd_X7_advance : Cond.code yX7_advance cX7_advance 6 (some .int) ∈ pWW := pw6 (List.mem_of_getElem? (i := 55) rfl) rfl
abbrev m_X7_advance : MT := (yX7_advance, cX7_advance, 6, (some .int))
theorem ok_X7_advance : pOk m_X7_advance := ⟨⟨cd_X7_advance, ini_7⟩, by decide +kernel, ⟨by decide +kernel, by decide +kernel⟩, Nat.le_of_ble_eq_true rfl⟩
theorem np_X7_advance : (parseMethodDescriptor yX7_advance.desc).map (fun d => d.parameters.length) = some 2 := by decide +kernel
theorem im_X7_advance : Cond.instanceMethod yX7_advance ∈ pWW := pw6 (List.mem_of_getElem? (i := 53) rfl) rfl
theorem se_X7_advance : Cond.selects RX7 yX7_advance yX7_advance ∈ pWW := pw6 (List.mem_of_getElem? (i := 54) rfl) rfl
theorem ml7_95 : Cond.methodLink RX7 95 yX7_step ∈ pWW := pw6 (List.mem_of_getElem? (i := 56) rfl) rfl
theorem ml7_99 : Cond.methodLink RX7 99 yX7_stops ∈ pWW := pw6 (List.mem_of_getElem? (i := 93) rfl) rfl
theorem dX7_advance_0 : decode cX7_advance 0 = .ok (.aload_n 0, 1) := by decide +kernel
theorem dX7_advance_1 : decode cX7_advance 1 = .ok (.getfield 38, 3) := by decide +kernel
theorem dX7_advance_4 : decode cX7_advance 4 = .ok (.istore_n 3, 1) := by decide +kernel
theorem dX7_advance_5 : decode cX7_advance 5 = .ok (.iconst 0, 1) := by decide +kernel
theorem dX7_advance_6 : decode cX7_advance 6 = .ok (.istore 4, 2) := by decide +kernel
theorem dX7_advance_8 : decode cX7_advance 8 = .ok (.iload 4, 2) := by decide +kernel
theorem dX7_advance_10 : decode cX7_advance 10 = .ok (.iload_n 2, 1) := by decide +kernel
theorem dX7_advance_11 : decode cX7_advance 11 = .ok (.if_icmp .ge 47, 3) := by decide +kernel
theorem dX7_advance_14 : decode cX7_advance 14 = .ok (.aload_n 0, 1) := by decide +kernel
theorem dX7_advance_15 : decode cX7_advance 15 = .ok (.getfield 34, 3) := by decide +kernel
theorem dX7_advance_18 : decode cX7_advance 18 = .ok (.iconst 1, 1) := by decide +kernel
theorem dX7_advance_19 : decode cX7_advance 19 = .ok (.if_icmp .ne 39, 3) := by decide +kernel
theorem dX7_advance_22 : decode cX7_advance 22 = .ok (.aload_n 0, 1) := by decide +kernel
theorem dX7_advance_23 : decode cX7_advance 23 = .ok (.invokevirtual 95, 3) := by decide +kernel
theorem dX7_advance_26 : decode cX7_advance 26 = .ok (.istore 5, 2) := by decide +kernel
theorem dX7_advance_28 : decode cX7_advance 28 = .ok (.aload_n 0, 1) := by decide +kernel
theorem dX7_advance_29 : decode cX7_advance 29 = .ok (.getfield 34, 3) := by decide +kernel
theorem dX7_advance_32 : decode cX7_advance 32 = .ok (.iconst 1, 1) := by decide +kernel
theorem dX7_advance_33 : decode cX7_advance 33 = .ok (.if_icmp .ne 19, 3) := by decide +kernel
theorem dX7_advance_52 : decode cX7_advance 52 = .ok (.iinc 4 1, 3) := by decide +kernel
theorem dX7_advance_55 : decode cX7_advance 55 = .ok (.goto (-47), 3) := by decide +kernel
theorem dX7_advance_36 : decode cX7_advance 36 = .ok (.iload 5, 2) := by decide +kernel
theorem dX7_advance_38 : decode cX7_advance 38 = .ok (.ifCond .eq 14, 3) := by decide +kernel
theorem dX7_advance_41 : decode cX7_advance 41 = .ok (.aload_n 0, 1) := by decide +kernel
theorem dX7_advance_42 : decode cX7_advance 42 = .ok (.iload_n 1, 1) := by decide +kernel
theorem dX7_advance_43 : decode cX7_advance 43 = .ok (.iload_n 3, 1) := by decide +kernel
theorem dX7_advance_44 : decode cX7_advance 44 = .ok (.invokevirtual 99, 3) := by decide +kernel
theorem dX7_advance_47 : decode cX7_advance 47 = .ok (.ifCond .eq 5, 3) := by decide +kernel
theorem dX7_advance_50 : decode cX7_advance 50 = .ok (.iconst 1, 1) := by decide +kernel
theorem dX7_advance_51 : decode cX7_advance 51 = .ok (.ireturn, 1) := by decide +kernel
theorem dX7_advance_58 : decode cX7_advance 58 = .ok (.aload_n 0, 1) := by decide +kernel
theorem dX7_advance_59 : decode cX7_advance 59 = .ok (.getfield 34, 3) := by decide +kernel
theorem dX7_advance_62 : decode cX7_advance 62 = .ok (.iconst 1, 1) := by decide +kernel
theorem dX7_advance_63 : decode cX7_advance 63 = .ok (.if_icmp .ne 5, 3) := by decide +kernel
theorem dX7_advance_68 : decode cX7_advance 68 = .ok (.aload_n 0, 1) := by decide +kernel
theorem dX7_advance_69 : decode cX7_advance 69 = .ok (.getfield 34, 3) := by decide +kernel
theorem dX7_advance_72 : decode cX7_advance 72 = .ok (.iconst 2, 1) := by decide +kernel
theorem dX7_advance_73 : decode cX7_advance 73 = .ok (.if_icmp .ne 7, 3) := by decide +kernel
theorem dX7_advance_80 : decode cX7_advance 80 = .ok (.iconst 3, 1) := by decide +kernel
theorem dX7_advance_81 : decode cX7_advance 81 = .ok (.ireturn, 1) := by decide +kernel
theorem dX7_advance_76 : decode cX7_advance 76 = .ok (.iconst 0, 1) := by decide +kernel
theorem dX7_advance_77 : decode cX7_advance 77 = .ok (.goto 4, 3) := by decide +kernel
theorem dX7_advance_66 : decode cX7_advance 66 = .ok (.iconst 2, 1) := by decide +kernel
theorem dX7_advance_67 : decode cX7_advance 67 = .ok (.ireturn, 1) := by decide +kernel
end
section
theorem cd_X7_foundSource : Cond.code yX7_foundSource cX7_foundSource 1 (some .int) ∈ pWW := pw6 (List.mem_of_getElem? (i := 132) rfl) rfl
abbrev m_X7_foundSource : MT := (yX7_foundSource, cX7_foundSource, 1, (some .int))
theorem ok_X7_foundSource : pOk m_X7_foundSource := ⟨⟨cd_X7_foundSource, ini_7⟩, by decide +kernel, ⟨by decide +kernel, by decide +kernel⟩, Nat.le_of_ble_eq_true rfl⟩
theorem np_X7_foundSource : (parseMethodDescriptor yX7_foundSource.desc).map (fun d => d.parameters.length) = some 0 := by decide +kernel
theorem im_X7_foundSource : Cond.instanceMethod yX7_foundSource ∈ pWW := pw6 (List.mem_of_getElem? (i := 130) rfl) rfl
theorem se_X7_foundSource : Cond.selects RX7 yX7_foundSource yX7_foundSource ∈ pWW := pw6 (List.mem_of_getElem? (i := 131) rfl) rfl
theorem fl7_143 : Cond.fieldLink RX7 143 (TX7 15).1 (TX7 15).2.1 (TX7 15).2.2.1 ∈ pWW := pw2 (List.mem_of_getElem? (i := 159) rfl) rfl
theorem dX7_foundSource_0 : decode cX7_foundSource 0 = .ok (.aload_n 0, 1) := by decide +kernel
theorem dX7_foundSource_1 : decode cX7_foundSource 1 = .ok (.getfield 9, 3) := by decide +kernel
theorem dX7_foundSource_4 : decode cX7_foundSource 4 = .ok (.aload_n 0, 1) := by decide +kernel
theorem dX7_foundSource_5 : decode cX7_foundSource 5 = .ok (.getfield 143, 3) := by decide +kernel
theorem dX7_foundSource_8 : decode cX7_foundSource 8 = .ok (.invokestatic 91, 3) := by decide +kernel
theorem dX7_foundSource_11 : decode cX7_foundSource 11 = .ok (.ireturn, 1) := by decide +kernel
set_option maxRecDepth 20000 in
theorem k_X7_foundSource (d : Nat) {T : CT} {σ : MS} {a : Nat} (ha : OB T a 7) (hw : WT T σ) : Tn (d + 2) m_X7_foundSource 0 T σ [(0, .ref a)] [] (fun ro T2 σ2 => ∃ v : Int, ro = some (.int (iI v)) ∧ T = T2 ∧ σ = σ2 ∧ (-2147483648 ≤ v ∧ v ≤ 2147483647)) := by
  refine tn_aload_n dX7_foundSource_0 rfl 0 rfl ?_
  obtain ⟨x1, hx2, hk3, hl4⟩ : ∃ x : Nat, σ.2.1 59 a = (x : Int) ∧ AR T x 15 9 9 := wf_59 hw ha
  have hk3i : IA T x1 := by unfold IA; omega
  refine tn_getR (ci := 7) (i := 4) (n := 59) (x := x1) dX7_foundSource_1 rfl lay_7 (by decide) fl7_9 ha rfl rfl (hx2) ?_
  refine tn_aload_n dX7_foundSource_4 rfl 0 rfl ?_
  refine tn_getI (ci := 7) (i := 15) (n := 70) (t := σ.2.1 70 a) dX7_foundSource_5 rfl lay_7 (by decide) fl7_143 ha rfl rfl (rfl) ?_
  have g5 : ((-2147483648 : Int) ≤ σ.2.1 70 a ∧ σ.2.1 70 a ≤ 2147483647) := wf_70 hw ha
  refine tn_callSN (M := m_X7_foundSource) (pc := 8) (ix := 91) (M' := m_X11_at) (As := [.ref x1, .int (iI (σ.2.1 70 a))]) (rest := []) dX7_foundSource_8 ok_X11_at stt_X11_at nl7_91 np_X11_at rfl (Nat.le_of_ble_eq_true rfl) (Nat.le_of_ble_eq_true rfl) rfl (k_X11_at (d) (T := T) (σ := σ) (x := x1) (i := σ.2.1 70 a) hk3i (by omega) (by omega) hw ) (fun r6 T8 σ7 gt9 hp => ?_)
  obtain ⟨v13, rfl, rfl, rfl, f10, f11, f12⟩ := hp
  clear gt9
  clear f11 f12
  show Tn _ _ 11 T σ [(0, .ref a)] [.int (iI v13)] _
  exact tn_iret rfl dX7_foundSource_11 ⟨_, rfl, rfl, rfl, by omega⟩
end
section
theorem cd_X7_foundCode : Cond.code yX7_foundCode cX7_foundCode 1 (some (.object "LineKeeper$Code")) ∈ pWW := pw6 (List.mem_of_getElem? (i := 112) rfl) rfl
abbrev m_X7_foundCode : MT := (yX7_foundCode, cX7_foundCode, 1, (some (.object "LineKeeper$Code")))
theorem ok_X7_foundCode : pOk m_X7_foundCode := ⟨⟨cd_X7_foundCode, ini_7⟩, by decide +kernel, ⟨by decide +kernel, by decide +kernel⟩, Nat.le_of_ble_eq_true rfl⟩
theorem np_X7_foundCode : (parseMethodDescriptor yX7_foundCode.desc).map (fun d => d.parameters.length) = some 0 := by decide +kernel
theorem im_X7_foundCode : Cond.instanceMethod yX7_foundCode ∈ pWW := pw6 (List.mem_of_getElem? (i := 110) rfl) rfl
theorem se_X7_foundCode : Cond.selects RX7 yX7_foundCode yX7_foundCode ∈ pWW := pw6 (List.mem_of_getElem? (i := 111) rfl) rfl
theorem dX7_foundCode_0 : decode cX7_foundCode 0 = .ok (.aload_n 0, 1) := by decide +kernel
theorem dX7_foundCode_1 : decode cX7_foundCode 1 = .ok (.aload_n 0, 1) := by decide +kernel
theorem dX7_foundCode_2 : decode cX7_foundCode 2 = .ok (.getfield 9, 3) := by decide +kernel
theorem dX7_foundCode_5 : decode cX7_foundCode 5 = .ok (.aload_n 0, 1) := by decide +kernel
theorem dX7_foundCode_6 : decode cX7_foundCode 6 = .ok (.getfield 143, 3) := by decide +kernel
theorem dX7_foundCode_9 : decode cX7_foundCode 9 = .ok (.invokestatic 91, 3) := by decide +kernel
theorem dX7_foundCode_12 : decode cX7_foundCode 12 = .ok (.invokevirtual 68, 3) := by decide +kernel
theorem dX7_foundCode_15 : decode cX7_foundCode 15 = .ok (.areturn, 1) := by decide +kernel
set_option maxRecDepth 20000 in
theorem k_X7_foundCode (d : Nat) {T : CT} {σ : MS} {a : Nat} (ha : OB T a 7) (hw : WT T σ) : Tn (d + 2) m_X7_foundCode 0 T σ [(0, .ref a)] [] (fun ro T2 σ2 => ∃ v : Int, ro = some (vl true v) ∧ T = T2 ∧ σ = σ2 ∧ (v < 0 ∨ ∃ x : Nat, v = (x : Int) ∧ OB T2 x 1 ∧ RC T2 a x) ∧ (CAT (FRV T σ a) v)) := by
  refine tn_aload_n dX7_foundCode_0 rfl 0 rfl ?_
  refine tn_aload_n dX7_foundCode_1 rfl 0 rfl ?_
  obtain ⟨x1, hx2, hk3, hl4⟩ : ∃ x : Nat, σ.2.1 59 a = (x : Int) ∧ AR T x 15 9 9 := wf_59 hw ha
  have hk3i : IA T x1 := by unfold IA; omega
  refine tn_getR (ci := 7) (i := 4) (n := 59) (x := x1) dX7_foundCode_2 rfl lay_7 (by decide) fl7_9 ha rfl rfl (hx2) ?_
  refine tn_aload_n dX7_foundCode_5 rfl 0 rfl ?_
  refine tn_getI (ci := 7) (i := 15) (n := 70) (t := σ.2.1 70 a) dX7_foundCode_6 rfl lay_7 (by decide) fl7_143 ha rfl rfl (rfl) ?_
  have g5 : ((-2147483648 : Int) ≤ σ.2.1 70 a ∧ σ.2.1 70 a ≤ 2147483647) := wf_70 hw ha
  refine tn_callSN (M := m_X7_foundCode) (pc := 9) (ix := 91) (M' := m_X11_at) (As := [.ref x1, .int (iI (σ.2.1 70 a))]) (rest := [.ref a]) dX7_foundCode_9 ok_X11_at stt_X11_at nl7_91 np_X11_at rfl (Nat.le_of_ble_eq_true rfl) (Nat.le_of_ble_eq_true rfl) rfl (k_X11_at (d) (T := T) (σ := σ) (x := x1) (i := σ.2.1 70 a) hk3i (by omega) (by omega) hw ) (fun r6 T8 σ7 gt9 hp => ?_)
  obtain ⟨v13, rfl, rfl, rfl, f10, f11, f12⟩ := hp
  clear gt9
  show Tn _ _ 12 T σ [(0, .ref a)] [.int (iI v13), .ref a] _
  refine tn_callV (M := m_X7_foundCode) (pc := 12) (ix := 68) (ci := 7) (M' := m_X7_codeAt) (As := [.int (iI v13)]) (rest := []) dX7_foundCode_12 ok_X7_codeAt im_X7_codeAt se_X7_codeAt ml7_68 np_X7_codeAt rfl rfl ha rfl (Nat.le_of_ble_eq_true rfl) (Nat.le_of_ble_eq_true rfl) rfl (k_X7_codeAt (d) (T := T) (σ := σ) (a := a) (r := v13) ha (by omega) hw ) (fun r14 T16 σ15 gt17 hp => ?_)
  obtain ⟨v19, rfl, rfl, rfl, rv20, f18⟩ := hp
  clear gt17
  rcases rv20 with rv20 | ⟨x21, rfl, hk22⟩
  · show Tn _ _ 15 T σ [(0, .ref a)] (vl true v19 :: []) _
    rw [vl_null rv20]
    exact tn_aret rfl (Or.inl ⟨_, rfl⟩) (Or.inl rfl) dX7_foundCode_15 ⟨-1, congrArg some (vl_null (by decide)).symm, rfl, rfl, Or.inl (by decide), (frv_of hx2 rfl f12) ▸ (CAT.neg f18 rv20)⟩
  · show Tn _ _ 15 T σ [(0, .ref a)] (vl true (x21 : Int) :: []) _
    rw [vl_ref rfl]
    have hk22o : OB T x21 1 := hk22.1
    exact tn_aret rfl (Or.inl ⟨_, rfl⟩) (Or.inr ⟨_, rfl⟩) dX7_foundCode_15 ⟨(x21 : Int), congrArg some (vl_ref rfl).symm, rfl, rfl, Or.inr ⟨_, rfl, hk22o, hk22.2⟩, (frv_of hx2 rfl f12) ▸ f18⟩
end
section
theorem cd_X7_foundRoutine : Cond.code yX7_foundRoutine cX7_foundRoutine 2 (some .int) ∈ pWW := pw6 (List.mem_of_getElem? (i := 120) rfl) rfl
abbrev m_X7_foundRoutine : MT := (yX7_foundRoutine, cX7_foundRoutine, 2, (some .int))
theorem ok_X7_foundRoutine : pOk m_X7_foundRoutine := ⟨⟨cd_X7_foundRoutine, ini_7⟩, by decide +kernel, ⟨by decide +kernel, by decide +kernel⟩, Nat.le_of_ble_eq_true rfl⟩
theorem np_X7_foundRoutine : (parseMethodDescriptor yX7_foundRoutine.desc).map (fun d => d.parameters.length) = some 0 := by decide +kernel
theorem im_X7_foundRoutine : Cond.instanceMethod yX7_foundRoutine ∈ pWW := pw6 (List.mem_of_getElem? (i := 118) rfl) rfl
theorem se_X7_foundRoutine : Cond.selects RX7 yX7_foundRoutine yX7_foundRoutine ∈ pWW := pw6 (List.mem_of_getElem? (i := 119) rfl) rfl
theorem ml7_152 : Cond.methodLink RX7 152 yX7_foundCode ∈ pWW := pw6 (List.mem_of_getElem? (i := 109) rfl) rfl
theorem fl7_156 : Cond.fieldLink RX7 156 (TX1 6).1 (TX1 6).2.1 (TX1 6).2.2.1 ∈ pWW := pw1 (List.mem_of_getElem? (i := 110) rfl) rfl
theorem fl7_146 : Cond.fieldLink RX7 146 (TX7 16).1 (TX7 16).2.1 (TX7 16).2.2.1 ∈ pWW := pw2 (List.mem_of_getElem? (i := 160) rfl) rfl
theorem dX7_foundRoutine_0 : decode cX7_foundRoutine 0 = .ok (.aload_n 0, 1) := by decide +kernel
theorem dX7_foundRoutine_1 : decode cX7_foundRoutine 1 = .ok (.invokevirtual 152, 3) := by decide +kernel
theorem dX7_foundRoutine_4 : decode cX7_foundRoutine 4 = .ok (.astore_n 1, 1) := by decide +kernel
theorem dX7_foundRoutine_5 : decode cX7_foundRoutine 5 = .ok (.aload_n 1, 1) := by decide +kernel
theorem dX7_foundRoutine_6 : decode cX7_foundRoutine 6 = .ok (.ifnonnull 7, 3) := by decide +kernel
theorem dX7_foundRoutine_9 : decode cX7_foundRoutine 9 = .ok (.iconst (-1), 1) := by decide +kernel
theorem dX7_foundRoutine_10 : decode cX7_foundRoutine 10 = .ok (.goto 14, 3) := by decide +kernel
theorem dX7_foundRoutine_24 : decode cX7_foundRoutine 24 = .ok (.ireturn, 1) := by decide +kernel
theorem dX7_foundRoutine_13 : decode cX7_foundRoutine 13 = .ok (.aload_n 1, 1) := by decide +kernel
theorem dX7_foundRoutine_14 : decode cX7_foundRoutine 14 = .ok (.getfield 156, 3) := by decide +kernel
theorem dX7_foundRoutine_17 : decode cX7_foundRoutine 17 = .ok (.aload_n 0, 1) := by decide +kernel
theorem dX7_foundRoutine_18 : decode cX7_foundRoutine 18 = .ok (.getfield 146, 3) := by decide +kernel
theorem dX7_foundRoutine_21 : decode cX7_foundRoutine 21 = .ok (.invokestatic 91, 3) := by decide +kernel
end
section
theorem cd_X7_foundLine : Cond.code yX7_foundLine cX7_foundLine 1 (some .int) ∈ pWW := pw6 (List.mem_of_getElem? (i := 116) rfl) rfl
abbrev m_X7_foundLine : MT := (yX7_foundLine, cX7_foundLine, 1, (some .int))
theorem ok_X7_foundLine : pOk m_X7_foundLine := ⟨⟨cd_X7_foundLine, ini_7⟩, by decide +kernel, ⟨by decide +kernel, by decide +kernel⟩, Nat.le_of_ble_eq_true rfl⟩
theorem np_X7_foundLine : (parseMethodDescriptor yX7_foundLine.desc).map (fun d => d.parameters.length) = some 0 := by decide +kernel
theorem im_X7_foundLine : Cond.instanceMethod yX7_foundLine ∈ pWW := pw6 (List.mem_of_getElem? (i := 114) rfl) rfl
theorem se_X7_foundLine : Cond.selects RX7 yX7_foundLine yX7_foundLine ∈ pWW := pw6 (List.mem_of_getElem? (i := 115) rfl) rfl
theorem dX7_foundLine_0 : decode cX7_foundLine 0 = .ok (.aload_n 0, 1) := by decide +kernel
theorem dX7_foundLine_1 : decode cX7_foundLine 1 = .ok (.getfield 21, 3) := by decide +kernel
theorem dX7_foundLine_4 : decode cX7_foundLine 4 = .ok (.aload_n 0, 1) := by decide +kernel
theorem dX7_foundLine_5 : decode cX7_foundLine 5 = .ok (.getfield 143, 3) := by decide +kernel
theorem dX7_foundLine_8 : decode cX7_foundLine 8 = .ok (.bipush 12, 2) := by decide +kernel
theorem dX7_foundLine_10 : decode cX7_foundLine 10 = .ok (.imul, 1) := by decide +kernel
theorem dX7_foundLine_11 : decode cX7_foundLine 11 = .ok (.aload_n 0, 1) := by decide +kernel
theorem dX7_foundLine_12 : decode cX7_foundLine 12 = .ok (.getfield 146, 3) := by decide +kernel
theorem dX7_foundLine_15 : decode cX7_foundLine 15 = .ok (.iadd, 1) := by decide +kernel
theorem dX7_foundLine_16 : decode cX7_foundLine 16 = .ok (.invokestatic 91, 3) := by decide +kernel
theorem dX7_foundLine_19 : decode cX7_foundLine 19 = .ok (.ireturn, 1) := by decide +kernel
end
section
theorem cd_X7_foundNames : Cond.code yX7_foundNames cX7_foundNames 2 (some .int) ∈ pWW := pw6 (List.mem_of_getElem? (i := 124) rfl) rfl
abbrev m_X7_foundNames : MT := (yX7_foundNames, cX7_foundNames, 2, (some .int))
theorem ok_X7_foundNames : pOk m_X7_foundNames := ⟨⟨cd_X7_foundNames, ini_7⟩, by decide +kernel, ⟨by decide +kernel, by decide +kernel⟩, Nat.le_of_ble_eq_true rfl⟩
theorem np_X7_foundNames : (parseMethodDescriptor yX7_foundNames.desc).map (fun d => d.parameters.length) = some 0 := by decide +kernel
theorem im_X7_foundNames : Cond.instanceMethod yX7_foundNames ∈ pWW := pw6 (List.mem_of_getElem? (i := 122) rfl) rfl
theorem se_X7_foundNames : Cond.selects RX7 yX7_foundNames yX7_foundNames ∈ pWW := pw6 (List.mem_of_getElem? (i := 123) rfl) rfl
theorem fl7_159 : Cond.fieldLink RX7 159 (TX1 9).1 (TX1 9).2.1 (TX1 9).2.2.1 ∈ pWW := pw1 (List.mem_of_getElem? (i := 122) rfl) rfl
theorem dX7_foundNames_0 : decode cX7_foundNames 0 = .ok (.aload_n 0, 1) := by decide +kernel
theorem dX7_foundNames_1 : decode cX7_foundNames 1 = .ok (.invokevirtual 152, 3) := by decide +kernel
theorem dX7_foundNames_4 : decode cX7_foundNames 4 = .ok (.astore_n 1, 1) := by decide +kernel
theorem dX7_foundNames_5 : decode cX7_foundNames 5 = .ok (.aload_n 1, 1) := by decide +kernel
theorem dX7_foundNames_6 : decode cX7_foundNames 6 = .ok (.ifnonnull 7, 3) := by decide +kernel
theorem dX7_foundNames_9 : decode cX7_foundNames 9 = .ok (.iconst 0, 1) := by decide +kernel
theorem dX7_foundNames_10 : decode cX7_foundNames 10 = .ok (.goto 14, 3) := by decide +kernel
theorem dX7_foundNames_24 : decode cX7_foundNames 24 = .ok (.ireturn, 1) := by decide +kernel
theorem dX7_foundNames_13 : decode cX7_foundNames 13 = .ok (.aload_n 1, 1) := by decide +kernel
theorem dX7_foundNames_14 : decode cX7_foundNames 14 = .ok (.getfield 159, 3) := by decide +kernel
theorem dX7_foundNames_17 : decode cX7_foundNames 17 = .ok (.aload_n 0, 1) := by decide +kernel
theorem dX7_foundNames_18 : decode cX7_foundNames 18 = .ok (.getfield 146, 3) := by decide +kernel
theorem dX7_foundNames_21 : decode cX7_foundNames 21 = .ok (.invokestatic 91, 3) := by decide +kernel
set_option maxRecDepth 20000 in
theorem k_X7_foundNames (d : Nat) {T : CT} {σ : MS} {a : Nat} (ha : OB T a 7) (hw : WT T σ) : Tn (d + 3) m_X7_foundNames 0 T σ [(0, .ref a)] [] (fun ro T2 σ2 => ∃ v : Int, ro = some (.int (iI v)) ∧ T = T2 ∧ σ = σ2 ∧ (0 ≤ v ∧ v ≤ 12)) := by
  refine tn_aload_n dX7_foundNames_0 rfl 0 rfl ?_
  refine tn_callV (M := m_X7_foundNames) (pc := 1) (ix := 152) (ci := 7) (M' := m_X7_foundCode) (As := []) (rest := []) dX7_foundNames_1 ok_X7_foundCode im_X7_foundCode se_X7_foundCode ml7_152 np_X7_foundCode rfl rfl ha rfl (Nat.le_of_ble_eq_true rfl) (Nat.le_of_ble_eq_true rfl) rfl (k_X7_foundCode (d) (T := T) (σ := σ) (a := a) ha hw ) (fun r1 T3 σ2 gt4 hp => ?_)
  obtain ⟨v6, rfl, rfl, rfl, rv7, f5⟩ := hp
  clear gt4
  clear f5
  rcases rv7 with rv7 | ⟨x8, rfl, hk9⟩
  · show Tn _ _ 4 T σ [(0, .ref a)] (vl true v6 :: []) _
    rw [vl_null rv7]
    refine tn_astore_nN (L' := [(1, .null), (0, .ref a)]) dX7_foundNames_4 rfl (by decide) rfl ?_
    refine tn_aload_nN dX7_foundNames_5 rfl 0 rfl ?_
    refine tn_ifnonnullN dX7_foundNames_6 ?_
    refine tn_iconst dX7_foundNames_9 ?_
    refine tn_goto (tgt := 24) dX7_foundNames_10 (by decide) ?_
    exact tn_iret rfl dX7_foundNames_24 ⟨_, rfl, rfl, rfl, by omega⟩
  · show Tn _ _ 4 T σ [(0, .ref a)] (vl true (x8 : Int) :: []) _
    rw [vl_ref rfl]
    have hk9o : OB T x8 1 := hk9.1
    refine tn_astore_n (L' := [(1, .ref x8), (0, .ref a)]) dX7_foundNames_4 rfl (by decide) rfl ?_
    refine tn_aload_n dX7_foundNames_5 rfl 0 rfl ?_
    refine tn_ifnonnull (tgt := 13) dX7_foundNames_6 (by decide) ?_
    refine tn_aload_n dX7_foundNames_13 rfl 0 rfl ?_
    obtain ⟨x10, hx11, hk12, hl13⟩ : ∃ x : Nat, σ.2.1 14 x8 = (x : Int) ∧ AR T x 11 12 12 := wf_14 hw hk9o
    have hk12i : IA T x10 := by unfold IA; omega
    refine tn_getR (ci := 1) (i := 9) (n := 14) (x := x10) dX7_foundNames_14 rfl lay_1 (by decide) fl7_159 hk9o rfl rfl (hx11) ?_
    refine tn_aload_n dX7_foundNames_17 rfl 1 rfl ?_
    refine tn_getI (ci := 7) (i := 16) (n := 71) (t := σ.2.1 71 a) dX7_foundNames_18 rfl lay_7 (by decide) fl7_146 ha rfl rfl (rfl) ?_
    have g14 : ((-2147483648 : Int) ≤ σ.2.1 71 a ∧ σ.2.1 71 a ≤ 2147483647) := wf_71 hw ha
    refine tn_callSN (M := m_X7_foundNames) (pc := 21) (ix := 91) (M' := m_X11_at) (As := [.ref x10, .int (iI (σ.2.1 71 a))]) (rest := []) dX7_foundNames_21 ok_X11_at stt_X11_at nl7_91 np_X11_at rfl (Nat.le_of_ble_eq_true rfl) (Nat.le_of_ble_eq_true rfl) rfl (k_X11_at (d + 1) (T := T) (σ := σ) (x := x10) (i := σ.2.1 71 a) hk12i (by omega) (by omega) hw ) (fun r15 T17 σ16 gt18 hp => ?_)
    obtain ⟨v22, rfl, rfl, rfl, f19, f20, f21⟩ := hp
    clear gt18
    have f20n := f20.2.1 hk12
    clear f20 f21
    show Tn _ _ 24 T σ [(1, .ref x8), (0, .ref a)] [.int (iI v22)] _
    exact tn_iret rfl dX7_foundNames_24 ⟨_, rfl, rfl, rfl, by omega⟩
end
section
theorem cd_X7_foundSlot : Cond.code yX7_foundSlot cX7_foundSlot 2 (some .int) ∈ pWW := pw6 (List.mem_of_getElem? (i := 142) rfl) rfl
abbrev m_X7_foundSlot : MT := (yX7_foundSlot, cX7_foundSlot, 2, (some .int))
theorem ok_X7_foundSlot : pOk m_X7_foundSlot := ⟨⟨cd_X7_foundSlot, ini_7⟩, by decide +kernel, ⟨by decide +kernel, by decide +kernel⟩, Nat.le_of_ble_eq_true rfl⟩
theorem np_X7_foundSlot : (parseMethodDescriptor yX7_foundSlot.desc).map (fun d => d.parameters.length) = some 1 := by decide +kernel
theorem im_X7_foundSlot : Cond.instanceMethod yX7_foundSlot ∈ pWW := pw6 (List.mem_of_getElem? (i := 140) rfl) rfl
theorem se_X7_foundSlot : Cond.selects RX7 yX7_foundSlot yX7_foundSlot ∈ pWW := pw6 (List.mem_of_getElem? (i := 141) rfl) rfl
theorem ml7_162 : Cond.methodLink RX7 162 yX10_slotAt ∈ pWW := pw6 (List.mem_of_getElem? (i := 143) rfl) rfl
theorem dX7_foundSlot_0 : decode cX7_foundSlot 0 = .ok (.aload_n 1, 1) := by decide +kernel
theorem dX7_foundSlot_1 : decode cX7_foundSlot 1 = .ok (.aload_n 0, 1) := by decide +kernel
theorem dX7_foundSlot_2 : decode cX7_foundSlot 2 = .ok (.invokevirtual 152, 3) := by decide +kernel
theorem dX7_foundSlot_5 : decode cX7_foundSlot 5 = .ok (.aload_n 0, 1) := by decide +kernel
theorem dX7_foundSlot_6 : decode cX7_foundSlot 6 = .ok (.getfield 15, 3) := by decide +kernel
theorem dX7_foundSlot_9 : decode cX7_foundSlot 9 = .ok (.aload_n 0, 1) := by decide +kernel
theorem dX7_foundSlot_10 : decode cX7_foundSlot 10 = .ok (.getfield 143, 3) := by decide +kernel
theorem dX7_foundSlot_13 : decode cX7_foundSlot 13 = .ok (.invokestatic 91, 3) := by decide +kernel
theorem dX7_foundSlot_16 : decode cX7_foundSlot 16 = .ok (.aload_n 0, 1) := by decide +kernel
theorem dX7_foundSlot_17 : decode cX7_foundSlot 17 = .ok (.getfield 146, 3) := by decide +kernel
theorem dX7_foundSlot_20 : decode cX7_foundSlot 20 = .ok (.invokevirtual 162, 3) := by decide +kernel
theorem dX7_foundSlot_23 : decode cX7_foundSlot 23 = .ok (.ireturn, 1) := by decide +kernel
set_option maxRecDepth 20000 in
theorem k_X7_foundSlot (d : Nat) {T : CT} {σ : MS} {a : Nat} {p1 : Nat} (ha : OB T a 7) (h_p1 : OB T p1 10) (hw : WT T σ) : Tn (d + 3) m_X7_foundSlot 0 T σ [(0, .ref a), (1, .ref p1)] [] (fun ro T2 σ2 => ∃ v : Int, ro = some (.int (iI v)) ∧ T = T2 ∧ σ = σ2 ∧ (-2147483648 ≤ v ∧ v ≤ 2147483647)) := by
  refine tn_aload_n dX7_foundSlot_0 rfl 1 rfl ?_
  refine tn_aload_n dX7_foundSlot_1 rfl 0 rfl ?_
  refine tn_callV (M := m_X7_foundSlot) (pc := 2) (ix := 152) (ci := 7) (M' := m_X7_foundCode) (As := []) (rest := [.ref p1]) dX7_foundSlot_2 ok_X7_foundCode im_X7_foundCode se_X7_foundCode ml7_152 np_X7_foundCode rfl rfl ha rfl (Nat.le_of_ble_eq_true rfl) (Nat.le_of_ble_eq_true rfl) rfl (k_X7_foundCode (d) (T := T) (σ := σ) (a := a) ha hw ) (fun r1 T3 σ2 gt4 hp => ?_)
  obtain ⟨v6, rfl, rfl, rfl, rv7, f5⟩ := hp
  clear gt4
  clear f5
  rcases rv7 with rv7 | ⟨x8, rfl, hk9⟩
  · show Tn _ _ 5 T σ [(0, .ref a), (1, .ref p1)] (vl true v6 :: [.ref p1]) _
    rw [vl_null rv7]
    refine tn_aload_n dX7_foundSlot_5 rfl 0 rfl ?_
    obtain ⟨x10, hx11, hk12, hl13⟩ : ∃ x : Nat, σ.2.1 60 a = (x : Int) ∧ AR T x 1 9 9 := wf_60 hw ha
    have hk12i : IA T x10 := by unfold IA; omega
    refine tn_getR (ci := 7) (i := 5) (n := 60) (x := x10) dX7_foundSlot_6 rfl lay_7 (by decide) fl7_15 ha rfl rfl (hx11) ?_
    refine tn_aload_n dX7_foundSlot_9 rfl 0 rfl ?_
    refine tn_getI (ci := 7) (i := 15) (n := 70) (t := σ.2.1 70 a) dX7_foundSlot_10 rfl lay_7 (by decide) fl7_143 ha rfl rfl (rfl) ?_
    have g14 : ((-2147483648 : Int) ≤ σ.2.1 70 a ∧ σ.2.1 70 a ≤ 2147483647) := wf_70 hw ha
    refine tn_callSN (M := m_X7_foundSlot) (pc := 13) (ix := 91) (M' := m_X11_at) (As := [.ref x10, .int (iI (σ.2.1 70 a))]) (rest := [.null, .ref p1]) dX7_foundSlot_13 ok_X11_at stt_X11_at nl7_91 np_X11_at rfl (Nat.le_of_ble_eq_true rfl) (Nat.le_of_ble_eq_true rfl) rfl (k_X11_at (d + 1) (T := T) (σ := σ) (x := x10) (i := σ.2.1 70 a) hk12i (by omega) (by omega) hw ) (fun r15 T17 σ16 gt18 hp => ?_)
    obtain ⟨v22, rfl, rfl, rfl, f19, f20, f21⟩ := hp
    clear gt18
    clear f20 f21
    show Tn _ _ 16 T σ [(0, .ref a), (1, .ref p1)] [.int (iI v22), .null, .ref p1] _
    refine tn_aload_n dX7_foundSlot_16 rfl 0 rfl ?_
    refine tn_getI (ci := 7) (i := 16) (n := 71) (t := σ.2.1 71 a) dX7_foundSlot_17 rfl lay_7 (by decide) fl7_146 ha rfl rfl (rfl) ?_
    have g23 : ((-2147483648 : Int) ≤ σ.2.1 71 a ∧ σ.2.1 71 a ≤ 2147483647) := wf_71 hw ha
    refine tn_callV (M := m_X7_foundSlot) (pc := 20) (ix := 162) (ci := 10) (M' := m_X10_slotAt) (As := [.null, .int (iI v22), .int (iI (σ.2.1 71 a))]) (rest := []) dX7_foundSlot_20 ok_X10_slotAt im_X10_slotAt se_X10_slotAt ml7_162 np_X10_slotAt rfl rfl h_p1 rfl (Nat.le_of_ble_eq_true rfl) (Nat.le_of_ble_eq_true rfl) rfl (k_X10_slotAt_0 (d) (T := T) (σ := σ) (a := p1) (k := v22) (f := σ.2.1 71 a) h_p1 (by omega) (by omega) hw ) (fun r24 T26 σ25 gt27 hp => ?_)
    obtain ⟨v29, rfl, rfl, rfl, f28⟩ := hp
    clear gt27
    show Tn _ _ 23 T σ [(0, .ref a), (1, .ref p1)] [.int (iI v29)] _
    exact tn_iret rfl dX7_foundSlot_23 ⟨_, rfl, rfl, rfl, by omega⟩
  · show Tn _ _ 5 T σ [(0, .ref a), (1, .ref p1)] (vl true (x8 : Int) :: [.ref p1]) _
    rw [vl_ref rfl]
    have hk9o : OB T x8 1 := hk9.1
    refine tn_aload_n dX7_foundSlot_5 rfl 0 rfl ?_
    obtain ⟨x30, hx31, hk32, hl33⟩ : ∃ x : Nat, σ.2.1 60 a = (x : Int) ∧ AR T x 1 9 9 := wf_60 hw ha
    have hk32i : IA T x30 := by unfold IA; omega
    refine tn_getR (ci := 7) (i := 5) (n := 60) (x := x30) dX7_foundSlot_6 rfl lay_7 (by decide) fl7_15 ha rfl rfl (hx31) ?_
    refine tn_aload_n dX7_foundSlot_9 rfl 0 rfl ?_
    refine tn_getI (ci := 7) (i := 15) (n := 70) (t := σ.2.1 70 a) dX7_foundSlot_10 rfl lay_7 (by decide) fl7_143 ha rfl rfl (rfl) ?_
    have g34 : ((-2147483648 : Int) ≤ σ.2.1 70 a ∧ σ.2.1 70 a ≤ 2147483647) := wf_70 hw ha
    refine tn_callSN (M := m_X7_foundSlot) (pc := 13) (ix := 91) (M' := m_X11_at) (As := [.ref x30, .int (iI (σ.2.1 70 a))]) (rest := [.ref x8, .ref p1]) dX7_foundSlot_13 ok_X11_at stt_X11_at nl7_91 np_X11_at rfl (Nat.le_of_ble_eq_true rfl) (Nat.le_of_ble_eq_true rfl) rfl (k_X11_at (d + 1) (T := T) (σ := σ) (x := x30) (i := σ.2.1 70 a) hk32i (by omega) (by omega) hw ) (fun r35 T37 σ36 gt38 hp => ?_)
    obtain ⟨v42, rfl, rfl, rfl, f39, f40, f41⟩ := hp
    clear gt38
    clear f40 f41
    show Tn _ _ 16 T σ [(0, .ref a), (1, .ref p1)] [.int (iI v42), .ref x8, .ref p1] _
    refine tn_aload_n dX7_foundSlot_16 rfl 0 rfl ?_
    refine tn_getI (ci := 7) (i := 16) (n := 71) (t := σ.2.1 71 a) dX7_foundSlot_17 rfl lay_7 (by decide) fl7_146 ha rfl rfl (rfl) ?_
    have g43 : ((-2147483648 : Int) ≤ σ.2.1 71 a ∧ σ.2.1 71 a ≤ 2147483647) := wf_71 hw ha
    refine tn_callV (M := m_X7_foundSlot) (pc := 20) (ix := 162) (ci := 10) (M' := m_X10_slotAt) (As := [.ref x8, .int (iI v42), .int (iI (σ.2.1 71 a))]) (rest := []) dX7_foundSlot_20 ok_X10_slotAt im_X10_slotAt se_X10_slotAt ml7_162 np_X10_slotAt rfl rfl h_p1 rfl (Nat.le_of_ble_eq_true rfl) (Nat.le_of_ble_eq_true rfl) rfl (k_X10_slotAt (d) (T := T) (σ := σ) (a := p1) (c := x8) (k := v42) (f := σ.2.1 71 a) h_p1 hk9o (by omega) (by omega) hw ) (fun r44 T46 σ45 gt47 hp => ?_)
    obtain ⟨v49, rfl, rfl, rfl, f48⟩ := hp
    clear gt47
    show Tn _ _ 23 T σ [(0, .ref a), (1, .ref p1)] [.int (iI v49)] _
    exact tn_iret rfl dX7_foundSlot_23 ⟨_, rfl, rfl, rfl, by omega⟩
end
section
theorem cd_X7_foundId : Cond.code yX7_foundId cX7_foundId 3 (some .int) ∈ pWW := pw6 (List.mem_of_getElem? (i := 137) rfl) rfl
abbrev m_X7_foundId : MT := (yX7_foundId, cX7_foundId, 3, (some .int))
theorem ok_X7_foundId : pOk m_X7_foundId := ⟨⟨cd_X7_foundId, ini_7⟩, by decide +kernel, ⟨by decide +kernel, by decide +kernel⟩, Nat.le_of_ble_eq_true rfl⟩
theorem np_X7_foundId : (parseMethodDescriptor yX7_foundId.desc).map (fun d => d.parameters.length) = some 2 := by decide +kernel
theorem im_X7_foundId : Cond.instanceMethod yX7_foundId ∈ pWW := pw6 (List.mem_of_getElem? (i := 135) rfl) rfl
theorem se_X7_foundId : Cond.selects RX7 yX7_foundId yX7_foundId ∈ pWW := pw6 (List.mem_of_getElem? (i := 136) rfl) rfl
theorem ml7_168 : Cond.methodLink RX7 168 yX7_foundSource ∈ pWW := pw6 (List.mem_of_getElem? (i := 138) rfl) rfl
theorem ml7_171 : Cond.methodLink RX7 171 yX7_foundSlot ∈ pWW := pw6 (List.mem_of_getElem? (i := 139) rfl) rfl
theorem ml7_175 : Cond.methodLink RX7 175 yX10_idIn ∈ pWW := pw6 (List.mem_of_getElem? (i := 144) rfl) rfl
theorem dX7_foundId_0 : decode cX7_foundId 0 = .ok (.aload_n 1, 1) := by decide +kernel
theorem dX7_foundId_1 : decode cX7_foundId 1 = .ok (.aload_n 0, 1) := by decide +kernel
theorem dX7_foundId_2 : decode cX7_foundId 2 = .ok (.invokevirtual 168, 3) := by decide +kernel
theorem dX7_foundId_5 : decode cX7_foundId 5 = .ok (.aload_n 0, 1) := by decide +kernel
theorem dX7_foundId_6 : decode cX7_foundId 6 = .ok (.aload_n 1, 1) := by decide +kernel
theorem dX7_foundId_7 : decode cX7_foundId 7 = .ok (.invokevirtual 171, 3) := by decide +kernel
theorem dX7_foundId_10 : decode cX7_foundId 10 = .ok (.iload_n 2, 1) := by decide +kernel
theorem dX7_foundId_11 : decode cX7_foundId 11 = .ok (.iadd, 1) := by decide +kernel
theorem dX7_foundId_12 : decode cX7_foundId 12 = .ok (.invokevirtual 175, 3) := by decide +kernel
theorem dX7_foundId_15 : decode cX7_foundId 15 = .ok (.ireturn, 1) := by decide +kernel
end
section
theorem cd_X7_foundRegister : Cond.code yX7_foundRegister cX7_foundRegister 2 (some .int) ∈ pWW := pw6 (List.mem_of_getElem? (i := 158) rfl) rfl
abbrev m_X7_foundRegister : MT := (yX7_foundRegister, cX7_foundRegister, 2, (some .int))
theorem ok_X7_foundRegister : pOk m_X7_foundRegister := ⟨⟨cd_X7_foundRegister, ini_7⟩, by decide +kernel, ⟨by decide +kernel, by decide +kernel⟩, Nat.le_of_ble_eq_true rfl⟩
theorem np_X7_foundRegister : (parseMethodDescriptor yX7_foundRegister.desc).map (fun d => d.parameters.length) = some 1 := by decide +kernel
theorem im_X7_foundRegister : Cond.instanceMethod yX7_foundRegister ∈ pWW := pw6 (List.mem_of_getElem? (i := 156) rfl) rfl
theorem se_X7_foundRegister : Cond.selects RX7 yX7_foundRegister yX7_foundRegister ∈ pWW := pw6 (List.mem_of_getElem? (i := 157) rfl) rfl
theorem dX7_foundRegister_0 : decode cX7_foundRegister 0 = .ok (.aload_n 0, 1) := by decide +kernel
theorem dX7_foundRegister_1 : decode cX7_foundRegister 1 = .ok (.getfield 24, 3) := by decide +kernel
theorem dX7_foundRegister_4 : decode cX7_foundRegister 4 = .ok (.aload_n 0, 1) := by decide +kernel
theorem dX7_foundRegister_5 : decode cX7_foundRegister 5 = .ok (.getfield 143, 3) := by decide +kernel
theorem dX7_foundRegister_8 : decode cX7_foundRegister 8 = .ok (.sipush 192, 3) := by decide +kernel
theorem dX7_foundRegister_11 : decode cX7_foundRegister 11 = .ok (.imul, 1) := by decide +kernel
theorem dX7_foundRegister_12 : decode cX7_foundRegister 12 = .ok (.iload_n 1, 1) := by decide +kernel
theorem dX7_foundRegister_13 : decode cX7_foundRegister 13 = .ok (.iadd, 1) := by decide +kernel
theorem dX7_foundRegister_14 : decode cX7_foundRegister 14 = .ok (.invokestatic 91, 3) := by decide +kernel
theorem dX7_foundRegister_17 : decode cX7_foundRegister 17 = .ok (.ireturn, 1) := by decide +kernel
set_option maxRecDepth 20000 in
theorem k_X7_foundRegister (d : Nat) {T : CT} {σ : MS} {a : Nat} {p1 : Int} (ha : OB T a 7) (h_p1 : -2147483648 ≤ p1 ∧ p1 ≤ 2147483647) (hw : WT T σ) : Tn (d + 2) m_X7_foundRegister 0 T σ [(0, .ref a), (1, .int (iI p1))] [] (fun ro T2 σ2 => ∃ v : Int, ro = some (.int (iI v)) ∧ T = T2 ∧ σ = σ2 ∧ (-2147483648 ≤ v ∧ v ≤ 2147483647)) := by
  refine tn_aload_n dX7_foundRegister_0 rfl 0 rfl ?_
  obtain ⟨x1, hx2, hk3, hl4⟩ : ∃ x : Nat, σ.2.1 63 a = (x : Int) ∧ AR T x 1 1728 1728 := wf_63 hw ha
  have hk3i : IA T x1 := by unfold IA; omega
  refine tn_getR (ci := 7) (i := 8) (n := 63) (x := x1) dX7_foundRegister_1 rfl lay_7 (by decide) fl7_24 ha rfl rfl (hx2) ?_
  refine tn_aload_n dX7_foundRegister_4 rfl 0 rfl ?_
  refine tn_getI (ci := 7) (i := 15) (n := 70) (t := σ.2.1 70 a) dX7_foundRegister_5 rfl lay_7 (by decide) fl7_143 ha rfl rfl (rfl) ?_
  have g5 : ((-2147483648 : Int) ≤ σ.2.1 70 a ∧ σ.2.1 70 a ≤ 2147483647) := wf_70 hw ha
  refine tn_sipush dX7_foundRegister_8 (by decide) ?_
  refine tn_imul dX7_foundRegister_11 ?_
  refine tn_any (fun z6 g7 => ?_)
  have g7r : -2147483648 ≤ z6 ∧ z6 ≤ 2147483647 := g7
  refine tn_iload_n dX7_foundRegister_12 rfl 1 rfl ?_
  refine tn_iadd dX7_foundRegister_13 ?_
  refine tn_any (fun z8 g9 => ?_)
  have g9r : -2147483648 ≤ z8 ∧ z8 ≤ 2147483647 := g9
  refine tn_callSN (M := m_X7_foundRegister) (pc := 14) (ix := 91) (M' := m_X11_at) (As := [.ref x1, .int (iI z8)]) (rest := []) dX7_foundRegister_14 ok_X11_at stt_X11_at nl7_91 np_X11_at rfl (Nat.le_of_ble_eq_true rfl) (Nat.le_of_ble_eq_true rfl) rfl (k_X11_at (d) (T := T) (σ := σ) (x := x1) (i := z8) hk3i (by omega) (by omega) hw ) (fun r10 T12 σ11 gt13 hp => ?_)
  obtain ⟨v17, rfl, rfl, rfl, f14, f15, f16⟩ := hp
  clear gt13
  clear f15 f16
  show Tn _ _ 17 T σ [(0, .ref a), (1, .int (iI p1))] [.int (iI v17)] _
  exact tn_iret rfl dX7_foundRegister_17 ⟨_, rfl, rfl, rfl, by omega⟩
end
section
theorem cd_X7_foundValue : Cond.code yX7_foundValue cX7_foundValue 7 (some .int) ∈ pWW := pw6 (List.mem_of_getElem? (i := 152) rfl) rfl
abbrev m_X7_foundValue : MT := (yX7_foundValue, cX7_foundValue, 7, (some .int))
theorem ok_X7_foundValue : pOk m_X7_foundValue := ⟨⟨cd_X7_foundValue, ini_7⟩, by decide +kernel, ⟨by decide +kernel, by decide +kernel⟩, Nat.le_of_ble_eq_true rfl⟩
theorem np_X7_foundValue : (parseMethodDescriptor yX7_foundValue.desc).map (fun d => d.parameters.length) = some 2 := by decide +kernel
theorem im_X7_foundValue : Cond.instanceMethod yX7_foundValue ∈ pWW := pw6 (List.mem_of_getElem? (i := 150) rfl) rfl
theorem se_X7_foundValue : Cond.selects RX7 yX7_foundValue yX7_foundValue ∈ pWW := pw6 (List.mem_of_getElem? (i := 151) rfl) rfl
theorem ml7_178 : Cond.methodLink RX7 178 yX10_whereOf ∈ pWW := pw6 (List.mem_of_getElem? (i := 153) rfl) rfl
theorem ml7_182 : Cond.methodLink RX7 182 yX10_part ∈ pWW := pw6 (List.mem_of_getElem? (i := 154) rfl) rfl
theorem ml7_185 : Cond.methodLink RX7 185 yX7_foundRegister ∈ pWW := pw6 (List.mem_of_getElem? (i := 155) rfl) rfl
theorem dX7_foundValue_0 : decode cX7_foundValue 0 = .ok (.aload_n 0, 1) := by decide +kernel
theorem dX7_foundValue_1 : decode cX7_foundValue 1 = .ok (.invokevirtual 152, 3) := by decide +kernel
theorem dX7_foundValue_4 : decode cX7_foundValue 4 = .ok (.astore_n 3, 1) := by decide +kernel
theorem dX7_foundValue_5 : decode cX7_foundValue 5 = .ok (.aload_n 3, 1) := by decide +kernel
theorem dX7_foundValue_6 : decode cX7_foundValue 6 = .ok (.ifnonnull 8, 3) := by decide +kernel
theorem dX7_foundValue_9 : decode cX7_foundValue 9 = .ok (.bipush 10, 2) := by decide +kernel
theorem dX7_foundValue_11 : decode cX7_foundValue 11 = .ok (.goto 9, 3) := by decide +kernel
theorem dX7_foundValue_20 : decode cX7_foundValue 20 = .ok (.istore 4, 2) := by decide +kernel
theorem dX7_foundValue_22 : decode cX7_foundValue 22 = .ok (.iload 4, 2) := by decide +kernel
theorem dX7_foundValue_24 : decode cX7_foundValue 24 = .ok (.bipush 10, 2) := by decide +kernel
theorem dX7_foundValue_26 : decode cX7_foundValue 26 = .ok (.if_icmp .lt 5, 3) := by decide +kernel
theorem dX7_foundValue_29 : decode cX7_foundValue 29 = .ok (.iconst 0, 1) := by decide +kernel
theorem dX7_foundValue_30 : decode cX7_foundValue 30 = .ok (.ireturn, 1) := by decide +kernel
theorem dX7_foundValue_14 : decode cX7_foundValue 14 = .ok (.aload_n 1, 1) := by decide +kernel
theorem dX7_foundValue_15 : decode cX7_foundValue 15 = .ok (.aload_n 3, 1) := by decide +kernel
theorem dX7_foundValue_16 : decode cX7_foundValue 16 = .ok (.iload_n 2, 1) := by decide +kernel
theorem dX7_foundValue_17 : decode cX7_foundValue 17 = .ok (.invokevirtual 178, 3) := by decide +kernel
theorem dX7_foundValue_31 : decode cX7_foundValue 31 = .ok (.aload_n 1, 1) := by decide +kernel
theorem dX7_foundValue_32 : decode cX7_foundValue 32 = .ok (.aload_n 3, 1) := by decide +kernel
theorem dX7_foundValue_33 : decode cX7_foundValue 33 = .ok (.iload_n 2, 1) := by decide +kernel
theorem dX7_foundValue_34 : decode cX7_foundValue 34 = .ok (.iconst 4, 1) := by decide +kernel
theorem dX7_foundValue_35 : decode cX7_foundValue 35 = .ok (.invokevirtual 182, 3) := by decide +kernel
theorem dX7_foundValue_38 : decode cX7_foundValue 38 = .ok (.istore 5, 2) := by decide +kernel
theorem dX7_foundValue_40 : decode cX7_foundValue 40 = .ok (.iload 4, 2) := by decide +kernel
theorem dX7_foundValue_42 : decode cX7_foundValue 42 = .ok (.iconst 1, 1) := by decide +kernel
theorem dX7_foundValue_43 : decode cX7_foundValue 43 = .ok (.if_icmp .ne 6, 3) := by decide +kernel
theorem dX7_foundValue_49 : decode cX7_foundValue 49 = .ok (.iload 4, 2) := by decide +kernel
theorem dX7_foundValue_51 : decode cX7_foundValue 51 = .ok (.iconst 2, 1) := by decide +kernel
theorem dX7_foundValue_52 : decode cX7_foundValue 52 = .ok (.if_icmp .ne 10, 3) := by decide +kernel
theorem dX7_foundValue_62 : decode cX7_foundValue 62 = .ok (.aload_n 1, 1) := by decide +kernel
theorem dX7_foundValue_63 : decode cX7_foundValue 63 = .ok (.aload_n 3, 1) := by decide +kernel
theorem dX7_foundValue_64 : decode cX7_foundValue 64 = .ok (.iload_n 2, 1) := by decide +kernel
theorem dX7_foundValue_65 : decode cX7_foundValue 65 = .ok (.bipush 6, 2) := by decide +kernel
theorem dX7_foundValue_67 : decode cX7_foundValue 67 = .ok (.invokevirtual 182, 3) := by decide +kernel
theorem dX7_foundValue_70 : decode cX7_foundValue 70 = .ok (.istore 6, 2) := by decide +kernel
theorem dX7_foundValue_72 : decode cX7_foundValue 72 = .ok (.aload_n 1, 1) := by decide +kernel
theorem dX7_foundValue_73 : decode cX7_foundValue 73 = .ok (.aload_n 3, 1) := by decide +kernel
theorem dX7_foundValue_74 : decode cX7_foundValue 74 = .ok (.iload_n 2, 1) := by decide +kernel
theorem dX7_foundValue_75 : decode cX7_foundValue 75 = .ok (.iconst 3, 1) := by decide +kernel
theorem dX7_foundValue_76 : decode cX7_foundValue 76 = .ok (.invokevirtual 182, 3) := by decide +kernel
theorem dX7_foundValue_79 : decode cX7_foundValue 79 = .ok (.iconst 2, 1) := by decide +kernel
theorem dX7_foundValue_80 : decode cX7_foundValue 80 = .ok (.if_icmp .ne 12, 3) := by decide +kernel
theorem dX7_foundValue_92 : decode cX7_foundValue 92 = .ok (.iload 5, 2) := by decide +kernel
theorem dX7_foundValue_94 : decode cX7_foundValue 94 = .ok (.istore 5, 2) := by decide +kernel
theorem dX7_foundValue_96 : decode cX7_foundValue 96 = .ok (.aload_n 1, 1) := by decide +kernel
theorem dX7_foundValue_97 : decode cX7_foundValue 97 = .ok (.aload_n 3, 1) := by decide +kernel
theorem dX7_foundValue_98 : decode cX7_foundValue 98 = .ok (.iload_n 2, 1) := by decide +kernel
theorem dX7_foundValue_99 : decode cX7_foundValue 99 = .ok (.iconst 5, 1) := by decide +kernel
theorem dX7_foundValue_100 : decode cX7_foundValue 100 = .ok (.invokevirtual 182, 3) := by decide +kernel
theorem dX7_foundValue_103 : decode cX7_foundValue 103 = .ok (.iconst 2, 1) := by decide +kernel
theorem dX7_foundValue_104 : decode cX7_foundValue 104 = .ok (.if_icmp .ne 12, 3) := by decide +kernel
theorem dX7_foundValue_116 : decode cX7_foundValue 116 = .ok (.iload 6, 2) := by decide +kernel
theorem dX7_foundValue_118 : decode cX7_foundValue 118 = .ok (.istore 6, 2) := by decide +kernel
theorem dX7_foundValue_120 : decode cX7_foundValue 120 = .ok (.iload 4, 2) := by decide +kernel
theorem dX7_foundValue_122 : decode cX7_foundValue 122 = .ok (.iconst 2, 1) := by decide +kernel
theorem dX7_foundValue_123 : decode cX7_foundValue 123 = .ok (.isub, 1) := by decide +kernel
theorem dX7_foundValue_124 : decode cX7_foundValue 124 = .ok (.iload 5, 2) := by decide +kernel
theorem dX7_foundValue_126 : decode cX7_foundValue 126 = .ok (.iload 6, 2) := by decide +kernel
theorem dX7_foundValue_128 : decode cX7_foundValue 128 = .ok (.invokestatic 136, 3) := by decide +kernel
theorem dX7_foundValue_131 : decode cX7_foundValue 131 = .ok (.ireturn, 1) := by decide +kernel
theorem dX7_foundValue_107 : decode cX7_foundValue 107 = .ok (.aload_n 0, 1) := by decide +kernel
theorem dX7_foundValue_108 : decode cX7_foundValue 108 = .ok (.iload 6, 2) := by decide +kernel
theorem dX7_foundValue_110 : decode cX7_foundValue 110 = .ok (.invokevirtual 185, 3) := by decide +kernel
theorem dX7_foundValue_113 : decode cX7_foundValue 113 = .ok (.goto 5, 3) := by decide +kernel
theorem dX7_foundValue_83 : decode cX7_foundValue 83 = .ok (.aload_n 0, 1) := by decide +kernel
theorem dX7_foundValue_84 : decode cX7_foundValue 84 = .ok (.iload 5, 2) := by decide +kernel
theorem dX7_foundValue_86 : decode cX7_foundValue 86 = .ok (.invokevirtual 185, 3) := by decide +kernel
theorem dX7_foundValue_89 : decode cX7_foundValue 89 = .ok (.goto 5, 3) := by decide +kernel
theorem dX7_foundValue_55 : decode cX7_foundValue 55 = .ok (.aload_n 0, 1) := by decide +kernel
theorem dX7_foundValue_56 : decode cX7_foundValue 56 = .ok (.iload 5, 2) := by decide +kernel
theorem dX7_foundValue_58 : decode cX7_foundValue 58 = .ok (.invokevirtual 185, 3) := by decide +kernel
theorem dX7_foundValue_61 : decode cX7_foundValue 61 = .ok (.ireturn, 1) := by decide +kernel
theorem dX7_foundValue_46 : decode cX7_foundValue 46 = .ok (.iload 5, 2) := by decide +kernel
theorem dX7_foundValue_48 : decode cX7_foundValue 48 = .ok (.ireturn, 1) := by decide +kernel
set_option maxRecDepth 20000 in
theorem k_X7_foundValue (d : Nat) {T : CT} {σ : MS} {a : Nat} {p1 : Nat} {p2 : Int} (ha : OB T a 7) (h_p1 : OB T p1 10) (h_p2 : -2147483648 ≤ p2 ∧ p2 ≤ 2147483647) (hw : WT T σ) : Tn (d + 4) m_X7_foundValue 0 T σ [(0, .ref a), (1, .ref p1), (2, .int (iI p2))] [] (fun ro T2 σ2 => ∃ v : Int, ro = some (.int (iI v)) ∧ T = T2 ∧ σ = σ2 ∧ (-2147483648 ≤ v ∧ v ≤ 2147483647)) := by
  refine tn_aload_n dX7_foundValue_0 rfl 0 rfl ?_
  refine tn_callV (M := m_X7_foundValue) (pc := 1) (ix := 152) (ci := 7) (M' := m_X7_foundCode) (As := []) (rest := []) dX7_foundValue_1 ok_X7_foundCode im_X7_foundCode se_X7_foundCode ml7_152 np_X7_foundCode rfl rfl ha rfl (Nat.le_of_ble_eq_true rfl) (Nat.le_of_ble_eq_true rfl) rfl (k_X7_foundCode (d + 1) (T := T) (σ := σ) (a := a) ha hw ) (fun r1 T3 σ2 gt4 hp => ?_)
  obtain ⟨v6, rfl, rfl, rfl, rv7, f5⟩ := hp
  clear gt4
  clear f5
  rcases rv7 with rv7 | ⟨x8, rfl, hk9⟩
  · show Tn _ _ 4 T σ [(0, .ref a), (1, .ref p1), (2, .int (iI p2))] (vl true v6 :: []) _
    rw [vl_null rv7]
    refine tn_astore_nN (L' := [(3, .null), (0, .ref a), (1, .ref p1), (2, .int (iI p2))]) dX7_foundValue_4 rfl (by decide) rfl ?_
    refine tn_aload_nN dX7_foundValue_5 rfl 0 rfl ?_
    refine tn_ifnonnullN dX7_foundValue_6 ?_
    refine tn_bipush dX7_foundValue_9 (by decide) ?_
    refine tn_goto (tgt := 20) dX7_foundValue_11 (by decide) ?_
    refine tn_istore (L' := [(4, .int (iI 10)), (3, .null), (0, .ref a), (1, .ref p1), (2, .int (iI p2))]) dX7_foundValue_20 (by decide) rfl ?_
    refine tn_iload dX7_foundValue_22 0 rfl ?_
    refine tn_bipush dX7_foundValue_24 (by decide) ?_
    refine tn_icmp_lt (tgt := 31) dX7_foundValue_26 (by decide) ⟨by decide, by decide⟩ ⟨by decide, by decide⟩ (fun h => absurd h (by decide)) (fun _ => ?_)
    refine tn_iconst dX7_foundValue_29 ?_
    exact tn_iret rfl dX7_foundValue_30 ⟨_, rfl, rfl, rfl, by omega⟩
  · show Tn _ _ 4 T σ [(0, .ref a), (1, .ref p1), (2, .int (iI p2))] (vl true (x8 : Int) :: []) _
    rw [vl_ref rfl]
    have hk9o : OB T x8 1 := hk9.1
    refine tn_astore_n (L' := [(3, .ref x8), (0, .ref a), (1, .ref p1), (2, .int (iI p2))]) dX7_foundValue_4 rfl (by decide) rfl ?_
    refine tn_aload_n dX7_foundValue_5 rfl 0 rfl ?_
    refine tn_ifnonnull (tgt := 14) dX7_foundValue_6 (by decide) ?_
    refine tn_aload_n dX7_foundValue_14 rfl 2 rfl ?_
    refine tn_aload_n dX7_foundValue_15 rfl 0 rfl ?_
    refine tn_iload_n dX7_foundValue_16 rfl 3 rfl ?_
    refine tn_callV (M := m_X7_foundValue) (pc := 17) (ix := 178) (ci := 10) (M' := m_X10_whereOf) (As := [.ref x8, .int (iI p2)]) (rest := []) dX7_foundValue_17 ok_X10_whereOf im_X10_whereOf se_X10_whereOf ml7_178 np_X10_whereOf rfl rfl h_p1 rfl (Nat.le_of_ble_eq_true rfl) (Nat.le_of_ble_eq_true rfl) rfl (k_X10_whereOf (d + 1) (T := T) (σ := σ) (a := p1) (c := x8) (i := p2) h_p1 hk9o (by omega) hw ) (fun r11 T13 σ12 gt14 hp => ?_)
    obtain ⟨v16, rfl, rfl, rfl, f15⟩ := hp
    clear gt14
    show Tn _ _ 20 T σ [(3, .ref x8), (0, .ref a), (1, .ref p1), (2, .int (iI p2))] [.int (iI v16)] _
    refine tn_istore (L' := [(4, .int (iI v16)), (3, .ref x8), (0, .ref a), (1, .ref p1), (2, .int (iI p2))]) dX7_foundValue_20 (by decide) rfl ?_
    refine tn_iload dX7_foundValue_22 0 rfl ?_
    refine tn_bipush dX7_foundValue_24 (by decide) ?_
    refine tn_icmp_lt (tgt := 31) dX7_foundValue_26 (by decide) ⟨by omega, by omega⟩ ⟨by decide, by decide⟩ (fun h17 => ?_) (fun h17 => ?_)
    · refine tn_aload_n dX7_foundValue_31 rfl 3 rfl ?_
      refine tn_aload_n dX7_foundValue_32 rfl 1 rfl ?_
      refine tn_iload_n dX7_foundValue_33 rfl 4 rfl ?_
      refine tn_iconst dX7_foundValue_34 ?_
      refine tn_callV (M := m_X7_foundValue) (pc := 35) (ix := 182) (ci := 10) (M' := m_X10_part) (As := [.ref x8, .int (iI p2), .int (iI 4)]) (rest := []) dX7_foundValue_35 ok_X10_part im_X10_part se_X10_part ml7_182 np_X10_part rfl rfl h_p1 rfl (Nat.le_of_ble_eq_true rfl) (Nat.le_of_ble_eq_true rfl) rfl (k_X10_part (d) (T := T) (σ := σ) (a := p1) (c := x8) (i := p2) (e := 4) h_p1 hk9o (by omega) (by decide) hw (by omega)) (fun r18 T20 σ19 gt21 hp => ?_)
      obtain ⟨v23, rfl, rfl, rfl, f22⟩ := hp
      clear gt21
      show Tn _ _ 38 T σ [(4, .int (iI v16)), (3, .ref x8), (0, .ref a), (1, .ref p1), (2, .int (iI p2))] [.int (iI v23)] _
      refine tn_istore (L' := [(5, .int (iI v23)), (4, .int (iI v16)), (3, .ref x8), (0, .ref a), (1, .ref p1), (2, .int (iI p2))]) dX7_foundValue_38 (by decide) rfl ?_
      refine tn_iload dX7_foundValue_40 1 rfl ?_
      refine tn_iconst dX7_foundValue_42 ?_
      refine tn_icmp_ne (tgt := 49) dX7_foundValue_43 (by decide) ⟨by omega, by omega⟩ ⟨by decide, by decide⟩ (fun h24 => ?_) (fun h24 => ?_)
      · refine tn_iload dX7_foundValue_49 1 rfl ?_
        refine tn_iconst dX7_foundValue_51 ?_
        refine tn_icmp_ne (tgt := 62) dX7_foundValue_52 (by decide) ⟨by omega, by omega⟩ ⟨by decide, by decide⟩ (fun h25 => ?_) (fun h25 => ?_)
        · refine tn_aload_n dX7_foundValue_62 rfl 4 rfl ?_
          refine tn_aload_n dX7_foundValue_63 rfl 2 rfl ?_
          refine tn_iload_n dX7_foundValue_64 rfl 5 rfl ?_
          refine tn_bipush dX7_foundValue_65 (by decide) ?_
          refine tn_callV (M := m_X7_foundValue) (pc := 67) (ix := 182) (ci := 10) (M' := m_X10_part) (As := [.ref x8, .int (iI p2), .int (iI 6)]) (rest := []) dX7_foundValue_67 ok_X10_part im_X10_part se_X10_part ml7_182 np_X10_part rfl rfl h_p1 rfl (Nat.le_of_ble_eq_true rfl) (Nat.le_of_ble_eq_true rfl) rfl (k_X10_part (d) (T := T) (σ := σ) (a := p1) (c := x8) (i := p2) (e := 6) h_p1 hk9o (by omega) (by decide) hw (by omega)) (fun r26 T28 σ27 gt29 hp => ?_)
          obtain ⟨v31, rfl, rfl, rfl, f30⟩ := hp
          clear gt29
          show Tn _ _ 70 T σ [(5, .int (iI v23)), (4, .int (iI v16)), (3, .ref x8), (0, .ref a), (1, .ref p1), (2, .int (iI p2))] [.int (iI v31)] _
          refine tn_istore (L' := [(6, .int (iI v31)), (5, .int (iI v23)), (4, .int (iI v16)), (3, .ref x8), (0, .ref a), (1, .ref p1), (2, .int (iI p2))]) dX7_foundValue_70 (by decide) rfl ?_
          refine tn_aload_n dX7_foundValue_72 rfl 5 rfl ?_
          refine tn_aload_n dX7_foundValue_73 rfl 3 rfl ?_
          refine tn_iload_n dX7_foundValue_74 rfl 6 rfl ?_
          refine tn_iconst dX7_foundValue_75 ?_
          refine tn_callV (M := m_X7_foundValue) (pc := 76) (ix := 182) (ci := 10) (M' := m_X10_part) (As := [.ref x8, .int (iI p2), .int (iI 3)]) (rest := []) dX7_foundValue_76 ok_X10_part im_X10_part se_X10_part ml7_182 np_X10_part rfl rfl h_p1 rfl (Nat.le_of_ble_eq_true rfl) (Nat.le_of_ble_eq_true rfl) rfl (k_X10_part (d) (T := T) (σ := σ) (a := p1) (c := x8) (i := p2) (e := 3) h_p1 hk9o (by omega) (by decide) hw (by omega)) (fun r32 T34 σ33 gt35 hp => ?_)
          obtain ⟨v37, rfl, rfl, rfl, f36⟩ := hp
          clear gt35
          show Tn _ _ 79 T σ [(6, .int (iI v31)), (5, .int (iI v23)), (4, .int (iI v16)), (3, .ref x8), (0, .ref a), (1, .ref p1), (2, .int (iI p2))] [.int (iI v37)] _
          refine tn_iconst dX7_foundValue_79 ?_
          refine tn_icmp_ne (tgt := 92) dX7_foundValue_80 (by decide) ⟨by omega, by omega⟩ ⟨by decide, by decide⟩ (fun h38 => ?_) (fun h38 => ?_)
          · refine tn_iload dX7_foundValue_92 1 rfl ?_
            refine tn_istore (L' := [(5, .int (iI v23)), (6, .int (iI v31)), (4, .int (iI v16)), (3, .ref x8), (0, .ref a), (1, .ref p1), (2, .int (iI p2))]) dX7_foundValue_94 (by decide) rfl ?_
            refine tn_aload_n dX7_foundValue_96 rfl 5 rfl ?_
            refine tn_aload_n dX7_foundValue_97 rfl 3 rfl ?_
            refine tn_iload_n dX7_foundValue_98 rfl 6 rfl ?_
            refine tn_iconst dX7_foundValue_99 ?_
            refine tn_callV (M := m_X7_foundValue) (pc := 100) (ix := 182) (ci := 10) (M' := m_X10_part) (As := [.ref x8, .int (iI p2), .int (iI 5)]) (rest := []) dX7_foundValue_100 ok_X10_part im_X10_part se_X10_part ml7_182 np_X10_part rfl rfl h_p1 rfl (Nat.le_of_ble_eq_true rfl) (Nat.le_of_ble_eq_true rfl) rfl (k_X10_part (d) (T := T) (σ := σ) (a := p1) (c := x8) (i := p2) (e := 5) h_p1 hk9o (by omega) (by decide) hw (by omega)) (fun r39 T41 σ40 gt42 hp => ?_)
            obtain ⟨v44, rfl, rfl, rfl, f43⟩ := hp
            clear gt42
            show Tn _ _ 103 T σ [(5, .int (iI v23)), (6, .int (iI v31)), (4, .int (iI v16)), (3, .ref x8), (0, .ref a), (1, .ref p1), (2, .int (iI p2))] [.int (iI v44)] _
            refine tn_iconst dX7_foundValue_103 ?_
            refine tn_icmp_ne (tgt := 116) dX7_foundValue_104 (by decide) ⟨by omega, by omega⟩ ⟨by decide, by decide⟩ (fun h45 => ?_) (fun h45 => ?_)
            · refine tn_iload dX7_foundValue_116 1 rfl ?_
              refine tn_istore (L' := [(6, .int (iI v31)), (5, .int (iI v23)), (4, .int (iI v16)), (3, .ref x8), (0, .ref a), (1, .ref p1), (2, .int (iI p2))]) dX7_foundValue_118 (by decide) rfl ?_
              refine tn_iload dX7_foundValue_120 2 rfl ?_
              refine tn_iconst dX7_foundValue_122 ?_
              refine tn_isub dX7_foundValue_123 ?_
              refine tn_any (fun z46 g47 => ?_)
              have g47r : -2147483648 ≤ z46 ∧ z46 ≤ 2147483647 := g47
              refine tn_iload dX7_foundValue_124 1 rfl ?_
              refine tn_iload dX7_foundValue_126 0 rfl ?_
              refine tn_callSN (M := m_X7_foundValue) (pc := 128) (ix := 136) (M' := m_X11_reckon) (As := [.int (iI z46), .int (iI v23), .int (iI v31)]) (rest := []) dX7_foundValue_128 ok_X11_reckon stt_X11_reckon nl7_136 np_X11_reckon rfl (Nat.le_of_ble_eq_true rfl) (Nat.le_of_ble_eq_true rfl) rfl (k_X11_reckon (d + 2) (T := T) (σ := σ) (k := z46) (x := v23) (y := v31) (by omega) (by omega) (by omega) hw ) (fun r48 T50 σ49 gt51 hp => ?_)
              obtain ⟨v53, rfl, rfl, rfl, f52⟩ := hp
              clear gt51
              show Tn _ _ 131 T σ [(6, .int (iI v31)), (5, .int (iI v23)), (4, .int (iI v16)), (3, .ref x8), (0, .ref a), (1, .ref p1), (2, .int (iI p2))] [.int (iI v53)] _
              exact tn_iret rfl dX7_foundValue_131 ⟨_, rfl, rfl, rfl, by omega⟩
            · refine tn_aload_n dX7_foundValue_107 rfl 4 rfl ?_
              refine tn_iload dX7_foundValue_108 1 rfl ?_
              refine tn_callV (M := m_X7_foundValue) (pc := 110) (ix := 185) (ci := 7) (M' := m_X7_foundRegister) (As := [.int (iI v31)]) (rest := []) dX7_foundValue_110 ok_X7_foundRegister im_X7_foundRegister se_X7_foundRegister ml7_185 np_X7_foundRegister rfl rfl ha rfl (Nat.le_of_ble_eq_true rfl) (Nat.le_of_ble_eq_true rfl) rfl (k_X7_foundRegister (d + 1) (T := T) (σ := σ) (a := a) (p1 := v31) ha (by omega) hw ) (fun r54 T56 σ55 gt57 hp => ?_)
              obtain ⟨v59, rfl, rfl, rfl, f58⟩ := hp
              clear gt57
              show Tn _ _ 113 T σ [(5, .int (iI v23)), (6, .int (iI v31)), (4, .int (iI v16)), (3, .ref x8), (0, .ref a), (1, .ref p1), (2, .int (iI p2))] [.int (iI v59)] _
              refine tn_goto (tgt := 118) dX7_foundValue_113 (by decide) ?_
              refine tn_istore (L' := [(6, .int (iI v59)), (5, .int (iI v23)), (4, .int (iI v16)), (3, .ref x8), (0, .ref a), (1, .ref p1), (2, .int (iI p2))]) dX7_foundValue_118 (by decide) rfl ?_
              refine tn_iload dX7_foundValue_120 2 rfl ?_
              refine tn_iconst dX7_foundValue_122 ?_
              refine tn_isub dX7_foundValue_123 ?_
              refine tn_any (fun z60 g61 => ?_)
              have g61r : -2147483648 ≤ z60 ∧ z60 ≤ 2147483647 := g61
              refine tn_iload dX7_foundValue_124 1 rfl ?_
              refine tn_iload dX7_foundValue_126 0 rfl ?_
              refine tn_callSN (M := m_X7_foundValue) (pc := 128) (ix := 136) (M' := m_X11_reckon) (As := [.int (iI z60), .int (iI v23), .int (iI v59)]) (rest := []) dX7_foundValue_128 ok_X11_reckon stt_X11_reckon nl7_136 np_X11_reckon rfl (Nat.le_of_ble_eq_true rfl) (Nat.le_of_ble_eq_true rfl) rfl (k_X11_reckon (d + 2) (T := T) (σ := σ) (k := z60) (x := v23) (y := v59) (by omega) (by omega) (by omega) hw ) (fun r62 T64 σ63 gt65 hp => ?_)
              obtain ⟨v67, rfl, rfl, rfl, f66⟩ := hp
              clear gt65
              show Tn _ _ 131 T σ [(6, .int (iI v59)), (5, .int (iI v23)), (4, .int (iI v16)), (3, .ref x8), (0, .ref a), (1, .ref p1), (2, .int (iI p2))] [.int (iI v67)] _
              exact tn_iret rfl dX7_foundValue_131 ⟨_, rfl, rfl, rfl, by omega⟩
          · refine tn_aload_n dX7_foundValue_83 rfl 4 rfl ?_
            refine tn_iload dX7_foundValue_84 1 rfl ?_
            refine tn_callV (M := m_X7_foundValue) (pc := 86) (ix := 185) (ci := 7) (M' := m_X7_foundRegister) (As := [.int (iI v23)]) (rest := []) dX7_foundValue_86 ok_X7_foundRegister im_X7_foundRegister se_X7_foundRegister ml7_185 np_X7_foundRegister rfl rfl ha rfl (Nat.le_of_ble_eq_true rfl) (Nat.le_of_ble_eq_true rfl) rfl (k_X7_foundRegister (d + 1) (T := T) (σ := σ) (a := a) (p1 := v23) ha (by omega) hw ) (fun r68 T70 σ69 gt71 hp => ?_)
            obtain ⟨v73, rfl, rfl, rfl, f72⟩ := hp
            clear gt71
            show Tn _ _ 89 T σ [(6, .int (iI v31)), (5, .int (iI v23)), (4, .int (iI v16)), (3, .ref x8), (0, .ref a), (1, .ref p1), (2, .int (iI p2))] [.int (iI v73)] _
            refine tn_goto (tgt := 94) dX7_foundValue_89 (by decide) ?_
            refine tn_istore (L' := [(5, .int (iI v73)), (6, .int (iI v31)), (4, .int (iI v16)), (3, .ref x8), (0, .ref a), (1, .ref p1), (2, .int (iI p2))]) dX7_foundValue_94 (by decide) rfl ?_
            refine tn_aload_n dX7_foundValue_96 rfl 5 rfl ?_
            refine tn_aload_n dX7_foundValue_97 rfl 3 rfl ?_
            refine tn_iload_n dX7_foundValue_98 rfl 6 rfl ?_
            refine tn_iconst dX7_foundValue_99 ?_
            refine tn_callV (M := m_X7_foundValue) (pc := 100) (ix := 182) (ci := 10) (M' := m_X10_part) (As := [.ref x8, .int (iI p2), .int (iI 5)]) (rest := []) dX7_foundValue_100 ok_X10_part im_X10_part se_X10_part ml7_182 np_X10_part rfl rfl h_p1 rfl (Nat.le_of_ble_eq_true rfl) (Nat.le_of_ble_eq_true rfl) rfl (k_X10_part (d) (T := T) (σ := σ) (a := p1) (c := x8) (i := p2) (e := 5) h_p1 hk9o (by omega) (by decide) hw (by omega)) (fun r74 T76 σ75 gt77 hp => ?_)
            obtain ⟨v79, rfl, rfl, rfl, f78⟩ := hp
            clear gt77
            show Tn _ _ 103 T σ [(5, .int (iI v73)), (6, .int (iI v31)), (4, .int (iI v16)), (3, .ref x8), (0, .ref a), (1, .ref p1), (2, .int (iI p2))] [.int (iI v79)] _
            refine tn_iconst dX7_foundValue_103 ?_
            refine tn_icmp_ne (tgt := 116) dX7_foundValue_104 (by decide) ⟨by omega, by omega⟩ ⟨by decide, by decide⟩ (fun h80 => ?_) (fun h80 => ?_)
            · refine tn_iload dX7_foundValue_116 1 rfl ?_
              refine tn_istore (L' := [(6, .int (iI v31)), (5, .int (iI v73)), (4, .int (iI v16)), (3, .ref x8), (0, .ref a), (1, .ref p1), (2, .int (iI p2))]) dX7_foundValue_118 (by decide) rfl ?_
              refine tn_iload dX7_foundValue_120 2 rfl ?_
              refine tn_iconst dX7_foundValue_122 ?_
              refine tn_isub dX7_foundValue_123 ?_
              refine tn_any (fun z81 g82 => ?_)
              have g82r : -2147483648 ≤ z81 ∧ z81 ≤ 2147483647 := g82
              refine tn_iload dX7_foundValue_124 1 rfl ?_
              refine tn_iload dX7_foundValue_126 0 rfl ?_
              refine tn_callSN (M := m_X7_foundValue) (pc := 128) (ix := 136) (M' := m_X11_reckon) (As := [.int (iI z81), .int (iI v73), .int (iI v31)]) (rest := []) dX7_foundValue_128 ok_X11_reckon stt_X11_reckon nl7_136 np_X11_reckon rfl (Nat.le_of_ble_eq_true rfl) (Nat.le_of_ble_eq_true rfl) rfl (k_X11_reckon (d + 2) (T := T) (σ := σ) (k := z81) (x := v73) (y := v31) (by omega) (by omega) (by omega) hw ) (fun r83 T85 σ84 gt86 hp => ?_)
              obtain ⟨v88, rfl, rfl, rfl, f87⟩ := hp
              clear gt86
              show Tn _ _ 131 T σ [(6, .int (iI v31)), (5, .int (iI v73)), (4, .int (iI v16)), (3, .ref x8), (0, .ref a), (1, .ref p1), (2, .int (iI p2))] [.int (iI v88)] _
              exact tn_iret rfl dX7_foundValue_131 ⟨_, rfl, rfl, rfl, by omega⟩
            · refine tn_aload_n dX7_foundValue_107 rfl 4 rfl ?_
              refine tn_iload dX7_foundValue_108 1 rfl ?_
              refine tn_callV (M := m_X7_foundValue) (pc := 110) (ix := 185) (ci := 7) (M' := m_X7_foundRegister) (As := [.int (iI v31)]) (rest := []) dX7_foundValue_110 ok_X7_foundRegister im_X7_foundRegister se_X7_foundRegister ml7_185 np_X7_foundRegister rfl rfl ha rfl (Nat.le_of_ble_eq_true rfl) (Nat.le_of_ble_eq_true rfl) rfl (k_X7_foundRegister (d + 1) (T := T) (σ := σ) (a := a) (p1 := v31) ha (by omega) hw ) (fun r89 T91 σ90 gt92 hp => ?_)
              obtain ⟨v94, rfl, rfl, rfl, f93⟩ := hp
              clear gt92
              show Tn _ _ 113 T σ [(5, .int (iI v73)), (6, .int (iI v31)), (4, .int (iI v16)), (3, .ref x8), (0, .ref a), (1, .ref p1), (2, .int (iI p2))] [.int (iI v94)] _
              refine tn_goto (tgt := 118) dX7_foundValue_113 (by decide) ?_
              refine tn_istore (L' := [(6, .int (iI v94)), (5, .int (iI v73)), (4, .int (iI v16)), (3, .ref x8), (0, .ref a), (1, .ref p1), (2, .int (iI p2))]) dX7_foundValue_118 (by decide) rfl ?_
              refine tn_iload dX7_foundValue_120 2 rfl ?_
              refine tn_iconst dX7_foundValue_122 ?_
              refine tn_isub dX7_foundValue_123 ?_
              refine tn_any (fun z95 g96 => ?_)
              have g96r : -2147483648 ≤ z95 ∧ z95 ≤ 2147483647 := g96
              refine tn_iload dX7_foundValue_124 1 rfl ?_
              refine tn_iload dX7_foundValue_126 0 rfl ?_
              refine tn_callSN (M := m_X7_foundValue) (pc := 128) (ix := 136) (M' := m_X11_reckon) (As := [.int (iI z95), .int (iI v73), .int (iI v94)]) (rest := []) dX7_foundValue_128 ok_X11_reckon stt_X11_reckon nl7_136 np_X11_reckon rfl (Nat.le_of_ble_eq_true rfl) (Nat.le_of_ble_eq_true rfl) rfl (k_X11_reckon (d + 2) (T := T) (σ := σ) (k := z95) (x := v73) (y := v94) (by omega) (by omega) (by omega) hw ) (fun r97 T99 σ98 gt100 hp => ?_)
              obtain ⟨v102, rfl, rfl, rfl, f101⟩ := hp
              clear gt100
              show Tn _ _ 131 T σ [(6, .int (iI v94)), (5, .int (iI v73)), (4, .int (iI v16)), (3, .ref x8), (0, .ref a), (1, .ref p1), (2, .int (iI p2))] [.int (iI v102)] _
              exact tn_iret rfl dX7_foundValue_131 ⟨_, rfl, rfl, rfl, by omega⟩
        · refine tn_aload_n dX7_foundValue_55 rfl 3 rfl ?_
          refine tn_iload dX7_foundValue_56 0 rfl ?_
          refine tn_callV (M := m_X7_foundValue) (pc := 58) (ix := 185) (ci := 7) (M' := m_X7_foundRegister) (As := [.int (iI v23)]) (rest := []) dX7_foundValue_58 ok_X7_foundRegister im_X7_foundRegister se_X7_foundRegister ml7_185 np_X7_foundRegister rfl rfl ha rfl (Nat.le_of_ble_eq_true rfl) (Nat.le_of_ble_eq_true rfl) rfl (k_X7_foundRegister (d + 1) (T := T) (σ := σ) (a := a) (p1 := v23) ha (by omega) hw ) (fun r103 T105 σ104 gt106 hp => ?_)
          obtain ⟨v108, rfl, rfl, rfl, f107⟩ := hp
          clear gt106
          show Tn _ _ 61 T σ [(5, .int (iI v23)), (4, .int (iI v16)), (3, .ref x8), (0, .ref a), (1, .ref p1), (2, .int (iI p2))] [.int (iI v108)] _
          exact tn_iret rfl dX7_foundValue_61 ⟨_, rfl, rfl, rfl, by omega⟩
      · refine tn_iload dX7_foundValue_46 0 rfl ?_
        exact tn_iret rfl dX7_foundValue_48 ⟨_, rfl, rfl, rfl, by omega⟩
    · refine tn_iconst dX7_foundValue_29 ?_
      exact tn_iret rfl dX7_foundValue_30 ⟨_, rfl, rfl, rfl, by omega⟩
end
section
theorem cd_X7_climb : Cond.code yX7_climb cX7_climb 4 none ∈ pWW := pw6 (List.mem_of_getElem? (i := 108) rfl) rfl
abbrev m_X7_climb : MT := (yX7_climb, cX7_climb, 4, none)
theorem ok_X7_climb : pOk m_X7_climb := ⟨⟨cd_X7_climb, ini_7⟩, by decide +kernel, ⟨by decide +kernel, by decide +kernel⟩, Nat.le_of_ble_eq_true rfl⟩
theorem np_X7_climb : (parseMethodDescriptor yX7_climb.desc).map (fun d => d.parameters.length) = some 1 := by decide +kernel
theorem im_X7_climb : Cond.instanceMethod yX7_climb ∈ pWW := pw6 (List.mem_of_getElem? (i := 107) rfl) rfl
theorem se_X7_climb : Cond.selects RX7 yX7_climb yX7_climb ∈ pWW := pws (List.mem_map.mpr ⟨_, lw_pin 95 rfl, rfl⟩) rfl
theorem dX7_climb_0 : decode cX7_climb 0 = .ok (.aload_n 0, 1) := by decide +kernel
theorem dX7_climb_1 : decode cX7_climb 1 = .ok (.invokevirtual 152, 3) := by decide +kernel
theorem dX7_climb_4 : decode cX7_climb 4 = .ok (.astore_n 2, 1) := by decide +kernel
theorem dX7_climb_5 : decode cX7_climb 5 = .ok (.iconst 0, 1) := by decide +kernel
theorem dX7_climb_6 : decode cX7_climb 6 = .ok (.istore_n 3, 1) := by decide +kernel
theorem dX7_climb_7 : decode cX7_climb 7 = .ok (.iload_n 3, 1) := by decide +kernel
theorem dX7_climb_8 : decode cX7_climb 8 = .ok (.iload_n 1, 1) := by decide +kernel
theorem dX7_climb_9 : decode cX7_climb 9 = .ok (.if_icmp .ge 28, 3) := by decide +kernel
theorem dX7_climb_12 : decode cX7_climb 12 = .ok (.aload_n 2, 1) := by decide +kernel
theorem dX7_climb_13 : decode cX7_climb 13 = .ok (.ifnull 24, 3) := by decide +kernel
theorem dX7_climb_37 : decode cX7_climb 37 = .ok (.return_, 1) := by decide +kernel
theorem dX7_climb_16 : decode cX7_climb 16 = .ok (.aload_n 0, 1) := by decide +kernel
theorem dX7_climb_17 : decode cX7_climb 17 = .ok (.aload_n 2, 1) := by decide +kernel
theorem dX7_climb_18 : decode cX7_climb 18 = .ok (.getfield 126, 3) := by decide +kernel
theorem dX7_climb_21 : decode cX7_climb 21 = .ok (.aload_n 0, 1) := by decide +kernel
theorem dX7_climb_22 : decode cX7_climb 22 = .ok (.getfield 146, 3) := by decide +kernel
theorem dX7_climb_25 : decode cX7_climb 25 = .ok (.invokestatic 91, 3) := by decide +kernel
theorem dX7_climb_28 : decode cX7_climb 28 = .ok (.putfield 146, 3) := by decide +kernel
theorem dX7_climb_31 : decode cX7_climb 31 = .ok (.iinc 3 1, 3) := by decide +kernel
theorem dX7_climb_34 : decode cX7_climb 34 = .ok (.goto (-27), 3) := by decide +kernel
end
section
theorem cd_X7_find : Cond.code yX7_find cX7_find 5 (some .boolean) ∈ pWW := pw6 (List.mem_of_getElem? (i := 104) rfl) rfl
abbrev m_X7_find : MT := (yX7_find, cX7_find, 5, (some .boolean))
theorem ok_X7_find : pOk m_X7_find := ⟨⟨cd_X7_find, ini_7⟩, by decide +kernel, ⟨by decide +kernel, by decide +kernel⟩, Nat.le_of_ble_eq_true rfl⟩
theorem np_X7_find : (parseMethodDescriptor yX7_find.desc).map (fun d => d.parameters.length) = some 1 := by decide +kernel
theorem im_X7_find : Cond.instanceMethod yX7_find ∈ pWW := pw6 (List.mem_of_getElem? (i := 102) rfl) rfl
theorem se_X7_find : Cond.selects RX7 yX7_find yX7_find ∈ pWW := pw6 (List.mem_of_getElem? (i := 103) rfl) rfl
theorem dX7_find_0 : decode cX7_find 0 = .ok (.iload_n 1, 1) := by decide +kernel
theorem dX7_find_1 : decode cX7_find 1 = .ok (.ifCond .lt 27, 3) := by decide +kernel
theorem dX7_find_28 : decode cX7_find 28 = .ok (.iconst 0, 1) := by decide +kernel
theorem dX7_find_29 : decode cX7_find 29 = .ok (.ireturn, 1) := by decide +kernel
theorem dX7_find_4 : decode cX7_find 4 = .ok (.iload_n 1, 1) := by decide +kernel
theorem dX7_find_5 : decode cX7_find 5 = .ok (.aload_n 0, 1) := by decide +kernel
theorem dX7_find_6 : decode cX7_find 6 = .ok (.getfield 38, 3) := by decide +kernel
theorem dX7_find_9 : decode cX7_find 9 = .ok (.if_icmp .ge 19, 3) := by decide +kernel
theorem dX7_find_12 : decode cX7_find 12 = .ok (.aload_n 0, 1) := by decide +kernel
theorem dX7_find_13 : decode cX7_find 13 = .ok (.getfield 34, 3) := by decide +kernel
theorem dX7_find_16 : decode cX7_find 16 = .ok (.iconst 1, 1) := by decide +kernel
theorem dX7_find_17 : decode cX7_find 17 = .ok (.if_icmp .eq 13, 3) := by decide +kernel
theorem dX7_find_30 : decode cX7_find 30 = .ok (.iload_n 1, 1) := by decide +kernel
theorem dX7_find_31 : decode cX7_find 31 = .ok (.istore_n 2, 1) := by decide +kernel
theorem dX7_find_32 : decode cX7_find 32 = .ok (.aload_n 0, 1) := by decide +kernel
theorem dX7_find_33 : decode cX7_find 33 = .ok (.getfield 65, 3) := by decide +kernel
theorem dX7_find_36 : decode cX7_find 36 = .ok (.istore_n 3, 1) := by decide +kernel
theorem dX7_find_37 : decode cX7_find 37 = .ok (.iload_n 3, 1) := by decide +kernel
theorem dX7_find_38 : decode cX7_find 38 = .ok (.ifCond .lt 62, 3) := by decide +kernel
theorem dX7_find_41 : decode cX7_find 41 = .ok (.aload_n 0, 1) := by decide +kernel
theorem dX7_find_42 : decode cX7_find 42 = .ok (.iload_n 3, 1) := by decide +kernel
theorem dX7_find_43 : decode cX7_find 43 = .ok (.invokevirtual 140, 3) := by decide +kernel
theorem dX7_find_46 : decode cX7_find 46 = .ok (.istore 4, 2) := by decide +kernel
theorem dX7_find_48 : decode cX7_find 48 = .ok (.iload_n 2, 1) := by decide +kernel
theorem dX7_find_49 : decode cX7_find 49 = .ok (.iload 4, 2) := by decide +kernel
theorem dX7_find_51 : decode cX7_find 51 = .ok (.if_icmp .ge 38, 3) := by decide +kernel
theorem dX7_find_89 : decode cX7_find 89 = .ok (.iload_n 2, 1) := by decide +kernel
theorem dX7_find_90 : decode cX7_find 90 = .ok (.iload 4, 2) := by decide +kernel
theorem dX7_find_92 : decode cX7_find 92 = .ok (.isub, 1) := by decide +kernel
theorem dX7_find_93 : decode cX7_find 93 = .ok (.istore_n 2, 1) := by decide +kernel
theorem dX7_find_94 : decode cX7_find 94 = .ok (.iinc 3 (-1), 3) := by decide +kernel
theorem dX7_find_97 : decode cX7_find 97 = .ok (.goto (-60), 3) := by decide +kernel
theorem ml7_149 : Cond.methodLink RX7 149 yX7_climb ∈ pWW := pw6 (List.mem_of_getElem? (i := 105) rfl) rfl
theorem dX7_find_54 : decode cX7_find 54 = .ok (.aload_n 0, 1) := by decide +kernel
theorem dX7_find_55 : decode cX7_find 55 = .ok (.iload_n 3, 1) := by decide +kernel
theorem dX7_find_56 : decode cX7_find 56 = .ok (.putfield 143, 3) := by decide +kernel
theorem dX7_find_59 : decode cX7_find 59 = .ok (.aload_n 0, 1) := by decide +kernel
theorem dX7_find_60 : decode cX7_find 60 = .ok (.aload_n 0, 1) := by decide +kernel
theorem dX7_find_61 : decode cX7_find 61 = .ok (.getfield 18, 3) := by decide +kernel
theorem dX7_find_64 : decode cX7_find 64 = .ok (.iload_n 3, 1) := by decide +kernel
theorem dX7_find_65 : decode cX7_find 65 = .ok (.invokestatic 91, 3) := by decide +kernel
theorem dX7_find_68 : decode cX7_find 68 = .ok (.putfield 146, 3) := by decide +kernel
theorem dX7_find_71 : decode cX7_find 71 = .ok (.aload_n 0, 1) := by decide +kernel
theorem dX7_find_72 : decode cX7_find 72 = .ok (.iload_n 2, 1) := by decide +kernel
theorem dX7_find_73 : decode cX7_find 73 = .ok (.invokevirtual 149, 3) := by decide +kernel
theorem dX7_find_76 : decode cX7_find 76 = .ok (.aload_n 0, 1) := by decide +kernel
theorem dX7_find_77 : decode cX7_find 77 = .ok (.invokevirtual 152, 3) := by decide +kernel
theorem dX7_find_80 : decode cX7_find 80 = .ok (.ifnull 7, 3) := by decide +kernel
theorem dX7_find_87 : decode cX7_find 87 = .ok (.iconst 0, 1) := by decide +kernel
theorem dX7_find_88 : decode cX7_find 88 = .ok (.ireturn, 1) := by decide +kernel
theorem dX7_find_83 : decode cX7_find 83 = .ok (.iconst 1, 1) := by decide +kernel
theorem dX7_find_84 : decode cX7_find 84 = .ok (.goto 4, 3) := by decide +kernel
theorem dX7_find_100 : decode cX7_find 100 = .ok (.iconst 0, 1) := by decide +kernel
theorem dX7_find_101 : decode cX7_find 101 = .ok (.ireturn, 1) := by decide +kernel
theorem dX7_find_20 : decode cX7_find 20 = .ok (.aload_n 0, 1) := by decide +kernel
theorem dX7_find_21 : decode cX7_find 21 = .ok (.getfield 34, 3) := by decide +kernel
theorem dX7_find_24 : decode cX7_find 24 = .ok (.iconst 3, 1) := by decide +kernel
theorem dX7_find_25 : decode cX7_find 25 = .ok (.if_icmp .eq 5, 3) := by decide +kernel
end
section
theorem FA.at {x : Nat} {z : Int} {σ τ : MS} (h : z = (x : Int)) (f : FA x σ τ) : FA z.toNat σ τ := by
  rw [h]; exact f
def TB (σ : MS) (a : Nat) (i : Int) : Prop := ∀ t : Nat, σ.2.1 0 a = (t : Int) → σ.2.1 57 t ≤ i
theorem TB.of {σ : MS} {a x : Nat} {i : Int} (hx : σ.2.1 0 a = (x : Int)) (h : σ.2.1 57 x ≤ i) : TB σ a i := fun p q => by
  have e : p = x := by omega
  rw [e]; exact h
theorem TB.frc {T : CT} {ks : List Nat} {σ τ : MS} {a : Nat} {i : Int} (h : TB σ a i) (f : FrC T ks σ τ) (h0 : 0 ∉ ks) (h1 : 57 ∉ ks) : TB τ a i := fun p q => by
  rw [f.1 57 (by omega) h1]; exact h p (by rw [← f.1 0 (by omega) h0]; exact q)
theorem TB.up {σ : MS} {a : Nat} {i j : Int} (h : TB σ a i) (hj : i ≤ j) : TB σ a j := fun p q => Int.le_trans (h p q) hj
theorem TB.plain {T : CT} {ks : List Nat} {σ τ : MS} {a t p : Nat} {i : Int} (h : TB σ a i) (ht : σ.2.1 0 a = (t : Int)) (hp : σ.2.1 1 a = (p : Int)) (hne : t ≠ p) (f : FA (σ.2.1 1 a).toNat σ τ) (g : FrC T ks σ τ) (h0 : 0 ∉ ks) : TB τ a i := by
  refine TB.of (x := t) ((congrFun (g.1 0 (by omega) h0) _).trans ht) ?_
  rw [hp] at f
  rw [f 57 t (by decide) hne]
  exact h t ht
theorem PB.torn {T : CT} {ks : List Nat} {σ τ : MS} {a t p : Nat} (h : PB σ a) (hp : σ.2.1 1 a = (p : Int)) (hne : t ≠ p) (f : FA t σ τ) (g : FrC T ks σ τ) (h0 : 1 ∉ ks) : PB τ a :=
  PB.of ((congrFun (g.1 1 (by omega) h0) _).trans hp) ((h p hp).keep f (Ne.symm hne))
end
section
theorem cd_X0_samePrints : Cond.code yX0_samePrints cX0_samePrints 1 (some .boolean) ∈ pWW := pw6 (List.mem_of_getElem? (i := 214) rfl) rfl
theorem ini_0 : Cond.initialized RX0 ∈ pWW := pw1 (List.mem_of_getElem? (i := 21) rfl) rfl
abbrev m_X0_samePrints : MT := (yX0_samePrints, cX0_samePrints, 1, (some .boolean))
theorem ok_X0_samePrints : pOk m_X0_samePrints := ⟨⟨cd_X0_samePrints, ini_0⟩, by decide +kernel, ⟨by decide +kernel, by decide +kernel⟩, Nat.le_of_ble_eq_true rfl⟩
theorem np_X0_samePrints : (parseMethodDescriptor yX0_samePrints.desc).map (fun d => d.parameters.length) = some 0 := by decide +kernel
theorem im_X0_samePrints : Cond.instanceMethod yX0_samePrints ∈ pWW := pw6 (List.mem_of_getElem? (i := 213) rfl) rfl
theorem se_X0_samePrints : Cond.selects RX0 yX0_samePrints yX0_samePrints ∈ pWW := pws (List.mem_map.mpr ⟨_, lw_pin 97 rfl, rfl⟩) rfl
theorem fl0_14 : Cond.fieldLink RX0 14 (TX0 0).1 (TX0 0).2.1 (TX0 0).2.2.1 ∈ pWW := pw6 (List.mem_of_getElem? (i := 180) rfl) rfl
theorem fl0_54 : Cond.fieldLink RX0 54 (TX7 10).1 (TX7 10).2.1 (TX7 10).2.2.1 ∈ pWW := pw2 (List.mem_of_getElem? (i := 149) rfl) rfl
theorem fl0_20 : Cond.fieldLink RX0 20 (TX0 1).1 (TX0 1).2.1 (TX0 1).2.2.1 ∈ pWW := pw6 (List.mem_of_getElem? (i := 182) rfl) rfl
theorem fl0_57 : Cond.fieldLink RX0 57 (TX7 11).1 (TX7 11).2.1 (TX7 11).2.2.1 ∈ pWW := pw2 (List.mem_of_getElem? (i := 152) rfl) rfl
theorem dX0_samePrints_0 : decode cX0_samePrints 0 = .ok (.aload_n 0, 1) := by decide +kernel
theorem dX0_samePrints_1 : decode cX0_samePrints 1 = .ok (.getfield 14, 3) := by decide +kernel
theorem dX0_samePrints_4 : decode cX0_samePrints 4 = .ok (.getfield 54, 3) := by decide +kernel
theorem dX0_samePrints_7 : decode cX0_samePrints 7 = .ok (.aload_n 0, 1) := by decide +kernel
theorem dX0_samePrints_8 : decode cX0_samePrints 8 = .ok (.getfield 20, 3) := by decide +kernel
theorem dX0_samePrints_11 : decode cX0_samePrints 11 = .ok (.getfield 54, 3) := by decide +kernel
theorem dX0_samePrints_14 : decode cX0_samePrints 14 = .ok (.if_icmp .ne 24, 3) := by decide +kernel
theorem dX0_samePrints_38 : decode cX0_samePrints 38 = .ok (.iconst 0, 1) := by decide +kernel
theorem dX0_samePrints_39 : decode cX0_samePrints 39 = .ok (.ireturn, 1) := by decide +kernel
theorem dX0_samePrints_17 : decode cX0_samePrints 17 = .ok (.aload_n 0, 1) := by decide +kernel
theorem dX0_samePrints_18 : decode cX0_samePrints 18 = .ok (.getfield 14, 3) := by decide +kernel
theorem dX0_samePrints_21 : decode cX0_samePrints 21 = .ok (.getfield 57, 3) := by decide +kernel
theorem dX0_samePrints_24 : decode cX0_samePrints 24 = .ok (.aload_n 0, 1) := by decide +kernel
theorem dX0_samePrints_25 : decode cX0_samePrints 25 = .ok (.getfield 20, 3) := by decide +kernel
theorem dX0_samePrints_28 : decode cX0_samePrints 28 = .ok (.getfield 57, 3) := by decide +kernel
theorem dX0_samePrints_31 : decode cX0_samePrints 31 = .ok (.if_icmp .ne 7, 3) := by decide +kernel
theorem dX0_samePrints_34 : decode cX0_samePrints 34 = .ok (.iconst 1, 1) := by decide +kernel
theorem dX0_samePrints_35 : decode cX0_samePrints 35 = .ok (.goto 4, 3) := by decide +kernel
end
section
theorem cd_X0_plainLine : Cond.code yX0_plainLine cX0_plainLine 2 (some .boolean) ∈ pWW := pw6 (List.mem_of_getElem? (i := 209) rfl) rfl
abbrev m_X0_plainLine : MT := (yX0_plainLine, cX0_plainLine, 2, (some .boolean))
theorem ok_X0_plainLine : pOk m_X0_plainLine := ⟨⟨cd_X0_plainLine, ini_0⟩, by decide +kernel, ⟨by decide +kernel, by decide +kernel⟩, Nat.le_of_ble_eq_true rfl⟩
theorem np_X0_plainLine : (parseMethodDescriptor yX0_plainLine.desc).map (fun d => d.parameters.length) = some 0 := by decide +kernel
theorem im_X0_plainLine : Cond.instanceMethod yX0_plainLine ∈ pWW := pw6 (List.mem_of_getElem? (i := 208) rfl) rfl
theorem se_X0_plainLine : Cond.selects RX0 yX0_plainLine yX0_plainLine ∈ pWW := pws (List.mem_map.mpr ⟨_, lw_pin 96 rfl, rfl⟩) rfl
theorem cst0_53 : Cond.constant RX0 53 (1000000) ∈ pWW := pw6 (List.mem_of_getElem? (i := 210) rfl) rfl
theorem fl0_33 : Cond.fieldLink RX0 33 (TX7 1).1 (TX7 1).2.1 (TX7 1).2.2.1 ∈ pWW := pw2 (List.mem_of_getElem? (i := 135) rfl) rfl
theorem ml0_36 : Cond.methodLink RX0 36 yX7_step ∈ pWW := pw6 (List.mem_of_getElem? (i := 205) rfl) rfl
theorem dX0_plainLine_0 : decode cX0_plainLine 0 = .ok (.iconst 0, 1) := by decide +kernel
theorem dX0_plainLine_1 : decode cX0_plainLine 1 = .ok (.istore_n 1, 1) := by decide +kernel
theorem dX0_plainLine_2 : decode cX0_plainLine 2 = .ok (.iload_n 1, 1) := by decide +kernel
theorem dX0_plainLine_3 : decode cX0_plainLine 3 = .ok (.ldc 53, 2) := by decide +kernel
theorem dX0_plainLine_5 : decode cX0_plainLine 5 = .ok (.if_icmp .ge 32, 3) := by decide +kernel
theorem dX0_plainLine_8 : decode cX0_plainLine 8 = .ok (.aload_n 0, 1) := by decide +kernel
theorem dX0_plainLine_9 : decode cX0_plainLine 9 = .ok (.getfield 20, 3) := by decide +kernel
theorem dX0_plainLine_12 : decode cX0_plainLine 12 = .ok (.getfield 33, 3) := by decide +kernel
theorem dX0_plainLine_15 : decode cX0_plainLine 15 = .ok (.iconst 1, 1) := by decide +kernel
theorem dX0_plainLine_16 : decode cX0_plainLine 16 = .ok (.if_icmp .ne 21, 3) := by decide +kernel
theorem dX0_plainLine_19 : decode cX0_plainLine 19 = .ok (.aload_n 0, 1) := by decide +kernel
theorem dX0_plainLine_20 : decode cX0_plainLine 20 = .ok (.getfield 20, 3) := by decide +kernel
theorem dX0_plainLine_23 : decode cX0_plainLine 23 = .ok (.invokevirtual 36, 3) := by decide +kernel
theorem dX0_plainLine_26 : decode cX0_plainLine 26 = .ok (.ifCond .eq 5, 3) := by decide +kernel
theorem dX0_plainLine_31 : decode cX0_plainLine 31 = .ok (.iinc 1 1, 3) := by decide +kernel
theorem dX0_plainLine_34 : decode cX0_plainLine 34 = .ok (.goto (-32), 3) := by decide +kernel
theorem dX0_plainLine_29 : decode cX0_plainLine 29 = .ok (.iconst 1, 1) := by decide +kernel
theorem dX0_plainLine_30 : decode cX0_plainLine 30 = .ok (.ireturn, 1) := by decide +kernel
theorem dX0_plainLine_37 : decode cX0_plainLine 37 = .ok (.iconst 0, 1) := by decide +kernel
theorem dX0_plainLine_38 : decode cX0_plainLine 38 = .ok (.ireturn, 1) := by decide +kernel
end
section
theorem cd_X0_sameNames : Cond.code yX0_sameNames cX0_sameNames 9 (some .boolean) ∈ pWW := pw6 (List.mem_of_getElem? (i := 225) rfl) rfl
abbrev m_X0_sameNames : MT := (yX0_sameNames, cX0_sameNames, 9, (some .boolean))
theorem ok_X0_sameNames : pOk m_X0_sameNames := ⟨⟨cd_X0_sameNames, ini_0⟩, by decide +kernel, ⟨by decide +kernel, by decide +kernel⟩, Nat.le_of_ble_eq_true rfl⟩
theorem np_X0_sameNames : (parseMethodDescriptor yX0_sameNames.desc).map (fun d => d.parameters.length) = some 1 := by decide +kernel
theorem im_X0_sameNames : Cond.instanceMethod yX0_sameNames ∈ pWW := pw6 (List.mem_of_getElem? (i := 224) rfl) rfl
theorem se_X0_sameNames : Cond.selects RX0 yX0_sameNames yX0_sameNames ∈ pWW := pws (List.mem_map.mpr ⟨_, lw_pin 99 rfl, rfl⟩) rfl
theorem ml0_77 : Cond.methodLink RX0 77 yX7_foundCode ∈ pWW := pw6 (List.mem_of_getElem? (i := 226) rfl) rfl
theorem ml0_81 : Cond.methodLink RX0 81 yX7_foundSource ∈ pWW := pw6 (List.mem_of_getElem? (i := 227) rfl) rfl
theorem ml0_84 : Cond.methodLink RX0 84 yX7_foundSlot ∈ pWW := pw6 (List.mem_of_getElem? (i := 228) rfl) rfl
theorem ml0_88 : Cond.methodLink RX0 88 yX7_foundNames ∈ pWW := pw6 (List.mem_of_getElem? (i := 229) rfl) rfl
theorem ml0_91 : Cond.methodLink RX0 91 yX10_idIn ∈ pWW := pw6 (List.mem_of_getElem? (i := 230) rfl) rfl
theorem fl0_27 : Cond.fieldLink RX0 27 (TX0 3).1 (TX0 3).2.1 (TX0 3).2.2.1 ∈ pWW := pw6 (List.mem_of_getElem? (i := 186) rfl) rfl
theorem dX0_sameNames_0 : decode cX0_sameNames 0 = .ok (.iconst 1, 1) := by decide +kernel
theorem dX0_sameNames_1 : decode cX0_sameNames 1 = .ok (.istore_n 2, 1) := by decide +kernel
theorem dX0_sameNames_2 : decode cX0_sameNames 2 = .ok (.aload_n 0, 1) := by decide +kernel
theorem dX0_sameNames_3 : decode cX0_sameNames 3 = .ok (.getfield 14, 3) := by decide +kernel
theorem dX0_sameNames_6 : decode cX0_sameNames 6 = .ok (.invokevirtual 77, 3) := by decide +kernel
theorem dX0_sameNames_9 : decode cX0_sameNames 9 = .ok (.astore_n 3, 1) := by decide +kernel
theorem dX0_sameNames_10 : decode cX0_sameNames 10 = .ok (.aload_n 0, 1) := by decide +kernel
theorem dX0_sameNames_11 : decode cX0_sameNames 11 = .ok (.getfield 14, 3) := by decide +kernel
theorem dX0_sameNames_14 : decode cX0_sameNames 14 = .ok (.invokevirtual 81, 3) := by decide +kernel
theorem dX0_sameNames_17 : decode cX0_sameNames 17 = .ok (.istore 4, 2) := by decide +kernel
theorem dX0_sameNames_19 : decode cX0_sameNames 19 = .ok (.aload_n 0, 1) := by decide +kernel
theorem dX0_sameNames_20 : decode cX0_sameNames 20 = .ok (.getfield 14, 3) := by decide +kernel
theorem dX0_sameNames_23 : decode cX0_sameNames 23 = .ok (.aload_n 1, 1) := by decide +kernel
theorem dX0_sameNames_24 : decode cX0_sameNames 24 = .ok (.invokevirtual 84, 3) := by decide +kernel
theorem dX0_sameNames_27 : decode cX0_sameNames 27 = .ok (.istore 5, 2) := by decide +kernel
theorem dX0_sameNames_29 : decode cX0_sameNames 29 = .ok (.aload_n 0, 1) := by decide +kernel
theorem dX0_sameNames_30 : decode cX0_sameNames 30 = .ok (.getfield 14, 3) := by decide +kernel
theorem dX0_sameNames_33 : decode cX0_sameNames 33 = .ok (.invokevirtual 88, 3) := by decide +kernel
theorem dX0_sameNames_36 : decode cX0_sameNames 36 = .ok (.istore 6, 2) := by decide +kernel
theorem dX0_sameNames_38 : decode cX0_sameNames 38 = .ok (.iconst 0, 1) := by decide +kernel
theorem dX0_sameNames_39 : decode cX0_sameNames 39 = .ok (.istore 7, 2) := by decide +kernel
theorem dX0_sameNames_41 : decode cX0_sameNames 41 = .ok (.iload 7, 2) := by decide +kernel
theorem dX0_sameNames_43 : decode cX0_sameNames 43 = .ok (.iload 6, 2) := by decide +kernel
theorem dX0_sameNames_45 : decode cX0_sameNames 45 = .ok (.if_icmp .ge 91, 3) := by decide +kernel
theorem dX0_sameNames_48 : decode cX0_sameNames 48 = .ok (.aload_n 1, 1) := by decide +kernel
theorem dX0_sameNames_49 : decode cX0_sameNames 49 = .ok (.iload 4, 2) := by decide +kernel
theorem dX0_sameNames_51 : decode cX0_sameNames 51 = .ok (.iload 5, 2) := by decide +kernel
theorem dX0_sameNames_53 : decode cX0_sameNames 53 = .ok (.iload 7, 2) := by decide +kernel
theorem dX0_sameNames_55 : decode cX0_sameNames 55 = .ok (.iadd, 1) := by decide +kernel
theorem dX0_sameNames_56 : decode cX0_sameNames 56 = .ok (.invokevirtual 91, 3) := by decide +kernel
theorem dX0_sameNames_59 : decode cX0_sameNames 59 = .ok (.istore 8, 2) := by decide +kernel
theorem dX0_sameNames_61 : decode cX0_sameNames 61 = .ok (.aload_n 3, 1) := by decide +kernel
theorem dX0_sameNames_62 : decode cX0_sameNames 62 = .ok (.ifnull 15, 3) := by decide +kernel
theorem dX0_sameNames_77 : decode cX0_sameNames 77 = .ok (.aload_n 0, 1) := by decide +kernel
theorem dX0_sameNames_78 : decode cX0_sameNames 78 = .ok (.dup, 1) := by decide +kernel
theorem dX0_sameNames_79 : decode cX0_sameNames 79 = .ok (.getfield 27, 3) := by decide +kernel
theorem dX0_sameNames_82 : decode cX0_sameNames 82 = .ok (.iconst 1, 1) := by decide +kernel
theorem dX0_sameNames_83 : decode cX0_sameNames 83 = .ok (.iadd, 1) := by decide +kernel
theorem dX0_sameNames_84 : decode cX0_sameNames 84 = .ok (.putfield 27, 3) := by decide +kernel
theorem dX0_sameNames_87 : decode cX0_sameNames 87 = .ok (.goto 43, 3) := by decide +kernel
theorem dX0_sameNames_130 : decode cX0_sameNames 130 = .ok (.iinc 7 1, 3) := by decide +kernel
theorem dX0_sameNames_133 : decode cX0_sameNames 133 = .ok (.goto (-92), 3) := by decide +kernel
theorem ml0_97 : Cond.methodLink RX0 97 yX10_whereOf ∈ pWW := pw6 (List.mem_of_getElem? (i := 231) rfl) rfl
theorem fl0_23 : Cond.fieldLink RX0 23 (TX0 2).1 (TX0 2).2.1 (TX0 2).2.2.1 ∈ pWW := pw6 (List.mem_of_getElem? (i := 184) rfl) rfl
theorem ml0_101 : Cond.methodLink RX0 101 yX7_foundValue ∈ pWW := pw6 (List.mem_of_getElem? (i := 232) rfl) rfl
theorem ml0_105 : Cond.methodLink RX0 105 yX7_foundRegister ∈ pWW := pw6 (List.mem_of_getElem? (i := 233) rfl) rfl
theorem dX0_sameNames_136 : decode cX0_sameNames 136 = .ok (.iload_n 2, 1) := by decide +kernel
theorem dX0_sameNames_137 : decode cX0_sameNames 137 = .ok (.ireturn, 1) := by decide +kernel
theorem dX0_sameNames_65 : decode cX0_sameNames 65 = .ok (.aload_n 1, 1) := by decide +kernel
theorem dX0_sameNames_66 : decode cX0_sameNames 66 = .ok (.aload_n 3, 1) := by decide +kernel
theorem dX0_sameNames_67 : decode cX0_sameNames 67 = .ok (.iload 8, 2) := by decide +kernel
theorem dX0_sameNames_69 : decode cX0_sameNames 69 = .ok (.invokevirtual 97, 3) := by decide +kernel
theorem dX0_sameNames_72 : decode cX0_sameNames 72 = .ok (.bipush 10, 2) := by decide +kernel
theorem dX0_sameNames_74 : decode cX0_sameNames 74 = .ok (.if_icmp .lt 16, 3) := by decide +kernel
theorem dX0_sameNames_90 : decode cX0_sameNames 90 = .ok (.aload_n 0, 1) := by decide +kernel
theorem dX0_sameNames_91 : decode cX0_sameNames 91 = .ok (.dup, 1) := by decide +kernel
theorem dX0_sameNames_92 : decode cX0_sameNames 92 = .ok (.getfield 23, 3) := by decide +kernel
theorem dX0_sameNames_95 : decode cX0_sameNames 95 = .ok (.iconst 1, 1) := by decide +kernel
theorem dX0_sameNames_96 : decode cX0_sameNames 96 = .ok (.iadd, 1) := by decide +kernel
theorem dX0_sameNames_97 : decode cX0_sameNames 97 = .ok (.putfield 23, 3) := by decide +kernel
theorem dX0_sameNames_100 : decode cX0_sameNames 100 = .ok (.iload_n 2, 1) := by decide +kernel
theorem dX0_sameNames_101 : decode cX0_sameNames 101 = .ok (.aload_n 0, 1) := by decide +kernel
theorem dX0_sameNames_102 : decode cX0_sameNames 102 = .ok (.getfield 14, 3) := by decide +kernel
theorem dX0_sameNames_105 : decode cX0_sameNames 105 = .ok (.aload_n 1, 1) := by decide +kernel
theorem dX0_sameNames_106 : decode cX0_sameNames 106 = .ok (.iload 8, 2) := by decide +kernel
theorem dX0_sameNames_108 : decode cX0_sameNames 108 = .ok (.invokevirtual 101, 3) := by decide +kernel
theorem dX0_sameNames_111 : decode cX0_sameNames 111 = .ok (.aload_n 0, 1) := by decide +kernel
theorem dX0_sameNames_112 : decode cX0_sameNames 112 = .ok (.getfield 20, 3) := by decide +kernel
theorem dX0_sameNames_115 : decode cX0_sameNames 115 = .ok (.iload 7, 2) := by decide +kernel
theorem dX0_sameNames_117 : decode cX0_sameNames 117 = .ok (.invokevirtual 105, 3) := by decide +kernel
theorem dX0_sameNames_120 : decode cX0_sameNames 120 = .ok (.if_icmp .ne 7, 3) := by decide +kernel
theorem dX0_sameNames_127 : decode cX0_sameNames 127 = .ok (.iconst 0, 1) := by decide +kernel
theorem dX0_sameNames_128 : decode cX0_sameNames 128 = .ok (.iand, 1) := by decide +kernel
theorem dX0_sameNames_129 : decode cX0_sameNames 129 = .ok (.istore_n 2, 1) := by decide +kernel
theorem dX0_sameNames_123 : decode cX0_sameNames 123 = .ok (.iconst 1, 1) := by decide +kernel
theorem dX0_sameNames_124 : decode cX0_sameNames 124 = .ok (.goto 4, 3) := by decide +kernel
end
section
theorem cd_X0_sameStack : Cond.code yX0_sameStack cX0_sameStack 4 (some .boolean) ∈ pWW := pw6 (List.mem_of_getElem? (i := 218) rfl) rfl
abbrev m_X0_sameStack : MT := (yX0_sameStack, cX0_sameStack, 4, (some .boolean))
theorem ok_X0_sameStack : pOk m_X0_sameStack := ⟨⟨cd_X0_sameStack, ini_0⟩, by decide +kernel, ⟨by decide +kernel, by decide +kernel⟩, Nat.le_of_ble_eq_true rfl⟩
theorem np_X0_sameStack : (parseMethodDescriptor yX0_sameStack.desc).map (fun d => d.parameters.length) = some 1 := by decide +kernel
theorem im_X0_sameStack : Cond.instanceMethod yX0_sameStack ∈ pWW := pw6 (List.mem_of_getElem? (i := 217) rfl) rfl
theorem se_X0_sameStack : Cond.selects RX0 yX0_sameStack yX0_sameStack ∈ pWW := pws (List.mem_map.mpr ⟨_, lw_pin 98 rfl, rfl⟩) rfl
theorem fl0_60 : Cond.fieldLink RX0 60 (TX7 3).1 (TX7 3).2.1 (TX7 3).2.2.1 ∈ pWW := pw2 (List.mem_of_getElem? (i := 139) rfl) rfl
theorem ml0_63 : Cond.methodLink RX0 63 yX7_find ∈ pWW := pw6 (List.mem_of_getElem? (i := 219) rfl) rfl
theorem ml0_74 : Cond.methodLink RX0 74 yX0_sameNames ∈ pWW := pw6 (List.mem_of_getElem? (i := 222) rfl) rfl
theorem ml0_67 : Cond.methodLink RX0 67 yX7_foundRoutine ∈ pWW := pw6 (List.mem_of_getElem? (i := 220) rfl) rfl
theorem ml0_71 : Cond.methodLink RX0 71 yX7_foundLine ∈ pWW := pw6 (List.mem_of_getElem? (i := 221) rfl) rfl
theorem dX0_sameStack_0 : decode cX0_sameStack 0 = .ok (.aload_n 0, 1) := by decide +kernel
theorem dX0_sameStack_1 : decode cX0_sameStack 1 = .ok (.getfield 14, 3) := by decide +kernel
theorem dX0_sameStack_4 : decode cX0_sameStack 4 = .ok (.getfield 60, 3) := by decide +kernel
theorem dX0_sameStack_7 : decode cX0_sameStack 7 = .ok (.aload_n 0, 1) := by decide +kernel
theorem dX0_sameStack_8 : decode cX0_sameStack 8 = .ok (.getfield 20, 3) := by decide +kernel
theorem dX0_sameStack_11 : decode cX0_sameStack 11 = .ok (.getfield 60, 3) := by decide +kernel
theorem dX0_sameStack_14 : decode cX0_sameStack 14 = .ok (.if_icmp .ne 7, 3) := by decide +kernel
theorem dX0_sameStack_21 : decode cX0_sameStack 21 = .ok (.iconst 0, 1) := by decide +kernel
theorem dX0_sameStack_22 : decode cX0_sameStack 22 = .ok (.istore_n 2, 1) := by decide +kernel
theorem dX0_sameStack_23 : decode cX0_sameStack 23 = .ok (.iconst 0, 1) := by decide +kernel
theorem dX0_sameStack_24 : decode cX0_sameStack 24 = .ok (.istore_n 3, 1) := by decide +kernel
theorem dX0_sameStack_25 : decode cX0_sameStack 25 = .ok (.iload_n 3, 1) := by decide +kernel
theorem dX0_sameStack_26 : decode cX0_sameStack 26 = .ok (.aload_n 0, 1) := by decide +kernel
theorem dX0_sameStack_27 : decode cX0_sameStack 27 = .ok (.getfield 14, 3) := by decide +kernel
theorem dX0_sameStack_30 : decode cX0_sameStack 30 = .ok (.getfield 60, 3) := by decide +kernel
theorem dX0_sameStack_33 : decode cX0_sameStack 33 = .ok (.if_icmp .ge 81, 3) := by decide +kernel
theorem dX0_sameStack_36 : decode cX0_sameStack 36 = .ok (.iload_n 2, 1) := by decide +kernel
theorem dX0_sameStack_37 : decode cX0_sameStack 37 = .ok (.aload_n 0, 1) := by decide +kernel
theorem dX0_sameStack_38 : decode cX0_sameStack 38 = .ok (.getfield 14, 3) := by decide +kernel
theorem dX0_sameStack_41 : decode cX0_sameStack 41 = .ok (.iload_n 3, 1) := by decide +kernel
theorem dX0_sameStack_42 : decode cX0_sameStack 42 = .ok (.invokevirtual 63, 3) := by decide +kernel
theorem dX0_sameStack_45 : decode cX0_sameStack 45 = .ok (.ifCond .eq 52, 3) := by decide +kernel
theorem dX0_sameStack_97 : decode cX0_sameStack 97 = .ok (.iconst 0, 1) := by decide +kernel
theorem dX0_sameStack_98 : decode cX0_sameStack 98 = .ok (.iand, 1) := by decide +kernel
theorem dX0_sameStack_99 : decode cX0_sameStack 99 = .ok (.istore_n 2, 1) := by decide +kernel
theorem dX0_sameStack_100 : decode cX0_sameStack 100 = .ok (.iload_n 2, 1) := by decide +kernel
theorem dX0_sameStack_101 : decode cX0_sameStack 101 = .ok (.aload_n 0, 1) := by decide +kernel
theorem dX0_sameStack_102 : decode cX0_sameStack 102 = .ok (.aload_n 1, 1) := by decide +kernel
theorem dX0_sameStack_103 : decode cX0_sameStack 103 = .ok (.invokevirtual 74, 3) := by decide +kernel
theorem dX0_sameStack_106 : decode cX0_sameStack 106 = .ok (.iand, 1) := by decide +kernel
theorem dX0_sameStack_107 : decode cX0_sameStack 107 = .ok (.istore_n 2, 1) := by decide +kernel
theorem dX0_sameStack_108 : decode cX0_sameStack 108 = .ok (.iinc 3 1, 3) := by decide +kernel
theorem dX0_sameStack_111 : decode cX0_sameStack 111 = .ok (.goto (-86), 3) := by decide +kernel
theorem dX0_sameStack_48 : decode cX0_sameStack 48 = .ok (.aload_n 0, 1) := by decide +kernel
theorem dX0_sameStack_49 : decode cX0_sameStack 49 = .ok (.getfield 20, 3) := by decide +kernel
theorem dX0_sameStack_52 : decode cX0_sameStack 52 = .ok (.iload_n 3, 1) := by decide +kernel
theorem dX0_sameStack_53 : decode cX0_sameStack 53 = .ok (.invokevirtual 63, 3) := by decide +kernel
theorem dX0_sameStack_56 : decode cX0_sameStack 56 = .ok (.ifCond .eq 41, 3) := by decide +kernel
theorem dX0_sameStack_59 : decode cX0_sameStack 59 = .ok (.aload_n 0, 1) := by decide +kernel
theorem dX0_sameStack_60 : decode cX0_sameStack 60 = .ok (.getfield 14, 3) := by decide +kernel
theorem dX0_sameStack_63 : decode cX0_sameStack 63 = .ok (.invokevirtual 67, 3) := by decide +kernel
theorem dX0_sameStack_66 : decode cX0_sameStack 66 = .ok (.aload_n 0, 1) := by decide +kernel
theorem dX0_sameStack_67 : decode cX0_sameStack 67 = .ok (.getfield 20, 3) := by decide +kernel
theorem dX0_sameStack_70 : decode cX0_sameStack 70 = .ok (.invokevirtual 67, 3) := by decide +kernel
theorem dX0_sameStack_73 : decode cX0_sameStack 73 = .ok (.if_icmp .ne 24, 3) := by decide +kernel
theorem dX0_sameStack_76 : decode cX0_sameStack 76 = .ok (.aload_n 0, 1) := by decide +kernel
theorem dX0_sameStack_77 : decode cX0_sameStack 77 = .ok (.getfield 14, 3) := by decide +kernel
theorem dX0_sameStack_80 : decode cX0_sameStack 80 = .ok (.invokevirtual 71, 3) := by decide +kernel
theorem dX0_sameStack_83 : decode cX0_sameStack 83 = .ok (.aload_n 0, 1) := by decide +kernel
theorem dX0_sameStack_84 : decode cX0_sameStack 84 = .ok (.getfield 20, 3) := by decide +kernel
theorem dX0_sameStack_87 : decode cX0_sameStack 87 = .ok (.invokevirtual 71, 3) := by decide +kernel
theorem dX0_sameStack_90 : decode cX0_sameStack 90 = .ok (.if_icmp .ne 7, 3) := by decide +kernel
theorem dX0_sameStack_93 : decode cX0_sameStack 93 = .ok (.iconst 1, 1) := by decide +kernel
theorem dX0_sameStack_94 : decode cX0_sameStack 94 = .ok (.goto 4, 3) := by decide +kernel
theorem dX0_sameStack_114 : decode cX0_sameStack 114 = .ok (.iload_n 2, 1) := by decide +kernel
theorem dX0_sameStack_115 : decode cX0_sameStack 115 = .ok (.ireturn, 1) := by decide +kernel
theorem dX0_sameStack_17 : decode cX0_sameStack 17 = .ok (.iconst 1, 1) := by decide +kernel
theorem dX0_sameStack_18 : decode cX0_sameStack 18 = .ok (.goto 4, 3) := by decide +kernel
end
section
theorem cd_X0_together : Cond.code yX0_together cX0_together 5 (some .int) ∈ pWW := pw6 (List.mem_of_getElem? (i := 204) rfl) rfl
abbrev m_X0_together : MT := (yX0_together, cX0_together, 5, (some .int))
theorem ok_X0_together : pOk m_X0_together := ⟨⟨cd_X0_together, ini_0⟩, by decide +kernel, ⟨by decide +kernel, by decide +kernel⟩, Nat.le_of_ble_eq_true rfl⟩
theorem np_X0_together : (parseMethodDescriptor yX0_together.desc).map (fun d => d.parameters.length) = some 2 := by decide +kernel
theorem im_X0_together : Cond.instanceMethod yX0_together ∈ pWW := pw6 (List.mem_of_getElem? (i := 202) rfl) rfl
theorem se_X0_together : Cond.selects RX0 yX0_together yX0_together ∈ pWW := pw6 (List.mem_of_getElem? (i := 203) rfl) rfl
theorem fl0_30 : Cond.fieldLink RX0 30 (TX0 4).1 (TX0 4).2.1 (TX0 4).2.2.1 ∈ pWW := pw6 (List.mem_of_getElem? (i := 188) rfl) rfl
theorem ml0_40 : Cond.methodLink RX0 40 yX0_plainLine ∈ pWW := pw6 (List.mem_of_getElem? (i := 206) rfl) rfl
theorem ml0_43 : Cond.methodLink RX0 43 yX0_samePrints ∈ pWW := pw6 (List.mem_of_getElem? (i := 211) rfl) rfl
theorem ml0_46 : Cond.methodLink RX0 46 yX0_sameStack ∈ pWW := pw6 (List.mem_of_getElem? (i := 215) rfl) rfl
theorem dX0_together_0 : decode cX0_together 0 = .ok (.iconst 0, 1) := by decide +kernel
theorem dX0_together_1 : decode cX0_together 1 = .ok (.istore_n 3, 1) := by decide +kernel
theorem dX0_together_2 : decode cX0_together 2 = .ok (.aload_n 0, 1) := by decide +kernel
theorem dX0_together_3 : decode cX0_together 3 = .ok (.iconst 0, 1) := by decide +kernel
theorem dX0_together_4 : decode cX0_together 4 = .ok (.putfield 23, 3) := by decide +kernel
theorem dX0_together_7 : decode cX0_together 7 = .ok (.aload_n 0, 1) := by decide +kernel
theorem dX0_together_8 : decode cX0_together 8 = .ok (.iconst 0, 1) := by decide +kernel
theorem dX0_together_9 : decode cX0_together 9 = .ok (.putfield 27, 3) := by decide +kernel
theorem dX0_together_12 : decode cX0_together 12 = .ok (.aload_n 0, 1) := by decide +kernel
theorem dX0_together_13 : decode cX0_together 13 = .ok (.iconst 0, 1) := by decide +kernel
theorem dX0_together_14 : decode cX0_together 14 = .ok (.putfield 30, 3) := by decide +kernel
theorem dX0_together_17 : decode cX0_together 17 = .ok (.iconst 0, 1) := by decide +kernel
theorem dX0_together_18 : decode cX0_together 18 = .ok (.istore 4, 2) := by decide +kernel
theorem dX0_together_20 : decode cX0_together 20 = .ok (.iload 4, 2) := by decide +kernel
theorem dX0_together_22 : decode cX0_together 22 = .ok (.iload_n 2, 1) := by decide +kernel
theorem dX0_together_23 : decode cX0_together 23 = .ok (.if_icmp .ge 60, 3) := by decide +kernel
theorem dX0_together_26 : decode cX0_together 26 = .ok (.aload_n 0, 1) := by decide +kernel
theorem dX0_together_27 : decode cX0_together 27 = .ok (.getfield 14, 3) := by decide +kernel
theorem dX0_together_30 : decode cX0_together 30 = .ok (.getfield 33, 3) := by decide +kernel
theorem dX0_together_33 : decode cX0_together 33 = .ok (.iconst 1, 1) := by decide +kernel
theorem dX0_together_34 : decode cX0_together 34 = .ok (.if_icmp .ne 49, 3) := by decide +kernel
theorem dX0_together_37 : decode cX0_together 37 = .ok (.aload_n 0, 1) := by decide +kernel
theorem dX0_together_38 : decode cX0_together 38 = .ok (.getfield 14, 3) := by decide +kernel
theorem dX0_together_41 : decode cX0_together 41 = .ok (.invokevirtual 36, 3) := by decide +kernel
theorem dX0_together_44 : decode cX0_together 44 = .ok (.ifCond .eq 33, 3) := by decide +kernel
theorem dX0_together_77 : decode cX0_together 77 = .ok (.iinc 4 1, 3) := by decide +kernel
theorem dX0_together_80 : decode cX0_together 80 = .ok (.goto (-60), 3) := by decide +kernel
theorem dX0_together_47 : decode cX0_together 47 = .ok (.aload_n 0, 1) := by decide +kernel
theorem dX0_together_48 : decode cX0_together 48 = .ok (.invokevirtual 40, 3) := by decide +kernel
theorem dX0_together_51 : decode cX0_together 51 = .ok (.ifCond .eq 18, 3) := by decide +kernel
theorem dX0_together_54 : decode cX0_together 54 = .ok (.aload_n 0, 1) := by decide +kernel
theorem dX0_together_55 : decode cX0_together 55 = .ok (.invokevirtual 43, 3) := by decide +kernel
theorem dX0_together_58 : decode cX0_together 58 = .ok (.ifCond .eq 11, 3) := by decide +kernel
theorem dX0_together_61 : decode cX0_together 61 = .ok (.aload_n 0, 1) := by decide +kernel
theorem dX0_together_62 : decode cX0_together 62 = .ok (.aload_n 1, 1) := by decide +kernel
theorem dX0_together_63 : decode cX0_together 63 = .ok (.invokevirtual 46, 3) := by decide +kernel
theorem dX0_together_66 : decode cX0_together 66 = .ok (.ifCond .ne 8, 3) := by decide +kernel
theorem dX0_together_74 : decode cX0_together 74 = .ok (.iinc 3 1, 3) := by decide +kernel
theorem fl0_50 : Cond.fieldLink RX0 50 (TX7 13).1 (TX7 13).2.1 (TX7 13).2.2.1 ∈ pWW := pw2 (List.mem_of_getElem? (i := 155) rfl) rfl
theorem dX0_together_69 : decode cX0_together 69 = .ok (.bipush (-2), 2) := by decide +kernel
theorem dX0_together_71 : decode cX0_together 71 = .ok (.iload_n 3, 1) := by decide +kernel
theorem dX0_together_72 : decode cX0_together 72 = .ok (.isub, 1) := by decide +kernel
theorem dX0_together_73 : decode cX0_together 73 = .ok (.ireturn, 1) := by decide +kernel
theorem dX0_together_83 : decode cX0_together 83 = .ok (.aload_n 0, 1) := by decide +kernel
theorem dX0_together_84 : decode cX0_together 84 = .ok (.getfield 14, 3) := by decide +kernel
theorem dX0_together_87 : decode cX0_together 87 = .ok (.getfield 33, 3) := by decide +kernel
theorem dX0_together_90 : decode cX0_together 90 = .ok (.iconst 1, 1) := by decide +kernel
theorem dX0_together_91 : decode cX0_together 91 = .ok (.if_icmp .ne 5, 3) := by decide +kernel
theorem dX0_together_96 : decode cX0_together 96 = .ok (.aload_n 0, 1) := by decide +kernel
theorem dX0_together_97 : decode cX0_together 97 = .ok (.invokevirtual 40, 3) := by decide +kernel
theorem dX0_together_100 : decode cX0_together 100 = .ok (.ifCond .ne 44, 3) := by decide +kernel
theorem dX0_together_144 : decode cX0_together 144 = .ok (.bipush (-2), 2) := by decide +kernel
theorem dX0_together_146 : decode cX0_together 146 = .ok (.iload_n 3, 1) := by decide +kernel
theorem dX0_together_147 : decode cX0_together 147 = .ok (.isub, 1) := by decide +kernel
theorem dX0_together_148 : decode cX0_together 148 = .ok (.ireturn, 1) := by decide +kernel
theorem dX0_together_103 : decode cX0_together 103 = .ok (.aload_n 0, 1) := by decide +kernel
theorem dX0_together_104 : decode cX0_together 104 = .ok (.getfield 20, 3) := by decide +kernel
theorem dX0_together_107 : decode cX0_together 107 = .ok (.getfield 33, 3) := by decide +kernel
theorem dX0_together_110 : decode cX0_together 110 = .ok (.aload_n 0, 1) := by decide +kernel
theorem dX0_together_111 : decode cX0_together 111 = .ok (.getfield 14, 3) := by decide +kernel
theorem dX0_together_114 : decode cX0_together 114 = .ok (.getfield 33, 3) := by decide +kernel
theorem dX0_together_117 : decode cX0_together 117 = .ok (.if_icmp .ne 27, 3) := by decide +kernel
theorem dX0_together_120 : decode cX0_together 120 = .ok (.aload_n 0, 1) := by decide +kernel
theorem dX0_together_121 : decode cX0_together 121 = .ok (.invokevirtual 43, 3) := by decide +kernel
theorem dX0_together_124 : decode cX0_together 124 = .ok (.ifCond .eq 20, 3) := by decide +kernel
theorem dX0_together_127 : decode cX0_together 127 = .ok (.aload_n 0, 1) := by decide +kernel
theorem dX0_together_128 : decode cX0_together 128 = .ok (.getfield 20, 3) := by decide +kernel
theorem dX0_together_131 : decode cX0_together 131 = .ok (.getfield 50, 3) := by decide +kernel
theorem dX0_together_134 : decode cX0_together 134 = .ok (.aload_n 0, 1) := by decide +kernel
theorem dX0_together_135 : decode cX0_together 135 = .ok (.getfield 14, 3) := by decide +kernel
theorem dX0_together_138 : decode cX0_together 138 = .ok (.getfield 50, 3) := by decide +kernel
theorem dX0_together_141 : decode cX0_together 141 = .ok (.if_icmp .eq 8, 3) := by decide +kernel
theorem dX0_together_149 : decode cX0_together 149 = .ok (.aload_n 0, 1) := by decide +kernel
theorem dX0_together_150 : decode cX0_together 150 = .ok (.aload_n 0, 1) := by decide +kernel
theorem dX0_together_151 : decode cX0_together 151 = .ok (.getfield 14, 3) := by decide +kernel
theorem dX0_together_154 : decode cX0_together 154 = .ok (.getfield 33, 3) := by decide +kernel
theorem dX0_together_157 : decode cX0_together 157 = .ok (.iconst 2, 1) := by decide +kernel
theorem dX0_together_158 : decode cX0_together 158 = .ok (.if_icmp .ne 7, 3) := by decide +kernel
theorem dX0_together_165 : decode cX0_together 165 = .ok (.iconst 2, 1) := by decide +kernel
theorem dX0_together_166 : decode cX0_together 166 = .ok (.putfield 30, 3) := by decide +kernel
theorem dX0_together_169 : decode cX0_together 169 = .ok (.iload_n 3, 1) := by decide +kernel
theorem dX0_together_170 : decode cX0_together 170 = .ok (.ireturn, 1) := by decide +kernel
theorem dX0_together_161 : decode cX0_together 161 = .ok (.iconst 1, 1) := by decide +kernel
theorem dX0_together_162 : decode cX0_together 162 = .ok (.goto 4, 3) := by decide +kernel
theorem dX0_together_94 : decode cX0_together 94 = .ok (.iload_n 3, 1) := by decide +kernel
theorem dX0_together_95 : decode cX0_together 95 = .ok (.ireturn, 1) := by decide +kernel
end
section
theorem mlmJ7 : Cond.methodLink RXJ7 304 Lib.Math.min.name ∈ pWW := pw3 (List.mem_of_getElem? (i := 140) rfl) rfl
theorem mlaJ7 : Cond.methodLink RXJ7 150 arraycopyName ∈ pWW := pw3 (List.mem_of_getElem? (i := 141) rfl) rfl

theorem dJ7_copyOf_59c91_0 : decode cJ7_copyOf_59c91 0 = .ok (.iload_n 1, 1) := by decide +kernel
theorem dJ7_copyOf_59c91_1 : decode cJ7_copyOf_59c91 1 = .ok (.aload_n 0, 1) := by decide +kernel
theorem dJ7_copyOf_59c91_2 : decode cJ7_copyOf_59c91 2 = .ok (.arraylength, 1) := by decide +kernel
theorem dJ7_copyOf_59c91_3 : decode cJ7_copyOf_59c91 3 = .ok (.if_icmp .ne 11, 3) := by decide +kernel
theorem dJ7_copyOf_59c91_14 : decode cJ7_copyOf_59c91 14 = .ok (.iload_n 1, 1) := by decide +kernel
theorem dJ7_copyOf_59c91_15 : decode cJ7_copyOf_59c91 15 = .ok (.newarray .int, 2) := by decide +kernel
theorem dJ7_copyOf_59c91_17 : decode cJ7_copyOf_59c91 17 = .ok (.astore_n 2, 1) := by decide +kernel
theorem dJ7_copyOf_59c91_18 : decode cJ7_copyOf_59c91 18 = .ok (.aload_n 0, 1) := by decide +kernel
theorem dJ7_copyOf_59c91_19 : decode cJ7_copyOf_59c91 19 = .ok (.iconst 0, 1) := by decide +kernel
theorem dJ7_copyOf_59c91_20 : decode cJ7_copyOf_59c91 20 = .ok (.aload_n 2, 1) := by decide +kernel
theorem dJ7_copyOf_59c91_21 : decode cJ7_copyOf_59c91 21 = .ok (.iconst 0, 1) := by decide +kernel
theorem dJ7_copyOf_59c91_22 : decode cJ7_copyOf_59c91 22 = .ok (.aload_n 0, 1) := by decide +kernel
theorem dJ7_copyOf_59c91_23 : decode cJ7_copyOf_59c91 23 = .ok (.arraylength, 1) := by decide +kernel
theorem dJ7_copyOf_59c91_24 : decode cJ7_copyOf_59c91 24 = .ok (.iload_n 1, 1) := by decide +kernel
theorem dJ7_copyOf_59c91_25 : decode cJ7_copyOf_59c91 25 = .ok (.invokestatic 304, 3) := by decide +kernel
theorem dJ7_copyOf_59c91_28 : decode cJ7_copyOf_59c91 28 = .ok (.invokestatic 150, 3) := by decide +kernel
theorem dJ7_copyOf_59c91_31 : decode cJ7_copyOf_59c91 31 = .ok (.aload_n 2, 1) := by decide +kernel
theorem dJ7_copyOf_59c91_32 : decode cJ7_copyOf_59c91 32 = .ok (.areturn, 1) := by decide +kernel
theorem rowS_rowS {r : Nat} {f g : Int → Int} {σ : MS} : rowS r f (rowS r g σ) = rowS r f σ := by
  unfold rowS
  simp only [Prod.mk.injEq, true_and, and_true]
  funext j
  by_cases h : j = r
  · simp [h]
  · simp [h]
theorem k_copyOf (d : Nat) {T : CT} {σ : MS} {a : Nat} {z : Int} {N : Nat} (ha : IA T a) (hl : (T a).2 ≤ 1000000) (hv : ∀ i, VOK (T a).1 i (σ.2.1 (1000 + a) i)) (hz : z = (N : Int)) (hN : N ≤ 1000000) (hlt : (T a).2 < N) : Tn (d + 1) m_J7_copyOf_59c91 0 T σ [(0, .ref a), (1, .int (iI z))] [] (fun ro T2 σ2 => ∃ (x : Nat) (f : Int → Int), ro = some (.ref x) ∧ (T x).1 = 0 ∧ T2 = tT T x (T a).1 N ∧ σ2 = rowS (1000 + x) f (gh N σ) ∧ ∀ i, VOK (T a).1 i (f i)) := by
  refine tn_iload_n dJ7_copyOf_59c91_0 rfl 1 rfl ?_
  refine tn_aload_n dJ7_copyOf_59c91_1 rfl 0 rfl ?_
  refine tn_alenX dJ7_copyOf_59c91_2 (Or.inl ha) ?_
  refine tn_icmp_ne (tgt := 14) dJ7_copyOf_59c91_3 (by decide) ⟨by omega, by omega⟩ ⟨by omega, by omega⟩ (fun _ => ?_) (fun h => absurd h (by omega))
  refine tn_iload_n dJ7_copyOf_59c91_14 rfl 1 rfl ?_
  refine tn_newI (N := N) (k := (T a).1) dJ7_copyOf_59c91_15 arC_int ha hz hN (fun x hx => ?_)
  have hax : a ≠ x := fun e => by unfold IA at ha; rw [e] at ha; omega
  have hTa : tT T x (T a).1 N a = T a := tT_ne hax
  have ha2 : IA (tT T x (T a).1 N) a := by unfold IA; rw [hTa]; exact ha
  have hx2 : IA (tT T x (T a).1 N) x := by unfold IA; rw [tT_eq]; exact ha
  have hxl : (tT T x (T a).1 N x).2 = N := by rw [tT_eq]
  have hal : (tT T x (T a).1 N a).2 = (T a).2 := by rw [hTa]
  generalize hT2 : tT T x (T a).1 N = T2 at ha2 hx2 hxl hal
  refine tn_astore_n (L' := [(2, .ref x), (0, .ref a), (1, .int (iI z))]) dJ7_copyOf_59c91_17 rfl (by decide) rfl ?_
  refine tn_aload_n dJ7_copyOf_59c91_18 rfl 1 rfl ?_
  refine tn_iconst dJ7_copyOf_59c91_19 ?_
  refine tn_aload_n dJ7_copyOf_59c91_20 rfl 0 rfl ?_
  refine tn_iconst dJ7_copyOf_59c91_21 ?_
  refine tn_aload_n dJ7_copyOf_59c91_22 rfl 1 rfl ?_
  refine tn_alenX dJ7_copyOf_59c91_23 (Or.inl ha2) ?_
  refine tn_iload_n dJ7_copyOf_59c91_24 rfl 2 rfl ?_
  refine tn_mmin (x := ((T2 a).2 : Int)) (y := z) dJ7_copyOf_59c91_25 mlmJ7 stM_min iniM cdM_min (by omega) (Nat.le_of_ble_eq_true rfl) ⟨by omega, by omega⟩ ⟨by omega, by omega⟩ (fun m hm => ?_)
  refine tn_acopyI (a := a) (b := x) (sp := 0) (dp := 0) (n := m) dJ7_copyOf_59c91_28 mlaJ7 acNat acSt acIni ha2 hx2 ⟨by omega, by omega⟩ (by omega) (by omega) (by omega) (by omega) (by omega) (by omega) (Nat.le_of_ble_eq_true rfl) ?_
  refine tn_aload_n dJ7_copyOf_59c91_31 rfl 0 rfl ?_
  refine tn_aret rfl (Or.inr ⟨_, rfl⟩) (Or.inr ⟨_, rfl⟩) dJ7_copyOf_59c91_32 ⟨x, _, rfl, hx, hT2.symm, rowS_rowS, fun i => ?_⟩
  have e1 : (rowS (1000 + x) (fun _ => 0) (gh N σ)).2.1 (1000 + a) = σ.2.1 (1000 + a) := by rw [rowS_ne (by omega)]; rfl
  rw [e1, rowS_eq]
  unfold cpZ
  by_cases h : (0 : Int) ≤ i ∧ i < 0 + m
  · rw [if_pos h, show (0 : Int) + (i - 0) = i by omega]; exact hv i
  · rw [if_neg h]; exact vok_0
section APP
variable {T : CT} {σ τ : MS} {a x y N : Nat} {f : Int → Int}
theorem WTx.app (h : WTx 0 0 T τ a) (ha : OB T a 1) (hy : τ.2.1 5 a = (y : Int)) (hx0 : (T x).1 = 0) (hf : ∀ i, VOK (T y).1 i (f i)) (hl : 208 ≤ N ∧ N ≤ 2600) (h1 : (T y).2 < N) (h2 : N = 2600 ∨ (2 * (T y).2 ≤ N ∧ N < 2600)) (hc : 13 * τ.2.1 6 a ≤ (N : Int) ∨ 2600 ≤ N) : WT (tT T x (T y).1 N) (sA 5 a x (rowS (1000 + x) f (gh N τ))) := by
  obtain ⟨y2, e1, e2, e3, e4⟩ : FO 5 (T a).1 T (τ.2.1 5 a) := h.1 5 a (by decide) ha
  have ey : y2 = y := by omega
  subst ey
  have hk : (T y2).1 = 1 ∨ (11 ≤ (T y2).1 ∧ (T y2).1 ≤ 24) := by omega
  have w := h.newI hx0 hk hf (by omega : 1 ≤ N)
  rw [Nat.zero_add, Nat.zero_add] at w
  have hne : a ≠ x := fun e => by have := ha.1; rw [e] at this; omega
  have hyx : y2 ≠ x := fun e => by rw [e] at hk; omega
  have ga : tT T x (T y2).1 N a = T a := tT_ne hne
  have gy : tT T x (T y2).1 N y2 = T y2 := tT_ne hyx
  refine w.pay5 (y := y2) (ob_tT hx0 ha) ?_ (by rw [tT_eq]) hl (by rw [rowS_ne (by omega)]; exact hy) (by rw [gy]; exact h1) (by rw [gy]; exact h2) (by rw [rowS_ne (by omega)]; exact hc)
  unfold CELL
  rw [ga, tT_eq]
  exact ⟨e3, e4⟩
theorem cell_of (hw : WT T σ) (ha : OB T a 1) (hx : σ.2.1 5 a = (x : Int)) : CELL T a x ∧ IA T x := by
  obtain ⟨y, e1, e2, e3, e4⟩ := wf_5 hw ha
  have e : y = x := by omega
  subst e
  exact ⟨⟨e3, e4⟩, by unfold IA; omega⟩
end APP
def HR (T : CT) (σ : MS) (a : Nat) (n : Int) : Prop := ∀ x : Nat, σ.2.1 5 a = (x : Int) → 13 * n ≤ ((T x).2 : Int)
theorem HR.of {T : CT} {σ : MS} {a x : Nat} {n : Int} (hx : σ.2.1 5 a = (x : Int)) (h : 13 * n ≤ ((T x).2 : Int)) : HR T σ a n := fun y q => by
  have e : y = x := by omega
  rw [e]; exact h
end
