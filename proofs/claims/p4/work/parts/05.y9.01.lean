theorem cd_X7_openCall : Cond.code yX7_openCall cX7_openCall 4 none ∈ pWW := pw6 (List.mem_of_getElem? (i := 36) rfl) rfl
abbrev m_X7_openCall : MT := (yX7_openCall, cX7_openCall, 4, none)
theorem ok_X7_openCall : pOk m_X7_openCall := ⟨⟨cd_X7_openCall, ini_7⟩, by decide +kernel, ⟨by decide +kernel, by decide +kernel⟩, Nat.le_of_ble_eq_true rfl⟩
theorem np_X7_openCall : (parseMethodDescriptor yX7_openCall.desc).map (fun d => d.parameters.length) = some 2 := by decide +kernel
theorem im_X7_openCall : Cond.instanceMethod yX7_openCall ∈ pWW := pw6 (List.mem_of_getElem? (i := 35) rfl) rfl
theorem se_X7_openCall : Cond.selects RX7 yX7_openCall yX7_openCall ∈ pWW := pws (List.mem_map.mpr ⟨_, lw_pin 85 rfl, rfl⟩) rfl
theorem fl7_21 : Cond.fieldLink RX7 21 (TX7 7).1 (TX7 7).2.1 (TX7 7).2.2.1 ∈ pWW := pw2 (List.mem_of_getElem? (i := 144) rfl) rfl
theorem ml7_76 : Cond.methodLink RX7 76 yJ7_fill_fda19 ∈ pWW := pw6 (List.mem_of_getElem? (i := 42) rfl) rfl
theorem dX7_openCall_0 : decode cX7_openCall 0 = .ok (.aload_n 0, 1) := by decide +kernel
theorem dX7_openCall_1 : decode cX7_openCall 1 = .ok (.iload_n 1, 1) := by decide +kernel
theorem dX7_openCall_2 : decode cX7_openCall 2 = .ok (.putfield 65, 3) := by decide +kernel
theorem dX7_openCall_5 : decode cX7_openCall 5 = .ok (.aload_n 0, 1) := by decide +kernel
theorem dX7_openCall_6 : decode cX7_openCall 6 = .ok (.dup, 1) := by decide +kernel
theorem dX7_openCall_7 : decode cX7_openCall 7 = .ok (.getfield 38, 3) := by decide +kernel
theorem dX7_openCall_10 : decode cX7_openCall 10 = .ok (.iconst 1, 1) := by decide +kernel
theorem dX7_openCall_11 : decode cX7_openCall 11 = .ok (.iadd, 1) := by decide +kernel
theorem dX7_openCall_12 : decode cX7_openCall 12 = .ok (.putfield 38, 3) := by decide +kernel
theorem dX7_openCall_15 : decode cX7_openCall 15 = .ok (.aload_n 0, 1) := by decide +kernel
theorem dX7_openCall_16 : decode cX7_openCall 16 = .ok (.aload_n 0, 1) := by decide +kernel
theorem dX7_openCall_17 : decode cX7_openCall 17 = .ok (.iload_n 2, 1) := by decide +kernel
theorem dX7_openCall_18 : decode cX7_openCall 18 = .ok (.invokevirtual 68, 3) := by decide +kernel
theorem dX7_openCall_21 : decode cX7_openCall 21 = .ok (.putfield 72, 3) := by decide +kernel
theorem dX7_openCall_24 : decode cX7_openCall 24 = .ok (.aload_n 0, 1) := by decide +kernel
theorem dX7_openCall_25 : decode cX7_openCall 25 = .ok (.getfield 9, 3) := by decide +kernel
theorem dX7_openCall_28 : decode cX7_openCall 28 = .ok (.iload_n 1, 1) := by decide +kernel
theorem dX7_openCall_29 : decode cX7_openCall 29 = .ok (.iload_n 2, 1) := by decide +kernel
theorem dX7_openCall_30 : decode cX7_openCall 30 = .ok (.invokestatic 61, 3) := by decide +kernel
theorem dX7_openCall_33 : decode cX7_openCall 33 = .ok (.aload_n 0, 1) := by decide +kernel
theorem dX7_openCall_34 : decode cX7_openCall 34 = .ok (.getfield 15, 3) := by decide +kernel
theorem dX7_openCall_37 : decode cX7_openCall 37 = .ok (.iload_n 1, 1) := by decide +kernel
theorem dX7_openCall_38 : decode cX7_openCall 38 = .ok (.iconst 0, 1) := by decide +kernel
theorem dX7_openCall_39 : decode cX7_openCall 39 = .ok (.invokestatic 61, 3) := by decide +kernel
theorem dX7_openCall_42 : decode cX7_openCall 42 = .ok (.aload_n 0, 1) := by decide +kernel
theorem dX7_openCall_43 : decode cX7_openCall 43 = .ok (.getfield 18, 3) := by decide +kernel
theorem dX7_openCall_46 : decode cX7_openCall 46 = .ok (.iload_n 1, 1) := by decide +kernel
theorem dX7_openCall_47 : decode cX7_openCall 47 = .ok (.iconst 0, 1) := by decide +kernel
theorem dX7_openCall_48 : decode cX7_openCall 48 = .ok (.invokestatic 61, 3) := by decide +kernel
theorem dX7_openCall_51 : decode cX7_openCall 51 = .ok (.aload_n 0, 1) := by decide +kernel
theorem dX7_openCall_52 : decode cX7_openCall 52 = .ok (.getfield 21, 3) := by decide +kernel
theorem dX7_openCall_55 : decode cX7_openCall 55 = .ok (.iload_n 1, 1) := by decide +kernel
theorem dX7_openCall_56 : decode cX7_openCall 56 = .ok (.bipush 12, 2) := by decide +kernel
theorem dX7_openCall_58 : decode cX7_openCall 58 = .ok (.imul, 1) := by decide +kernel
theorem dX7_openCall_59 : decode cX7_openCall 59 = .ok (.iconst 0, 1) := by decide +kernel
theorem dX7_openCall_60 : decode cX7_openCall 60 = .ok (.invokestatic 61, 3) := by decide +kernel
theorem dX7_openCall_63 : decode cX7_openCall 63 = .ok (.iload_n 1, 1) := by decide +kernel
theorem dX7_openCall_64 : decode cX7_openCall 64 = .ok (.sipush 192, 3) := by decide +kernel
theorem dX7_openCall_67 : decode cX7_openCall 67 = .ok (.imul, 1) := by decide +kernel
theorem dX7_openCall_68 : decode cX7_openCall 68 = .ok (.istore_n 3, 1) := by decide +kernel
theorem dX7_openCall_69 : decode cX7_openCall 69 = .ok (.iload_n 3, 1) := by decide +kernel
theorem dX7_openCall_70 : decode cX7_openCall 70 = .ok (.ifCond .lt 30, 3) := by decide +kernel
theorem dX7_openCall_73 : decode cX7_openCall 73 = .ok (.iload_n 3, 1) := by decide +kernel
theorem dX7_openCall_74 : decode cX7_openCall 74 = .ok (.sipush 192, 3) := by decide +kernel
theorem dX7_openCall_77 : decode cX7_openCall 77 = .ok (.iadd, 1) := by decide +kernel
theorem dX7_openCall_78 : decode cX7_openCall 78 = .ok (.aload_n 0, 1) := by decide +kernel
theorem dX7_openCall_79 : decode cX7_openCall 79 = .ok (.getfield 24, 3) := by decide +kernel
theorem dX7_openCall_82 : decode cX7_openCall 82 = .ok (.arraylength, 1) := by decide +kernel
theorem dX7_openCall_83 : decode cX7_openCall 83 = .ok (.if_icmp .gt 17, 3) := by decide +kernel
theorem dX7_openCall_100 : decode cX7_openCall 100 = .ok (.return_, 1) := by decide +kernel
theorem dX7_openCall_86 : decode cX7_openCall 86 = .ok (.aload_n 0, 1) := by decide +kernel
theorem dX7_openCall_87 : decode cX7_openCall 87 = .ok (.getfield 24, 3) := by decide +kernel
theorem dX7_openCall_90 : decode cX7_openCall 90 = .ok (.iload_n 3, 1) := by decide +kernel
theorem dX7_openCall_91 : decode cX7_openCall 91 = .ok (.iload_n 3, 1) := by decide +kernel
theorem dX7_openCall_92 : decode cX7_openCall 92 = .ok (.sipush 192, 3) := by decide +kernel
theorem dX7_openCall_95 : decode cX7_openCall 95 = .ok (.iadd, 1) := by decide +kernel
theorem dX7_openCall_96 : decode cX7_openCall 96 = .ok (.iconst 0, 1) := by decide +kernel
theorem dX7_openCall_97 : decode cX7_openCall 97 = .ok (.invokestatic 76, 3) := by decide +kernel
set_option maxRecDepth 20000 in
theorem k_X7_openCall (d : Nat) {T : CT} {σ : MS} {a : Nat} {c : Int} {r : Int} (ha : OB T a 7) (hta : (T a).1 = 37) (h_c : -2147483648 ≤ c ∧ c ≤ 2147483647) (h_r : -2147483648 ≤ r ∧ r ≤ 2147483647) (hw : WT T σ) (h8 : 0 ≤ c ∧ c ≤ 11184800) : Tn (d + 3) m_X7_openCall 0 T σ [(0, .ref a), (1, .int (iI c)), (2, .int (iI r))] [] (fun ro T2 σ2 => ro = none ∧ T = T2 ∧ WT T2 σ2 ∧ FrC T [57, 58, 69, 515] σ σ2 ∧ (σ2.2.1 57 a = c) ∧ (FA a σ σ2)) := by
  refine tn_aload_n dX7_openCall_0 rfl 0 rfl ?_
  refine tn_iload_n dX7_openCall_1 rfl 1 rfl ?_
  refine tn_putV (ci := 7) (i := 2) (n := 57) (r := false) (v := c) tyX7 tyX7_ok nmX7 dX7_openCall_2 rfl lay_7 (by decide) fl7_65 rfl (tyX7_ok 2 (by decide)) rfl rfl rfl ha rfl rfl ?_
  refine tn_aload_n dX7_openCall_5 rfl 0 rfl ?_
  refine tn_dup dX7_openCall_6 rfl ?_
  refine tn_getI (ci := 7) (i := 3) (n := 58) (t := σ.2.1 58 a) dX7_openCall_7 rfl lay_7 (by decide) fl7_38 ha rfl rfl (rc_o (by decide) (rfl)) ?_
  have g1 : ((-2147483648 : Int) ≤ σ.2.1 58 a ∧ σ.2.1 58 a ≤ 2147483647) := wf_58 hw ha
  refine tn_iconst dX7_openCall_10 ?_
  refine tn_iadd dX7_openCall_11 ?_
  refine tn_any (fun z2 g3 => ?_)
  have g3r : -2147483648 ≤ z2 ∧ z2 ≤ 2147483647 := g3
  refine tn_putV (ci := 7) (i := 3) (n := 58) (r := false) (v := z2) tyX7 tyX7_ok nmX7 dX7_openCall_12 rfl lay_7 (by decide) fl7_38 rfl (tyX7_ok 3 (by decide)) rfl rfl rfl ha rfl rfl ?_
  refine tn_aload_n dX7_openCall_15 rfl 0 rfl ?_
  refine tn_aload_n dX7_openCall_16 rfl 0 rfl ?_
  refine tn_iload_n dX7_openCall_17 rfl 2 rfl ?_
  refine tn_callV (M := m_X7_openCall) (pc := 18) (ix := 68) (ci := 7) (M' := m_X7_codeAt) (As := [.int (iI r)]) (rest := [.ref a]) dX7_openCall_18 ok_X7_codeAt im_X7_codeAt se_X7_codeAt ml7_68 np_X7_codeAt rfl rfl ha rfl (Nat.le_of_ble_eq_true rfl) (Nat.le_of_ble_eq_true rfl) rfl (k_X7_codeAt (d + 1) (T := T) (σ := (sA 58 a (z2) (sA 57 a (c) σ))) (a := a) (r := r) ha (by omega) ((hw.put (by decide) (by decide) (fo_57 ⟨by omega, by omega⟩)).put (by decide) (by decide) (fo_58 (by omega))) ) (fun r4 T6 σ5 gt7 hp => ?_)
  obtain ⟨v9, rfl, rfl, rfl, rv10, f8⟩ := hp
  clear gt7
  clear f8
  rcases rv10 with rv10 | ⟨x11, rfl, hk12⟩
  · show Tn _ _ 21 T (sA 58 a (z2) (sA 57 a (c) σ)) [(0, .ref a), (1, .int (iI c)), (2, .int (iI r))] (vl true v9 :: [.ref a]) _
    rw [vl_null rv10]
    refine tn_putV (ci := 7) (i := 14) (n := 69) (r := true) (v := -1) tyX7 tyX7_ok nmX7 dX7_openCall_21 rfl lay_7 (by decide) fl7_72 rfl (tyX7_ok 14 (by decide)) (vl_null (by decide)).symm rfl rfl ha rfl rfl ?_
    refine tn_aload_n dX7_openCall_24 rfl 0 rfl ?_
    obtain ⟨x13, hx14, hk15, hl16⟩ : ∃ x : Nat, σ.2.1 59 a = (x : Int) ∧ AR T x 15 9 9 := wf_59 hw ha
    have hk15i : IA T x13 := by unfold IA; omega
    refine tn_getR (ci := 7) (i := 4) (n := 59) (x := x13) dX7_openCall_25 rfl lay_7 (by decide) fl7_9 ha rfl rfl (rc_o (by decide) (rc_o (by decide) (rc_o (by decide) (hx14)))) ?_
    refine tn_iload_n dX7_openCall_28 rfl 1 rfl ?_
    refine tn_iload_n dX7_openCall_29 rfl 2 rfl ?_
    refine tn_callSN (M := m_X7_openCall) (pc := 30) (ix := 61) (M' := m_X11_put) (As := [.ref x13, .int (iI c), .int (iI r)]) (rest := []) dX7_openCall_30 ok_X11_put stt_X11_put nl7_61 np_X11_put rfl (Nat.le_of_ble_eq_true rfl) (Nat.le_of_ble_eq_true rfl) rfl (k_X11_put_15 (d + 1) (T := T) (σ := (sA 69 a (-1) (sA 58 a (z2) (sA 57 a (c) σ)))) (x := x13) (i := c) (y := r) hk15i (by omega) hk15 (by omega) (by omega) (((hw.put (by decide) (by decide) (fo_57 ⟨by omega, by omega⟩)).put (by decide) (by decide) (fo_58 (by omega))).put (by decide) (by decide) (fo_69 (Or.inl (by decide)))) ) (fun r17 T19 σ18 gt20 hp => ?_)
    obtain ⟨rfl, rfl, w23, F24, f21⟩ := hp
    clear gt20
    show Tn _ _ 33 T σ18 [(0, .ref a), (1, .int (iI c)), (2, .int (iI r))] [] _
    refine tn_aload_n dX7_openCall_33 rfl 0 rfl ?_
    obtain ⟨x25, hx26, hk27, hl28⟩ : ∃ x : Nat, σ.2.1 60 a = (x : Int) ∧ AR T x 1 9 9 := wf_60 hw ha
    have hk27i : IA T x25 := by unfold IA; omega
    refine tn_getR (ci := 7) (i := 5) (n := 60) (x := x25) dX7_openCall_34 rfl lay_7 (by decide) fl7_15 ha rfl rfl (rc_F F24 (Or.inl (by decide)) (by decide) (rc_o (by decide) (rc_o (by decide) (rc_o (by decide) (hx26))))) ?_
    refine tn_iload_n dX7_openCall_37 rfl 1 rfl ?_
    refine tn_iconst dX7_openCall_38 ?_
    refine tn_callSN (M := m_X7_openCall) (pc := 39) (ix := 61) (M' := m_X11_put) (As := [.ref x25, .int (iI c), .int (iI 0)]) (rest := []) dX7_openCall_39 ok_X11_put stt_X11_put nl7_61 np_X11_put rfl (Nat.le_of_ble_eq_true rfl) (Nat.le_of_ble_eq_true rfl) rfl (k_X11_put (d + 1) (T := T) (σ := σ18) (x := x25) (i := c) (y := 0) hk27i (by omega) (by omega) (by decide) w23 (nh_k hk27 (by unfold HT; omega)) vok_0) (fun r29 T31 σ30 gt32 hp => ?_)
    obtain ⟨rfl, rfl, w34, F35⟩ := hp
    clear gt32
    show Tn _ _ 42 T σ30 [(0, .ref a), (1, .int (iI c)), (2, .int (iI r))] [] _
    refine tn_aload_n dX7_openCall_42 rfl 0 rfl ?_
    obtain ⟨x36, hx37, hl39, hk38a, hk38b⟩ := wf_61 hw ha
    have hk38 : (T x36).1 = 1 := hk38b (by omega)
    clear hk38a hk38b
    have hk38i : IA T x36 := by unfold IA; omega
    refine tn_getR (ci := 7) (i := 6) (n := 61) (x := x36) dX7_openCall_43 rfl lay_7 (by decide) fl7_18 ha rfl rfl (rc_F F35 (Or.inl (by decide)) (by decide) (rc_F F24 (Or.inl (by decide)) (by decide) (rc_o (by decide) (rc_o (by decide) (rc_o (by decide) (hx37)))))) ?_
    refine tn_iload_n dX7_openCall_46 rfl 1 rfl ?_
    refine tn_iconst dX7_openCall_47 ?_
    refine tn_callSN (M := m_X7_openCall) (pc := 48) (ix := 61) (M' := m_X11_put) (As := [.ref x36, .int (iI c), .int (iI 0)]) (rest := []) dX7_openCall_48 ok_X11_put stt_X11_put nl7_61 np_X11_put rfl (Nat.le_of_ble_eq_true rfl) (Nat.le_of_ble_eq_true rfl) rfl (k_X11_put (d + 1) (T := T) (σ := σ30) (x := x36) (i := c) (y := 0) hk38i (by omega) (by omega) (by decide) w34 (nh_k hk38 (by unfold HT; omega)) vok_0) (fun r40 T42 σ41 gt43 hp => ?_)
    obtain ⟨rfl, rfl, w45, F46⟩ := hp
    clear gt43
    show Tn _ _ 51 T σ41 [(0, .ref a), (1, .int (iI c)), (2, .int (iI r))] [] _
    refine tn_aload_n dX7_openCall_51 rfl 0 rfl ?_
    obtain ⟨x47, hx48, hk49, hl50⟩ : ∃ x : Nat, σ.2.1 62 a = (x : Int) ∧ AR T x 1 108 108 := wf_62 hw ha
    have hk49i : IA T x47 := by unfold IA; omega
    refine tn_getR (ci := 7) (i := 7) (n := 62) (x := x47) dX7_openCall_52 rfl lay_7 (by decide) fl7_21 ha rfl rfl (rc_F F46 (Or.inl (by decide)) (by decide) (rc_F F35 (Or.inl (by decide)) (by decide) (rc_F F24 (Or.inl (by decide)) (by decide) (rc_o (by decide) (rc_o (by decide) (rc_o (by decide) (hx48))))))) ?_
    refine tn_iload_n dX7_openCall_55 rfl 1 rfl ?_
    refine tn_bipush dX7_openCall_56 (by decide) ?_
    refine tn_imul dX7_openCall_58 ?_
    refine tn_iconst dX7_openCall_59 ?_
    refine tn_callSN (M := m_X7_openCall) (pc := 60) (ix := 61) (M' := m_X11_put) (As := [.ref x47, .int (iI (c * 12)), .int (iI 0)]) (rest := []) dX7_openCall_60 ok_X11_put stt_X11_put nl7_61 np_X11_put rfl (Nat.le_of_ble_eq_true rfl) (Nat.le_of_ble_eq_true rfl) rfl (k_X11_put (d + 1) (T := T) (σ := σ41) (x := x47) (i := c * 12) (y := 0) hk49i (by omega) (by omega) (by decide) w45 (nh_k hk49 (by unfold HT; omega)) vok_0) (fun r51 T53 σ52 gt54 hp => ?_)
    obtain ⟨rfl, rfl, w56, F57⟩ := hp
    clear gt54
    show Tn _ _ 63 T σ52 [(0, .ref a), (1, .int (iI c)), (2, .int (iI r))] [] _
    refine tn_iload_n dX7_openCall_63 rfl 1 rfl ?_
    refine tn_sipush dX7_openCall_64 (by decide) ?_
    refine tn_imul dX7_openCall_67 ?_
    refine tn_istore_n (L' := [(3, .int (iI (c * 192))), (0, .ref a), (1, .int (iI c)), (2, .int (iI r))]) dX7_openCall_68 rfl (by decide) rfl ?_
    refine tn_iload_n dX7_openCall_69 rfl 0 rfl ?_
    refine tn_if_lt (tgt := 100) dX7_openCall_70 (by decide) ⟨by omega, by omega⟩ (fun h58 => absurd h58 (by omega)) (fun h58 => ?_)
    refine tn_iload_n dX7_openCall_73 rfl 0 rfl ?_
    refine tn_sipush dX7_openCall_74 (by decide) ?_
    refine tn_iadd dX7_openCall_77 ?_
    refine tn_aload_n dX7_openCall_78 rfl 1 rfl ?_
    obtain ⟨x59, hx60, hk61, hl62⟩ : ∃ x : Nat, σ.2.1 63 a = (x : Int) ∧ AR T x 1 1728 1728 := wf_63 hw ha
    have hk61i : IA T x59 := by unfold IA; omega
    refine tn_getR (ci := 7) (i := 8) (n := 63) (x := x59) dX7_openCall_79 rfl lay_7 (by decide) fl7_24 ha rfl rfl (rc_F F57 (Or.inl (by decide)) (by decide) (rc_F F46 (Or.inl (by decide)) (by decide) (rc_F F35 (Or.inl (by decide)) (by decide) (rc_F F24 (Or.inl (by decide)) (by decide) (rc_o (by decide) (rc_o (by decide) (rc_o (by decide) (hx60)))))))) ?_
    refine tn_alenX dX7_openCall_82 (Or.inl hk61i) ?_
    refine tn_icmp_gt (tgt := 100) dX7_openCall_83 (by decide) ⟨by omega, by omega⟩ ⟨by omega, by omega⟩ (fun h63 => ?_) (fun h63 => ?_)
    · have q64 : σ52.2.1 57 a = c := rc_F F57 (Or.inl (by decide)) (by decide) (rc_F F46 (Or.inl (by decide)) (by decide) (rc_F F35 (Or.inl (by decide)) (by decide) (rc_F F24 (Or.inl (by decide)) (by decide) (rc_o (by decide) (rc_o (by decide) (ra_eq))))))
      exact tn_vret rfl dX7_openCall_100 ⟨rfl, rfl, w56, (((((((FrC.rfl.put (by decide) (by decide)).put (by decide) (by decide)).put (by decide) (by decide)).trans (FrC.sub F24 (by decide))).trans (FrC.sub F35 (by decide))).trans (FrC.sub F46 (by decide))).trans (FrC.sub F57 (by decide))), by omega, (((((((FA.rfl.put).put).put).trans (FA.of F24 (by decide))).trans (FA.of F35 (by decide))).trans (FA.of F46 (by decide))).trans (FA.of F57 (by decide)))⟩
    · refine tn_aload_n dX7_openCall_86 rfl 1 rfl ?_
      refine tn_getR (ci := 7) (i := 8) (n := 63) (x := x59) dX7_openCall_87 rfl lay_7 (by decide) fl7_24 ha rfl rfl (rc_F F57 (Or.inl (by decide)) (by decide) (rc_F F46 (Or.inl (by decide)) (by decide) (rc_F F35 (Or.inl (by decide)) (by decide) (rc_F F24 (Or.inl (by decide)) (by decide) (rc_o (by decide) (rc_o (by decide) (rc_o (by decide) (hx60)))))))) ?_
      refine tn_iload_n dX7_openCall_90 rfl 0 rfl ?_
      refine tn_iload_n dX7_openCall_91 rfl 0 rfl ?_
      refine tn_sipush dX7_openCall_92 (by decide) ?_
      refine tn_iadd dX7_openCall_95 ?_
      refine tn_iconst dX7_openCall_96 ?_
      refine tn_callS (M := m_X7_openCall) (pc := 97) (ix := 76) (M' := m_J7_fill_fda19) (As := [.ref x59, .int (iI (c * 192)), .int (iI ((c * 192) + 192)), .int (iI 0)]) (rest := []) dX7_openCall_97 ok_J7_fill_fda19 stt_J7_fill_fda19 ml7_76 np_J7_fill_fda19 rfl (Nat.le_of_ble_eq_true rfl) (Nat.le_of_ble_eq_true rfl) rfl (k_J7_fill_fda19 (d) (T := T) (σ := σ52) (x := x59) (f := c * 192) (t := (c * 192) + 192) (y := 0) hk61i (by omega) (by omega) (by omega) (by decide) w56 (nh_k hk61 (by unfold HT; omega)) (by omega) (by omega)) (fun r65 T67 σ66 gt68 hp => ?_)
      obtain ⟨rfl, rfl, w70, F71⟩ := hp
      clear gt68
      show Tn _ _ 100 T σ66 [(3, .int (iI (c * 192))), (0, .ref a), (1, .int (iI c)), (2, .int (iI r))] [] _
      have q72 : σ66.2.1 57 a = c := rc_F F71 (Or.inl (by decide)) (by decide) (rc_F F57 (Or.inl (by decide)) (by decide) (rc_F F46 (Or.inl (by decide)) (by decide) (rc_F F35 (Or.inl (by decide)) (by decide) (rc_F F24 (Or.inl (by decide)) (by decide) (rc_o (by decide) (rc_o (by decide) (ra_eq)))))))
      exact tn_vret rfl dX7_openCall_100 ⟨rfl, rfl, w70, ((((((((FrC.rfl.put (by decide) (by decide)).put (by decide) (by decide)).put (by decide) (by decide)).trans (FrC.sub F24 (by decide))).trans (FrC.sub F35 (by decide))).trans (FrC.sub F46 (by decide))).trans (FrC.sub F57 (by decide))).trans (FrC.sub F71 (by decide))), by omega, ((((((((FA.rfl.put).put).put).trans (FA.of F24 (by decide))).trans (FA.of F35 (by decide))).trans (FA.of F46 (by decide))).trans (FA.of F57 (by decide))).trans (FA.of F71 (by decide)))⟩
  · show Tn _ _ 21 T (sA 58 a (z2) (sA 57 a (c) σ)) [(0, .ref a), (1, .int (iI c)), (2, .int (iI r))] (vl true (x11 : Int) :: [.ref a]) _
    rw [vl_ref rfl]
    have hk12o : OB T x11 1 := hk12.1
    refine tn_putV (ci := 7) (i := 14) (n := 69) (r := true) (v := (x11 : Int)) tyX7 tyX7_ok nmX7 dX7_openCall_21 rfl lay_7 (by decide) fl7_72 rfl (tyX7_ok 14 (by decide)) (vl_ref rfl).symm rfl rfl ha rfl rfl ?_
    refine tn_aload_n dX7_openCall_24 rfl 0 rfl ?_
    obtain ⟨x73, hx74, hk75, hl76⟩ : ∃ x : Nat, σ.2.1 59 a = (x : Int) ∧ AR T x 15 9 9 := wf_59 hw ha
    have hk75i : IA T x73 := by unfold IA; omega
    refine tn_getR (ci := 7) (i := 4) (n := 59) (x := x73) dX7_openCall_25 rfl lay_7 (by decide) fl7_9 ha rfl rfl (rc_o (by decide) (rc_o (by decide) (rc_o (by decide) (hx74)))) ?_
    refine tn_iload_n dX7_openCall_28 rfl 1 rfl ?_
    refine tn_iload_n dX7_openCall_29 rfl 2 rfl ?_
    refine tn_callSN (M := m_X7_openCall) (pc := 30) (ix := 61) (M' := m_X11_put) (As := [.ref x73, .int (iI c), .int (iI r)]) (rest := []) dX7_openCall_30 ok_X11_put stt_X11_put nl7_61 np_X11_put rfl (Nat.le_of_ble_eq_true rfl) (Nat.le_of_ble_eq_true rfl) rfl (k_X11_put_15 (d + 1) (T := T) (σ := (sA 69 a ((x11 : Int)) (sA 58 a (z2) (sA 57 a (c) σ)))) (x := x73) (i := c) (y := r) hk75i (by omega) hk75 (by omega) (by omega) (((hw.put (by decide) (by decide) (fo_57 ⟨by omega, by omega⟩)).put (by decide) (by decide) (fo_58 (by omega))).put (by decide) (by decide) (fo_69 (Or.inr ⟨_, rfl, hk12.2.1, hk12.2.2⟩))) ) (fun r77 T79 σ78 gt80 hp => ?_)
    obtain ⟨rfl, rfl, w83, F84, f81⟩ := hp
    clear gt80
    show Tn _ _ 33 T σ78 [(0, .ref a), (1, .int (iI c)), (2, .int (iI r))] [] _
    refine tn_aload_n dX7_openCall_33 rfl 0 rfl ?_
    obtain ⟨x85, hx86, hk87, hl88⟩ : ∃ x : Nat, σ.2.1 60 a = (x : Int) ∧ AR T x 1 9 9 := wf_60 hw ha
    have hk87i : IA T x85 := by unfold IA; omega
    refine tn_getR (ci := 7) (i := 5) (n := 60) (x := x85) dX7_openCall_34 rfl lay_7 (by decide) fl7_15 ha rfl rfl (rc_F F84 (Or.inl (by decide)) (by decide) (rc_o (by decide) (rc_o (by decide) (rc_o (by decide) (hx86))))) ?_
    refine tn_iload_n dX7_openCall_37 rfl 1 rfl ?_
    refine tn_iconst dX7_openCall_38 ?_
    refine tn_callSN (M := m_X7_openCall) (pc := 39) (ix := 61) (M' := m_X11_put) (As := [.ref x85, .int (iI c), .int (iI 0)]) (rest := []) dX7_openCall_39 ok_X11_put stt_X11_put nl7_61 np_X11_put rfl (Nat.le_of_ble_eq_true rfl) (Nat.le_of_ble_eq_true rfl) rfl (k_X11_put (d + 1) (T := T) (σ := σ78) (x := x85) (i := c) (y := 0) hk87i (by omega) (by omega) (by decide) w83 (nh_k hk87 (by unfold HT; omega)) vok_0) (fun r89 T91 σ90 gt92 hp => ?_)
    obtain ⟨rfl, rfl, w94, F95⟩ := hp
    clear gt92
    show Tn _ _ 42 T σ90 [(0, .ref a), (1, .int (iI c)), (2, .int (iI r))] [] _
    refine tn_aload_n dX7_openCall_42 rfl 0 rfl ?_
    obtain ⟨x96, hx97, hl99, hk98a, hk98b⟩ := wf_61 hw ha
    have hk98 : (T x96).1 = 1 := hk98b (by omega)
    clear hk98a hk98b
    have hk98i : IA T x96 := by unfold IA; omega
    refine tn_getR (ci := 7) (i := 6) (n := 61) (x := x96) dX7_openCall_43 rfl lay_7 (by decide) fl7_18 ha rfl rfl (rc_F F95 (Or.inl (by decide)) (by decide) (rc_F F84 (Or.inl (by decide)) (by decide) (rc_o (by decide) (rc_o (by decide) (rc_o (by decide) (hx97)))))) ?_
    refine tn_iload_n dX7_openCall_46 rfl 1 rfl ?_
    refine tn_iconst dX7_openCall_47 ?_
    refine tn_callSN (M := m_X7_openCall) (pc := 48) (ix := 61) (M' := m_X11_put) (As := [.ref x96, .int (iI c), .int (iI 0)]) (rest := []) dX7_openCall_48 ok_X11_put stt_X11_put nl7_61 np_X11_put rfl (Nat.le_of_ble_eq_true rfl) (Nat.le_of_ble_eq_true rfl) rfl (k_X11_put (d + 1) (T := T) (σ := σ90) (x := x96) (i := c) (y := 0) hk98i (by omega) (by omega) (by decide) w94 (nh_k hk98 (by unfold HT; omega)) vok_0) (fun r100 T102 σ101 gt103 hp => ?_)
    obtain ⟨rfl, rfl, w105, F106⟩ := hp
    clear gt103
    show Tn _ _ 51 T σ101 [(0, .ref a), (1, .int (iI c)), (2, .int (iI r))] [] _
    refine tn_aload_n dX7_openCall_51 rfl 0 rfl ?_
    obtain ⟨x107, hx108, hk109, hl110⟩ : ∃ x : Nat, σ.2.1 62 a = (x : Int) ∧ AR T x 1 108 108 := wf_62 hw ha
    have hk109i : IA T x107 := by unfold IA; omega
    refine tn_getR (ci := 7) (i := 7) (n := 62) (x := x107) dX7_openCall_52 rfl lay_7 (by decide) fl7_21 ha rfl rfl (rc_F F106 (Or.inl (by decide)) (by decide) (rc_F F95 (Or.inl (by decide)) (by decide) (rc_F F84 (Or.inl (by decide)) (by decide) (rc_o (by decide) (rc_o (by decide) (rc_o (by decide) (hx108))))))) ?_
    refine tn_iload_n dX7_openCall_55 rfl 1 rfl ?_
    refine tn_bipush dX7_openCall_56 (by decide) ?_
    refine tn_imul dX7_openCall_58 ?_
    refine tn_iconst dX7_openCall_59 ?_
    refine tn_callSN (M := m_X7_openCall) (pc := 60) (ix := 61) (M' := m_X11_put) (As := [.ref x107, .int (iI (c * 12)), .int (iI 0)]) (rest := []) dX7_openCall_60 ok_X11_put stt_X11_put nl7_61 np_X11_put rfl (Nat.le_of_ble_eq_true rfl) (Nat.le_of_ble_eq_true rfl) rfl (k_X11_put (d + 1) (T := T) (σ := σ101) (x := x107) (i := c * 12) (y := 0) hk109i (by omega) (by omega) (by decide) w105 (nh_k hk109 (by unfold HT; omega)) vok_0) (fun r111 T113 σ112 gt114 hp => ?_)
    obtain ⟨rfl, rfl, w116, F117⟩ := hp
    clear gt114
    show Tn _ _ 63 T σ112 [(0, .ref a), (1, .int (iI c)), (2, .int (iI r))] [] _
    refine tn_iload_n dX7_openCall_63 rfl 1 rfl ?_
    refine tn_sipush dX7_openCall_64 (by decide) ?_
    refine tn_imul dX7_openCall_67 ?_
    refine tn_istore_n (L' := [(3, .int (iI (c * 192))), (0, .ref a), (1, .int (iI c)), (2, .int (iI r))]) dX7_openCall_68 rfl (by decide) rfl ?_
    refine tn_iload_n dX7_openCall_69 rfl 0 rfl ?_
    refine tn_if_lt (tgt := 100) dX7_openCall_70 (by decide) ⟨by omega, by omega⟩ (fun h118 => absurd h118 (by omega)) (fun h118 => ?_)
    refine tn_iload_n dX7_openCall_73 rfl 0 rfl ?_
    refine tn_sipush dX7_openCall_74 (by decide) ?_
    refine tn_iadd dX7_openCall_77 ?_
    refine tn_aload_n dX7_openCall_78 rfl 1 rfl ?_
    obtain ⟨x119, hx120, hk121, hl122⟩ : ∃ x : Nat, σ.2.1 63 a = (x : Int) ∧ AR T x 1 1728 1728 := wf_63 hw ha
    have hk121i : IA T x119 := by unfold IA; omega
    refine tn_getR (ci := 7) (i := 8) (n := 63) (x := x119) dX7_openCall_79 rfl lay_7 (by decide) fl7_24 ha rfl rfl (rc_F F117 (Or.inl (by decide)) (by decide) (rc_F F106 (Or.inl (by decide)) (by decide) (rc_F F95 (Or.inl (by decide)) (by decide) (rc_F F84 (Or.inl (by decide)) (by decide) (rc_o (by decide) (rc_o (by decide) (rc_o (by decide) (hx120)))))))) ?_
    refine tn_alenX dX7_openCall_82 (Or.inl hk121i) ?_
    refine tn_icmp_gt (tgt := 100) dX7_openCall_83 (by decide) ⟨by omega, by omega⟩ ⟨by omega, by omega⟩ (fun h123 => ?_) (fun h123 => ?_)
    · have q124 : σ112.2.1 57 a = c := rc_F F117 (Or.inl (by decide)) (by decide) (rc_F F106 (Or.inl (by decide)) (by decide) (rc_F F95 (Or.inl (by decide)) (by decide) (rc_F F84 (Or.inl (by decide)) (by decide) (rc_o (by decide) (rc_o (by decide) (ra_eq))))))
      exact tn_vret rfl dX7_openCall_100 ⟨rfl, rfl, w116, (((((((FrC.rfl.put (by decide) (by decide)).put (by decide) (by decide)).put (by decide) (by decide)).trans (FrC.sub F84 (by decide))).trans (FrC.sub F95 (by decide))).trans (FrC.sub F106 (by decide))).trans (FrC.sub F117 (by decide))), by omega, (((((((FA.rfl.put).put).put).trans (FA.of F84 (by decide))).trans (FA.of F95 (by decide))).trans (FA.of F106 (by decide))).trans (FA.of F117 (by decide)))⟩
    · refine tn_aload_n dX7_openCall_86 rfl 1 rfl ?_
      refine tn_getR (ci := 7) (i := 8) (n := 63) (x := x119) dX7_openCall_87 rfl lay_7 (by decide) fl7_24 ha rfl rfl (rc_F F117 (Or.inl (by decide)) (by decide) (rc_F F106 (Or.inl (by decide)) (by decide) (rc_F F95 (Or.inl (by decide)) (by decide) (rc_F F84 (Or.inl (by decide)) (by decide) (rc_o (by decide) (rc_o (by decide) (rc_o (by decide) (hx120)))))))) ?_
      refine tn_iload_n dX7_openCall_90 rfl 0 rfl ?_
      refine tn_iload_n dX7_openCall_91 rfl 0 rfl ?_
      refine tn_sipush dX7_openCall_92 (by decide) ?_
      refine tn_iadd dX7_openCall_95 ?_
      refine tn_iconst dX7_openCall_96 ?_
      refine tn_callS (M := m_X7_openCall) (pc := 97) (ix := 76) (M' := m_J7_fill_fda19) (As := [.ref x119, .int (iI (c * 192)), .int (iI ((c * 192) + 192)), .int (iI 0)]) (rest := []) dX7_openCall_97 ok_J7_fill_fda19 stt_J7_fill_fda19 ml7_76 np_J7_fill_fda19 rfl (Nat.le_of_ble_eq_true rfl) (Nat.le_of_ble_eq_true rfl) rfl (k_J7_fill_fda19 (d) (T := T) (σ := σ112) (x := x119) (f := c * 192) (t := (c * 192) + 192) (y := 0) hk121i (by omega) (by omega) (by omega) (by decide) w116 (nh_k hk121 (by unfold HT; omega)) (by omega) (by omega)) (fun r125 T127 σ126 gt128 hp => ?_)
      obtain ⟨rfl, rfl, w130, F131⟩ := hp
      clear gt128
      show Tn _ _ 100 T σ126 [(3, .int (iI (c * 192))), (0, .ref a), (1, .int (iI c)), (2, .int (iI r))] [] _
      have q132 : σ126.2.1 57 a = c := rc_F F131 (Or.inl (by decide)) (by decide) (rc_F F117 (Or.inl (by decide)) (by decide) (rc_F F106 (Or.inl (by decide)) (by decide) (rc_F F95 (Or.inl (by decide)) (by decide) (rc_F F84 (Or.inl (by decide)) (by decide) (rc_o (by decide) (rc_o (by decide) (ra_eq)))))))
      exact tn_vret rfl dX7_openCall_100 ⟨rfl, rfl, w130, ((((((((FrC.rfl.put (by decide) (by decide)).put (by decide) (by decide)).put (by decide) (by decide)).trans (FrC.sub F84 (by decide))).trans (FrC.sub F95 (by decide))).trans (FrC.sub F106 (by decide))).trans (FrC.sub F117 (by decide))).trans (FrC.sub F131 (by decide))), by omega, ((((((((FA.rfl.put).put).put).trans (FA.of F84 (by decide))).trans (FA.of F95 (by decide))).trans (FA.of F106 (by decide))).trans (FA.of F117 (by decide))).trans (FA.of F131 (by decide)))⟩
