theorem cd_X7_giveBack : Cond.code yX7_giveBack cX7_giveBack 2 none ∈ pWW := pw6 (List.mem_of_getElem? (i := 82) rfl) rfl
abbrev m_X7_giveBack : MT := (yX7_giveBack, cX7_giveBack, 2, none)
theorem ok_X7_giveBack : pOk m_X7_giveBack := ⟨⟨cd_X7_giveBack, ini_7⟩, by decide +kernel, ⟨by decide +kernel, by decide +kernel⟩, Nat.le_of_ble_eq_true rfl⟩
theorem np_X7_giveBack : (parseMethodDescriptor yX7_giveBack.desc).map (fun d => d.parameters.length) = some 1 := by decide +kernel
theorem im_X7_giveBack : Cond.instanceMethod yX7_giveBack ∈ pWW := pw6 (List.mem_of_getElem? (i := 81) rfl) rfl
theorem se_X7_giveBack : Cond.selects RX7 yX7_giveBack yX7_giveBack ∈ pWW := pws (List.mem_map.mpr ⟨_, lw_pin 91 rfl, rfl⟩) rfl
theorem ml7_140 : Cond.methodLink RX7 140 yX7_chainOf ∈ pWW := pw6 (List.mem_of_getElem? (i := 83) rfl) rfl
theorem ml7_103 : Cond.methodLink RX7 103 yX7_place ∈ pWW := pw6 (List.mem_of_getElem? (i := 60) rfl) rfl
theorem dX7_giveBack_0 : decode cX7_giveBack 0 = .ok (.aload_n 0, 1) := by decide +kernel
theorem dX7_giveBack_1 : decode cX7_giveBack 1 = .ok (.dup, 1) := by decide +kernel
theorem dX7_giveBack_2 : decode cX7_giveBack 2 = .ok (.getfield 38, 3) := by decide +kernel
theorem dX7_giveBack_5 : decode cX7_giveBack 5 = .ok (.aload_n 0, 1) := by decide +kernel
theorem dX7_giveBack_6 : decode cX7_giveBack 6 = .ok (.aload_n 0, 1) := by decide +kernel
theorem dX7_giveBack_7 : decode cX7_giveBack 7 = .ok (.getfield 65, 3) := by decide +kernel
theorem dX7_giveBack_10 : decode cX7_giveBack 10 = .ok (.invokevirtual 140, 3) := by decide +kernel
theorem dX7_giveBack_13 : decode cX7_giveBack 13 = .ok (.isub, 1) := by decide +kernel
theorem dX7_giveBack_14 : decode cX7_giveBack 14 = .ok (.putfield 38, 3) := by decide +kernel
theorem dX7_giveBack_17 : decode cX7_giveBack 17 = .ok (.aload_n 0, 1) := by decide +kernel
theorem dX7_giveBack_18 : decode cX7_giveBack 18 = .ok (.getfield 65, 3) := by decide +kernel
theorem dX7_giveBack_21 : decode cX7_giveBack 21 = .ok (.ifCond .ne 19, 3) := by decide +kernel
theorem dX7_giveBack_40 : decode cX7_giveBack 40 = .ok (.aload_n 0, 1) := by decide +kernel
theorem dX7_giveBack_41 : decode cX7_giveBack 41 = .ok (.dup, 1) := by decide +kernel
theorem dX7_giveBack_42 : decode cX7_giveBack 42 = .ok (.getfield 65, 3) := by decide +kernel
theorem dX7_giveBack_45 : decode cX7_giveBack 45 = .ok (.iconst 1, 1) := by decide +kernel
theorem dX7_giveBack_46 : decode cX7_giveBack 46 = .ok (.isub, 1) := by decide +kernel
theorem dX7_giveBack_47 : decode cX7_giveBack 47 = .ok (.putfield 65, 3) := by decide +kernel
theorem dX7_giveBack_50 : decode cX7_giveBack 50 = .ok (.aload_n 0, 1) := by decide +kernel
theorem dX7_giveBack_51 : decode cX7_giveBack 51 = .ok (.aload_n 0, 1) := by decide +kernel
theorem dX7_giveBack_52 : decode cX7_giveBack 52 = .ok (.aload_n 0, 1) := by decide +kernel
theorem dX7_giveBack_53 : decode cX7_giveBack 53 = .ok (.getfield 9, 3) := by decide +kernel
theorem dX7_giveBack_56 : decode cX7_giveBack 56 = .ok (.aload_n 0, 1) := by decide +kernel
theorem dX7_giveBack_57 : decode cX7_giveBack 57 = .ok (.getfield 65, 3) := by decide +kernel
theorem dX7_giveBack_60 : decode cX7_giveBack 60 = .ok (.invokestatic 91, 3) := by decide +kernel
theorem dX7_giveBack_63 : decode cX7_giveBack 63 = .ok (.invokevirtual 68, 3) := by decide +kernel
theorem dX7_giveBack_66 : decode cX7_giveBack 66 = .ok (.putfield 72, 3) := by decide +kernel
theorem dX7_giveBack_69 : decode cX7_giveBack 69 = .ok (.aload_n 0, 1) := by decide +kernel
theorem dX7_giveBack_70 : decode cX7_giveBack 70 = .ok (.getfield 72, 3) := by decide +kernel
theorem dX7_giveBack_73 : decode cX7_giveBack 73 = .ok (.ifnull 32, 3) := by decide +kernel
theorem dX7_giveBack_105 : decode cX7_giveBack 105 = .ok (.aload_n 0, 1) := by decide +kernel
theorem dX7_giveBack_106 : decode cX7_giveBack 106 = .ok (.getfield 15, 3) := by decide +kernel
theorem dX7_giveBack_109 : decode cX7_giveBack 109 = .ok (.aload_n 0, 1) := by decide +kernel
theorem dX7_giveBack_110 : decode cX7_giveBack 110 = .ok (.getfield 65, 3) := by decide +kernel
theorem dX7_giveBack_113 : decode cX7_giveBack 113 = .ok (.aload_n 0, 1) := by decide +kernel
theorem dX7_giveBack_114 : decode cX7_giveBack 114 = .ok (.invokevirtual 103, 3) := by decide +kernel
theorem dX7_giveBack_117 : decode cX7_giveBack 117 = .ok (.iconst 1, 1) := by decide +kernel
theorem dX7_giveBack_118 : decode cX7_giveBack 118 = .ok (.iadd, 1) := by decide +kernel
theorem dX7_giveBack_119 : decode cX7_giveBack 119 = .ok (.invokestatic 61, 3) := by decide +kernel
theorem dX7_giveBack_122 : decode cX7_giveBack 122 = .ok (.return_, 1) := by decide +kernel
theorem dX7_giveBack_76 : decode cX7_giveBack 76 = .ok (.aload_n 0, 1) := by decide +kernel
theorem dX7_giveBack_77 : decode cX7_giveBack 77 = .ok (.getfield 24, 3) := by decide +kernel
theorem dX7_giveBack_80 : decode cX7_giveBack 80 = .ok (.aload_n 0, 1) := by decide +kernel
theorem dX7_giveBack_81 : decode cX7_giveBack 81 = .ok (.getfield 65, 3) := by decide +kernel
theorem dX7_giveBack_84 : decode cX7_giveBack 84 = .ok (.sipush 192, 3) := by decide +kernel
theorem dX7_giveBack_87 : decode cX7_giveBack 87 = .ok (.imul, 1) := by decide +kernel
theorem dX7_giveBack_88 : decode cX7_giveBack 88 = .ok (.aload_n 0, 1) := by decide +kernel
theorem dX7_giveBack_89 : decode cX7_giveBack 89 = .ok (.getfield 72, 3) := by decide +kernel
theorem dX7_giveBack_92 : decode cX7_giveBack 92 = .ok (.aload_n 0, 1) := by decide +kernel
theorem dX7_giveBack_93 : decode cX7_giveBack 93 = .ok (.invokevirtual 103, 3) := by decide +kernel
theorem dX7_giveBack_96 : decode cX7_giveBack 96 = .ok (.iconst 1, 1) := by decide +kernel
theorem dX7_giveBack_97 : decode cX7_giveBack 97 = .ok (.invokevirtual 117, 3) := by decide +kernel
theorem dX7_giveBack_100 : decode cX7_giveBack 100 = .ok (.iadd, 1) := by decide +kernel
theorem dX7_giveBack_101 : decode cX7_giveBack 101 = .ok (.iload_n 1, 1) := by decide +kernel
theorem dX7_giveBack_102 : decode cX7_giveBack 102 = .ok (.invokestatic 61, 3) := by decide +kernel
theorem dX7_giveBack_24 : decode cX7_giveBack 24 = .ok (.aload_n 0, 1) := by decide +kernel
theorem dX7_giveBack_25 : decode cX7_giveBack 25 = .ok (.iconst 2, 1) := by decide +kernel
theorem dX7_giveBack_26 : decode cX7_giveBack 26 = .ok (.putfield 34, 3) := by decide +kernel
theorem dX7_giveBack_29 : decode cX7_giveBack 29 = .ok (.aload_n 0, 1) := by decide +kernel
theorem dX7_giveBack_30 : decode cX7_giveBack 30 = .ok (.iload_n 1, 1) := by decide +kernel
theorem dX7_giveBack_31 : decode cX7_giveBack 31 = .ok (.putfield 50, 3) := by decide +kernel
theorem dX7_giveBack_34 : decode cX7_giveBack 34 = .ok (.aload_n 0, 1) := by decide +kernel
theorem dX7_giveBack_35 : decode cX7_giveBack 35 = .ok (.iconst 0, 1) := by decide +kernel
theorem dX7_giveBack_36 : decode cX7_giveBack 36 = .ok (.putfield 38, 3) := by decide +kernel
theorem dX7_giveBack_39 : decode cX7_giveBack 39 = .ok (.return_, 1) := by decide +kernel
set_option maxRecDepth 20000 in
theorem k_X7_giveBack (d : Nat) {T : CT} {σ : MS} {a : Nat} {n : Int} (ha : OB T a 7) (hta : (T a).1 = 37) (h_n : -2147483648 ≤ n ∧ n ≤ 2147483647) (hw : WT T σ) : Tn (d + 3) m_X7_giveBack 0 T σ [(0, .ref a), (1, .int (iI n))] [] (fun ro T2 σ2 => ro = none ∧ T = T2 ∧ WT T2 σ2 ∧ FrC T [56, 57, 58, 68, 69] σ σ2 ∧ (σ2.2.1 57 a ≤ σ.2.1 57 a) ∧ (FA a σ σ2)) := by
  refine tn_aload_n dX7_giveBack_0 rfl 0 rfl ?_
  refine tn_dup dX7_giveBack_1 rfl ?_
  refine tn_getI (ci := 7) (i := 3) (n := 58) (t := σ.2.1 58 a) dX7_giveBack_2 rfl lay_7 (by decide) fl7_38 ha rfl rfl (rfl) ?_
  have g1 : ((-2147483648 : Int) ≤ σ.2.1 58 a ∧ σ.2.1 58 a ≤ 2147483647) := wf_58 hw ha
  refine tn_aload_n dX7_giveBack_5 rfl 0 rfl ?_
  refine tn_aload_n dX7_giveBack_6 rfl 0 rfl ?_
  refine tn_getI (ci := 7) (i := 2) (n := 57) (t := σ.2.1 57 a) dX7_giveBack_7 rfl lay_7 (by decide) fl7_65 ha rfl rfl (rfl) ?_
  have g2 : ((0 : Int) ≤ σ.2.1 57 a ∧ σ.2.1 57 a ≤ 11184800) ∧ ((T a).1 = 57 → σ.2.1 57 a ≤ 8) := wf_57 hw ha
  have g2x := g2.2
  replace g2 := g2.1
  clear g2x
  refine tn_callV (M := m_X7_giveBack) (pc := 10) (ix := 140) (ci := 7) (M' := m_X7_chainOf) (As := [.int (iI (σ.2.1 57 a))]) (rest := [.int (iI (σ.2.1 58 a)), .ref a]) dX7_giveBack_10 ok_X7_chainOf im_X7_chainOf se_X7_chainOf ml7_140 np_X7_chainOf rfl rfl ha rfl (Nat.le_of_ble_eq_true rfl) (Nat.le_of_ble_eq_true rfl) rfl (k_X7_chainOf (d) (T := T) (σ := σ) (a := a) (p1 := σ.2.1 57 a) ha (by omega) hw ) (fun r3 T5 σ4 gt6 hp => ?_)
  obtain ⟨v8, rfl, rfl, rfl, f7⟩ := hp
  clear gt6
  show Tn _ _ 13 T σ [(0, .ref a), (1, .int (iI n))] [.int (iI v8), .int (iI (σ.2.1 58 a)), .ref a] _
  refine tn_isub dX7_giveBack_13 ?_
  refine tn_any (fun z9 g10 => ?_)
  have g10r : -2147483648 ≤ z9 ∧ z9 ≤ 2147483647 := g10
  refine tn_putV (ci := 7) (i := 3) (n := 58) (r := false) (v := z9) tyX7 tyX7_ok nmX7 dX7_giveBack_14 rfl lay_7 (by decide) fl7_38 rfl (tyX7_ok 3 (by decide)) rfl rfl rfl ha rfl rfl ?_
  refine tn_aload_n dX7_giveBack_17 rfl 0 rfl ?_
  refine tn_getI (ci := 7) (i := 2) (n := 57) (t := σ.2.1 57 a) dX7_giveBack_18 rfl lay_7 (by decide) fl7_65 ha rfl rfl (rc_o (by decide) (rfl)) ?_
  refine tn_if_ne (tgt := 40) dX7_giveBack_21 (by decide) ⟨by omega, by omega⟩ (fun h11 => ?_) (fun h11 => ?_)
  · refine tn_aload_n dX7_giveBack_40 rfl 0 rfl ?_
    refine tn_dup dX7_giveBack_41 rfl ?_
    refine tn_getI (ci := 7) (i := 2) (n := 57) (t := σ.2.1 57 a) dX7_giveBack_42 rfl lay_7 (by decide) fl7_65 ha rfl rfl (rc_o (by decide) (rfl)) ?_
    refine tn_iconst dX7_giveBack_45 ?_
    refine tn_isub dX7_giveBack_46 ?_
    refine tn_putV (ci := 7) (i := 2) (n := 57) (r := false) (v := (σ.2.1 57 a) - 1) tyX7 tyX7_ok nmX7 dX7_giveBack_47 rfl lay_7 (by decide) fl7_65 rfl (tyX7_ok 2 (by decide)) rfl rfl rfl ha rfl rfl ?_
    refine tn_aload_n dX7_giveBack_50 rfl 0 rfl ?_
    refine tn_aload_n dX7_giveBack_51 rfl 0 rfl ?_
    refine tn_aload_n dX7_giveBack_52 rfl 0 rfl ?_
    obtain ⟨x12, hx13, hk14, hl15⟩ : ∃ x : Nat, σ.2.1 59 a = (x : Int) ∧ AR T x 15 9 9 := wf_59 hw ha
    have hk14i : IA T x12 := by unfold IA; omega
    refine tn_getR (ci := 7) (i := 4) (n := 59) (x := x12) dX7_giveBack_53 rfl lay_7 (by decide) fl7_9 ha rfl rfl (rc_o (by decide) (rc_o (by decide) (hx13))) ?_
    refine tn_aload_n dX7_giveBack_56 rfl 0 rfl ?_
    refine tn_getI (ci := 7) (i := 2) (n := 57) (t := (σ.2.1 57 a) - 1) dX7_giveBack_57 rfl lay_7 (by decide) fl7_65 ha rfl rfl (ra_eq) ?_
    refine tn_callSN (M := m_X7_giveBack) (pc := 60) (ix := 91) (M' := m_X11_at) (As := [.ref x12, .int (iI ((σ.2.1 57 a) - 1))]) (rest := [.ref a, .ref a]) dX7_giveBack_60 ok_X11_at stt_X11_at nl7_91 np_X11_at rfl (Nat.le_of_ble_eq_true rfl) (Nat.le_of_ble_eq_true rfl) rfl (k_X11_at (d + 1) (T := T) (σ := (sA 57 a ((σ.2.1 57 a) - 1) (sA 58 a (z9) σ))) (x := x12) (i := (σ.2.1 57 a) - 1) hk14i (by omega) (by omega) ((hw.put (by decide) (by decide) (fo_58 (by omega))).put (by decide) (by decide) (fo_57 ⟨by omega, by omega⟩)) ) (fun r16 T18 σ17 gt19 hp => ?_)
    obtain ⟨v23, rfl, rfl, rfl, f20, f21, f22⟩ := hp
    clear gt19
    clear f21 f22
    show Tn _ _ 63 T (sA 57 a ((σ.2.1 57 a) - 1) (sA 58 a (z9) σ)) [(0, .ref a), (1, .int (iI n))] [.int (iI v23), .ref a, .ref a] _
    refine tn_callV (M := m_X7_giveBack) (pc := 63) (ix := 68) (ci := 7) (M' := m_X7_codeAt) (As := [.int (iI v23)]) (rest := [.ref a]) dX7_giveBack_63 ok_X7_codeAt im_X7_codeAt se_X7_codeAt ml7_68 np_X7_codeAt rfl rfl ha rfl (Nat.le_of_ble_eq_true rfl) (Nat.le_of_ble_eq_true rfl) rfl (k_X7_codeAt (d + 1) (T := T) (σ := (sA 57 a ((σ.2.1 57 a) - 1) (sA 58 a (z9) σ))) (a := a) (r := v23) ha (by omega) ((hw.put (by decide) (by decide) (fo_58 (by omega))).put (by decide) (by decide) (fo_57 ⟨by omega, by omega⟩)) ) (fun r24 T26 σ25 gt27 hp => ?_)
    obtain ⟨v29, rfl, rfl, rfl, rv30, f28⟩ := hp
    clear gt27
    clear f28
    rcases rv30 with rv30 | ⟨x31, rfl, hk32⟩
    · show Tn _ _ 66 T (sA 57 a ((σ.2.1 57 a) - 1) (sA 58 a (z9) σ)) [(0, .ref a), (1, .int (iI n))] (vl true v29 :: [.ref a]) _
      rw [vl_null rv30]
      refine tn_putV (ci := 7) (i := 14) (n := 69) (r := true) (v := -1) tyX7 tyX7_ok nmX7 dX7_giveBack_66 rfl lay_7 (by decide) fl7_72 rfl (tyX7_ok 14 (by decide)) (vl_null (by decide)).symm rfl rfl ha rfl rfl ?_
      refine tn_aload_n dX7_giveBack_69 rfl 0 rfl ?_
      refine tn_getN (ci := 7) (i := 14) (n := 69) dX7_giveBack_70 rfl lay_7 (by decide) fl7_72 ha rfl rfl (by rw [ra_eq]; decide) ?_
      refine tn_ifnullN (tgt := 105) dX7_giveBack_73 (by decide) ?_
      refine tn_aload_n dX7_giveBack_105 rfl 0 rfl ?_
      obtain ⟨x33, hx34, hk35, hl36⟩ : ∃ x : Nat, σ.2.1 60 a = (x : Int) ∧ AR T x 1 9 9 := wf_60 hw ha
      have hk35i : IA T x33 := by unfold IA; omega
      refine tn_getR (ci := 7) (i := 5) (n := 60) (x := x33) dX7_giveBack_106 rfl lay_7 (by decide) fl7_15 ha rfl rfl (rc_o (by decide) (rc_o (by decide) (rc_o (by decide) (hx34)))) ?_
      refine tn_aload_n dX7_giveBack_109 rfl 0 rfl ?_
      refine tn_getI (ci := 7) (i := 2) (n := 57) (t := (σ.2.1 57 a) - 1) dX7_giveBack_110 rfl lay_7 (by decide) fl7_65 ha rfl rfl (rc_o (by decide) (ra_eq)) ?_
      refine tn_aload_n dX7_giveBack_113 rfl 0 rfl ?_
      refine tn_callV (M := m_X7_giveBack) (pc := 114) (ix := 103) (ci := 7) (M' := m_X7_place) (As := []) (rest := [.int (iI ((σ.2.1 57 a) - 1)), .ref x33]) dX7_giveBack_114 ok_X7_place im_X7_place se_X7_place ml7_103 np_X7_place rfl rfl ha rfl (Nat.le_of_ble_eq_true rfl) (Nat.le_of_ble_eq_true rfl) rfl (k_X7_place (d) (T := T) (σ := (sA 69 a (-1) (sA 57 a ((σ.2.1 57 a) - 1) (sA 58 a (z9) σ)))) (a := a) ha (((hw.put (by decide) (by decide) (fo_58 (by omega))).put (by decide) (by decide) (fo_57 ⟨by omega, by omega⟩)).put (by decide) (by decide) (fo_69 (Or.inl (by decide)))) ) (fun r37 T39 σ38 gt40 hp => ?_)
      obtain ⟨v42, rfl, rfl, rfl, f41⟩ := hp
      clear gt40
      show Tn _ _ 117 T (sA 69 a (-1) (sA 57 a ((σ.2.1 57 a) - 1) (sA 58 a (z9) σ))) [(0, .ref a), (1, .int (iI n))] [.int (iI v42), .int (iI ((σ.2.1 57 a) - 1)), .ref x33] _
      refine tn_iconst dX7_giveBack_117 ?_
      refine tn_iadd dX7_giveBack_118 ?_
      refine tn_any (fun z43 g44 => ?_)
      have g44r : -2147483648 ≤ z43 ∧ z43 ≤ 2147483647 := g44
      refine tn_callSN (M := m_X7_giveBack) (pc := 119) (ix := 61) (M' := m_X11_put) (As := [.ref x33, .int (iI ((σ.2.1 57 a) - 1)), .int (iI z43)]) (rest := []) dX7_giveBack_119 ok_X11_put stt_X11_put nl7_61 np_X11_put rfl (Nat.le_of_ble_eq_true rfl) (Nat.le_of_ble_eq_true rfl) rfl (k_X11_put (d + 1) (T := T) (σ := (sA 69 a (-1) (sA 57 a ((σ.2.1 57 a) - 1) (sA 58 a (z9) σ)))) (x := x33) (i := (σ.2.1 57 a) - 1) (y := z43) hk35i (by omega) (by omega) (by omega) (((hw.put (by decide) (by decide) (fo_58 (by omega))).put (by decide) (by decide) (fo_57 ⟨by omega, by omega⟩)).put (by decide) (by decide) (fo_69 (Or.inl (by decide)))) (nh_k hk35 (by unfold HT; omega)) (vok_1 (by have q9 := hk35; omega) (by omega))) (fun r45 T47 σ46 gt48 hp => ?_)
      obtain ⟨rfl, rfl, w50, F51⟩ := hp
      clear gt48
      show Tn _ _ 122 T σ46 [(0, .ref a), (1, .int (iI n))] [] _
      have q52 : σ46.2.1 57 a = (σ.2.1 57 a) - 1 := rc_F F51 (Or.inl (by decide)) (by decide) (rc_o (by decide) (ra_eq))
      exact tn_vret rfl dX7_giveBack_122 ⟨rfl, rfl, w50, ((((FrC.rfl.put (by decide) (by decide)).put (by decide) (by decide)).put (by decide) (by decide)).trans (FrC.sub F51 (by decide))), by omega, ((((FA.rfl.put).put).put).trans (FA.of F51 (by decide)))⟩
    · show Tn _ _ 66 T (sA 57 a ((σ.2.1 57 a) - 1) (sA 58 a (z9) σ)) [(0, .ref a), (1, .int (iI n))] (vl true (x31 : Int) :: [.ref a]) _
      rw [vl_ref rfl]
      have hk32o : OB T x31 1 := hk32.1
      refine tn_putV (ci := 7) (i := 14) (n := 69) (r := true) (v := (x31 : Int)) tyX7 tyX7_ok nmX7 dX7_giveBack_66 rfl lay_7 (by decide) fl7_72 rfl (tyX7_ok 14 (by decide)) (vl_ref rfl).symm rfl rfl ha rfl rfl ?_
      refine tn_aload_n dX7_giveBack_69 rfl 0 rfl ?_
      refine tn_getR (ci := 7) (i := 14) (n := 69) (x := x31) dX7_giveBack_70 rfl lay_7 (by decide) fl7_72 ha rfl rfl (ra_eq) ?_
      refine tn_ifnull dX7_giveBack_73 ?_
      refine tn_aload_n dX7_giveBack_76 rfl 0 rfl ?_
      obtain ⟨x53, hx54, hk55, hl56⟩ : ∃ x : Nat, σ.2.1 63 a = (x : Int) ∧ AR T x 1 1728 1728 := wf_63 hw ha
      have hk55i : IA T x53 := by unfold IA; omega
      refine tn_getR (ci := 7) (i := 8) (n := 63) (x := x53) dX7_giveBack_77 rfl lay_7 (by decide) fl7_24 ha rfl rfl (rc_o (by decide) (rc_o (by decide) (rc_o (by decide) (hx54)))) ?_
      refine tn_aload_n dX7_giveBack_80 rfl 0 rfl ?_
      refine tn_getI (ci := 7) (i := 2) (n := 57) (t := (σ.2.1 57 a) - 1) dX7_giveBack_81 rfl lay_7 (by decide) fl7_65 ha rfl rfl (rc_o (by decide) (ra_eq)) ?_
      refine tn_sipush dX7_giveBack_84 (by decide) ?_
      refine tn_imul dX7_giveBack_87 ?_
      refine tn_aload_n dX7_giveBack_88 rfl 0 rfl ?_
      refine tn_getR (ci := 7) (i := 14) (n := 69) (x := x31) dX7_giveBack_89 rfl lay_7 (by decide) fl7_72 ha rfl rfl (ra_eq) ?_
      refine tn_aload_n dX7_giveBack_92 rfl 0 rfl ?_
      refine tn_callV (M := m_X7_giveBack) (pc := 93) (ix := 103) (ci := 7) (M' := m_X7_place) (As := []) (rest := [.ref x31, .int (iI (((σ.2.1 57 a) - 1) * 192)), .ref x53]) dX7_giveBack_93 ok_X7_place im_X7_place se_X7_place ml7_103 np_X7_place rfl rfl ha rfl (Nat.le_of_ble_eq_true rfl) (Nat.le_of_ble_eq_true rfl) rfl (k_X7_place (d) (T := T) (σ := (sA 69 a ((x31 : Int)) (sA 57 a ((σ.2.1 57 a) - 1) (sA 58 a (z9) σ)))) (a := a) ha (((hw.put (by decide) (by decide) (fo_58 (by omega))).put (by decide) (by decide) (fo_57 ⟨by omega, by omega⟩)).put (by decide) (by decide) (fo_69 (Or.inr ⟨_, rfl, hk32.2.1, hk32.2.2⟩))) ) (fun r57 T59 σ58 gt60 hp => ?_)
      obtain ⟨v62, rfl, rfl, rfl, f61⟩ := hp
      clear gt60
      show Tn _ _ 96 T (sA 69 a ((x31 : Int)) (sA 57 a ((σ.2.1 57 a) - 1) (sA 58 a (z9) σ))) [(0, .ref a), (1, .int (iI n))] [.int (iI v62), .ref x31, .int (iI (((σ.2.1 57 a) - 1) * 192)), .ref x53] _
      refine tn_iconst dX7_giveBack_96 ?_
      refine tn_callV (M := m_X7_giveBack) (pc := 97) (ix := 117) (ci := 1) (M' := m_X1_get) (As := [.int (iI v62), .int (iI 1)]) (rest := [.int (iI (((σ.2.1 57 a) - 1) * 192)), .ref x53]) dX7_giveBack_97 ok_X1_get im_X1_get se_X1_get ml7_117 np_X1_get rfl rfl hk32o rfl (Nat.le_of_ble_eq_true rfl) (Nat.le_of_ble_eq_true rfl) rfl (k_X1_get (d + 1) (T := T) (σ := (sA 69 a ((x31 : Int)) (sA 57 a ((σ.2.1 57 a) - 1) (sA 58 a (z9) σ)))) (a := x31) (k := v62) (c := 1) hk32o (by omega) (by decide) (((hw.put (by decide) (by decide) (fo_58 (by omega))).put (by decide) (by decide) (fo_57 ⟨by omega, by omega⟩)).put (by decide) (by decide) (fo_69 (Or.inr ⟨_, rfl, hk32.2.1, hk32.2.2⟩))) (by omega)) (fun r63 T65 σ64 gt66 hp => ?_)
      obtain ⟨v68, rfl, rfl, rfl, f67⟩ := hp
      clear gt66
      show Tn _ _ 100 T (sA 69 a ((x31 : Int)) (sA 57 a ((σ.2.1 57 a) - 1) (sA 58 a (z9) σ))) [(0, .ref a), (1, .int (iI n))] [.int (iI v68), .int (iI (((σ.2.1 57 a) - 1) * 192)), .ref x53] _
      refine tn_iadd dX7_giveBack_100 ?_
      refine tn_any (fun z69 g70 => ?_)
      have g70r : -2147483648 ≤ z69 ∧ z69 ≤ 2147483647 := g70
      refine tn_iload_n dX7_giveBack_101 rfl 1 rfl ?_
      refine tn_callSN (M := m_X7_giveBack) (pc := 102) (ix := 61) (M' := m_X11_put) (As := [.ref x53, .int (iI z69), .int (iI n)]) (rest := []) dX7_giveBack_102 ok_X11_put stt_X11_put nl7_61 np_X11_put rfl (Nat.le_of_ble_eq_true rfl) (Nat.le_of_ble_eq_true rfl) rfl (k_X11_put (d + 1) (T := T) (σ := (sA 69 a ((x31 : Int)) (sA 57 a ((σ.2.1 57 a) - 1) (sA 58 a (z9) σ)))) (x := x53) (i := z69) (y := n) hk55i (by omega) (by omega) (by omega) (((hw.put (by decide) (by decide) (fo_58 (by omega))).put (by decide) (by decide) (fo_57 ⟨by omega, by omega⟩)).put (by decide) (by decide) (fo_69 (Or.inr ⟨_, rfl, hk32.2.1, hk32.2.2⟩))) (nh_k hk55 (by unfold HT; omega)) (vok_1 (by have q9 := hk55; omega) (by omega))) (fun r71 T73 σ72 gt74 hp => ?_)
      obtain ⟨rfl, rfl, w76, F77⟩ := hp
      clear gt74
      show Tn _ _ 105 T σ72 [(0, .ref a), (1, .int (iI n))] [] _
      refine tn_aload_n dX7_giveBack_105 rfl 0 rfl ?_
      obtain ⟨x78, hx79, hk80, hl81⟩ : ∃ x : Nat, σ.2.1 60 a = (x : Int) ∧ AR T x 1 9 9 := wf_60 hw ha
      have hk80i : IA T x78 := by unfold IA; omega
      refine tn_getR (ci := 7) (i := 5) (n := 60) (x := x78) dX7_giveBack_106 rfl lay_7 (by decide) fl7_15 ha rfl rfl (rc_F F77 (Or.inl (by decide)) (by decide) (rc_o (by decide) (rc_o (by decide) (rc_o (by decide) (hx79))))) ?_
      refine tn_aload_n dX7_giveBack_109 rfl 0 rfl ?_
      refine tn_getI (ci := 7) (i := 2) (n := 57) (t := (σ.2.1 57 a) - 1) dX7_giveBack_110 rfl lay_7 (by decide) fl7_65 ha rfl rfl (rc_F F77 (Or.inl (by decide)) (by decide) (rc_o (by decide) (ra_eq))) ?_
      refine tn_aload_n dX7_giveBack_113 rfl 0 rfl ?_
      refine tn_callV (M := m_X7_giveBack) (pc := 114) (ix := 103) (ci := 7) (M' := m_X7_place) (As := []) (rest := [.int (iI ((σ.2.1 57 a) - 1)), .ref x78]) dX7_giveBack_114 ok_X7_place im_X7_place se_X7_place ml7_103 np_X7_place rfl rfl ha rfl (Nat.le_of_ble_eq_true rfl) (Nat.le_of_ble_eq_true rfl) rfl (k_X7_place (d) (T := T) (σ := σ72) (a := a) ha w76 ) (fun r82 T84 σ83 gt85 hp => ?_)
      obtain ⟨v87, rfl, rfl, rfl, f86⟩ := hp
      clear gt85
      show Tn _ _ 117 T σ72 [(0, .ref a), (1, .int (iI n))] [.int (iI v87), .int (iI ((σ.2.1 57 a) - 1)), .ref x78] _
      refine tn_iconst dX7_giveBack_117 ?_
      refine tn_iadd dX7_giveBack_118 ?_
      refine tn_any (fun z88 g89 => ?_)
      have g89r : -2147483648 ≤ z88 ∧ z88 ≤ 2147483647 := g89
      refine tn_callSN (M := m_X7_giveBack) (pc := 119) (ix := 61) (M' := m_X11_put) (As := [.ref x78, .int (iI ((σ.2.1 57 a) - 1)), .int (iI z88)]) (rest := []) dX7_giveBack_119 ok_X11_put stt_X11_put nl7_61 np_X11_put rfl (Nat.le_of_ble_eq_true rfl) (Nat.le_of_ble_eq_true rfl) rfl (k_X11_put (d + 1) (T := T) (σ := σ72) (x := x78) (i := (σ.2.1 57 a) - 1) (y := z88) hk80i (by omega) (by omega) (by omega) w76 (nh_k hk80 (by unfold HT; omega)) (vok_1 (by have q9 := hk80; omega) (by omega))) (fun r90 T92 σ91 gt93 hp => ?_)
      obtain ⟨rfl, rfl, w95, F96⟩ := hp
      clear gt93
      show Tn _ _ 122 T σ91 [(0, .ref a), (1, .int (iI n))] [] _
      have q97 : σ91.2.1 57 a = (σ.2.1 57 a) - 1 := rc_F F96 (Or.inl (by decide)) (by decide) (rc_F F77 (Or.inl (by decide)) (by decide) (rc_o (by decide) (ra_eq)))
      exact tn_vret rfl dX7_giveBack_122 ⟨rfl, rfl, w95, (((((FrC.rfl.put (by decide) (by decide)).put (by decide) (by decide)).put (by decide) (by decide)).trans (FrC.sub F77 (by decide))).trans (FrC.sub F96 (by decide))), by omega, (((((FA.rfl.put).put).put).trans (FA.of F77 (by decide))).trans (FA.of F96 (by decide)))⟩
  · refine tn_aload_n dX7_giveBack_24 rfl 0 rfl ?_
    refine tn_iconst dX7_giveBack_25 ?_
    refine tn_putV (ci := 7) (i := 1) (n := 56) (r := false) (v := 2) tyX7 tyX7_ok nmX7 dX7_giveBack_26 rfl lay_7 (by decide) fl7_34 rfl (tyX7_ok 1 (by decide)) rfl rfl rfl ha rfl rfl ?_
    refine tn_aload_n dX7_giveBack_29 rfl 0 rfl ?_
    refine tn_iload_n dX7_giveBack_30 rfl 1 rfl ?_
    refine tn_putV (ci := 7) (i := 13) (n := 68) (r := false) (v := n) tyX7 tyX7_ok nmX7 dX7_giveBack_31 rfl lay_7 (by decide) fl7_50 rfl (tyX7_ok 13 (by decide)) rfl rfl rfl ha rfl rfl ?_
    refine tn_aload_n dX7_giveBack_34 rfl 0 rfl ?_
    refine tn_iconst dX7_giveBack_35 ?_
    refine tn_putV (ci := 7) (i := 3) (n := 58) (r := false) (v := 0) tyX7 tyX7_ok nmX7 dX7_giveBack_36 rfl lay_7 (by decide) fl7_38 rfl (tyX7_ok 3 (by decide)) rfl rfl rfl ha rfl rfl ?_
    have q98 : (sA 58 a (0) (sA 68 a (n) (sA 56 a (2) (sA 58 a (z9) σ)))).2.1 57 a = σ.2.1 57 a := rc_o (by decide) (rc_o (by decide) (rc_o (by decide) (rc_o (by decide) (rfl))))
    exact tn_vret rfl dX7_giveBack_39 ⟨rfl, rfl, ((((hw.put (by decide) (by decide) (fo_58 (by omega))).put (by decide) (by decide) (fo_56 (by omega))).put (by decide) (by decide) (fo_68 (by omega))).put (by decide) (by decide) (fo_58 (by omega))), ((((FrC.rfl.put (by decide) (by decide)).put (by decide) (by decide)).put (by decide) (by decide)).put (by decide) (by decide)), by omega, ((((FA.rfl.put).put).put).put)⟩
