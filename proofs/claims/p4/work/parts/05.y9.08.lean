set_option maxRecDepth 20000 in
theorem k_X7_giveBack_57 (d : Nat) {T : CT} {σ : MS} {a : Nat} {n : Int} (ha : OB T a 7) (hta : (T a).1 = 57) (h_n : -2147483648 ≤ n ∧ n ≤ 2147483647) (hw : WT T σ) (hp : σ.2.1 58 a = σ.2.1 57 a + 1) : Tn (d + 3) m_X7_giveBack 0 T σ [(0, .ref a), (1, .int (iI n))] [] (fun ro T2 σ2 => ro = none ∧ T = T2 ∧ WT T2 σ2 ∧ FrC T [56, 57, 58, 68, 69] σ σ2 ∧ (PIv σ2 a) ∧ (FA a σ σ2)) := by
  refine tn_aload_n dX7_giveBack_0 rfl 0 rfl ?_
  refine tn_dup dX7_giveBack_1 rfl ?_
  refine tn_getI (ci := 7) (i := 3) (n := 58) (t := σ.2.1 58 a) dX7_giveBack_2 rfl lay_7 (by decide) fl7_38 ha rfl rfl (rfl) ?_
  have g1 : ((-2147483648 : Int) ≤ σ.2.1 58 a ∧ σ.2.1 58 a ≤ 2147483647) := wf_58 hw ha
  refine tn_aload_n dX7_giveBack_5 rfl 0 rfl ?_
  refine tn_aload_n dX7_giveBack_6 rfl 0 rfl ?_
  refine tn_getI (ci := 7) (i := 2) (n := 57) (t := σ.2.1 57 a) dX7_giveBack_7 rfl lay_7 (by decide) fl7_65 ha rfl rfl (rfl) ?_
  have g2 : ((0 : Int) ≤ σ.2.1 57 a ∧ σ.2.1 57 a ≤ 11184800) ∧ ((T a).1 = 57 → σ.2.1 57 a ≤ 8) := wf_57 hw ha
  have g2x := g2.2
  replace g2 := g2.1
  have g2x := g2x hta
  refine tn_callV (M := m_X7_giveBack) (pc := 10) (ix := 140) (ci := 7) (M' := m_X7_chainOf) (As := [.int (iI (σ.2.1 57 a))]) (rest := [.int (iI (σ.2.1 58 a)), .ref a]) dX7_giveBack_10 ok_X7_chainOf im_X7_chainOf se_X7_chainOf ml7_140 np_X7_chainOf rfl rfl ha rfl (Nat.le_of_ble_eq_true rfl) (Nat.le_of_ble_eq_true rfl) rfl (k_X7_chainOf_57 (d) (T := T) (σ := σ) (a := a) (p1 := σ.2.1 57 a) ha hta (by omega) hw ) (fun r3 T5 σ4 gt6 hp => ?_)
  obtain ⟨v9, rfl, rfl, rfl, f7, f8⟩ := hp
  clear gt6
  show Tn _ _ 13 T σ [(0, .ref a), (1, .int (iI n))] [.int (iI v9), .int (iI (σ.2.1 58 a)), .ref a] _
  refine tn_isub dX7_giveBack_13 ?_
  refine tn_putV (ci := 7) (i := 3) (n := 58) (r := false) (v := (σ.2.1 58 a) - v9) tyX7 tyX7_ok nmX7 dX7_giveBack_14 rfl lay_7 (by decide) fl7_38 rfl (tyX7_ok 3 (by decide)) rfl rfl rfl ha rfl rfl ?_
  refine tn_aload_n dX7_giveBack_17 rfl 0 rfl ?_
  refine tn_getI (ci := 7) (i := 2) (n := 57) (t := σ.2.1 57 a) dX7_giveBack_18 rfl lay_7 (by decide) fl7_65 ha rfl rfl (rc_o (by decide) (rfl)) ?_
  refine tn_if_ne (tgt := 40) dX7_giveBack_21 (by decide) ⟨by omega, by omega⟩ (fun h10 => ?_) (fun h10 => ?_)
  · refine tn_aload_n dX7_giveBack_40 rfl 0 rfl ?_
    refine tn_dup dX7_giveBack_41 rfl ?_
    refine tn_getI (ci := 7) (i := 2) (n := 57) (t := σ.2.1 57 a) dX7_giveBack_42 rfl lay_7 (by decide) fl7_65 ha rfl rfl (rc_o (by decide) (rfl)) ?_
    refine tn_iconst dX7_giveBack_45 ?_
    refine tn_isub dX7_giveBack_46 ?_
    refine tn_putV (ci := 7) (i := 2) (n := 57) (r := false) (v := (σ.2.1 57 a) - 1) tyX7 tyX7_ok nmX7 dX7_giveBack_47 rfl lay_7 (by decide) fl7_65 rfl (tyX7_ok 2 (by decide)) rfl rfl rfl ha rfl rfl ?_
    refine tn_aload_n dX7_giveBack_50 rfl 0 rfl ?_
    refine tn_aload_n dX7_giveBack_51 rfl 0 rfl ?_
    refine tn_aload_n dX7_giveBack_52 rfl 0 rfl ?_
    obtain ⟨x11, hx12, hk13, hl14⟩ : ∃ x : Nat, σ.2.1 59 a = (x : Int) ∧ AR T x 15 9 9 := wf_59 hw ha
    have hk13i : IA T x11 := by unfold IA; omega
    refine tn_getR (ci := 7) (i := 4) (n := 59) (x := x11) dX7_giveBack_53 rfl lay_7 (by decide) fl7_9 ha rfl rfl (rc_o (by decide) (rc_o (by decide) (hx12))) ?_
    refine tn_aload_n dX7_giveBack_56 rfl 0 rfl ?_
    refine tn_getI (ci := 7) (i := 2) (n := 57) (t := (σ.2.1 57 a) - 1) dX7_giveBack_57 rfl lay_7 (by decide) fl7_65 ha rfl rfl (ra_eq) ?_
    refine tn_callSN (M := m_X7_giveBack) (pc := 60) (ix := 91) (M' := m_X11_at) (As := [.ref x11, .int (iI ((σ.2.1 57 a) - 1))]) (rest := [.ref a, .ref a]) dX7_giveBack_60 ok_X11_at stt_X11_at nl7_91 np_X11_at rfl (Nat.le_of_ble_eq_true rfl) (Nat.le_of_ble_eq_true rfl) rfl (k_X11_at (d + 1) (T := T) (σ := (sA 57 a ((σ.2.1 57 a) - 1) (sA 58 a ((σ.2.1 58 a) - v9) σ))) (x := x11) (i := (σ.2.1 57 a) - 1) hk13i (by omega) (by omega) ((hw.put (by decide) (by decide) (fo_58 (by omega))).put (by decide) (by decide) (fo_57 ⟨by omega, by omega⟩)) ) (fun r15 T17 σ16 gt18 hp => ?_)
    obtain ⟨v22, rfl, rfl, rfl, f19, f20, f21⟩ := hp
    clear gt18
    clear f20 f21
    show Tn _ _ 63 T (sA 57 a ((σ.2.1 57 a) - 1) (sA 58 a ((σ.2.1 58 a) - v9) σ)) [(0, .ref a), (1, .int (iI n))] [.int (iI v22), .ref a, .ref a] _
    refine tn_callV (M := m_X7_giveBack) (pc := 63) (ix := 68) (ci := 7) (M' := m_X7_codeAt) (As := [.int (iI v22)]) (rest := [.ref a]) dX7_giveBack_63 ok_X7_codeAt im_X7_codeAt se_X7_codeAt ml7_68 np_X7_codeAt rfl rfl ha rfl (Nat.le_of_ble_eq_true rfl) (Nat.le_of_ble_eq_true rfl) rfl (k_X7_codeAt (d + 1) (T := T) (σ := (sA 57 a ((σ.2.1 57 a) - 1) (sA 58 a ((σ.2.1 58 a) - v9) σ))) (a := a) (r := v22) ha (by omega) ((hw.put (by decide) (by decide) (fo_58 (by omega))).put (by decide) (by decide) (fo_57 ⟨by omega, by omega⟩)) ) (fun r23 T25 σ24 gt26 hp => ?_)
    obtain ⟨v28, rfl, rfl, rfl, rv29, f27⟩ := hp
    clear gt26
    clear f27
    rcases rv29 with rv29 | ⟨x30, rfl, hk31⟩
    · show Tn _ _ 66 T (sA 57 a ((σ.2.1 57 a) - 1) (sA 58 a ((σ.2.1 58 a) - v9) σ)) [(0, .ref a), (1, .int (iI n))] (vl true v28 :: [.ref a]) _
      rw [vl_null rv29]
      refine tn_putV (ci := 7) (i := 14) (n := 69) (r := true) (v := -1) tyX7 tyX7_ok nmX7 dX7_giveBack_66 rfl lay_7 (by decide) fl7_72 rfl (tyX7_ok 14 (by decide)) (vl_null (by decide)).symm rfl rfl ha rfl rfl ?_
      refine tn_aload_n dX7_giveBack_69 rfl 0 rfl ?_
      refine tn_getN (ci := 7) (i := 14) (n := 69) dX7_giveBack_70 rfl lay_7 (by decide) fl7_72 ha rfl rfl (by rw [ra_eq]; decide) ?_
      refine tn_ifnullN (tgt := 105) dX7_giveBack_73 (by decide) ?_
      refine tn_aload_n dX7_giveBack_105 rfl 0 rfl ?_
      obtain ⟨x32, hx33, hk34, hl35⟩ : ∃ x : Nat, σ.2.1 60 a = (x : Int) ∧ AR T x 1 9 9 := wf_60 hw ha
      have hk34i : IA T x32 := by unfold IA; omega
      refine tn_getR (ci := 7) (i := 5) (n := 60) (x := x32) dX7_giveBack_106 rfl lay_7 (by decide) fl7_15 ha rfl rfl (rc_o (by decide) (rc_o (by decide) (rc_o (by decide) (hx33)))) ?_
      refine tn_aload_n dX7_giveBack_109 rfl 0 rfl ?_
      refine tn_getI (ci := 7) (i := 2) (n := 57) (t := (σ.2.1 57 a) - 1) dX7_giveBack_110 rfl lay_7 (by decide) fl7_65 ha rfl rfl (rc_o (by decide) (ra_eq)) ?_
      refine tn_aload_n dX7_giveBack_113 rfl 0 rfl ?_
      refine tn_callV (M := m_X7_giveBack) (pc := 114) (ix := 103) (ci := 7) (M' := m_X7_place) (As := []) (rest := [.int (iI ((σ.2.1 57 a) - 1)), .ref x32]) dX7_giveBack_114 ok_X7_place im_X7_place se_X7_place ml7_103 np_X7_place rfl rfl ha rfl (Nat.le_of_ble_eq_true rfl) (Nat.le_of_ble_eq_true rfl) rfl (k_X7_place (d) (T := T) (σ := (sA 69 a (-1) (sA 57 a ((σ.2.1 57 a) - 1) (sA 58 a ((σ.2.1 58 a) - v9) σ)))) (a := a) ha (((hw.put (by decide) (by decide) (fo_58 (by omega))).put (by decide) (by decide) (fo_57 ⟨by omega, by omega⟩)).put (by decide) (by decide) (fo_69 (Or.inl (by decide)))) ) (fun r36 T38 σ37 gt39 hp => ?_)
      obtain ⟨v41, rfl, rfl, rfl, f40⟩ := hp
      clear gt39
      show Tn _ _ 117 T (sA 69 a (-1) (sA 57 a ((σ.2.1 57 a) - 1) (sA 58 a ((σ.2.1 58 a) - v9) σ))) [(0, .ref a), (1, .int (iI n))] [.int (iI v41), .int (iI ((σ.2.1 57 a) - 1)), .ref x32] _
      refine tn_iconst dX7_giveBack_117 ?_
      refine tn_iadd dX7_giveBack_118 ?_
      refine tn_any (fun z42 g43 => ?_)
      have g43r : -2147483648 ≤ z42 ∧ z42 ≤ 2147483647 := g43
      refine tn_callSN (M := m_X7_giveBack) (pc := 119) (ix := 61) (M' := m_X11_put) (As := [.ref x32, .int (iI ((σ.2.1 57 a) - 1)), .int (iI z42)]) (rest := []) dX7_giveBack_119 ok_X11_put stt_X11_put nl7_61 np_X11_put rfl (Nat.le_of_ble_eq_true rfl) (Nat.le_of_ble_eq_true rfl) rfl (k_X11_put (d + 1) (T := T) (σ := (sA 69 a (-1) (sA 57 a ((σ.2.1 57 a) - 1) (sA 58 a ((σ.2.1 58 a) - v9) σ)))) (x := x32) (i := (σ.2.1 57 a) - 1) (y := z42) hk34i (by omega) (by omega) (by omega) (((hw.put (by decide) (by decide) (fo_58 (by omega))).put (by decide) (by decide) (fo_57 ⟨by omega, by omega⟩)).put (by decide) (by decide) (fo_69 (Or.inl (by decide)))) (nh_k hk34 (by unfold HT; omega)) (vok_1 (by have q9 := hk34; omega) (by omega))) (fun r44 T46 σ45 gt47 hp => ?_)
      obtain ⟨rfl, rfl, w49, F50⟩ := hp
      clear gt47
      show Tn _ _ 122 T σ45 [(0, .ref a), (1, .int (iI n))] [] _
      have q51 : σ45.2.1 56 a = σ.2.1 56 a := rc_F F50 (Or.inl (by decide)) (by decide) (rc_o (by decide) (rc_o (by decide) (rc_o (by decide) (rfl))))
      have q52 : σ45.2.1 57 a = (σ.2.1 57 a) - 1 := rc_F F50 (Or.inl (by decide)) (by decide) (rc_o (by decide) (ra_eq))
      have q53 : σ45.2.1 58 a = (σ.2.1 58 a) - v9 := rc_F F50 (Or.inl (by decide)) (by decide) (rc_o (by decide) (rc_o (by decide) (ra_eq)))
      exact tn_vret rfl dX7_giveBack_122 ⟨rfl, rfl, w49, ((((FrC.rfl.put (by decide) (by decide)).put (by decide) (by decide)).put (by decide) (by decide)).trans (FrC.sub F50 (by decide))), by unfold PIv; rw [q51, q52, q53]; omega, ((((FA.rfl.put).put).put).trans (FA.of F50 (by decide)))⟩
    · show Tn _ _ 66 T (sA 57 a ((σ.2.1 57 a) - 1) (sA 58 a ((σ.2.1 58 a) - v9) σ)) [(0, .ref a), (1, .int (iI n))] (vl true (x30 : Int) :: [.ref a]) _
      rw [vl_ref rfl]
      have hk31o : OB T x30 1 := hk31.1
      refine tn_putV (ci := 7) (i := 14) (n := 69) (r := true) (v := (x30 : Int)) tyX7 tyX7_ok nmX7 dX7_giveBack_66 rfl lay_7 (by decide) fl7_72 rfl (tyX7_ok 14 (by decide)) (vl_ref rfl).symm rfl rfl ha rfl rfl ?_
      refine tn_aload_n dX7_giveBack_69 rfl 0 rfl ?_
      refine tn_getR (ci := 7) (i := 14) (n := 69) (x := x30) dX7_giveBack_70 rfl lay_7 (by decide) fl7_72 ha rfl rfl (ra_eq) ?_
      refine tn_ifnull dX7_giveBack_73 ?_
      refine tn_aload_n dX7_giveBack_76 rfl 0 rfl ?_
      obtain ⟨x54, hx55, hk56, hl57⟩ : ∃ x : Nat, σ.2.1 63 a = (x : Int) ∧ AR T x 1 1728 1728 := wf_63 hw ha
      have hk56i : IA T x54 := by unfold IA; omega
      refine tn_getR (ci := 7) (i := 8) (n := 63) (x := x54) dX7_giveBack_77 rfl lay_7 (by decide) fl7_24 ha rfl rfl (rc_o (by decide) (rc_o (by decide) (rc_o (by decide) (hx55)))) ?_
      refine tn_aload_n dX7_giveBack_80 rfl 0 rfl ?_
      refine tn_getI (ci := 7) (i := 2) (n := 57) (t := (σ.2.1 57 a) - 1) dX7_giveBack_81 rfl lay_7 (by decide) fl7_65 ha rfl rfl (rc_o (by decide) (ra_eq)) ?_
      refine tn_sipush dX7_giveBack_84 (by decide) ?_
      refine tn_imul dX7_giveBack_87 ?_
      refine tn_aload_n dX7_giveBack_88 rfl 0 rfl ?_
      refine tn_getR (ci := 7) (i := 14) (n := 69) (x := x30) dX7_giveBack_89 rfl lay_7 (by decide) fl7_72 ha rfl rfl (ra_eq) ?_
      refine tn_aload_n dX7_giveBack_92 rfl 0 rfl ?_
      refine tn_callV (M := m_X7_giveBack) (pc := 93) (ix := 103) (ci := 7) (M' := m_X7_place) (As := []) (rest := [.ref x30, .int (iI (((σ.2.1 57 a) - 1) * 192)), .ref x54]) dX7_giveBack_93 ok_X7_place im_X7_place se_X7_place ml7_103 np_X7_place rfl rfl ha rfl (Nat.le_of_ble_eq_true rfl) (Nat.le_of_ble_eq_true rfl) rfl (k_X7_place (d) (T := T) (σ := (sA 69 a ((x30 : Int)) (sA 57 a ((σ.2.1 57 a) - 1) (sA 58 a ((σ.2.1 58 a) - v9) σ)))) (a := a) ha (((hw.put (by decide) (by decide) (fo_58 (by omega))).put (by decide) (by decide) (fo_57 ⟨by omega, by omega⟩)).put (by decide) (by decide) (fo_69 (Or.inr ⟨_, rfl, hk31.2.1, hk31.2.2⟩))) ) (fun r58 T60 σ59 gt61 hp => ?_)
      obtain ⟨v63, rfl, rfl, rfl, f62⟩ := hp
      clear gt61
      show Tn _ _ 96 T (sA 69 a ((x30 : Int)) (sA 57 a ((σ.2.1 57 a) - 1) (sA 58 a ((σ.2.1 58 a) - v9) σ))) [(0, .ref a), (1, .int (iI n))] [.int (iI v63), .ref x30, .int (iI (((σ.2.1 57 a) - 1) * 192)), .ref x54] _
      refine tn_iconst dX7_giveBack_96 ?_
      refine tn_callV (M := m_X7_giveBack) (pc := 97) (ix := 117) (ci := 1) (M' := m_X1_get) (As := [.int (iI v63), .int (iI 1)]) (rest := [.int (iI (((σ.2.1 57 a) - 1) * 192)), .ref x54]) dX7_giveBack_97 ok_X1_get im_X1_get se_X1_get ml7_117 np_X1_get rfl rfl hk31o rfl (Nat.le_of_ble_eq_true rfl) (Nat.le_of_ble_eq_true rfl) rfl (k_X1_get (d + 1) (T := T) (σ := (sA 69 a ((x30 : Int)) (sA 57 a ((σ.2.1 57 a) - 1) (sA 58 a ((σ.2.1 58 a) - v9) σ)))) (a := x30) (k := v63) (c := 1) hk31o (by omega) (by decide) (((hw.put (by decide) (by decide) (fo_58 (by omega))).put (by decide) (by decide) (fo_57 ⟨by omega, by omega⟩)).put (by decide) (by decide) (fo_69 (Or.inr ⟨_, rfl, hk31.2.1, hk31.2.2⟩))) (by omega)) (fun r64 T66 σ65 gt67 hp => ?_)
      obtain ⟨v69, rfl, rfl, rfl, f68⟩ := hp
      clear gt67
      show Tn _ _ 100 T (sA 69 a ((x30 : Int)) (sA 57 a ((σ.2.1 57 a) - 1) (sA 58 a ((σ.2.1 58 a) - v9) σ))) [(0, .ref a), (1, .int (iI n))] [.int (iI v69), .int (iI (((σ.2.1 57 a) - 1) * 192)), .ref x54] _
      refine tn_iadd dX7_giveBack_100 ?_
      refine tn_any (fun z70 g71 => ?_)
      have g71r : -2147483648 ≤ z70 ∧ z70 ≤ 2147483647 := g71
      refine tn_iload_n dX7_giveBack_101 rfl 1 rfl ?_
      refine tn_callSN (M := m_X7_giveBack) (pc := 102) (ix := 61) (M' := m_X11_put) (As := [.ref x54, .int (iI z70), .int (iI n)]) (rest := []) dX7_giveBack_102 ok_X11_put stt_X11_put nl7_61 np_X11_put rfl (Nat.le_of_ble_eq_true rfl) (Nat.le_of_ble_eq_true rfl) rfl (k_X11_put (d + 1) (T := T) (σ := (sA 69 a ((x30 : Int)) (sA 57 a ((σ.2.1 57 a) - 1) (sA 58 a ((σ.2.1 58 a) - v9) σ)))) (x := x54) (i := z70) (y := n) hk56i (by omega) (by omega) (by omega) (((hw.put (by decide) (by decide) (fo_58 (by omega))).put (by decide) (by decide) (fo_57 ⟨by omega, by omega⟩)).put (by decide) (by decide) (fo_69 (Or.inr ⟨_, rfl, hk31.2.1, hk31.2.2⟩))) (nh_k hk56 (by unfold HT; omega)) (vok_1 (by have q9 := hk56; omega) (by omega))) (fun r72 T74 σ73 gt75 hp => ?_)
      obtain ⟨rfl, rfl, w77, F78⟩ := hp
      clear gt75
      show Tn _ _ 105 T σ73 [(0, .ref a), (1, .int (iI n))] [] _
      refine tn_aload_n dX7_giveBack_105 rfl 0 rfl ?_
      obtain ⟨x79, hx80, hk81, hl82⟩ : ∃ x : Nat, σ.2.1 60 a = (x : Int) ∧ AR T x 1 9 9 := wf_60 hw ha
      have hk81i : IA T x79 := by unfold IA; omega
      refine tn_getR (ci := 7) (i := 5) (n := 60) (x := x79) dX7_giveBack_106 rfl lay_7 (by decide) fl7_15 ha rfl rfl (rc_F F78 (Or.inl (by decide)) (by decide) (rc_o (by decide) (rc_o (by decide) (rc_o (by decide) (hx80))))) ?_
      refine tn_aload_n dX7_giveBack_109 rfl 0 rfl ?_
      refine tn_getI (ci := 7) (i := 2) (n := 57) (t := (σ.2.1 57 a) - 1) dX7_giveBack_110 rfl lay_7 (by decide) fl7_65 ha rfl rfl (rc_F F78 (Or.inl (by decide)) (by decide) (rc_o (by decide) (ra_eq))) ?_
      refine tn_aload_n dX7_giveBack_113 rfl 0 rfl ?_
      refine tn_callV (M := m_X7_giveBack) (pc := 114) (ix := 103) (ci := 7) (M' := m_X7_place) (As := []) (rest := [.int (iI ((σ.2.1 57 a) - 1)), .ref x79]) dX7_giveBack_114 ok_X7_place im_X7_place se_X7_place ml7_103 np_X7_place rfl rfl ha rfl (Nat.le_of_ble_eq_true rfl) (Nat.le_of_ble_eq_true rfl) rfl (k_X7_place (d) (T := T) (σ := σ73) (a := a) ha w77 ) (fun r83 T85 σ84 gt86 hp => ?_)
      obtain ⟨v88, rfl, rfl, rfl, f87⟩ := hp
      clear gt86
      show Tn _ _ 117 T σ73 [(0, .ref a), (1, .int (iI n))] [.int (iI v88), .int (iI ((σ.2.1 57 a) - 1)), .ref x79] _
      refine tn_iconst dX7_giveBack_117 ?_
      refine tn_iadd dX7_giveBack_118 ?_
      refine tn_any (fun z89 g90 => ?_)
      have g90r : -2147483648 ≤ z89 ∧ z89 ≤ 2147483647 := g90
      refine tn_callSN (M := m_X7_giveBack) (pc := 119) (ix := 61) (M' := m_X11_put) (As := [.ref x79, .int (iI ((σ.2.1 57 a) - 1)), .int (iI z89)]) (rest := []) dX7_giveBack_119 ok_X11_put stt_X11_put nl7_61 np_X11_put rfl (Nat.le_of_ble_eq_true rfl) (Nat.le_of_ble_eq_true rfl) rfl (k_X11_put (d + 1) (T := T) (σ := σ73) (x := x79) (i := (σ.2.1 57 a) - 1) (y := z89) hk81i (by omega) (by omega) (by omega) w77 (nh_k hk81 (by unfold HT; omega)) (vok_1 (by have q9 := hk81; omega) (by omega))) (fun r91 T93 σ92 gt94 hp => ?_)
      obtain ⟨rfl, rfl, w96, F97⟩ := hp
      clear gt94
      show Tn _ _ 122 T σ92 [(0, .ref a), (1, .int (iI n))] [] _
      have q98 : σ92.2.1 56 a = σ.2.1 56 a := rc_F F97 (Or.inl (by decide)) (by decide) (rc_F F78 (Or.inl (by decide)) (by decide) (rc_o (by decide) (rc_o (by decide) (rc_o (by decide) (rfl)))))
      have q99 : σ92.2.1 57 a = (σ.2.1 57 a) - 1 := rc_F F97 (Or.inl (by decide)) (by decide) (rc_F F78 (Or.inl (by decide)) (by decide) (rc_o (by decide) (ra_eq)))
      have q100 : σ92.2.1 58 a = (σ.2.1 58 a) - v9 := rc_F F97 (Or.inl (by decide)) (by decide) (rc_F F78 (Or.inl (by decide)) (by decide) (rc_o (by decide) (rc_o (by decide) (ra_eq))))
      exact tn_vret rfl dX7_giveBack_122 ⟨rfl, rfl, w96, (((((FrC.rfl.put (by decide) (by decide)).put (by decide) (by decide)).put (by decide) (by decide)).trans (FrC.sub F78 (by decide))).trans (FrC.sub F97 (by decide))), by unfold PIv; rw [q98, q99, q100]; omega, (((((FA.rfl.put).put).put).trans (FA.of F78 (by decide))).trans (FA.of F97 (by decide)))⟩
  · refine tn_aload_n dX7_giveBack_24 rfl 0 rfl ?_
    refine tn_iconst dX7_giveBack_25 ?_
    refine tn_putV (ci := 7) (i := 1) (n := 56) (r := false) (v := 2) tyX7 tyX7_ok nmX7 dX7_giveBack_26 rfl lay_7 (by decide) fl7_34 rfl (tyX7_ok 1 (by decide)) rfl rfl rfl ha rfl rfl ?_
    refine tn_aload_n dX7_giveBack_29 rfl 0 rfl ?_
    refine tn_iload_n dX7_giveBack_30 rfl 1 rfl ?_
    refine tn_putV (ci := 7) (i := 13) (n := 68) (r := false) (v := n) tyX7 tyX7_ok nmX7 dX7_giveBack_31 rfl lay_7 (by decide) fl7_50 rfl (tyX7_ok 13 (by decide)) rfl rfl rfl ha rfl rfl ?_
    refine tn_aload_n dX7_giveBack_34 rfl 0 rfl ?_
    refine tn_iconst dX7_giveBack_35 ?_
    refine tn_putV (ci := 7) (i := 3) (n := 58) (r := false) (v := 0) tyX7 tyX7_ok nmX7 dX7_giveBack_36 rfl lay_7 (by decide) fl7_38 rfl (tyX7_ok 3 (by decide)) rfl rfl rfl ha rfl rfl ?_
    have q101 : (sA 58 a (0) (sA 68 a (n) (sA 56 a (2) (sA 58 a ((σ.2.1 58 a) - v9) σ)))).2.1 56 a = 2 := rc_o (by decide) (rc_o (by decide) (ra_eq))
    have q102 : (sA 58 a (0) (sA 68 a (n) (sA 56 a (2) (sA 58 a ((σ.2.1 58 a) - v9) σ)))).2.1 57 a = σ.2.1 57 a := rc_o (by decide) (rc_o (by decide) (rc_o (by decide) (rc_o (by decide) (rfl))))
    have q103 : (sA 58 a (0) (sA 68 a (n) (sA 56 a (2) (sA 58 a ((σ.2.1 58 a) - v9) σ)))).2.1 58 a = 0 := ra_eq
    exact tn_vret rfl dX7_giveBack_39 ⟨rfl, rfl, ((((hw.put (by decide) (by decide) (fo_58 (by omega))).put (by decide) (by decide) (fo_56 (by omega))).put (by decide) (by decide) (fo_68 (by omega))).put (by decide) (by decide) (fo_58 (by omega))), ((((FrC.rfl.put (by decide) (by decide)).put (by decide) (by decide)).put (by decide) (by decide)).put (by decide) (by decide)), by unfold PIv; rw [q101, q102, q103]; omega, ((((FA.rfl.put).put).put).put)⟩
