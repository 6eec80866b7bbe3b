section
set_option maxHeartbeats 1000000 in
set_option maxRecDepth 20000 in
theorem k_X7_giveBack_j (d : Nat) {T : CT} {σ : MS} {a : Nat} {n : Int} {xa : Nat} {xb : Nat} {xc : Nat} {xd : Nat} {xe : Nat} {y : Nat} (ha : OB T a 7) (hta : (T a).1 = 37) (h_n : -2147483648 ≤ n ∧ n ≤ 2147483647) (hw : WT T σ) (hxa : σ.2.1 59 a = (xa : Int)) (hxb : σ.2.1 60 a = (xb : Int)) (hxc : σ.2.1 61 a = (xc : Int)) (hxd : σ.2.1 62 a = (xd : Int)) (hxe : σ.2.1 63 a = (xe : Int)) (hy : σ.2.1 55 a = (y : Int)) : Tn (d + 3) m_X7_giveBack 0 T σ [(0, .ref a), (1, .int (iI n))] [] (fun ro T2 σ2 => ro = none ∧ T = T2 ∧ WT T2 σ2 ∧ FrC T [56, 57, 58, 68, 69] σ σ2 ∧ (CHX [(56, a), (57, a), (58, a), (68, a), (69, a)] [xb, xe] [] σ σ2) ∧ (σ2.2.1 57 a ≤ σ.2.1 57 a) ∧ (JGB T σ a xa xb xc xe y n σ2) ∧ (FA a σ σ2)) := by
  refine tn_aload_n dX7_giveBack_0 rfl 0 rfl ?_
  refine tn_dup dX7_giveBack_1 rfl ?_
  refine tn_getI (ci := 7) (i := 3) (n := 58) (t := σ.2.1 58 a) dX7_giveBack_2 rfl lay_7 (by decide) fl7_38 ha rfl rfl (rfl) ?_
  have g1 : ((-2147483648 : Int) ≤ σ.2.1 58 a ∧ σ.2.1 58 a ≤ 2147483647) := wf_58 hw ha
  refine tn_aload_n dX7_giveBack_5 rfl 0 rfl ?_
  refine tn_aload_n dX7_giveBack_6 rfl 0 rfl ?_
  refine tn_getI (ci := 7) (i := 2) (n := 57) (t := σ.2.1 57 a) dX7_giveBack_7 rfl lay_7 (by decide) fl7_65 ha rfl rfl (rfl) ?_
  have g2 : ((0 : Int) ≤ σ.2.1 57 a ∧ σ.2.1 57 a ≤ 11184800) ∧ ((T a).1 = 57 → σ.2.1 57 a ≤ 8) := wf_57 hw ha
  have g2x := g2.2
  replace g2 := g2.1
  clear g2x
  obtain ⟨hk5, hl6⟩ : AR T xa 15 9 9 := ar_of (wf_59 hw ha) hxa
  have hk5i : IA T xa := by unfold IA; omega
  obtain ⟨hl10, hk9a, hk9b⟩ := ex_at (wf_61 hw ha) hxc
  have hk9 : (T xc).1 = 1 := hk9b (by omega)
  clear hk9a hk9b
  have hk9i : IA T xc := by unfold IA; omega
  obtain ⟨hl14, hk13a, hk13b⟩ := ex_at (wf_55 hw ha) hy
  have hk13i : (T y).1 = 4 ∨ (T y).1 = 5 := by omega
  have hk13c : RROW T a y := ⟨hk13a, hk13b⟩
  clear hk13a hk13b
  refine tn_callV (M := m_X7_giveBack) (pc := 10) (ix := 140) (ci := 7) (M' := m_X7_chainOf) (As := [.int (iI (σ.2.1 57 a))]) (rest := [.int (iI (σ.2.1 58 a)), .ref a]) dX7_giveBack_10 ok_X7_chainOf im_X7_chainOf se_X7_chainOf ml7_140 np_X7_chainOf rfl rfl ha rfl (Nat.le_of_ble_eq_true rfl) (Nat.le_of_ble_eq_true rfl) rfl (k_X7_chainOf_j (d) (T := T) (σ := σ) (a := a) (p1 := σ.2.1 57 a) (xa := xa) (xc := xc) (y := y) ha (by omega) hw (hxa) (hxc) (hy)) (fun r15 T17 σ16 gt18 hp => ?_)
  obtain ⟨v21, rfl, rfl, rfl, f19, f20⟩ := hp
  clear gt18
  show Tn _ _ 13 T σ [(0, .ref a), (1, .int (iI n))] [.int (iI v21), .int (iI (σ.2.1 58 a)), .ref a] _
  refine tn_isub dX7_giveBack_13 ?_
  rw [show iI ((σ.2.1 58 a) - v21) = iI (w32 ((σ.2.1 58 a) - v21)) from (iI_self _).symm]
  have g22r : -2147483648 ≤ w32 ((σ.2.1 58 a) - v21) ∧ w32 ((σ.2.1 58 a) - v21) ≤ 2147483647 := inR_toInt _
  refine tn_putV (ci := 7) (i := 3) (n := 58) (r := false) (v := w32 ((σ.2.1 58 a) - v21)) tyX7 tyX7_ok nmX7 dX7_giveBack_14 rfl lay_7 (by decide) fl7_38 rfl (tyX7_ok 3 (by decide)) rfl rfl rfl ha rfl rfl ?_
  refine tn_aload_n dX7_giveBack_17 rfl 0 rfl ?_
  refine tn_getI (ci := 7) (i := 2) (n := 57) (t := σ.2.1 57 a) dX7_giveBack_18 rfl lay_7 (by decide) fl7_65 ha rfl rfl (rc_o (by decide) (rfl)) ?_
  refine tn_if_ne (tgt := 40) dX7_giveBack_21 (by decide) ⟨by omega, by omega⟩ (fun h23 => ?_) (fun h23 => ?_)
  · refine tn_aload_n dX7_giveBack_40 rfl 0 rfl ?_
    refine tn_dup dX7_giveBack_41 rfl ?_
    refine tn_getI (ci := 7) (i := 2) (n := 57) (t := σ.2.1 57 a) dX7_giveBack_42 rfl lay_7 (by decide) fl7_65 ha rfl rfl (rc_o (by decide) (rfl)) ?_
    refine tn_iconst dX7_giveBack_45 ?_
    refine tn_isub dX7_giveBack_46 ?_
    refine tn_putV (ci := 7) (i := 2) (n := 57) (r := false) (v := (σ.2.1 57 a) - 1) tyX7 tyX7_ok nmX7 dX7_giveBack_47 rfl lay_7 (by decide) fl7_65 rfl (tyX7_ok 2 (by decide)) rfl rfl rfl ha rfl rfl ?_
    refine tn_aload_n dX7_giveBack_50 rfl 0 rfl ?_
    refine tn_aload_n dX7_giveBack_51 rfl 0 rfl ?_
    refine tn_aload_n dX7_giveBack_52 rfl 0 rfl ?_
    refine tn_getR (ci := 7) (i := 4) (n := 59) (x := xa) dX7_giveBack_53 rfl lay_7 (by decide) fl7_9 ha rfl rfl (rc_o (by decide) (rc_o (by decide) (hxa))) ?_
    refine tn_aload_n dX7_giveBack_56 rfl 0 rfl ?_
    refine tn_getI (ci := 7) (i := 2) (n := 57) (t := (σ.2.1 57 a) - 1) dX7_giveBack_57 rfl lay_7 (by decide) fl7_65 ha rfl rfl (ra_eq) ?_
    refine tn_callSN (M := m_X7_giveBack) (pc := 60) (ix := 91) (M' := m_X11_at) (As := [.ref xa, .int (iI ((σ.2.1 57 a) - 1))]) (rest := [.ref a, .ref a]) dX7_giveBack_60 ok_X11_at stt_X11_at nl7_91 np_X11_at rfl (Nat.le_of_ble_eq_true rfl) (Nat.le_of_ble_eq_true rfl) rfl (k_X11_at_j (d + 1) (T := T) (σ := (sA 57 a ((σ.2.1 57 a) - 1) (sA 58 a (w32 ((σ.2.1 58 a) - v21)) σ))) (x := xa) (i := (σ.2.1 57 a) - 1) hk5i (by omega) (by omega) ((hw.put (by decide) (by decide) (fo_58 (by omega))).put (by decide) (by decide) (fo_57 ⟨by omega, by omega⟩)) ) (fun r24 T26 σ25 gt27 hp => ?_)
    obtain ⟨v31, rfl, rfl, rfl, f28, f29, f30⟩ := hp
    clear gt27
    clear f29
    show Tn _ _ 63 T (sA 57 a ((σ.2.1 57 a) - 1) (sA 58 a (w32 ((σ.2.1 58 a) - v21)) σ)) [(0, .ref a), (1, .int (iI n))] [.int (iI v31), .ref a, .ref a] _
    refine tn_callV (M := m_X7_giveBack) (pc := 63) (ix := 68) (ci := 7) (M' := m_X7_codeAt) (As := [.int (iI v31)]) (rest := [.ref a]) dX7_giveBack_63 ok_X7_codeAt im_X7_codeAt se_X7_codeAt ml7_68 np_X7_codeAt rfl rfl ha rfl (Nat.le_of_ble_eq_true rfl) (Nat.le_of_ble_eq_true rfl) rfl (k_X7_codeAt_j (d + 1) (T := T) (σ := (sA 57 a ((σ.2.1 57 a) - 1) (sA 58 a (w32 ((σ.2.1 58 a) - v21)) σ))) (a := a) (r := v31) (y := y) ha (by omega) ((hw.put (by decide) (by decide) (fo_58 (by omega))).put (by decide) (by decide) (fo_57 ⟨by omega, by omega⟩)) (rc_o (by decide) (rc_o (by decide) (hy)))) (fun r32 T34 σ33 gt35 hp => ?_)
    obtain ⟨v38, rfl, rfl, rfl, rv39, f36, f37⟩ := hp
    clear gt35
    rcases rv39 with rv39 | ⟨xq40, rfl, hk41⟩
    · show Tn _ _ 66 T (sA 57 a ((σ.2.1 57 a) - 1) (sA 58 a (w32 ((σ.2.1 58 a) - v21)) σ)) [(0, .ref a), (1, .int (iI n))] (vl true v38 :: [.ref a]) _
      rw [vl_null rv39]
      refine tn_putV (ci := 7) (i := 14) (n := 69) (r := true) (v := -1) tyX7 tyX7_ok nmX7 dX7_giveBack_66 rfl lay_7 (by decide) fl7_72 rfl (tyX7_ok 14 (by decide)) (vl_null (by decide)).symm rfl rfl ha rfl rfl ?_
      refine tn_aload_n dX7_giveBack_69 rfl 0 rfl ?_
      refine tn_getN (ci := 7) (i := 14) (n := 69) dX7_giveBack_70 rfl lay_7 (by decide) fl7_72 ha rfl rfl (by rw [ra_eq]; decide) ?_
      refine tn_ifnullN (tgt := 105) dX7_giveBack_73 (by decide) ?_
      refine tn_aload_n dX7_giveBack_105 rfl 0 rfl ?_
      obtain ⟨hk44, hl45⟩ : AR T xb 1 9 9 := ar_of (wf_60 hw ha) hxb
      have hk44i : IA T xb := by unfold IA; omega
      refine tn_getR (ci := 7) (i := 5) (n := 60) (x := xb) dX7_giveBack_106 rfl lay_7 (by decide) fl7_15 ha rfl rfl (rc_o (by decide) (rc_o (by decide) (rc_o (by decide) (hxb)))) ?_
      refine tn_aload_n dX7_giveBack_109 rfl 0 rfl ?_
      refine tn_getI (ci := 7) (i := 2) (n := 57) (t := (σ.2.1 57 a) - 1) dX7_giveBack_110 rfl lay_7 (by decide) fl7_65 ha rfl rfl (rc_o (by decide) (ra_eq)) ?_
      refine tn_aload_n dX7_giveBack_113 rfl 0 rfl ?_
      have q50 : (sA 69 a (-1) (sA 57 a ((σ.2.1 57 a) - 1) (sA 58 a (w32 ((σ.2.1 58 a) - v21)) σ))).2.1 57 a = (σ.2.1 57 a) - 1 := rc_o (by decide) (ra_eq)
      refine tn_callV (M := m_X7_giveBack) (pc := 114) (ix := 103) (ci := 7) (M' := m_X7_place) (As := []) (rest := [.int (iI ((σ.2.1 57 a) - 1)), .ref xb]) dX7_giveBack_114 ok_X7_place im_X7_place se_X7_place ml7_103 np_X7_place rfl rfl ha rfl (Nat.le_of_ble_eq_true rfl) (Nat.le_of_ble_eq_true rfl) rfl (k_X7_place_j (d) (T := T) (σ := (sA 69 a (-1) (sA 57 a ((σ.2.1 57 a) - 1) (sA 58 a (w32 ((σ.2.1 58 a) - v21)) σ)))) (a := a) (xb := xb) ha (((hw.put (by decide) (by decide) (fo_58 (by omega))).put (by decide) (by decide) (fo_57 ⟨by omega, by omega⟩)).put (by decide) (by decide) (fo_69 (Or.inl (by decide)))) (rc_o (by decide) (rc_o (by decide) (rc_o (by decide) (hxb))))) (fun r46 T48 σ47 gt49 hp => ?_)
      obtain ⟨v53, rfl, rfl, rfl, f51, f52⟩ := hp
      clear gt49
      show Tn _ _ 117 T (sA 69 a (-1) (sA 57 a ((σ.2.1 57 a) - 1) (sA 58 a (w32 ((σ.2.1 58 a) - v21)) σ))) [(0, .ref a), (1, .int (iI n))] [.int (iI v53), .int (iI ((σ.2.1 57 a) - 1)), .ref xb] _
      refine tn_iconst dX7_giveBack_117 ?_
      refine tn_iadd dX7_giveBack_118 ?_
      rw [show iI (v53 + 1) = iI (w32 (v53 + 1)) from (iI_self _).symm]
      have g54r : -2147483648 ≤ w32 (v53 + 1) ∧ w32 (v53 + 1) ≤ 2147483647 := inR_toInt _
      refine tn_callSN (M := m_X7_giveBack) (pc := 119) (ix := 61) (M' := m_X11_put) (As := [.ref xb, .int (iI ((σ.2.1 57 a) - 1)), .int (iI (w32 (v53 + 1)))]) (rest := []) dX7_giveBack_119 ok_X11_put stt_X11_put nl7_61 np_X11_put rfl (Nat.le_of_ble_eq_true rfl) (Nat.le_of_ble_eq_true rfl) rfl (k_X11_put_x (d + 1) (T := T) (σ := (sA 69 a (-1) (sA 57 a ((σ.2.1 57 a) - 1) (sA 58 a (w32 ((σ.2.1 58 a) - v21)) σ)))) (x := xb) (i := (σ.2.1 57 a) - 1) (y := w32 (v53 + 1)) hk44i (by omega) (by omega) (by omega) (((hw.put (by decide) (by decide) (fo_58 (by omega))).put (by decide) (by decide) (fo_57 ⟨by omega, by omega⟩)).put (by decide) (by decide) (fo_69 (Or.inl (by decide)))) (nh_k hk44 (by unfold HT; omega)) (vok_1 (by have q9 := hk44; omega) (by omega))) (fun r55 T57 σ56 gt58 hp => ?_)
      obtain ⟨rfl, rfl, w62, F63, f59, f60⟩ := hp
      clear gt58
      have je64 : σ56 = jP T xb ((σ.2.1 57 a) - 1) (w32 (v53 + 1)) _ := f60
      show Tn _ _ 122 T σ56 [(0, .ref a), (1, .int (iI n))] [] _
      have q65 : σ56.2.1 57 a = (σ.2.1 57 a) - 1 := rc_F F63 (Or.inl (by decide)) (by decide) (rc_o (by decide) (ra_eq))
      exact tn_vret rfl dX7_giveBack_122 ⟨rfl, rfl, w62, ((((FrC.rfl.put (by decide) (by decide)).put (by decide) (by decide)).put (by decide) (by decide)).trans (FrC.sub F63 (by decide))), ((((CHX.rfl.fld (by simp) (by decide)).fld (by simp) (by decide)).fld (by simp) (by decide)).trans (CHX.sub f59 (by simp) (by simp) (by simp))), by omega, Or.inr ⟨by omega, -1, _, _, by rw [← f20], Or.inr ⟨by rw [← f20, ← f30, ← f37]; assumption, rfl⟩, Or.inl ⟨by decide, rfl⟩, by rw [← f52]; exact je64⟩, ((((FA.rfl.put).put).put).trans (FA.of F63 (by decide)))⟩
    · show Tn _ _ 66 T (sA 57 a ((σ.2.1 57 a) - 1) (sA 58 a (w32 ((σ.2.1 58 a) - v21)) σ)) [(0, .ref a), (1, .int (iI n))] (vl true (xq40 : Int) :: [.ref a]) _
      rw [vl_ref rfl]
      have hk41o : OB T xq40 1 := hk41.1
      refine tn_putV (ci := 7) (i := 14) (n := 69) (r := true) (v := (xq40 : Int)) tyX7 tyX7_ok nmX7 dX7_giveBack_66 rfl lay_7 (by decide) fl7_72 rfl (tyX7_ok 14 (by decide)) (vl_ref rfl).symm rfl rfl ha rfl rfl ?_
      refine tn_aload_n dX7_giveBack_69 rfl 0 rfl ?_
      refine tn_getR (ci := 7) (i := 14) (n := 69) (x := xq40) dX7_giveBack_70 rfl lay_7 (by decide) fl7_72 ha rfl rfl (ra_eq) ?_
      refine tn_ifnull dX7_giveBack_73 ?_
      refine tn_aload_n dX7_giveBack_76 rfl 0 rfl ?_
      obtain ⟨hk68, hl69⟩ : AR T xe 1 1728 1728 := ar_of (wf_63 hw ha) hxe
      have hk68i : IA T xe := by unfold IA; omega
      refine tn_getR (ci := 7) (i := 8) (n := 63) (x := xe) dX7_giveBack_77 rfl lay_7 (by decide) fl7_24 ha rfl rfl (rc_o (by decide) (rc_o (by decide) (rc_o (by decide) (hxe)))) ?_
      refine tn_aload_n dX7_giveBack_80 rfl 0 rfl ?_
      refine tn_getI (ci := 7) (i := 2) (n := 57) (t := (σ.2.1 57 a) - 1) dX7_giveBack_81 rfl lay_7 (by decide) fl7_65 ha rfl rfl (rc_o (by decide) (ra_eq)) ?_
      refine tn_sipush dX7_giveBack_84 (by decide) ?_
      refine tn_imul dX7_giveBack_87 ?_
      refine tn_aload_n dX7_giveBack_88 rfl 0 rfl ?_
      refine tn_getR (ci := 7) (i := 14) (n := 69) (x := xq40) dX7_giveBack_89 rfl lay_7 (by decide) fl7_72 ha rfl rfl (ra_eq) ?_
      refine tn_aload_n dX7_giveBack_92 rfl 0 rfl ?_
      obtain ⟨hk72, hl73⟩ : AR T xb 1 9 9 := ar_of (wf_60 hw ha) hxb
      have hk72i : IA T xb := by unfold IA; omega
      have q78 : (sA 69 a ((xq40 : Int)) (sA 57 a ((σ.2.1 57 a) - 1) (sA 58 a (w32 ((σ.2.1 58 a) - v21)) σ))).2.1 57 a = (σ.2.1 57 a) - 1 := rc_o (by decide) (ra_eq)
      refine tn_callV (M := m_X7_giveBack) (pc := 93) (ix := 103) (ci := 7) (M' := m_X7_place) (As := []) (rest := [.ref xq40, .int (iI (((σ.2.1 57 a) - 1) * 192)), .ref xe]) dX7_giveBack_93 ok_X7_place im_X7_place se_X7_place ml7_103 np_X7_place rfl rfl ha rfl (Nat.le_of_ble_eq_true rfl) (Nat.le_of_ble_eq_true rfl) rfl (k_X7_place_j (d) (T := T) (σ := (sA 69 a ((xq40 : Int)) (sA 57 a ((σ.2.1 57 a) - 1) (sA 58 a (w32 ((σ.2.1 58 a) - v21)) σ)))) (a := a) (xb := xb) ha (((hw.put (by decide) (by decide) (fo_58 (by omega))).put (by decide) (by decide) (fo_57 ⟨by omega, by omega⟩)).put (by decide) (by decide) (fo_69 (Or.inr ⟨_, rfl, hk41.2.1, hk41.2.2⟩))) (rc_o (by decide) (rc_o (by decide) (rc_o (by decide) (hxb))))) (fun r74 T76 σ75 gt77 hp => ?_)
      obtain ⟨v81, rfl, rfl, rfl, f79, f80⟩ := hp
      clear gt77
      show Tn _ _ 96 T (sA 69 a ((xq40 : Int)) (sA 57 a ((σ.2.1 57 a) - 1) (sA 58 a (w32 ((σ.2.1 58 a) - v21)) σ))) [(0, .ref a), (1, .int (iI n))] [.int (iI v81), .ref xq40, .int (iI (((σ.2.1 57 a) - 1) * 192)), .ref xe] _
      refine tn_iconst dX7_giveBack_96 ?_
      obtain ⟨xq82, hx83, hl85, hk84a, hk84b⟩ := wf_5 hw hk41o
      have hk84i : IA T xq82 := by unfold IA; omega
      have hk84c : CELL T xq40 xq82 := ⟨hk84a, hk84b⟩
      clear hk84a hk84b
      refine tn_callV (M := m_X7_giveBack) (pc := 97) (ix := 117) (ci := 1) (M' := m_X1_get) (As := [.int (iI v81), .int (iI 1)]) (rest := [.int (iI (((σ.2.1 57 a) - 1) * 192)), .ref xe]) dX7_giveBack_97 ok_X1_get im_X1_get se_X1_get ml7_117 np_X1_get rfl rfl hk41o rfl (Nat.le_of_ble_eq_true rfl) (Nat.le_of_ble_eq_true rfl) rfl (k_X1_get_j (d + 1) (T := T) (σ := (sA 69 a ((xq40 : Int)) (sA 57 a ((σ.2.1 57 a) - 1) (sA 58 a (w32 ((σ.2.1 58 a) - v21)) σ)))) (a := xq40) (k := v81) (c := 1) (x := xq82) hk41o (by omega) (by decide) (((hw.put (by decide) (by decide) (fo_58 (by omega))).put (by decide) (by decide) (fo_57 ⟨by omega, by omega⟩)).put (by decide) (by decide) (fo_69 (Or.inr ⟨_, rfl, hk41.2.1, hk41.2.2⟩))) (rc_o (by decide) (rc_o (by decide) (rc_o (by decide) (hx83)))) (by omega)) (fun r86 T88 σ87 gt89 hp => ?_)
      obtain ⟨v92, rfl, rfl, rfl, f90, f91⟩ := hp
      clear gt89
      show Tn _ _ 100 T (sA 69 a ((xq40 : Int)) (sA 57 a ((σ.2.1 57 a) - 1) (sA 58 a (w32 ((σ.2.1 58 a) - v21)) σ))) [(0, .ref a), (1, .int (iI n))] [.int (iI v92), .int (iI (((σ.2.1 57 a) - 1) * 192)), .ref xe] _
      refine tn_iadd dX7_giveBack_100 ?_
      rw [show iI ((((σ.2.1 57 a) - 1) * 192) + v92) = iI (w32 ((((σ.2.1 57 a) - 1) * 192) + v92)) from (iI_self _).symm]
      have g93r : -2147483648 ≤ w32 ((((σ.2.1 57 a) - 1) * 192) + v92) ∧ w32 ((((σ.2.1 57 a) - 1) * 192) + v92) ≤ 2147483647 := inR_toInt _
      refine tn_iload_n dX7_giveBack_101 rfl 1 rfl ?_
      refine tn_callSN (M := m_X7_giveBack) (pc := 102) (ix := 61) (M' := m_X11_put) (As := [.ref xe, .int (iI (w32 ((((σ.2.1 57 a) - 1) * 192) + v92))), .int (iI n)]) (rest := []) dX7_giveBack_102 ok_X11_put stt_X11_put nl7_61 np_X11_put rfl (Nat.le_of_ble_eq_true rfl) (Nat.le_of_ble_eq_true rfl) rfl (k_X11_put_x (d + 1) (T := T) (σ := (sA 69 a ((xq40 : Int)) (sA 57 a ((σ.2.1 57 a) - 1) (sA 58 a (w32 ((σ.2.1 58 a) - v21)) σ)))) (x := xe) (i := w32 ((((σ.2.1 57 a) - 1) * 192) + v92)) (y := n) hk68i (by omega) (by omega) (by omega) (((hw.put (by decide) (by decide) (fo_58 (by omega))).put (by decide) (by decide) (fo_57 ⟨by omega, by omega⟩)).put (by decide) (by decide) (fo_69 (Or.inr ⟨_, rfl, hk41.2.1, hk41.2.2⟩))) (nh_k hk68 (by unfold HT; omega)) (vok_1 (by have q9 := hk68; omega) (by omega))) (fun r94 T96 σ95 gt97 hp => ?_)
      obtain ⟨rfl, rfl, w101, F102, f98, f99⟩ := hp
      clear gt97
      have je103 : σ95 = jP T xe (w32 ((((σ.2.1 57 a) - 1) * 192) + v92)) (n) _ := f99
      show Tn _ _ 105 T σ95 [(0, .ref a), (1, .int (iI n))] [] _
      refine tn_aload_n dX7_giveBack_105 rfl 0 rfl ?_
      refine tn_getR (ci := 7) (i := 5) (n := 60) (x := xb) dX7_giveBack_106 rfl lay_7 (by decide) fl7_15 ha rfl rfl (rc_F F102 (Or.inl (by decide)) (by decide) (rc_o (by decide) (rc_o (by decide) (rc_o (by decide) (hxb))))) ?_
      refine tn_aload_n dX7_giveBack_109 rfl 0 rfl ?_
      refine tn_getI (ci := 7) (i := 2) (n := 57) (t := (σ.2.1 57 a) - 1) dX7_giveBack_110 rfl lay_7 (by decide) fl7_65 ha rfl rfl (rc_F F102 (Or.inl (by decide)) (by decide) (rc_o (by decide) (ra_eq))) ?_
      refine tn_aload_n dX7_giveBack_113 rfl 0 rfl ?_
      have q108 : σ95.2.1 57 a = (σ.2.1 57 a) - 1 := rc_F F102 (Or.inl (by decide)) (by decide) (rc_o (by decide) (ra_eq))
      refine tn_callV (M := m_X7_giveBack) (pc := 114) (ix := 103) (ci := 7) (M' := m_X7_place) (As := []) (rest := [.int (iI ((σ.2.1 57 a) - 1)), .ref xb]) dX7_giveBack_114 ok_X7_place im_X7_place se_X7_place ml7_103 np_X7_place rfl rfl ha rfl (Nat.le_of_ble_eq_true rfl) (Nat.le_of_ble_eq_true rfl) rfl (k_X7_place_j (d) (T := T) (σ := σ95) (a := a) (xb := xb) ha w101 (rc_F F102 (Or.inl (by decide)) (by decide) (rc_o (by decide) (rc_o (by decide) (rc_o (by decide) (hxb)))))) (fun r104 T106 σ105 gt107 hp => ?_)
      obtain ⟨v111, rfl, rfl, rfl, f109, f110⟩ := hp
      clear gt107
      show Tn _ _ 117 T σ95 [(0, .ref a), (1, .int (iI n))] [.int (iI v111), .int (iI ((σ.2.1 57 a) - 1)), .ref xb] _
      refine tn_iconst dX7_giveBack_117 ?_
      refine tn_iadd dX7_giveBack_118 ?_
      rw [show iI (v111 + 1) = iI (w32 (v111 + 1)) from (iI_self _).symm]
      have g112r : -2147483648 ≤ w32 (v111 + 1) ∧ w32 (v111 + 1) ≤ 2147483647 := inR_toInt _
      refine tn_callSN (M := m_X7_giveBack) (pc := 119) (ix := 61) (M' := m_X11_put) (As := [.ref xb, .int (iI ((σ.2.1 57 a) - 1)), .int (iI (w32 (v111 + 1)))]) (rest := []) dX7_giveBack_119 ok_X11_put stt_X11_put nl7_61 np_X11_put rfl (Nat.le_of_ble_eq_true rfl) (Nat.le_of_ble_eq_true rfl) rfl (k_X11_put_x (d + 1) (T := T) (σ := σ95) (x := xb) (i := (σ.2.1 57 a) - 1) (y := w32 (v111 + 1)) hk72i (by omega) (by omega) (by omega) w101 (nh_k hk72 (by unfold HT; omega)) (vok_1 (by have q9 := hk72; omega) (by omega))) (fun r113 T115 σ114 gt116 hp => ?_)
      obtain ⟨rfl, rfl, w120, F121, f117, f118⟩ := hp
      clear gt116
      have je122 : σ114 = jP T xb ((σ.2.1 57 a) - 1) (w32 (v111 + 1)) _ := f118
      show Tn _ _ 122 T σ114 [(0, .ref a), (1, .int (iI n))] [] _
      have q123 : σ114.2.1 57 a = (σ.2.1 57 a) - 1 := rc_F F121 (Or.inl (by decide)) (by decide) (rc_F F102 (Or.inl (by decide)) (by decide) (rc_o (by decide) (ra_eq)))
      exact tn_vret rfl dX7_giveBack_122 ⟨rfl, rfl, w120, (((((FrC.rfl.put (by decide) (by decide)).put (by decide) (by decide)).put (by decide) (by decide)).trans (FrC.sub F102 (by decide))).trans (FrC.sub F121 (by decide))), (((((CHX.rfl.fld (by simp) (by decide)).fld (by simp) (by decide)).fld (by simp) (by decide)).trans (CHX.sub f98 (by simp) (by simp) (by simp))).trans (CHX.sub f117 (by simp) (by simp) (by simp))), by omega, Or.inr ⟨by omega, (xq40 : Int), _, σ95, by rw [← f20], Or.inl (by rw [← f20, ← f30]; exact f37), Or.inr ⟨xq40, xq82, rfl, hx83, by rw [← f80, ← f91]; exact je103⟩, by rw [← f110]; exact je122⟩, (((((FA.rfl.put).put).put).trans (FA.of F102 (by decide))).trans (FA.of F121 (by decide)))⟩
  · refine tn_aload_n dX7_giveBack_24 rfl 0 rfl ?_
    refine tn_iconst dX7_giveBack_25 ?_
    refine tn_putV (ci := 7) (i := 1) (n := 56) (r := false) (v := 2) tyX7 tyX7_ok nmX7 dX7_giveBack_26 rfl lay_7 (by decide) fl7_34 rfl (tyX7_ok 1 (by decide)) rfl rfl rfl ha rfl rfl ?_
    refine tn_aload_n dX7_giveBack_29 rfl 0 rfl ?_
    refine tn_iload_n dX7_giveBack_30 rfl 1 rfl ?_
    refine tn_putV (ci := 7) (i := 13) (n := 68) (r := false) (v := n) tyX7 tyX7_ok nmX7 dX7_giveBack_31 rfl lay_7 (by decide) fl7_50 rfl (tyX7_ok 13 (by decide)) rfl rfl rfl ha rfl rfl ?_
    refine tn_aload_n dX7_giveBack_34 rfl 0 rfl ?_
    refine tn_iconst dX7_giveBack_35 ?_
    refine tn_putV (ci := 7) (i := 3) (n := 58) (r := false) (v := 0) tyX7 tyX7_ok nmX7 dX7_giveBack_36 rfl lay_7 (by decide) fl7_38 rfl (tyX7_ok 3 (by decide)) rfl rfl rfl ha rfl rfl ?_
    have q124 : (sA 58 a (0) (sA 68 a (n) (sA 56 a (2) (sA 58 a (w32 ((σ.2.1 58 a) - v21)) σ)))).2.1 57 a = σ.2.1 57 a := rc_o (by decide) (rc_o (by decide) (rc_o (by decide) (rc_o (by decide) (rfl))))
    exact tn_vret rfl dX7_giveBack_39 ⟨rfl, rfl, ((((hw.put (by decide) (by decide) (fo_58 (by omega))).put (by decide) (by decide) (fo_56 (by omega))).put (by decide) (by decide) (fo_68 (by omega))).put (by decide) (by decide) (fo_58 (by omega))), ((((FrC.rfl.put (by decide) (by decide)).put (by decide) (by decide)).put (by decide) (by decide)).put (by decide) (by decide)), ((((CHX.rfl.fld (by simp) (by decide)).fld (by simp) (by decide)).fld (by simp) (by decide)).fld (by simp) (by decide)), by omega, Or.inl ⟨by omega, by rw [← f20]⟩, ((((FA.rfl.put).put).put).put)⟩
end
