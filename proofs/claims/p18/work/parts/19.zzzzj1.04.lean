section
set_option maxHeartbeats 1000000 in
set_option maxRecDepth 20000 in
theorem k_X7_giveBack_j57 (d : Nat) {T : CT} {σ : MS} {a : Nat} {n : Int} {xa : Nat} {xb : Nat} {xc : Nat} {xd : Nat} {xe : Nat} {y : Nat} (ha : OB T a 7) (hta : (T a).1 = 57) (h_n : -2147483648 ≤ n ∧ n ≤ 2147483647) (hw : WT T σ) (hxa : σ.2.1 59 a = (xa : Int)) (hxb : σ.2.1 60 a = (xb : Int)) (hxc : σ.2.1 61 a = (xc : Int)) (hxd : σ.2.1 62 a = (xd : Int)) (hxe : σ.2.1 63 a = (xe : Int)) (hy : σ.2.1 55 a = (y : Int)) (hp : σ.2.1 58 a = σ.2.1 57 a + 1) : Tn (d + 3) m_X7_giveBack 0 T σ [(0, .ref a), (1, .int (iI n))] [] (fun ro T2 σ2 => ro = none ∧ T = T2 ∧ WT T2 σ2 ∧ FrC T [56, 57, 58, 68, 69] σ σ2 ∧ (CHX [(56, a), (57, a), (58, a), (68, a), (69, a)] [xb, xe] [] σ σ2) ∧ (PIv σ2 a) ∧ (JGB T σ a xa xb xc xe y n σ2) ∧ (FA a σ σ2)) := by
  refine tn_aload_n dX7_giveBack_0 rfl 0 rfl ?_
  refine tn_dup dX7_giveBack_1 rfl ?_
  refine tn_getI (ci := 7) (i := 3) (n := 58) (t := σ.2.1 58 a) dX7_giveBack_2 rfl lay_7 (by decide) fl7_38 ha rfl rfl (rfl) ?_
  have g1 : ((-2147483648 : Int) ≤ σ.2.1 58 a ∧ σ.2.1 58 a ≤ 2147483647) := wf_58 hw ha
  refine tn_aload_n dX7_giveBack_5 rfl 0 rfl ?_
  refine tn_aload_n dX7_giveBack_6 rfl 0 rfl ?_
  refine tn_getI (ci := 7) (i := 2) (n := 57) (t := σ.2.1 57 a) dX7_giveBack_7 rfl lay_7 (by decide) fl7_65 ha rfl rfl (rfl) ?_
  have g2 : ((0 : Int) ≤ σ.2.1 57 a ∧ σ.2.1 57 a ≤ 11184800) ∧ ((T a).1 = 57 → σ.2.1 57 a ≤ 8) := wf_57 hw ha
  have g2x := g2.2
  replace g2 := g2.1
  have g2x := g2x hta
  obtain ⟨hk5, hl6⟩ : AR T xa 15 9 9 := ar_of (wf_59 hw ha) hxa
  have hk5i : IA T xa := by unfold IA; omega
  obtain ⟨hl10, hk9a, hk9b⟩ := ex_at (wf_61 hw ha) hxc
  have hk9 : (T xc).1 = 14 := hk9a (by omega)
  clear hk9a hk9b
  have hk9i : IA T xc := by unfold IA; omega
  obtain ⟨hl14, hk13a, hk13b⟩ := ex_at (wf_55 hw ha) hy
  have hk13i : (T y).1 = 4 ∨ (T y).1 = 5 := by omega
  have hk13c : RROW T a y := ⟨hk13a, hk13b⟩
  clear hk13a hk13b
  refine tn_callV (M := m_X7_giveBack) (pc := 10) (ix := 140) (ci := 7) (M' := m_X7_chainOf) (As := [.int (iI (σ.2.1 57 a))]) (rest := [.int (iI (σ.2.1 58 a)), .ref a]) dX7_giveBack_10 ok_X7_chainOf im_X7_chainOf se_X7_chainOf ml7_140 np_X7_chainOf rfl rfl ha rfl (Nat.le_of_ble_eq_true rfl) (Nat.le_of_ble_eq_true rfl) rfl (k_X7_chainOf_j57 (d) (T := T) (σ := σ) (a := a) (p1 := σ.2.1 57 a) (xa := xa) (xc := xc) (y := y) ha hta (by omega) hw (hxa) (hxc) (hy)) (fun r15 T17 σ16 gt18 hp => ?_)
  obtain ⟨v22, rfl, rfl, rfl, f19, f20, f21⟩ := hp
  clear gt18
  show Tn _ _ 13 T σ [(0, .ref a), (1, .int (iI n))] [.int (iI v22), .int (iI (σ.2.1 58 a)), .ref a] _
  refine tn_isub dX7_giveBack_13 ?_
  refine tn_putV (ci := 7) (i := 3) (n := 58) (r := false) (v := (σ.2.1 58 a) - v22) tyX7 tyX7_ok nmX7 dX7_giveBack_14 rfl lay_7 (by decide) fl7_38 rfl (tyX7_ok 3 (by decide)) rfl rfl rfl ha rfl rfl ?_
  refine tn_aload_n dX7_giveBack_17 rfl 0 rfl ?_
  refine tn_getI (ci := 7) (i := 2) (n := 57) (t := σ.2.1 57 a) dX7_giveBack_18 rfl lay_7 (by decide) fl7_65 ha rfl rfl (rc_o (by decide) (rfl)) ?_
  refine tn_if_ne (tgt := 40) dX7_giveBack_21 (by decide) ⟨by omega, by omega⟩ (fun h23 => ?_) (fun h23 => ?_)
  · refine tn_aload_n dX7_giveBack_40 rfl 0 rfl ?_
    refine tn_dup dX7_giveBack_41 rfl ?_
    refine tn_getI (ci := 7) (i := 2) (n := 57) (t := σ.2.1 57 a) dX7_giveBack_42 rfl lay_7 (by decide) fl7_65 ha rfl rfl (rc_o (by decide) (rfl)) ?_
    refine tn_iconst dX7_giveBack_45 ?_
    refine tn_isub dX7_giveBack_46 ?_
    refine tn_putV (ci := 7) (i := 2) (n := 57) (r := false) (v := (σ.2.1 57 a) - 1) tyX7 tyX7_ok nmX7 dX7_giveBack_47 rfl lay_7 (by decide) fl7_65 rfl (tyX7_ok 2 (by decide)) rfl rfl rfl ha rfl rfl ?_
    refine tn_aload_n dX7_giveBack_50 rfl 0 rfl ?_
    refine tn_aload_n dX7_giveBack_51 rfl 0 rfl ?_
    refine tn_aload_n dX7_giveBack_52 rfl 0 rfl ?_
    refine tn_getR (ci := 7) (i := 4) (n := 59) (x := xa) dX7_giveBack_53 rfl lay_7 (by decide) fl7_9 ha rfl rfl (rc_o (by decide) (rc_o (by decide) (hxa))) ?_
    refine tn_aload_n dX7_giveBack_56 rfl 0 rfl ?_
    refine tn_getI (ci := 7) (i := 2) (n := 57) (t := (σ.2.1 57 a) - 1) dX7_giveBack_57 rfl lay_7 (by decide) fl7_65 ha rfl rfl (ra_eq) ?_
    refine tn_callSN (M := m_X7_giveBack) (pc := 60) (ix := 91) (M' := m_X11_at) (As := [.ref xa, .int (iI ((σ.2.1 57 a) - 1))]) (rest := [.ref a, .ref a]) dX7_giveBack_60 ok_X11_at stt_X11_at nl7_91 np_X11_at rfl (Nat.le_of_ble_eq_true rfl) (Nat.le_of_ble_eq_true rfl) rfl (k_X11_at_j (d + 1) (T := T) (σ := (sA 57 a ((σ.2.1 57 a) - 1) (sA 58 a ((σ.2.1 58 a) - v22) σ))) (x := xa) (i := (σ.2.1 57 a) - 1) hk5i (by omega) (by omega) ((hw.put (by decide) (by decide) (fo_58 (by omega))).put (by decide) (by decide) (fo_57 ⟨by omega, by omega⟩)) ) (fun r24 T26 σ25 gt27 hp => ?_)
    obtain ⟨v31, rfl, rfl, rfl, f28, f29, f30⟩ := hp
    clear gt27
    clear f29
    show Tn _ _ 63 T (sA 57 a ((σ.2.1 57 a) - 1) (sA 58 a ((σ.2.1 58 a) - v22) σ)) [(0, .ref a), (1, .int (iI n))] [.int (iI v31), .ref a, .ref a] _
    refine tn_callV (M := m_X7_giveBack) (pc := 63) (ix := 68) (ci := 7) (M' := m_X7_codeAt) (As := [.int (iI v31)]) (rest := [.ref a]) dX7_giveBack_63 ok_X7_codeAt im_X7_codeAt se_X7_codeAt ml7_68 np_X7_codeAt rfl rfl ha rfl (Nat.le_of_ble_eq_true rfl) (Nat.le_of_ble_eq_true rfl) rfl (k_X7_codeAt_j (d + 1) (T := T) (σ := (sA 57 a ((σ.2.1 57 a) - 1) (sA 58 a ((σ.2.1 58 a) - v22) σ))) (a := a) (r := v31) (y := y) ha (by omega) ((hw.put (by decide) (by decide) (fo_58 (by omega))).put (by decide) (by decide) (fo_57 ⟨by omega, by omega⟩)) (rc_o (by decide) (rc_o (by decide) (hy)))) (fun r32 T34 σ33 gt35 hp => ?_)
    obtain ⟨v38, rfl, rfl, rfl, rv39, f36, f37⟩ := hp
    clear gt35
    rcases rv39 with rv39 | ⟨xq40, rfl, hk41⟩
    · show Tn _ _ 66 T (sA 57 a ((σ.2.1 57 a) - 1) (sA 58 a ((σ.2.1 58 a) - v22) σ)) [(0, .ref a), (1, .int (iI n))] (vl true v38 :: [.ref a]) _
      rw [vl_null rv39]
      refine tn_putV (ci := 7) (i := 14) (n := 69) (r := true) (v := -1) tyX7 tyX7_ok nmX7 dX7_giveBack_66 rfl lay_7 (by decide) fl7_72 rfl (tyX7_ok 14 (by decide)) (vl_null (by decide)).symm rfl rfl ha rfl rfl ?_
      refine tn_aload_n dX7_giveBack_69 rfl 0 rfl ?_
      refine tn_getN (ci := 7) (i := 14) (n := 69) dX7_giveBack_70 rfl lay_7 (by decide) fl7_72 ha rfl rfl (by rw [ra_eq]; decide) ?_
      refine tn_ifnullN (tgt := 105) dX7_giveBack_73 (by decide) ?_
      refine tn_aload_n dX7_giveBack_105 rfl 0 rfl ?_
      obtain ⟨hk44, hl45⟩ : AR T xb 1 9 9 := ar_of (wf_60 hw ha) hxb
      have hk44i : IA T xb := by unfold IA; omega
      refine tn_getR (ci := 7) (i := 5) (n := 60) (x := xb) dX7_giveBack_106 rfl lay_7 (by decide) fl7_15 ha rfl rfl (rc_o (by decide) (rc_o (by decide) (rc_o (by decide) (hxb)))) ?_
      refine tn_aload_n dX7_giveBack_109 rfl 0 rfl ?_
      refine tn_getI (ci := 7) (i := 2) (n := 57) (t := (σ.2.1 57 a) - 1) dX7_giveBack_110 rfl lay_7 (by decide) fl7_65 ha rfl rfl (rc_o (by decide) (ra_eq)) ?_
      refine tn_aload_n dX7_giveBack_113 rfl 0 rfl ?_
      have q50 : (sA 69 a (-1) (sA 57 a ((σ.2.1 57 a) - 1) (sA 58 a ((σ.2.1 58 a) - v22) σ))).2.1 57 a = (σ.2.1 57 a) - 1 := rc_o (by decide) (ra_eq)
      refine tn_callV (M := m_X7_giveBack) (pc := 114) (ix := 103) (ci := 7) (M' := m_X7_place) (As := []) (rest := [.int (iI ((σ.2.1 57 a) - 1)), .ref xb]) dX7_giveBack_114 ok_X7_place im_X7_place se_X7_place ml7_103 np_X7_place rfl rfl ha rfl (Nat.le_of_ble_eq_true rfl) (Nat.le_of_ble_eq_true rfl) rfl (k_X7_place_j (d) (T := T) (σ := (sA 69 a (-1) (sA 57 a ((σ.2.1 57 a) - 1) (sA 58 a ((σ.2.1 58 a) - v22) σ)))) (a := a) (xb := xb) ha (((hw.put (by decide) (by decide) (fo_58 (by omega))).put (by decide) (by decide) (fo_57 ⟨by omega, by omega⟩)).put (by decide) (by decide) (fo_69 (Or.inl (by decide)))) (rc_o (by decide) (rc_o (by decide) (rc_o (by decide) (hxb))))) (fun r46 T48 σ47 gt49 hp => ?_)
      obtain ⟨v53, rfl, rfl, rfl, f51, f52⟩ := hp
      clear gt49
      show Tn _ _ 117 T (sA 69 a (-1) (sA 57 a ((σ.2.1 57 a) - 1) (sA 58 a ((σ.2.1 58 a) - v22) σ))) [(0, .ref a), (1, .int (iI n))] [.int (iI v53), .int (iI ((σ.2.1 57 a) - 1)), .ref xb] _
      refine tn_iconst dX7_giveBack_117 ?_
      refine tn_iadd dX7_giveBack_118 ?_
      rw [show iI (v53 + 1) = iI (w32 (v53 + 1)) from (iI_self _).symm]
      have g54r : -2147483648 ≤ w32 (v53 + 1) ∧ w32 (v53 + 1) ≤ 2147483647 := inR_toInt _
      refine tn_callSN (M := m_X7_giveBack) (pc := 119) (ix := 61) (M' := m_X11_put) (As := [.ref xb, .int (iI ((σ.2.1 57 a) - 1)), .int (iI (w32 (v53 + 1)))]) (rest := []) dX7_giveBack_119 ok_X11_put stt_X11_put nl7_61 np_X11_put rfl (Nat.le_of_ble_eq_true rfl) (Nat.le_of_ble_eq_true rfl) rfl (k_X11_put_x (d + 1) (T := T) (σ := (sA 69 a (-1) (sA 57 a ((σ.2.1 57 a) - 1) (sA 58 a ((σ.2.1 58 a) - v22) σ)))) (x := xb) (i := (σ.2.1 57 a) - 1) (y := w32 (v53 + 1)) hk44i (by omega) (by omega) (by omega) (((hw.put (by decide) (by decide) (fo_58 (by omega))).put (by decide) (by decide) (fo_57 ⟨by omega, by omega⟩)).put (by decide) (by decide) (fo_69 (Or.inl (by decide)))) (nh_k hk44 (by unfold HT; omega)) (vok_1 (by have q9 := hk44; omega) (by omega))) (fun r55 T57 σ56 gt58 hp => ?_)
      obtain ⟨rfl, rfl, w62, F63, f59, f60⟩ := hp
      clear gt58
      have je64 : σ56 = jP T xb ((σ.2.1 57 a) - 1) (w32 (v53 + 1)) _ := f60
      show Tn _ _ 122 T σ56 [(0, .ref a), (1, .int (iI n))] [] _
      have q65 : σ56.2.1 56 a = σ.2.1 56 a := rc_F F63 (Or.inl (by decide)) (by decide) (rc_o (by decide) (rc_o (by decide) (rc_o (by decide) (rfl))))
      have q66 : σ56.2.1 57 a = (σ.2.1 57 a) - 1 := rc_F F63 (Or.inl (by decide)) (by decide) (rc_o (by decide) (ra_eq))
      have q67 : σ56.2.1 58 a = (σ.2.1 58 a) - v22 := rc_F F63 (Or.inl (by decide)) (by decide) (rc_o (by decide) (rc_o (by decide) (ra_eq)))
      exact tn_vret rfl dX7_giveBack_122 ⟨rfl, rfl, w62, ((((FrC.rfl.put (by decide) (by decide)).put (by decide) (by decide)).put (by decide) (by decide)).trans (FrC.sub F63 (by decide))), ((((CHX.rfl.fld (by simp) (by decide)).fld (by simp) (by decide)).fld (by simp) (by decide)).trans (CHX.sub f59 (by simp) (by simp) (by simp))), by unfold PIv; rw [q65, q66, q67]; omega, (by have e58 : w32 (σ.2.1 58 a - jCV T σ xa xc y (σ.2.1 57 a)) = σ.2.1 58 a - jCV T σ xa xc y (σ.2.1 57 a) := w32_id (by rw [← f21]; omega); unfold JGB; rw [e58]; exact Or.inr ⟨by omega, -1, _, _, by rw [← f21], Or.inr ⟨by rw [← f21, ← f30, ← f37]; assumption, rfl⟩, Or.inl ⟨by decide, rfl⟩, by rw [← f52]; exact je64⟩), ((((FA.rfl.put).put).put).trans (FA.of F63 (by decide)))⟩
    · show Tn _ _ 66 T (sA 57 a ((σ.2.1 57 a) - 1) (sA 58 a ((σ.2.1 58 a) - v22) σ)) [(0, .ref a), (1, .int (iI n))] (vl true (xq40 : Int) :: [.ref a]) _
      rw [vl_ref rfl]
      have hk41o : OB T xq40 1 := hk41.1
      refine tn_putV (ci := 7) (i := 14) (n := 69) (r := true) (v := (xq40 : Int)) tyX7 tyX7_ok nmX7 dX7_giveBack_66 rfl lay_7 (by decide) fl7_72 rfl (tyX7_ok 14 (by decide)) (vl_ref rfl).symm rfl rfl ha rfl rfl ?_
      refine tn_aload_n dX7_giveBack_69 rfl 0 rfl ?_
      refine tn_getR (ci := 7) (i := 14) (n := 69) (x := xq40) dX7_giveBack_70 rfl lay_7 (by decide) fl7_72 ha rfl rfl (ra_eq) ?_
      refine tn_ifnull dX7_giveBack_73 ?_
      refine tn_aload_n dX7_giveBack_76 rfl 0 rfl ?_
      obtain ⟨hk70, hl71⟩ : AR T xe 1 1728 1728 := ar_of (wf_63 hw ha) hxe
      have hk70i : IA T xe := by unfold IA; omega
      refine tn_getR (ci := 7) (i := 8) (n := 63) (x := xe) dX7_giveBack_77 rfl lay_7 (by decide) fl7_24 ha rfl rfl (rc_o (by decide) (rc_o (by decide) (rc_o (by decide) (hxe)))) ?_
      refine tn_aload_n dX7_giveBack_80 rfl 0 rfl ?_
      refine tn_getI (ci := 7) (i := 2) (n := 57) (t := (σ.2.1 57 a) - 1) dX7_giveBack_81 rfl lay_7 (by decide) fl7_65 ha rfl rfl (rc_o (by decide) (ra_eq)) ?_
      refine tn_sipush dX7_giveBack_84 (by decide) ?_
      refine tn_imul dX7_giveBack_87 ?_
      refine tn_aload_n dX7_giveBack_88 rfl 0 rfl ?_
      refine tn_getR (ci := 7) (i := 14) (n := 69) (x := xq40) dX7_giveBack_89 rfl lay_7 (by decide) fl7_72 ha rfl rfl (ra_eq) ?_
      refine tn_aload_n dX7_giveBack_92 rfl 0 rfl ?_
      obtain ⟨hk74, hl75⟩ : AR T xb 1 9 9 := ar_of (wf_60 hw ha) hxb
      have hk74i : IA T xb := by unfold IA; omega
      have q80 : (sA 69 a ((xq40 : Int)) (sA 57 a ((σ.2.1 57 a) - 1) (sA 58 a ((σ.2.1 58 a) - v22) σ))).2.1 57 a = (σ.2.1 57 a) - 1 := rc_o (by decide) (ra_eq)
      refine tn_callV (M := m_X7_giveBack) (pc := 93) (ix := 103) (ci := 7) (M' := m_X7_place) (As := []) (rest := [.ref xq40, .int (iI (((σ.2.1 57 a) - 1) * 192)), .ref xe]) dX7_giveBack_93 ok_X7_place im_X7_place se_X7_place ml7_103 np_X7_place rfl rfl ha rfl (Nat.le_of_ble_eq_true rfl) (Nat.le_of_ble_eq_true rfl) rfl (k_X7_place_j (d) (T := T) (σ := (sA 69 a ((xq40 : Int)) (sA 57 a ((σ.2.1 57 a) - 1) (sA 58 a ((σ.2.1 58 a) - v22) σ)))) (a := a) (xb := xb) ha (((hw.put (by decide) (by decide) (fo_58 (by omega))).put (by decide) (by decide) (fo_57 ⟨by omega, by omega⟩)).put (by decide) (by decide) (fo_69 (Or.inr ⟨_, rfl, hk41.2.1, hk41.2.2⟩))) (rc_o (by decide) (rc_o (by decide) (rc_o (by decide) (hxb))))) (fun r76 T78 σ77 gt79 hp => ?_)
      obtain ⟨v83, rfl, rfl, rfl, f81, f82⟩ := hp
      clear gt79
      show Tn _ _ 96 T (sA 69 a ((xq40 : Int)) (sA 57 a ((σ.2.1 57 a) - 1) (sA 58 a ((σ.2.1 58 a) - v22) σ))) [(0, .ref a), (1, .int (iI n))] [.int (iI v83), .ref xq40, .int (iI (((σ.2.1 57 a) - 1) * 192)), .ref xe] _
      refine tn_iconst dX7_giveBack_96 ?_
      obtain ⟨xq84, hx85, hl87, hk86a, hk86b⟩ := wf_5 hw hk41o
      have hk86i : IA T xq84 := by unfold IA; omega
      have hk86c : CELL T xq40 xq84 := ⟨hk86a, hk86b⟩
      clear hk86a hk86b
      refine tn_callV (M := m_X7_giveBack) (pc := 97) (ix := 117) (ci := 1) (M' := m_X1_get) (As := [.int (iI v83), .int (iI 1)]) (rest := [.int (iI (((σ.2.1 57 a) - 1) * 192)), .ref xe]) dX7_giveBack_97 ok_X1_get im_X1_get se_X1_get ml7_117 np_X1_get rfl rfl hk41o rfl (Nat.le_of_ble_eq_true rfl) (Nat.le_of_ble_eq_true rfl) rfl (k_X1_get_j (d + 1) (T := T) (σ := (sA 69 a ((xq40 : Int)) (sA 57 a ((σ.2.1 57 a) - 1) (sA 58 a ((σ.2.1 58 a) - v22) σ)))) (a := xq40) (k := v83) (c := 1) (x := xq84) hk41o (by omega) (by decide) (((hw.put (by decide) (by decide) (fo_58 (by omega))).put (by decide) (by decide) (fo_57 ⟨by omega, by omega⟩)).put (by decide) (by decide) (fo_69 (Or.inr ⟨_, rfl, hk41.2.1, hk41.2.2⟩))) (rc_o (by decide) (rc_o (by decide) (rc_o (by decide) (hx85)))) (by omega)) (fun r88 T90 σ89 gt91 hp => ?_)
      obtain ⟨v94, rfl, rfl, rfl, f92, f93⟩ := hp
      clear gt91
      show Tn _ _ 100 T (sA 69 a ((xq40 : Int)) (sA 57 a ((σ.2.1 57 a) - 1) (sA 58 a ((σ.2.1 58 a) - v22) σ))) [(0, .ref a), (1, .int (iI n))] [.int (iI v94), .int (iI (((σ.2.1 57 a) - 1) * 192)), .ref xe] _
      refine tn_iadd dX7_giveBack_100 ?_
      rw [show iI ((((σ.2.1 57 a) - 1) * 192) + v94) = iI (w32 ((((σ.2.1 57 a) - 1) * 192) + v94)) from (iI_self _).symm]
      have g95r : -2147483648 ≤ w32 ((((σ.2.1 57 a) - 1) * 192) + v94) ∧ w32 ((((σ.2.1 57 a) - 1) * 192) + v94) ≤ 2147483647 := inR_toInt _
      refine tn_iload_n dX7_giveBack_101 rfl 1 rfl ?_
      refine tn_callSN (M := m_X7_giveBack) (pc := 102) (ix := 61) (M' := m_X11_put) (As := [.ref xe, .int (iI (w32 ((((σ.2.1 57 a) - 1) * 192) + v94))), .int (iI n)]) (rest := []) dX7_giveBack_102 ok_X11_put stt_X11_put nl7_61 np_X11_put rfl (Nat.le_of_ble_eq_true rfl) (Nat.le_of_ble_eq_true rfl) rfl (k_X11_put_x (d + 1) (T := T) (σ := (sA 69 a ((xq40 : Int)) (sA 57 a ((σ.2.1 57 a) - 1) (sA 58 a ((σ.2.1 58 a) - v22) σ)))) (x := xe) (i := w32 ((((σ.2.1 57 a) - 1) * 192) + v94)) (y := n) hk70i (by omega) (by omega) (by omega) (((hw.put (by decide) (by decide) (fo_58 (by omega))).put (by decide) (by decide) (fo_57 ⟨by omega, by omega⟩)).put (by decide) (by decide) (fo_69 (Or.inr ⟨_, rfl, hk41.2.1, hk41.2.2⟩))) (nh_k hk70 (by unfold HT; omega)) (vok_1 (by have q9 := hk70; omega) (by omega))) (fun r96 T98 σ97 gt99 hp => ?_)
      obtain ⟨rfl, rfl, w103, F104, f100, f101⟩ := hp
      clear gt99
      have je105 : σ97 = jP T xe (w32 ((((σ.2.1 57 a) - 1) * 192) + v94)) (n) _ := f101
      show Tn _ _ 105 T σ97 [(0, .ref a), (1, .int (iI n))] [] _
      refine tn_aload_n dX7_giveBack_105 rfl 0 rfl ?_
      refine tn_getR (ci := 7) (i := 5) (n := 60) (x := xb) dX7_giveBack_106 rfl lay_7 (by decide) fl7_15 ha rfl rfl (rc_F F104 (Or.inl (by decide)) (by decide) (rc_o (by decide) (rc_o (by decide) (rc_o (by decide) (hxb))))) ?_
      refine tn_aload_n dX7_giveBack_109 rfl 0 rfl ?_
      refine tn_getI (ci := 7) (i := 2) (n := 57) (t := (σ.2.1 57 a) - 1) dX7_giveBack_110 rfl lay_7 (by decide) fl7_65 ha rfl rfl (rc_F F104 (Or.inl (by decide)) (by decide) (rc_o (by decide) (ra_eq))) ?_
      refine tn_aload_n dX7_giveBack_113 rfl 0 rfl ?_
      have q110 : σ97.2.1 57 a = (σ.2.1 57 a) - 1 := rc_F F104 (Or.inl (by decide)) (by decide) (rc_o (by decide) (ra_eq))
      refine tn_callV (M := m_X7_giveBack) (pc := 114) (ix := 103) (ci := 7) (M' := m_X7_place) (As := []) (rest := [.int (iI ((σ.2.1 57 a) - 1)), .ref xb]) dX7_giveBack_114 ok_X7_place im_X7_place se_X7_place ml7_103 np_X7_place rfl rfl ha rfl (Nat.le_of_ble_eq_true rfl) (Nat.le_of_ble_eq_true rfl) rfl (k_X7_place_j (d) (T := T) (σ := σ97) (a := a) (xb := xb) ha w103 (rc_F F104 (Or.inl (by decide)) (by decide) (rc_o (by decide) (rc_o (by decide) (rc_o (by decide) (hxb)))))) (fun r106 T108 σ107 gt109 hp => ?_)
      obtain ⟨v113, rfl, rfl, rfl, f111, f112⟩ := hp
      clear gt109
      show Tn _ _ 117 T σ97 [(0, .ref a), (1, .int (iI n))] [.int (iI v113), .int (iI ((σ.2.1 57 a) - 1)), .ref xb] _
      refine tn_iconst dX7_giveBack_117 ?_
      refine tn_iadd dX7_giveBack_118 ?_
      rw [show iI (v113 + 1) = iI (w32 (v113 + 1)) from (iI_self _).symm]
      have g114r : -2147483648 ≤ w32 (v113 + 1) ∧ w32 (v113 + 1) ≤ 2147483647 := inR_toInt _
      refine tn_callSN (M := m_X7_giveBack) (pc := 119) (ix := 61) (M' := m_X11_put) (As := [.ref xb, .int (iI ((σ.2.1 57 a) - 1)), .int (iI (w32 (v113 + 1)))]) (rest := []) dX7_giveBack_119 ok_X11_put stt_X11_put nl7_61 np_X11_put rfl (Nat.le_of_ble_eq_true rfl) (Nat.le_of_ble_eq_true rfl) rfl (k_X11_put_x (d + 1) (T := T) (σ := σ97) (x := xb) (i := (σ.2.1 57 a) - 1) (y := w32 (v113 + 1)) hk74i (by omega) (by omega) (by omega) w103 (nh_k hk74 (by unfold HT; omega)) (vok_1 (by have q9 := hk74; omega) (by omega))) (fun r115 T117 σ116 gt118 hp => ?_)
      obtain ⟨rfl, rfl, w122, F123, f119, f120⟩ := hp
      clear gt118
      have je124 : σ116 = jP T xb ((σ.2.1 57 a) - 1) (w32 (v113 + 1)) _ := f120
      show Tn _ _ 122 T σ116 [(0, .ref a), (1, .int (iI n))] [] _
      have q125 : σ116.2.1 56 a = σ.2.1 56 a := rc_F F123 (Or.inl (by decide)) (by decide) (rc_F F104 (Or.inl (by decide)) (by decide) (rc_o (by decide) (rc_o (by decide) (rc_o (by decide) (rfl)))))
      have q126 : σ116.2.1 57 a = (σ.2.1 57 a) - 1 := rc_F F123 (Or.inl (by decide)) (by decide) (rc_F F104 (Or.inl (by decide)) (by decide) (rc_o (by decide) (ra_eq)))
      have q127 : σ116.2.1 58 a = (σ.2.1 58 a) - v22 := rc_F F123 (Or.inl (by decide)) (by decide) (rc_F F104 (Or.inl (by decide)) (by decide) (rc_o (by decide) (rc_o (by decide) (ra_eq))))
      exact tn_vret rfl dX7_giveBack_122 ⟨rfl, rfl, w122, (((((FrC.rfl.put (by decide) (by decide)).put (by decide) (by decide)).put (by decide) (by decide)).trans (FrC.sub F104 (by decide))).trans (FrC.sub F123 (by decide))), (((((CHX.rfl.fld (by simp) (by decide)).fld (by simp) (by decide)).fld (by simp) (by decide)).trans (CHX.sub f100 (by simp) (by simp) (by simp))).trans (CHX.sub f119 (by simp) (by simp) (by simp))), by unfold PIv; rw [q125, q126, q127]; omega, (by have e58 : w32 (σ.2.1 58 a - jCV T σ xa xc y (σ.2.1 57 a)) = σ.2.1 58 a - jCV T σ xa xc y (σ.2.1 57 a) := w32_id (by rw [← f21]; omega); unfold JGB; rw [e58]; exact Or.inr ⟨by omega, (xq40 : Int), _, σ97, by rw [← f21], Or.inl (by rw [← f21, ← f30]; exact f37), Or.inr ⟨xq40, xq84, rfl, hx85, by rw [← f82, ← f93]; exact je105⟩, by rw [← f112]; exact je124⟩), (((((FA.rfl.put).put).put).trans (FA.of F104 (by decide))).trans (FA.of F123 (by decide)))⟩
  · refine tn_aload_n dX7_giveBack_24 rfl 0 rfl ?_
    refine tn_iconst dX7_giveBack_25 ?_
    refine tn_putV (ci := 7) (i := 1) (n := 56) (r := false) (v := 2) tyX7 tyX7_ok nmX7 dX7_giveBack_26 rfl lay_7 (by decide) fl7_34 rfl (tyX7_ok 1 (by decide)) rfl rfl rfl ha rfl rfl ?_
    refine tn_aload_n dX7_giveBack_29 rfl 0 rfl ?_
    refine tn_iload_n dX7_giveBack_30 rfl 1 rfl ?_
    refine tn_putV (ci := 7) (i := 13) (n := 68) (r := false) (v := n) tyX7 tyX7_ok nmX7 dX7_giveBack_31 rfl lay_7 (by decide) fl7_50 rfl (tyX7_ok 13 (by decide)) rfl rfl rfl ha rfl rfl ?_
    refine tn_aload_n dX7_giveBack_34 rfl 0 rfl ?_
    refine tn_iconst dX7_giveBack_35 ?_
    refine tn_putV (ci := 7) (i := 3) (n := 58) (r := false) (v := 0) tyX7 tyX7_ok nmX7 dX7_giveBack_36 rfl lay_7 (by decide) fl7_38 rfl (tyX7_ok 3 (by decide)) rfl rfl rfl ha rfl rfl ?_
    have q128 : (sA 58 a (0) (sA 68 a (n) (sA 56 a (2) (sA 58 a ((σ.2.1 58 a) - v22) σ)))).2.1 56 a = 2 := rc_o (by decide) (rc_o (by decide) (ra_eq))
    have q129 : (sA 58 a (0) (sA 68 a (n) (sA 56 a (2) (sA 58 a ((σ.2.1 58 a) - v22) σ)))).2.1 57 a = σ.2.1 57 a := rc_o (by decide) (rc_o (by decide) (rc_o (by decide) (rc_o (by decide) (rfl))))
    have q130 : (sA 58 a (0) (sA 68 a (n) (sA 56 a (2) (sA 58 a ((σ.2.1 58 a) - v22) σ)))).2.1 58 a = 0 := ra_eq
    exact tn_vret rfl dX7_giveBack_39 ⟨rfl, rfl, ((((hw.put (by decide) (by decide) (fo_58 (by omega))).put (by decide) (by decide) (fo_56 (by omega))).put (by decide) (by decide) (fo_68 (by omega))).put (by decide) (by decide) (fo_58 (by omega))), ((((FrC.rfl.put (by decide) (by decide)).put (by decide) (by decide)).put (by decide) (by decide)).put (by decide) (by decide)), ((((CHX.rfl.fld (by simp) (by decide)).fld (by simp) (by decide)).fld (by simp) (by decide)).fld (by simp) (by decide)), by unfold PIv; rw [q128, q129, q130]; omega, (by have e58 : w32 (σ.2.1 58 a - jCV T σ xa xc y (σ.2.1 57 a)) = σ.2.1 58 a - jCV T σ xa xc y (σ.2.1 57 a) := w32_id (by rw [← f21]; omega); unfold JGB; rw [e58]; exact Or.inl ⟨by omega, by rw [← f21]⟩), ((((FA.rfl.put).put).put).put)⟩
end
