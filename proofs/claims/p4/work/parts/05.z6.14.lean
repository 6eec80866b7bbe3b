theorem cd_X11_start : Cond.code yX11_start cX11_start 6 (some .boolean) ∈ pWW := pw6 (List.mem_of_getElem? (i := 28) rfl) rfl
abbrev m_X11_start : MT := (yX11_start, cX11_start, 6, (some .boolean))
theorem ok_X11_start : pOk m_X11_start := ⟨⟨cd_X11_start, ini_11⟩, by decide +kernel, ⟨by decide +kernel, by decide +kernel⟩, Nat.le_of_ble_eq_true rfl⟩
theorem np_X11_start : (parseMethodDescriptor yX11_start.desc).map (fun d => d.parameters.length) = some 5 := by decide +kernel
theorem im_X11_start : Cond.instanceMethod yX11_start ∈ pWW := pw6 (List.mem_of_getElem? (i := 26) rfl) rfl
theorem se_X11_start : Cond.selects RX11 yX11_start yX11_start ∈ pWW := pw6 (List.mem_of_getElem? (i := 27) rfl) rfl
theorem ml11_204 : Cond.methodLink RX11 204 yX7_begin ∈ pWW := pw6 (List.mem_of_getElem? (i := 29) rfl) rfl
theorem dX11_start_0 : decode cX11_start 0 = .ok (.aload_n 0, 1) := by decide +kernel
theorem dX11_start_1 : decode cX11_start 1 = .ok (.iload_n 1, 1) := by decide +kernel
theorem dX11_start_2 : decode cX11_start 2 = .ok (.invokevirtual 123, 3) := by decide +kernel
theorem dX11_start_5 : decode cX11_start 5 = .ok (.ifnonnull 5, 3) := by decide +kernel
theorem dX11_start_8 : decode cX11_start 8 = .ok (.iconst 0, 1) := by decide +kernel
theorem dX11_start_9 : decode cX11_start 9 = .ok (.ireturn, 1) := by decide +kernel
theorem dX11_start_10 : decode cX11_start 10 = .ok (.aload_n 0, 1) := by decide +kernel
theorem dX11_start_11 : decode cX11_start 11 = .ok (.getfield 83, 3) := by decide +kernel
theorem dX11_start_14 : decode cX11_start 14 = .ok (.iload_n 1, 1) := by decide +kernel
theorem dX11_start_15 : decode cX11_start 15 = .ok (.iload_n 2, 1) := by decide +kernel
theorem dX11_start_16 : decode cX11_start 16 = .ok (.iload_n 3, 1) := by decide +kernel
theorem dX11_start_17 : decode cX11_start 17 = .ok (.iload 4, 2) := by decide +kernel
theorem dX11_start_19 : decode cX11_start 19 = .ok (.iload 5, 2) := by decide +kernel
theorem dX11_start_21 : decode cX11_start 21 = .ok (.invokevirtual 204, 3) := by decide +kernel
theorem dX11_start_24 : decode cX11_start 24 = .ok (.iconst 1, 1) := by decide +kernel
theorem dX11_start_25 : decode cX11_start 25 = .ok (.ireturn, 1) := by decide +kernel
set_option maxRecDepth 20000 in
theorem k_X11_start (d : Nat) {T : CT} {σ : MS} {a : Nat} {r : Int} {p : Int} {q : Int} {s : Int} {t : Int} {B : Int} (ha : OB T a 11) (h_r : -2147483648 ≤ r ∧ r ≤ 2147483647) (h_p : -2147483648 ≤ p ∧ p ≤ 2147483647) (h_q : -2147483648 ≤ q ∧ q ≤ 2147483647) (h_s : -2147483648 ≤ s ∧ s ≤ 2147483647) (h_t : -2147483648 ≤ t ∧ t ≤ 2147483647) (hw : WT T σ) (htr : TR σ a B) (hB : 0 ≤ B) : Tn (d + 5) m_X11_start 0 T σ [(0, .ref a), (1, .int (iI r)), (2, .int (iI p)), (3, .int (iI q)), (4, .int (iI s)), (5, .int (iI t))] [] (fun ro T2 σ2 => ∃ v : Int, ro = some (.int (iI v)) ∧ T = T2 ∧ WT T2 σ2 ∧ FrC T [56, 57, 58, 65, 66, 67, 68, 69, 515] σ σ2 ∧ (v = 0 ∨ v = 1) ∧ (TR σ2 a B)) := by
  refine tn_aload_n dX11_start_0 rfl 0 rfl ?_
  refine tn_iload_n dX11_start_1 rfl 1 rfl ?_
  refine tn_callV (M := m_X11_start) (pc := 2) (ix := 123) (ci := 11) (M' := m_X11_codeOf) (As := [.int (iI r)]) (rest := []) dX11_start_2 ok_X11_codeOf im_X11_codeOf se_X11_codeOf ml11_123 np_X11_codeOf rfl rfl ha rfl (Nat.le_of_ble_eq_true rfl) (Nat.le_of_ble_eq_true rfl) rfl (k_X11_codeOf (d + 3) (T := T) (σ := σ) (a := a) (r := r) ha (by omega) hw ) (fun r1 T3 σ2 gt4 hp => ?_)
  obtain ⟨v5, rfl, rfl, rfl, rv6⟩ := hp
  clear gt4
  rcases rv6 with rv6 | ⟨x7, rfl, hk8⟩
  · show Tn _ _ 5 T σ [(0, .ref a), (1, .int (iI r)), (2, .int (iI p)), (3, .int (iI q)), (4, .int (iI s)), (5, .int (iI t))] (vl true v5 :: []) _
    rw [vl_null rv6]
    refine tn_ifnonnullN dX11_start_5 ?_
    refine tn_iconst dX11_start_8 ?_
    exact tn_zret (v := 0) rfl (by decide) dX11_start_9 ⟨_, rfl, rfl, hw, FrC.rfl, by omega, htr⟩
  · show Tn _ _ 5 T σ [(0, .ref a), (1, .int (iI r)), (2, .int (iI p)), (3, .int (iI q)), (4, .int (iI s)), (5, .int (iI t))] (vl true (x7 : Int) :: []) _
    rw [vl_ref rfl]
    have hk8o : OB T x7 1 := ⟨by omega, by rw [hk8]; rfl, by omega⟩
    refine tn_ifnonnull (tgt := 10) dX11_start_5 (by decide) ?_
    refine tn_aload_n dX11_start_10 rfl 0 rfl ?_
    obtain ⟨x9, hx10, hk11⟩ : ∃ x : Nat, σ.2.1 103 a = (x : Int) ∧ (T x).1 = 37 := wf_103 hw ha
    have hk11o : OB T x9 7 := ⟨by omega, by rw [hk11]; rfl, by omega⟩
    refine tn_getR (ci := 11) (i := 8) (n := 103) (x := x9) dX11_start_11 rfl lay_11 (by decide) fl11_83 ha rfl rfl (hx10) ?_
    refine tn_iload_n dX11_start_14 rfl 1 rfl ?_
    refine tn_iload_n dX11_start_15 rfl 2 rfl ?_
    refine tn_iload_n dX11_start_16 rfl 3 rfl ?_
    refine tn_iload dX11_start_17 4 rfl ?_
    refine tn_iload dX11_start_19 5 rfl ?_
    refine tn_callV (M := m_X11_start) (pc := 21) (ix := 204) (ci := 7) (M' := m_X7_begin) (As := [.int (iI r), .int (iI p), .int (iI q), .int (iI s), .int (iI t)]) (rest := []) dX11_start_21 ok_X7_begin im_X7_begin se_X7_begin ml11_204 np_X7_begin rfl rfl hk11o rfl (Nat.le_of_ble_eq_true rfl) (Nat.le_of_ble_eq_true rfl) rfl (k_X7_begin (d) (T := T) (σ := σ) (a := x9) (p1 := r) (p2 := p) (p3 := q) (p4 := s) (p5 := t) hk11o hk11 (by omega) (by omega) (by omega) (by omega) (by omega) hw ) (fun r13 T15 σ14 gt16 hp => ?_)
    obtain ⟨rfl, rfl, w20, F21, f17, f18⟩ := hp
    clear gt16
    show Tn _ _ 24 T σ14 [(0, .ref a), (1, .int (iI r)), (2, .int (iI p)), (3, .int (iI q)), (4, .int (iI s)), (5, .int (iI t))] [] _
    refine tn_iconst dX11_start_24 ?_
    exact tn_zret (v := 1) rfl (by decide) dX11_start_25 ⟨_, rfl, rfl, w20, (FrC.rfl.trans (FrC.sub F21 (by decide))), by omega, TR.of (rc_F F21 (Or.inl (by decide)) (by decide) (hx10)) (by omega)⟩
