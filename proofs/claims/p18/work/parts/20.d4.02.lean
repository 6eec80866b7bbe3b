set_option maxHeartbeats 4000000 in
set_option maxRecDepth 20000 in
theorem k_X11_start_g (d : Nat) {T : CT} {σ : MS} {a : Nat} {r : Int} {p : Int} {q : Int} {s : Int} {t : Int} {B : Int} (ha : OB T a 11) (h_r : -2147483648 ≤ r ∧ r ≤ 2147483647) (h_p : -2147483648 ≤ p ∧ p ≤ 2147483647) (h_q : -2147483648 ≤ q ∧ q ≤ 2147483647) (h_s : -2147483648 ≤ s ∧ s ≤ 2147483647) (h_t : -2147483648 ≤ t ∧ t ≤ 2147483647) (hw : WT T σ) (htr : TR σ a B) (hB : 0 ≤ B) : Tn (d + 5) m_X11_start 0 T σ [(0, .ref a), (1, .int (iI r)), (2, .int (iI p)), (3, .int (iI q)), (4, .int (iI s)), (5, .int (iI t))] [] (fun ro T2 σ2 => ∃ v : Int, ro = some (.int (iI v)) ∧ T = T2 ∧ WT T2 σ2 ∧ FrC T [56, 57, 58, 65, 66, 67, 68, 69, 515] σ σ2 ∧ (v = 0 ∨ v = 1) ∧ ((v = 1 ∧ 0 ≤ r ∧ r < σ.2.1 97 a) ∨ (v = 0 ∧ (r < 0 ∨ σ.2.1 97 a ≤ r))) ∧ (TR σ2 a B)) := by
  refine tn_aload_n dX11_start_0 rfl 0 rfl ?_
  refine tn_iload_n dX11_start_1 rfl 1 rfl ?_
  refine tn_callV (M := m_X11_start) (pc := 2) (ix := 123) (ci := 11) (M' := m_X11_codeOf) (As := [.int (iI r)]) (rest := []) dX11_start_2 ok_X11_codeOf im_X11_codeOf se_X11_codeOf ml11_123 np_X11_codeOf rfl rfl ha rfl (Nat.le_of_ble_eq_true rfl) (Nat.le_of_ble_eq_true rfl) rfl (k_X11_codeOf_g (d + 3) (T := T) (σ := σ) (a := a) (r := r) ha (by omega) hw ) (fun r1 T3 σ2 gt4 hp => ?_)
  obtain ⟨v6, rfl, rfl, rfl, rv7, f5⟩ := hp
  clear gt4
  rcases rv7 with rv7 | ⟨x8, rfl, hk9⟩
  · show Tn _ _ 5 T σ [(0, .ref a), (1, .int (iI r)), (2, .int (iI p)), (3, .int (iI q)), (4, .int (iI s)), (5, .int (iI t))] (vl true v6 :: []) _
    rw [vl_null rv7]
    refine tn_ifnonnullN dX11_start_5 ?_
    refine tn_iconst dX11_start_8 ?_
    exact tn_zret (v := 0) rfl (by decide) dX11_start_9 ⟨_, rfl, rfl, hw, FrC.rfl, by omega, by omega, htr⟩
  · show Tn _ _ 5 T σ [(0, .ref a), (1, .int (iI r)), (2, .int (iI p)), (3, .int (iI q)), (4, .int (iI s)), (5, .int (iI t))] (vl true (x8 : Int) :: []) _
    rw [vl_ref rfl]
    have hk9o : OB T x8 1 := ⟨by omega, by rw [hk9]; rfl, by omega⟩
    refine tn_ifnonnull (tgt := 10) dX11_start_5 (by decide) ?_
    refine tn_aload_n dX11_start_10 rfl 0 rfl ?_
    obtain ⟨x10, hx11, hk12⟩ : ∃ x : Nat, σ.2.1 103 a = (x : Int) ∧ (T x).1 = 37 := wf_103 hw ha
    have hk12o : OB T x10 7 := ⟨by omega, by rw [hk12]; rfl, by omega⟩
    refine tn_getR (ci := 11) (i := 8) (n := 103) (x := x10) dX11_start_11 rfl lay_11 (by decide) fl11_83 ha rfl rfl (hx11) ?_
    refine tn_iload_n dX11_start_14 rfl 1 rfl ?_
    refine tn_iload_n dX11_start_15 rfl 2 rfl ?_
    refine tn_iload_n dX11_start_16 rfl 3 rfl ?_
    refine tn_iload dX11_start_17 4 rfl ?_
    refine tn_iload dX11_start_19 5 rfl ?_
    refine tn_callV (M := m_X11_start) (pc := 21) (ix := 204) (ci := 7) (M' := m_X7_begin) (As := [.int (iI r), .int (iI p), .int (iI q), .int (iI s), .int (iI t)]) (rest := []) dX11_start_21 ok_X7_begin im_X7_begin se_X7_begin ml11_204 np_X7_begin rfl rfl hk12o rfl (Nat.le_of_ble_eq_true rfl) (Nat.le_of_ble_eq_true rfl) rfl (k_X7_begin (d) (T := T) (σ := σ) (a := x10) (p1 := r) (p2 := p) (p3 := q) (p4 := s) (p5 := t) hk12o hk12 (by omega) (by omega) (by omega) (by omega) (by omega) hw ) (fun r14 T16 σ15 gt17 hp => ?_)
    obtain ⟨rfl, rfl, w21, F22, f18, f19⟩ := hp
    clear gt17
    show Tn _ _ 24 T σ15 [(0, .ref a), (1, .int (iI r)), (2, .int (iI p)), (3, .int (iI q)), (4, .int (iI s)), (5, .int (iI t))] [] _
    refine tn_iconst dX11_start_24 ?_
    exact tn_zret (v := 1) rfl (by decide) dX11_start_25 ⟨_, rfl, rfl, w21, (FrC.rfl.trans (FrC.sub F22 (by decide))), by omega, by omega, TR.of (rc_F F22 (Or.inl (by decide)) (by decide) (hx11)) (by omega)⟩
