set_option maxHeartbeats 1000000 in
set_option maxRecDepth 20000 in
theorem k_X11_start_jg (d : Nat) {T : CT} {σ : MS} {a : Nat} {r : Int} {p : Int} {q : Int} {s : Int} {t : Int} {rn : Nat} {xa : Nat} {xb : Nat} {xc : Nat} {xd : Nat} {xe : Nat} {xf : Nat} {y : Nat} {B : Int} (ha : OB T a 11) (h_r : -2147483648 ≤ r ∧ r ≤ 2147483647) (h_p : -2147483648 ≤ p ∧ p ≤ 2147483647) (h_q : -2147483648 ≤ q ∧ q ≤ 2147483647) (h_s : -2147483648 ≤ s ∧ s ≤ 2147483647) (h_t : -2147483648 ≤ t ∧ t ≤ 2147483647) (hw : WT T σ) (hrn : σ.2.1 103 a = (rn : Int)) (hxa : σ.2.1 59 rn = (xa : Int)) (hxb : σ.2.1 60 rn = (xb : Int)) (hxc : σ.2.1 61 rn = (xc : Int)) (hxd : σ.2.1 62 rn = (xd : Int)) (hxe : σ.2.1 63 rn = (xe : Int)) (hxf : σ.2.1 64 rn = (xf : Int)) (hy : σ.2.1 55 rn = (y : Int)) (htr : TR σ a B) (hB : 0 ≤ B) : Tn (d + 5) m_X11_start 0 T σ [(0, .ref a), (1, .int (iI r)), (2, .int (iI p)), (3, .int (iI q)), (4, .int (iI s)), (5, .int (iI t))] [] (fun ro T2 σ2 => ∃ v : Int, ro = some (.int (iI v)) ∧ T = T2 ∧ WT T2 σ2 ∧ FrC T [56, 57, 58, 65, 66, 67, 68, 69, 515] σ σ2 ∧ (v = 0 ∨ v = 1) ∧ (CHX [(56, rn), (57, rn), (58, rn), (65, rn), (66, rn), (67, rn), (68, rn), (69, rn), (70, rn), (71, rn)] [xa, xb, xc, xd, xe, xf] [] σ σ2) ∧ ((v = 1 ∧ 0 ≤ r ∧ r < σ.2.1 97 a) ∨ (v = 0 ∧ (r < 0 ∨ σ.2.1 97 a ≤ r))) ∧ (TR σ2 a B) ∧ ((v = 0 ∧ σ2 = σ) ∨ (v = 1 ∧ JBG T σ rn xa xb xc xd xe y r p q s t σ2))) := by
  refine tn_aload_n dX11_start_0 rfl 0 rfl ?_
  refine tn_iload_n dX11_start_1 rfl 1 rfl ?_
  refine tn_callV (M := m_X11_start) (pc := 2) (ix := 123) (ci := 11) (M' := m_X11_codeOf) (As := [.int (iI r)]) (rest := []) dX11_start_2 ok_X11_codeOf im_X11_codeOf se_X11_codeOf ml11_123 np_X11_codeOf rfl rfl ha rfl (Nat.le_of_ble_eq_true rfl) (Nat.le_of_ble_eq_true rfl) rfl (k_X11_codeOf_g (d + 3) (T := T) (σ := σ) (a := a) (r := r) ha (by omega) hw ) (fun r1 T3 σ2 gt4 hp => ?_)
  obtain ⟨v6, rfl, rfl, rfl, rv7, f5⟩ := hp
  clear gt4
  rcases rv7 with rv7 | ⟨xq8, rfl, hk9⟩
  · show Tn _ _ 5 T σ [(0, .ref a), (1, .int (iI r)), (2, .int (iI p)), (3, .int (iI q)), (4, .int (iI s)), (5, .int (iI t))] (vl true v6 :: []) _
    rw [vl_null rv7]
    refine tn_ifnonnullN dX11_start_5 ?_
    refine tn_iconst dX11_start_8 ?_
    exact tn_zret (v := 0) rfl (by decide) dX11_start_9 ⟨_, rfl, rfl, hw, FrC.rfl, by omega, CHX.rfl, by omega, htr, Or.inl ⟨rfl, rfl⟩⟩
  · show Tn _ _ 5 T σ [(0, .ref a), (1, .int (iI r)), (2, .int (iI p)), (3, .int (iI q)), (4, .int (iI s)), (5, .int (iI t))] (vl true (xq8 : Int) :: []) _
    rw [vl_ref rfl]
    have hk9o : OB T xq8 1 := ⟨by omega, by rw [hk9]; rfl, by omega⟩
    refine tn_ifnonnull (tgt := 10) dX11_start_5 (by decide) ?_
    refine tn_aload_n dX11_start_10 rfl 0 rfl ?_
    have hk12 : (T rn).1 = 37 := ob_of (wf_103 hw ha) hrn
    have hk12o : OB T rn 7 := ⟨by omega, by rw [hk12]; rfl, by omega⟩
    refine tn_getR (ci := 11) (i := 8) (n := 103) (x := rn) dX11_start_11 rfl lay_11 (by decide) fl11_83 ha rfl rfl (hrn) ?_
    refine tn_iload_n dX11_start_14 rfl 1 rfl ?_
    refine tn_iload_n dX11_start_15 rfl 2 rfl ?_
    refine tn_iload_n dX11_start_16 rfl 3 rfl ?_
    refine tn_iload dX11_start_17 4 rfl ?_
    refine tn_iload dX11_start_19 5 rfl ?_
    obtain ⟨hk16, hl17⟩ : AR T xa 15 9 9 := ar_of (wf_59 hw hk12o) hxa
    have hk16i : IA T xa := by unfold IA; omega
    obtain ⟨hk20, hl21⟩ : AR T xb 1 9 9 := ar_of (wf_60 hw hk12o) hxb
    have hk20i : IA T xb := by unfold IA; omega
    obtain ⟨hl25, hk24a, hk24b⟩ := ex_at (wf_61 hw hk12o) hxc
    have hk24 : (T xc).1 = 1 := hk24b (by omega)
    clear hk24a hk24b
    have hk24i : IA T xc := by unfold IA; omega
    obtain ⟨hk28, hl29⟩ : AR T xd 1 108 108 := ar_of (wf_62 hw hk12o) hxd
    have hk28i : IA T xd := by unfold IA; omega
    obtain ⟨hk32, hl33⟩ : AR T xe 1 1728 1728 := ar_of (wf_63 hw hk12o) hxe
    have hk32i : IA T xe := by unfold IA; omega
    obtain ⟨hk36, hl37⟩ : AR T xf 1 200 200 := ar_of (wf_64 hw hk12o) hxf
    have hk36i : IA T xf := by unfold IA; omega
    obtain ⟨hl41, hk40a, hk40b⟩ := ex_at (wf_55 hw hk12o) hy
    have hk40i : (T y).1 = 4 ∨ (T y).1 = 5 := by omega
    have hk40c : RROW T rn y := ⟨hk40a, hk40b⟩
    clear hk40a hk40b
    refine tn_callV (M := m_X11_start) (pc := 21) (ix := 204) (ci := 7) (M' := m_X7_begin) (As := [.int (iI r), .int (iI p), .int (iI q), .int (iI s), .int (iI t)]) (rest := []) dX11_start_21 ok_X7_begin im_X7_begin se_X7_begin ml11_204 np_X7_begin rfl rfl hk12o rfl (Nat.le_of_ble_eq_true rfl) (Nat.le_of_ble_eq_true rfl) rfl (k_X7_begin_j (d) (T := T) (σ := σ) (a := rn) (p1 := r) (p2 := p) (p3 := q) (p4 := s) (p5 := t) (xa := xa) (xb := xb) (xc := xc) (xd := xd) (xe := xe) (xf := xf) (y := y) hk12o hk12 (by omega) (by omega) (by omega) (by omega) (by omega) hw (hxa) (hxb) (hxc) (hxd) (hxe) (hxf) (hy)) (fun r42 T44 σ43 gt45 hp => ?_)
    obtain ⟨rfl, rfl, w51, F52, f46, f47, f48, f49⟩ := hp
    clear gt45
    show Tn _ _ 24 T σ43 [(0, .ref a), (1, .int (iI r)), (2, .int (iI p)), (3, .int (iI q)), (4, .int (iI s)), (5, .int (iI t))] [] _
    refine tn_iconst dX11_start_24 ?_
    exact tn_zret (v := 1) rfl (by decide) dX11_start_25 ⟨_, rfl, rfl, w51, (FrC.rfl.trans (FrC.sub F52 (by decide))), by omega, (CHX.rfl.trans (CHX.sub f46 (by simp) (by simp) (by simp))), by omega, TR.of (rc_F F52 (Or.inl (by decide)) (by decide) (hrn)) (by omega), Or.inr ⟨rfl, f48⟩⟩
