set_option maxHeartbeats 1000000 in
set_option maxRecDepth 20000 in
theorem k_X11_go_j (d : Nat) {T : CT} {σ : MS} {a : Nat} {w : Int} {n : Int} {rn : Nat} {xa : Nat} {xb : Nat} {xc : Nat} {xd : Nat} {xe : Nat} {xf : Nat} {y : Nat} {B : Int} (ha : OB T a 11) (h_w : -2147483648 ≤ w ∧ w ≤ 2147483647) (h_n : -2147483648 ≤ n ∧ n ≤ 2147483647) (hw : WT T σ) (hrn : σ.2.1 103 a = (rn : Int)) (hxa : σ.2.1 59 rn = (xa : Int)) (hxb : σ.2.1 60 rn = (xb : Int)) (hxc : σ.2.1 61 rn = (xc : Int)) (hxd : σ.2.1 62 rn = (xd : Int)) (hxe : σ.2.1 63 rn = (xe : Int)) (hxf : σ.2.1 64 rn = (xf : Int)) (hy : σ.2.1 55 rn = (y : Int)) (htr : TR σ a B) (hB : B ≤ 11164000) : Tn (d + 7) m_X11_go 0 T σ [(0, .ref a), (1, .int (iI w)), (2, .int (iI n))] [] (fun ro T2 σ2 => ∃ v : Int, ro = some (.int (iI v)) ∧ T = T2 ∧ WT T2 σ2 ∧ FrC T [56, 57, 58, 65, 66, 67, 68, 69, 515] σ σ2 ∧ (-2147483648 ≤ v ∧ v ≤ 2147483647) ∧ (CHX [(56, rn), (57, rn), (58, rn), (65, rn), (66, rn), (67, rn), (68, rn), (69, rn), (70, rn), (71, rn)] [xa, xb, xc, xd, xe, xf] [] σ σ2) ∧ (TR σ2 a (B + 20001)) ∧ ((¬ ((0 ≤ w ∧ w ≤ 2) ∧ (1 ≤ n ∧ n ≤ 20000) ∧ σ.2.1 56 rn ≠ 0) ∧ v = -1 ∧ σ2 = σ) ∨ (((0 ≤ w ∧ w ≤ 2) ∧ (1 ≤ n ∧ n ≤ 20000) ∧ σ.2.1 56 rn ≠ 0) ∧ JAD T σ rn xa xb xc xd xe xf y w n v σ2))) := by
  refine tn_iload_n dX11_go_0 rfl 1 rfl ?_
  refine tn_if_lt (tgt := 31) dX11_go_1 (by decide) ⟨by omega, by omega⟩ (fun h1 => ?_) (fun h1 => ?_)
  · refine tn_iconst dX11_go_31 ?_
    exact tn_iret rfl dX11_go_32 ⟨_, rfl, rfl, hw, FrC.rfl, by omega, CHX.rfl, htr.up (by omega), Or.inl ⟨by omega, rfl, rfl⟩⟩
  · refine tn_iload_n dX11_go_4 rfl 1 rfl ?_
    refine tn_iconst dX11_go_5 ?_
    refine tn_icmp_gt (tgt := 31) dX11_go_6 (by decide) ⟨by omega, by omega⟩ ⟨by decide, by decide⟩ (fun h2 => ?_) (fun h2 => ?_)
    · refine tn_iconst dX11_go_31 ?_
      exact tn_iret rfl dX11_go_32 ⟨_, rfl, rfl, hw, FrC.rfl, by omega, CHX.rfl, htr.up (by omega), Or.inl ⟨by omega, rfl, rfl⟩⟩
    · refine tn_iload_n dX11_go_9 rfl 2 rfl ?_
      refine tn_iconst dX11_go_10 ?_
      refine tn_icmp_lt (tgt := 31) dX11_go_11 (by decide) ⟨by omega, by omega⟩ ⟨by decide, by decide⟩ (fun h3 => ?_) (fun h3 => ?_)
      · refine tn_iconst dX11_go_31 ?_
        exact tn_iret rfl dX11_go_32 ⟨_, rfl, rfl, hw, FrC.rfl, by omega, CHX.rfl, htr.up (by omega), Or.inl ⟨by omega, rfl, rfl⟩⟩
      · refine tn_iload_n dX11_go_14 rfl 2 rfl ?_
        refine tn_sipush dX11_go_15 (by decide) ?_
        refine tn_icmp_gt (tgt := 31) dX11_go_18 (by decide) ⟨by omega, by omega⟩ ⟨by decide, by decide⟩ (fun h4 => ?_) (fun h4 => ?_)
        · refine tn_iconst dX11_go_31 ?_
          exact tn_iret rfl dX11_go_32 ⟨_, rfl, rfl, hw, FrC.rfl, by omega, CHX.rfl, htr.up (by omega), Or.inl ⟨by omega, rfl, rfl⟩⟩
        · refine tn_aload_n dX11_go_21 rfl 0 rfl ?_
          have hk7 : (T rn).1 = 37 := ob_of (wf_103 hw ha) hrn
          have hk7o : OB T rn 7 := ⟨by omega, by rw [hk7]; rfl, by omega⟩
          refine tn_getR (ci := 11) (i := 8) (n := 103) (x := rn) dX11_go_22 rfl lay_11 (by decide) fl11_83 ha rfl rfl (hrn) ?_
          refine tn_getI (ci := 7) (i := 1) (n := 56) (t := σ.2.1 56 rn) dX11_go_25 rfl lay_7 (by decide) fl11_208 hk7o rfl rfl (rfl) ?_
          have g9 : ((-2147483648 : Int) ≤ σ.2.1 56 rn ∧ σ.2.1 56 rn ≤ 2147483647) := wf_56 hw hk7o
          refine tn_if_ne (tgt := 33) dX11_go_28 (by decide) ⟨by omega, by omega⟩ (fun h10 => ?_) (fun h10 => ?_)
          · refine tn_aload_n dX11_go_33 rfl 0 rfl ?_
            refine tn_getR (ci := 11) (i := 8) (n := 103) (x := rn) dX11_go_34 rfl lay_11 (by decide) fl11_83 ha rfl rfl (hrn) ?_
            refine tn_iload_n dX11_go_37 rfl 1 rfl ?_
            refine tn_iload_n dX11_go_38 rfl 2 rfl ?_
            obtain ⟨hk13, hl14⟩ : AR T xa 15 9 9 := ar_of (wf_59 hw hk7o) hxa
            have hk13i : IA T xa := by unfold IA; omega
            obtain ⟨hk17, hl18⟩ : AR T xb 1 9 9 := ar_of (wf_60 hw hk7o) hxb
            have hk17i : IA T xb := by unfold IA; omega
            obtain ⟨hl22, hk21a, hk21b⟩ := ex_at (wf_61 hw hk7o) hxc
            have hk21 : (T xc).1 = 1 := hk21b (by omega)
            clear hk21a hk21b
            have hk21i : IA T xc := by unfold IA; omega
            obtain ⟨hk25, hl26⟩ : AR T xd 1 108 108 := ar_of (wf_62 hw hk7o) hxd
            have hk25i : IA T xd := by unfold IA; omega
            obtain ⟨hk29, hl30⟩ : AR T xe 1 1728 1728 := ar_of (wf_63 hw hk7o) hxe
            have hk29i : IA T xe := by unfold IA; omega
            obtain ⟨hk33, hl34⟩ : AR T xf 1 200 200 := ar_of (wf_64 hw hk7o) hxf
            have hk33i : IA T xf := by unfold IA; omega
            obtain ⟨hl38, hk37a, hk37b⟩ := ex_at (wf_55 hw hk7o) hy
            have hk37i : (T y).1 = 4 ∨ (T y).1 = 5 := by omega
            have hk37c : RROW T rn y := ⟨hk37a, hk37b⟩
            clear hk37a hk37b
            refine tn_callV (M := m_X11_go) (pc := 39) (ix := 211) (ci := 7) (M' := m_X7_advance) (As := [.int (iI w), .int (iI n)]) (rest := []) dX11_go_39 ok_X7_advance im_X7_advance se_X7_advance ml11_211 np_X7_advance rfl rfl hk7o rfl (Nat.le_of_ble_eq_true rfl) (Nat.le_of_ble_eq_true rfl) rfl (k_X7_advance_j (d) (T := T) (σ := σ) (a := rn) (w := w) (n := n) (xa := xa) (xb := xb) (xc := xc) (xd := xd) (xe := xe) (xf := xf) (y := y) hk7o hk7 (by omega) (by omega) hw (hxa) (hxb) (hxc) (hxd) (hxe) (hxf) (hy) (by omega) (by have q9 := htr rn (hrn); omega)) (fun r39 T41 σ40 gt42 hp => ?_)
            obtain ⟨v47, rfl, rfl, w48, F49, f43, f44, f45, f46⟩ := hp
            clear gt42
            show Tn _ _ 42 T σ40 [(0, .ref a), (1, .int (iI w)), (2, .int (iI n))] [.int (iI v47)] _
            exact tn_iret rfl dX11_go_42 ⟨_, rfl, rfl, w48, (FrC.rfl.trans (FrC.sub F49 (by decide))), by omega, (CHX.rfl.trans (CHX.sub f44 (by simp) (by simp) (by simp))), TR.of (rc_F F49 (Or.inl (by decide)) (by decide) (hrn)) (by have q9 := htr rn hrn; omega), Or.inr ⟨⟨by omega, by omega, by omega⟩, f46⟩⟩
          · refine tn_iconst dX11_go_31 ?_
            exact tn_iret rfl dX11_go_32 ⟨_, rfl, rfl, hw, FrC.rfl, by omega, CHX.rfl, htr.up (by omega), Or.inl ⟨by omega, rfl, rfl⟩⟩
