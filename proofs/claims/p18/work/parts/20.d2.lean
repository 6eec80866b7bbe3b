set_option maxHeartbeats 4000000 in
set_option maxRecDepth 20000 in
theorem c4_X12_four (d : Nat) {b : Nat} {σ : MS} {x : Int} (hR : RG σ) (hsz : 0 ≤ σ.1 2 ∧ σ.1 2 + 4 ≤ 1200) : Tm (d + 1) m_X12_four 0 b σ [(0, .ref b), (1, .int (iI x))] [] (fun ro σ2 => ro = none ∧ (Fr [2] [1] [] σ σ2) ∧ (RG σ2) ∧ (σ2.1 2 = σ.1 2 + 4) ∧ (σ2.2.1 1 = w4 (σ.2.1 1) (σ.1 2) x)) := by
  refine tm_bipush dX12_four_0 (by decide) ?_
  refine tm_istore_n (L' := [(2, .int (iI 24)), (0, .ref b), (1, .int (iI x))]) dX12_four_2 rfl (by decide) rfl ?_
  refine tm_iload_n dX12_four_3 rfl 0 rfl ?_
  refine tm_if_lt (tgt := 36) dX12_four_4 (by decide) ⟨by decide, by decide⟩ (fun h => absurd h (by decide)) (fun _ => ?_)
  refine tm_aload_n dX12_four_7 rfl 1 rfl ?_
  refine tm_get (k := 1) (v := .ref (b + 1 + 0)) lay_12 dX12_four_8 (by decide) fl12_7 rfl ?_
  refine tm_aload_n dX12_four_11 rfl 1 rfl ?_
  refine tm_getS (k := 2) (t := σ.1 2) dX12_four_12 (by decide) fl12_382 rfl (rfl) ?_
  have g2 := RG.s hR 2
  refine tm_iload_n dX12_four_15 rfl 2 rfl ?_
  refine tm_iload_n dX12_four_16 rfl 0 rfl ?_
  refine tm_ishr dX12_four_17 ?_
  refine tm_i2b dX12_four_18 ?_
  have g3 := RB (vp_nar .byte (((iI x) >>> ((iI 24) &&& 31)).toInt8.toInt32))
  refine tm_bast (z := σ.1 2) (v := (vp_nar .byte (((iI x) >>> ((iI 24) &&& 31)).toInt8.toInt32)).toInt) dX12_four_19 (show mT[0]? = some (1, 1, 1200) from rfl) (by omega) (by omega) (by decide) (iI_self _).symm ?_
  refine tm_aload_n dX12_four_20 rfl 1 rfl ?_
  refine tm_dup dX12_four_21 rfl ?_
  refine tm_getS (k := 2) (t := σ.1 2) dX12_four_22 (by decide) fl12_382 rfl (rs_A (rfl)) ?_
  have g4 := RG.s hR 2
  refine tm_iconst dX12_four_25 ?_
  refine tm_iadd dX12_four_26 ?_
  refine tm_putS (k := 2) (v := (σ.1 2) + 1) lay_12 dX12_four_27 (by decide) fl12_382 rfl (tyX12_ok 2 (by decide)) rfl rfl rfl ?_
  refine tm_iinc (q0 := 0) (L' := [(2, .int (iI 16)), (0, .ref b), (1, .int (iI x))]) dX12_four_30 rfl (by decide) rfl ?_
  refine tm_goto (tgt := 3) dX12_four_33 (by decide) ?_
  refine tm_iload_n dX12_four_3 rfl 0 rfl ?_
  refine tm_if_lt (tgt := 36) dX12_four_4 (by decide) ⟨by decide, by decide⟩ (fun h => absurd h (by decide)) (fun _ => ?_)
  refine tm_aload_n dX12_four_7 rfl 1 rfl ?_
  refine tm_get (k := 1) (v := .ref (b + 1 + 0)) lay_12 dX12_four_8 (by decide) fl12_7 rfl ?_
  refine tm_aload_n dX12_four_11 rfl 1 rfl ?_
  refine tm_getS (k := 2) (t := (σ.1 2) + 1) dX12_four_12 (by decide) fl12_382 rfl (rs_eq) ?_
  refine tm_iload_n dX12_four_15 rfl 2 rfl ?_
  refine tm_iload_n dX12_four_16 rfl 0 rfl ?_
  refine tm_ishr dX12_four_17 ?_
  refine tm_i2b dX12_four_18 ?_
  have g6 := RB (vp_nar .byte (((iI x) >>> ((iI 16) &&& 31)).toInt8.toInt32))
  refine tm_bast (z := (σ.1 2) + 1) (v := (vp_nar .byte (((iI x) >>> ((iI 16) &&& 31)).toInt8.toInt32)).toInt) dX12_four_19 (show mT[0]? = some (1, 1, 1200) from rfl) (by omega) (by omega) (by decide) (iI_self _).symm ?_
  refine tm_aload_n dX12_four_20 rfl 1 rfl ?_
  refine tm_dup dX12_four_21 rfl ?_
  refine tm_getS (k := 2) (t := (σ.1 2) + 1) dX12_four_22 (by decide) fl12_382 rfl (rs_A (rs_eq)) ?_
  refine tm_iconst dX12_four_25 ?_
  refine tm_iadd dX12_four_26 ?_
  refine tm_putS (k := 2) (v := ((σ.1 2) + 1) + 1) lay_12 dX12_four_27 (by decide) fl12_382 rfl (tyX12_ok 2 (by decide)) rfl rfl rfl ?_
  refine tm_iinc (q0 := 0) (L' := [(2, .int (iI 8)), (0, .ref b), (1, .int (iI x))]) dX12_four_30 rfl (by decide) rfl ?_
  refine tm_goto (tgt := 3) dX12_four_33 (by decide) ?_
  refine tm_iload_n dX12_four_3 rfl 0 rfl ?_
  refine tm_if_lt (tgt := 36) dX12_four_4 (by decide) ⟨by decide, by decide⟩ (fun h => absurd h (by decide)) (fun _ => ?_)
  refine tm_aload_n dX12_four_7 rfl 1 rfl ?_
  refine tm_get (k := 1) (v := .ref (b + 1 + 0)) lay_12 dX12_four_8 (by decide) fl12_7 rfl ?_
  refine tm_aload_n dX12_four_11 rfl 1 rfl ?_
  refine tm_getS (k := 2) (t := ((σ.1 2) + 1) + 1) dX12_four_12 (by decide) fl12_382 rfl (rs_eq) ?_
  refine tm_iload_n dX12_four_15 rfl 2 rfl ?_
  refine tm_iload_n dX12_four_16 rfl 0 rfl ?_
  refine tm_ishr dX12_four_17 ?_
  refine tm_i2b dX12_four_18 ?_
  have g8 := RB (vp_nar .byte (((iI x) >>> ((iI 8) &&& 31)).toInt8.toInt32))
  refine tm_bast (z := ((σ.1 2) + 1) + 1) (v := (vp_nar .byte (((iI x) >>> ((iI 8) &&& 31)).toInt8.toInt32)).toInt) dX12_four_19 (show mT[0]? = some (1, 1, 1200) from rfl) (by omega) (by omega) (by decide) (iI_self _).symm ?_
  refine tm_aload_n dX12_four_20 rfl 1 rfl ?_
  refine tm_dup dX12_four_21 rfl ?_
  refine tm_getS (k := 2) (t := ((σ.1 2) + 1) + 1) dX12_four_22 (by decide) fl12_382 rfl (rs_A (rs_eq)) ?_
  refine tm_iconst dX12_four_25 ?_
  refine tm_iadd dX12_four_26 ?_
  refine tm_putS (k := 2) (v := (((σ.1 2) + 1) + 1) + 1) lay_12 dX12_four_27 (by decide) fl12_382 rfl (tyX12_ok 2 (by decide)) rfl rfl rfl ?_
  refine tm_iinc (q0 := 0) (L' := [(2, .int (iI 0)), (0, .ref b), (1, .int (iI x))]) dX12_four_30 rfl (by decide) rfl ?_
  refine tm_goto (tgt := 3) dX12_four_33 (by decide) ?_
  refine tm_iload_n dX12_four_3 rfl 0 rfl ?_
  refine tm_if_lt (tgt := 36) dX12_four_4 (by decide) ⟨by decide, by decide⟩ (fun h => absurd h (by decide)) (fun _ => ?_)
  refine tm_aload_n dX12_four_7 rfl 1 rfl ?_
  refine tm_get (k := 1) (v := .ref (b + 1 + 0)) lay_12 dX12_four_8 (by decide) fl12_7 rfl ?_
  refine tm_aload_n dX12_four_11 rfl 1 rfl ?_
  refine tm_getS (k := 2) (t := (((σ.1 2) + 1) + 1) + 1) dX12_four_12 (by decide) fl12_382 rfl (rs_eq) ?_
  refine tm_iload_n dX12_four_15 rfl 2 rfl ?_
  refine tm_iload_n dX12_four_16 rfl 0 rfl ?_
  refine tm_ishr dX12_four_17 ?_
  refine tm_i2b dX12_four_18 ?_
  have g11 := RB (vp_nar .byte (((iI x) >>> ((iI 0) &&& 31)).toInt8.toInt32))
  refine tm_bast (z := (((σ.1 2) + 1) + 1) + 1) (v := (vp_nar .byte (((iI x) >>> ((iI 0) &&& 31)).toInt8.toInt32)).toInt) dX12_four_19 (show mT[0]? = some (1, 1, 1200) from rfl) (by omega) (by omega) (by decide) (iI_self _).symm ?_
  refine tm_aload_n dX12_four_20 rfl 1 rfl ?_
  refine tm_dup dX12_four_21 rfl ?_
  refine tm_getS (k := 2) (t := (((σ.1 2) + 1) + 1) + 1) dX12_four_22 (by decide) fl12_382 rfl (rs_A (rs_eq)) ?_
  refine tm_iconst dX12_four_25 ?_
  refine tm_iadd dX12_four_26 ?_
  refine tm_putS (k := 2) (v := ((((σ.1 2) + 1) + 1) + 1) + 1) lay_12 dX12_four_27 (by decide) fl12_382 rfl (tyX12_ok 2 (by decide)) rfl rfl rfl ?_
  refine tm_iinc (q0 := 0) (L' := [(2, .int (iI (-8))), (0, .ref b), (1, .int (iI x))]) dX12_four_30 rfl (by decide) rfl ?_
  refine tm_goto (tgt := 3) dX12_four_33 (by decide) ?_
  refine tm_iload_n dX12_four_3 rfl 0 rfl ?_
  refine tm_if_lt (tgt := 36) dX12_four_4 (by decide) ⟨by decide, by decide⟩ (fun _ => ?_) (fun h => absurd h (by decide))
  exact tm_vret rfl dX12_four_36 (⟨rfl, ((((((((Fr.rfl.A (by decide)).S (by decide)).A (by decide)).S (by decide)).A (by decide)).S (by decide)).A (by decide)).S (by decide)), ((((((((hR.A (by omega)).S (by omega)).A (by omega)).S (by omega)).A (by omega)).S (by omega)).A (by omega)).S (by omega)), (rs_eq : (sS 2 (((((σ.1 2) + 1) + 1) + 1) + 1) (sA 1 ((((σ.1 2) + 1) + 1) + 1) ((vp_nar .byte (((iI x) >>> ((iI 0) &&& 31)).toInt8.toInt32)).toInt) (sS 2 ((((σ.1 2) + 1) + 1) + 1) (sA 1 (((σ.1 2) + 1) + 1) ((vp_nar .byte (((iI x) >>> ((iI 8) &&& 31)).toInt8.toInt32)).toInt) (sS 2 (((σ.1 2) + 1) + 1) (sA 1 ((σ.1 2) + 1) ((vp_nar .byte (((iI x) >>> ((iI 16) &&& 31)).toInt8.toInt32)).toInt) (sS 2 ((σ.1 2) + 1) (sA 1 (σ.1 2) ((vp_nar .byte (((iI x) >>> ((iI 24) &&& 31)).toInt8.toInt32)).toInt) σ)))))))).1 2 = ((((σ.1 2) + 1) + 1) + 1) + 1).trans (by omega), w4_of (show (sS 2 (((((σ.1 2) + 1) + 1) + 1) + 1) (sA 1 ((((σ.1 2) + 1) + 1) + 1) ((vp_nar .byte (((iI x) >>> ((iI 0) &&& 31)).toInt8.toInt32)).toInt) (sS 2 ((((σ.1 2) + 1) + 1) + 1) (sA 1 (((σ.1 2) + 1) + 1) ((vp_nar .byte (((iI x) >>> ((iI 8) &&& 31)).toInt8.toInt32)).toInt) (sS 2 (((σ.1 2) + 1) + 1) (sA 1 ((σ.1 2) + 1) ((vp_nar .byte (((iI x) >>> ((iI 16) &&& 31)).toInt8.toInt32)).toInt) (sS 2 ((σ.1 2) + 1) (sA 1 (σ.1 2) ((vp_nar .byte (((iI x) >>> ((iI 24) &&& 31)).toInt8.toInt32)).toInt) σ)))))))).2.1 1 (σ.1 2) = bt x 24 from ra_S (ra_ne (by omega) (ra_S (ra_ne (by omega) (ra_S (ra_ne (by omega) (ra_S (ra_eq)))))))) (show (sS 2 (((((σ.1 2) + 1) + 1) + 1) + 1) (sA 1 ((((σ.1 2) + 1) + 1) + 1) ((vp_nar .byte (((iI x) >>> ((iI 0) &&& 31)).toInt8.toInt32)).toInt) (sS 2 ((((σ.1 2) + 1) + 1) + 1) (sA 1 (((σ.1 2) + 1) + 1) ((vp_nar .byte (((iI x) >>> ((iI 8) &&& 31)).toInt8.toInt32)).toInt) (sS 2 (((σ.1 2) + 1) + 1) (sA 1 ((σ.1 2) + 1) ((vp_nar .byte (((iI x) >>> ((iI 16) &&& 31)).toInt8.toInt32)).toInt) (sS 2 ((σ.1 2) + 1) (sA 1 (σ.1 2) ((vp_nar .byte (((iI x) >>> ((iI 24) &&& 31)).toInt8.toInt32)).toInt) σ)))))))).2.1 1 ((σ.1 2) + 1) = bt x 16 from ra_S (ra_ne (by omega) (ra_S (ra_ne (by omega) (ra_S (ra_eq)))))) (show (sS 2 (((((σ.1 2) + 1) + 1) + 1) + 1) (sA 1 ((((σ.1 2) + 1) + 1) + 1) ((vp_nar .byte (((iI x) >>> ((iI 0) &&& 31)).toInt8.toInt32)).toInt) (sS 2 ((((σ.1 2) + 1) + 1) + 1) (sA 1 (((σ.1 2) + 1) + 1) ((vp_nar .byte (((iI x) >>> ((iI 8) &&& 31)).toInt8.toInt32)).toInt) (sS 2 (((σ.1 2) + 1) + 1) (sA 1 ((σ.1 2) + 1) ((vp_nar .byte (((iI x) >>> ((iI 16) &&& 31)).toInt8.toInt32)).toInt) (sS 2 ((σ.1 2) + 1) (sA 1 (σ.1 2) ((vp_nar .byte (((iI x) >>> ((iI 24) &&& 31)).toInt8.toInt32)).toInt) σ)))))))).2.1 1 (((σ.1 2) + 1) + 1) = bt x 8 from ra_S (ra_ne (by omega) (ra_S (ra_eq)))) (show (sS 2 (((((σ.1 2) + 1) + 1) + 1) + 1) (sA 1 ((((σ.1 2) + 1) + 1) + 1) ((vp_nar .byte (((iI x) >>> ((iI 0) &&& 31)).toInt8.toInt32)).toInt) (sS 2 ((((σ.1 2) + 1) + 1) + 1) (sA 1 (((σ.1 2) + 1) + 1) ((vp_nar .byte (((iI x) >>> ((iI 8) &&& 31)).toInt8.toInt32)).toInt) (sS 2 (((σ.1 2) + 1) + 1) (sA 1 ((σ.1 2) + 1) ((vp_nar .byte (((iI x) >>> ((iI 16) &&& 31)).toInt8.toInt32)).toInt) (sS 2 ((σ.1 2) + 1) (sA 1 (σ.1 2) ((vp_nar .byte (((iI x) >>> ((iI 24) &&& 31)).toInt8.toInt32)).toInt) σ)))))))).2.1 1 ((((σ.1 2) + 1) + 1) + 1) = bt x 0 from ra_S (ra_eq)) (fun k a9 b9 c9 d9 => (ra_S (ra_ne (by omega) (ra_S (ra_ne (by omega) (ra_S (ra_ne (by omega) (ra_S (ra_ne (by omega) (rfl))))))))))⟩)
set_option maxHeartbeats 4000000 in
set_option maxRecDepth 20000 in
theorem c4_X12_feed (d : Nat) {b : Nat} {σ : MS} {x1 : Int} {x2 : Int} {x3 : Int} {x4 : Int} {x5 : Int} (hR : RG σ) (hsz : 0 ≤ σ.1 2 ∧ σ.1 2 ≤ 1200) : Tm (d + 2) m_X12_feed 0 b σ [(0, .ref b), (1, .int (iI x1)), (2, .int (iI x2)), (3, .int (iI x3)), (4, .int (iI x4)), (5, .int (iI x5))] [] (fun ro σ2 => ∃ v : Int, ro = some (.int (iI v)) ∧ (Fr [0, 2] [1] [] σ σ2) ∧ (RG σ2) ∧ (σ.1 2 ≤ 1180 → v = σ.1 2 + 20 ∧ σ2.1 2 = σ.1 2 + 20) ∧ (1180 < σ.1 2 → v = -1 ∧ σ2.1 2 = σ.1 2) ∧ (σ.1 2 ≤ 1180 → σ2.2.1 1 = w20 (σ.2.1 1) (σ.1 2) x1 x2 x3 x4 x5) ∧ (1180 < σ.1 2 → σ2.2.1 1 = σ.2.1 1)) := by
  refine tm_aload_n dX12_feed_0 rfl 0 rfl ?_
  refine tm_iconst dX12_feed_1 ?_
  refine tm_putS (k := 0) (v := 0) lay_12 dX12_feed_2 (by decide) fl12_185 rfl (tyX12_ok 0 (by decide)) rfl rfl rfl ?_
  refine tm_aload_n dX12_feed_5 rfl 0 rfl ?_
  refine tm_getS (k := 2) (t := σ.1 2) dX12_feed_6 (by decide) fl12_382 rfl (rs_o (by decide) (rfl)) ?_
  have g1 := RG.s hR 2
  refine tm_bipush dX12_feed_9 (by decide) ?_
  refine tm_iadd dX12_feed_11 ?_
  refine tm_sipush dX12_feed_12 (by decide) ?_
  refine tm_icmp_le (tgt := 20) dX12_feed_15 (by decide) ⟨by omega, by omega⟩ ⟨by decide, by decide⟩ (fun h2 => ?_) (fun h2 => ?_)
  · refine tm_aload_n dX12_feed_20 rfl 0 rfl ?_
    refine tm_iload_n dX12_feed_21 rfl 1 rfl ?_
    refine tm_callV (M := m_X12_feed) (pc := 22) (ix := 385) (M' := m_X12_four) (As := [.int (iI x1)]) (rest := []) dX12_feed_22 ok_X12_four im_X12_four se_X12_four ml12_385 np_X12_four rfl rfl (Nat.le_of_ble_eq_true rfl) (Nat.le_of_ble_eq_true rfl) rfl (c4_X12_four (d) (σ := (sS 0 0 σ)) (x := x1) (hR.S (by omega)) (by have := (rs_o (by decide) (rfl) : (sS 0 0 σ).1 2 = σ.1 2); omega)) (fun r3 σ4 hp => ?_)
    obtain ⟨rfl, f6, f7, f8, f9⟩ := hp
    show Tm _ _ 25 b σ4 [(0, .ref b), (1, .int (iI x1)), (2, .int (iI x2)), (3, .int (iI x3)), (4, .int (iI x4)), (5, .int (iI x5))] [] _
    have e0 : (sS 0 0 σ).1 2 = σ.1 2 := rfl
    refine tm_aload_n dX12_feed_25 rfl 0 rfl ?_
    refine tm_iload_n dX12_feed_26 rfl 2 rfl ?_
    refine tm_callV (M := m_X12_feed) (pc := 27) (ix := 385) (M' := m_X12_four) (As := [.int (iI x2)]) (rest := []) dX12_feed_27 ok_X12_four im_X12_four se_X12_four ml12_385 np_X12_four rfl rfl (Nat.le_of_ble_eq_true rfl) (Nat.le_of_ble_eq_true rfl) rfl (c4_X12_four (d) (σ := σ4) (x := x2) f7 (by have := (rfl : σ4.1 2 = σ4.1 2); omega)) (fun r10 σ11 hp => ?_)
    obtain ⟨rfl, f13, f14, f15, f16⟩ := hp
    show Tm _ _ 30 b σ11 [(0, .ref b), (1, .int (iI x1)), (2, .int (iI x2)), (3, .int (iI x3)), (4, .int (iI x4)), (5, .int (iI x5))] [] _
    refine tm_aload_n dX12_feed_30 rfl 0 rfl ?_
    refine tm_iload_n dX12_feed_31 rfl 3 rfl ?_
    refine tm_callV (M := m_X12_feed) (pc := 32) (ix := 385) (M' := m_X12_four) (As := [.int (iI x3)]) (rest := []) dX12_feed_32 ok_X12_four im_X12_four se_X12_four ml12_385 np_X12_four rfl rfl (Nat.le_of_ble_eq_true rfl) (Nat.le_of_ble_eq_true rfl) rfl (c4_X12_four (d) (σ := σ11) (x := x3) f14 (by have := (rfl : σ11.1 2 = σ11.1 2); omega)) (fun r17 σ18 hp => ?_)
    obtain ⟨rfl, f20, f21, f22, f23⟩ := hp
    show Tm _ _ 35 b σ18 [(0, .ref b), (1, .int (iI x1)), (2, .int (iI x2)), (3, .int (iI x3)), (4, .int (iI x4)), (5, .int (iI x5))] [] _
    refine tm_aload_n dX12_feed_35 rfl 0 rfl ?_
    refine tm_iload dX12_feed_36 4 rfl ?_
    refine tm_callV (M := m_X12_feed) (pc := 38) (ix := 385) (M' := m_X12_four) (As := [.int (iI x4)]) (rest := []) dX12_feed_38 ok_X12_four im_X12_four se_X12_four ml12_385 np_X12_four rfl rfl (Nat.le_of_ble_eq_true rfl) (Nat.le_of_ble_eq_true rfl) rfl (c4_X12_four (d) (σ := σ18) (x := x4) f21 (by have := (rfl : σ18.1 2 = σ18.1 2); omega)) (fun r24 σ25 hp => ?_)
    obtain ⟨rfl, f27, f28, f29, f30⟩ := hp
    show Tm _ _ 41 b σ25 [(0, .ref b), (1, .int (iI x1)), (2, .int (iI x2)), (3, .int (iI x3)), (4, .int (iI x4)), (5, .int (iI x5))] [] _
    refine tm_aload_n dX12_feed_41 rfl 0 rfl ?_
    refine tm_iload dX12_feed_42 5 rfl ?_
    refine tm_callV (M := m_X12_feed) (pc := 44) (ix := 385) (M' := m_X12_four) (As := [.int (iI x5)]) (rest := []) dX12_feed_44 ok_X12_four im_X12_four se_X12_four ml12_385 np_X12_four rfl rfl (Nat.le_of_ble_eq_true rfl) (Nat.le_of_ble_eq_true rfl) rfl (c4_X12_four (d) (σ := σ25) (x := x5) f28 (by have := (rfl : σ25.1 2 = σ25.1 2); omega)) (fun r31 σ32 hp => ?_)
    obtain ⟨rfl, f34, f35, f36, f37⟩ := hp
    show Tm _ _ 47 b σ32 [(0, .ref b), (1, .int (iI x1)), (2, .int (iI x2)), (3, .int (iI x3)), (4, .int (iI x4)), (5, .int (iI x5))] [] _
    refine tm_aload_n dX12_feed_47 rfl 0 rfl ?_
    refine tm_getS (k := 2) (t := σ32.1 2) dX12_feed_48 (by decide) fl12_382 rfl (rfl) ?_
    have g38 := RG.s f35 2
    exact tm_iret rfl dX12_feed_51 (⟨_, rfl, ((((((Fr.rfl.S (by decide)).trans (Fr.sub f6 (by decide) (by decide) (by decide))).trans (Fr.sub f13 (by decide) (by decide) (by decide))).trans (Fr.sub f20 (by decide) (by decide) (by decide))).trans (Fr.sub f27 (by decide) (by decide) (by decide))).trans (Fr.sub f34 (by decide) (by decide) (by decide))), f35, by have := (rfl : σ32.1 2 = σ32.1 2); omega, by have := (rfl : σ32.1 2 = σ32.1 2); omega, fun _ => by rw [f37, f30, f23, f16, f9, show σ25.1 2 = σ.1 2 + 16 by omega, show σ18.1 2 = σ.1 2 + 12 by omega, show σ11.1 2 = σ.1 2 + 8 by omega, show σ4.1 2 = σ.1 2 + 4 by omega]; rfl, fun q => absurd q (by omega)⟩)
  · refine tm_iconst dX12_feed_18 ?_
    exact tm_iret rfl dX12_feed_19 (⟨_, rfl, (Fr.rfl.S (by decide)), (hR.S (by omega)), by have := (rs_o (by decide) (rfl) : (sS 0 0 σ).1 2 = σ.1 2); omega, by have := (rs_o (by decide) (rfl) : (sS 0 0 σ).1 2 = σ.1 2); omega, fun q => absurd q (by omega), fun _ => rfl⟩)
set_option maxHeartbeats 4000000 in
set_option maxRecDepth 20000 in
theorem c4_X12_fault (d : Nat) {b : Nat} {σ : MS} {x : Int} (hR : RG σ) (h_x : -2147483648 ≤ x ∧ x ≤ 2147483647) : Tm (d + 1) m_X12_fault 0 b σ [(0, .ref b), (1, .int (iI x))] [] (fun ro σ2 => ∃ v : Int, ro = some (.int (iI v)) ∧ (Fr [0] [] [] σ σ2) ∧ (RG σ2) ∧ ((x = 0 ∧ v = σ.1 26) ∨ (x = 1 ∧ v = σ.1 27) ∨ (x ≠ 0 ∧ x ≠ 1 ∧ v = -1))) := by
  refine tm_aload_n dX12_fault_0 rfl 0 rfl ?_
  refine tm_iconst dX12_fault_1 ?_
  refine tm_putS (k := 0) (v := 0) lay_12 dX12_fault_2 (by decide) fl12_185 rfl (tyX12_ok 0 (by decide)) rfl rfl rfl ?_
  refine tm_iload_n dX12_fault_5 rfl 1 rfl ?_
  refine tm_if_ne (tgt := 16) dX12_fault_6 (by decide) ⟨by omega, by omega⟩ (fun h1 => ?_) (fun h1 => ?_)
  · refine tm_iload_n dX12_fault_16 rfl 1 rfl ?_
    refine tm_iconst dX12_fault_17 ?_
    refine tm_icmp_ne (tgt := 28) dX12_fault_18 (by decide) ⟨by omega, by omega⟩ ⟨by decide, by decide⟩ (fun h2 => ?_) (fun h2 => ?_)
    · refine tm_iconst dX12_fault_28 ?_
      exact tm_iret rfl dX12_fault_29 (⟨_, rfl, (Fr.rfl.S (by decide)), (hR.S (by omega)), by omega⟩)
    · refine tm_aload_n dX12_fault_21 rfl 0 rfl ?_
      refine tm_getS (k := 27) (t := σ.1 27) dX12_fault_22 (by decide) fl12_59 rfl (rs_o (by decide) (rfl)) ?_
      have g3 := RG.s hR 27
      refine tm_goto (tgt := 29) dX12_fault_25 (by decide) ?_
      exact tm_iret rfl dX12_fault_29 (⟨_, rfl, (Fr.rfl.S (by decide)), (hR.S (by omega)), by omega⟩)
  · refine tm_aload_n dX12_fault_9 rfl 0 rfl ?_
    refine tm_getS (k := 26) (t := σ.1 26) dX12_fault_10 (by decide) fl12_252 rfl (rs_o (by decide) (rfl)) ?_
    have g4 := RG.s hR 26
    refine tm_goto (tgt := 29) dX12_fault_13 (by decide) ?_
    exact tm_iret rfl dX12_fault_29 (⟨_, rfl, (Fr.rfl.S (by decide)), (hR.S (by omega)), by omega⟩)
