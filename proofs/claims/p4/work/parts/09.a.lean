theorem RB (x : Int32) : -2147483648 ≤ x.toInt ∧ x.toInt ≤ 2147483647 := inR_toInt x

theorem fl12_7 : Cond.fieldLink RX12 7 (TX12 1).1 (TX12 1).2.1 (TX12 1).2.2.1 ∈ pWW := pw7 (List.mem_of_getElem? (i := 8) rfl) rfl
theorem fl12_382 : Cond.fieldLink RX12 382 (TX12 2).1 (TX12 2).2.1 (TX12 2).2.2.1 ∈ pWW := pw7 (List.mem_of_getElem? (i := 9) rfl) rfl
theorem dX12_four_0 : decode cX12_four 0 = .ok (.bipush 24, 2) := by decide +kernel
theorem dX12_four_2 : decode cX12_four 2 = .ok (.istore_n 2, 1) := by decide +kernel
theorem dX12_four_3 : decode cX12_four 3 = .ok (.iload_n 2, 1) := by decide +kernel
theorem dX12_four_4 : decode cX12_four 4 = .ok (.ifCond .lt 32, 3) := by decide +kernel
theorem dX12_four_7 : decode cX12_four 7 = .ok (.aload_n 0, 1) := by decide +kernel
theorem dX12_four_8 : decode cX12_four 8 = .ok (.getfield 7, 3) := by decide +kernel
theorem dX12_four_11 : decode cX12_four 11 = .ok (.aload_n 0, 1) := by decide +kernel
theorem dX12_four_12 : decode cX12_four 12 = .ok (.getfield 382, 3) := by decide +kernel
theorem dX12_four_15 : decode cX12_four 15 = .ok (.iload_n 1, 1) := by decide +kernel
theorem dX12_four_16 : decode cX12_four 16 = .ok (.iload_n 2, 1) := by decide +kernel
theorem dX12_four_17 : decode cX12_four 17 = .ok (.ishr, 1) := by decide +kernel
theorem dX12_four_18 : decode cX12_four 18 = .ok (.i2b, 1) := by decide +kernel
theorem dX12_four_19 : decode cX12_four 19 = .ok (.bastore, 1) := by decide +kernel
theorem dX12_four_20 : decode cX12_four 20 = .ok (.aload_n 0, 1) := by decide +kernel
theorem dX12_four_21 : decode cX12_four 21 = .ok (.dup, 1) := by decide +kernel
theorem dX12_four_22 : decode cX12_four 22 = .ok (.getfield 382, 3) := by decide +kernel
theorem dX12_four_25 : decode cX12_four 25 = .ok (.iconst 1, 1) := by decide +kernel
theorem dX12_four_26 : decode cX12_four 26 = .ok (.iadd, 1) := by decide +kernel
theorem dX12_four_27 : decode cX12_four 27 = .ok (.putfield 382, 3) := by decide +kernel
theorem dX12_four_30 : decode cX12_four 30 = .ok (.iinc 2 (-8), 3) := by decide +kernel
theorem dX12_four_33 : decode cX12_four 33 = .ok (.goto (-30), 3) := by decide +kernel
theorem dX12_four_36 : decode cX12_four 36 = .ok (.return_, 1) := by decide +kernel
set_option maxHeartbeats 4000000 in
set_option maxRecDepth 20000 in
theorem c_X12_four (d : Nat) {b : Nat} {σ : MS} {x : Int} (hR : RG σ) (hsz : 0 ≤ σ.1 2 ∧ σ.1 2 + 4 ≤ 1200) : Tm (d + 1) m_X12_four 0 b σ [(0, .ref b), (1, .int (iI x))] [] (fun ro σ2 => ro = none ∧ (Fr [2] [1] [] σ σ2) ∧ (RG σ2) ∧ (σ2.1 2 = σ.1 2 + 4)) := by
  refine tm_bipush dX12_four_0 (by decide) ?_
  refine tm_istore_n (L' := [(2, .int (iI 24)), (0, .ref b), (1, .int (iI x))]) dX12_four_2 rfl (by decide) rfl ?_
  refine tm_iload_n dX12_four_3 rfl 0 rfl ?_
  refine tm_if_lt (tgt := 36) dX12_four_4 (by decide) ⟨by decide, by decide⟩ (fun h => absurd h (by decide)) (fun _ => ?_)
  refine tm_aload_n dX12_four_7 rfl 1 rfl ?_
  refine tm_get (k := 1) (v := .ref (b + 1 + 0)) lay_12 dX12_four_8 (by decide) fl12_7 rfl ?_
  refine tm_aload_n dX12_four_11 rfl 1 rfl ?_
  refine tm_getS (k := 2) (t := σ.1 2) dX12_four_12 (by decide) fl12_382 rfl (rfl) ?_
  have g2 := RG.s hR 2
  refine tm_iload_n dX12_four_15 rfl 2 rfl ?_
  refine tm_iload_n dX12_four_16 rfl 0 rfl ?_
  refine tm_ishr dX12_four_17 ?_
  refine tm_i2b dX12_four_18 ?_
  have g3 := RB (vp_nar .byte (((iI x) >>> ((iI 24) &&& 31)).toInt8.toInt32))
  refine tm_bast (z := σ.1 2) (v := (vp_nar .byte (((iI x) >>> ((iI 24) &&& 31)).toInt8.toInt32)).toInt) dX12_four_19 (show mT[0]? = some (1, 1, 1200) from rfl) (by omega) (by omega) (by decide) (iI_self _).symm ?_
  refine tm_aload_n dX12_four_20 rfl 1 rfl ?_
  refine tm_dup dX12_four_21 rfl ?_
  refine tm_getS (k := 2) (t := σ.1 2) dX12_four_22 (by decide) fl12_382 rfl (rs_A (rfl)) ?_
  have g4 := RG.s hR 2
  refine tm_iconst dX12_four_25 ?_
  refine tm_iadd dX12_four_26 ?_
  refine tm_putS (k := 2) (v := (σ.1 2) + 1) lay_12 dX12_four_27 (by decide) fl12_382 rfl (tyX12_ok 2 (by decide)) rfl rfl rfl ?_
  refine tm_iinc (q0 := 0) (L' := [(2, .int (iI 16)), (0, .ref b), (1, .int (iI x))]) dX12_four_30 rfl (by decide) rfl ?_
  refine tm_goto (tgt := 3) dX12_four_33 (by decide) ?_
  refine tm_iload_n dX12_four_3 rfl 0 rfl ?_
  refine tm_if_lt (tgt := 36) dX12_four_4 (by decide) ⟨by decide, by decide⟩ (fun h => absurd h (by decide)) (fun _ => ?_)
  refine tm_aload_n dX12_four_7 rfl 1 rfl ?_
  refine tm_get (k := 1) (v := .ref (b + 1 + 0)) lay_12 dX12_four_8 (by decide) fl12_7 rfl ?_
  refine tm_aload_n dX12_four_11 rfl 1 rfl ?_
  refine tm_getS (k := 2) (t := (σ.1 2) + 1) dX12_four_12 (by decide) fl12_382 rfl (rs_eq) ?_
  refine tm_iload_n dX12_four_15 rfl 2 rfl ?_
  refine tm_iload_n dX12_four_16 rfl 0 rfl ?_
  refine tm_ishr dX12_four_17 ?_
  refine tm_i2b dX12_four_18 ?_
  have g6 := RB (vp_nar .byte (((iI x) >>> ((iI 16) &&& 31)).toInt8.toInt32))
  refine tm_bast (z := (σ.1 2) + 1) (v := (vp_nar .byte (((iI x) >>> ((iI 16) &&& 31)).toInt8.toInt32)).toInt) dX12_four_19 (show mT[0]? = some (1, 1, 1200) from rfl) (by omega) (by omega) (by decide) (iI_self _).symm ?_
  refine tm_aload_n dX12_four_20 rfl 1 rfl ?_
  refine tm_dup dX12_four_21 rfl ?_
  refine tm_getS (k := 2) (t := (σ.1 2) + 1) dX12_four_22 (by decide) fl12_382 rfl (rs_A (rs_eq)) ?_
  refine tm_iconst dX12_four_25 ?_
  refine tm_iadd dX12_four_26 ?_
  refine tm_putS (k := 2) (v := ((σ.1 2) + 1) + 1) lay_12 dX12_four_27 (by decide) fl12_382 rfl (tyX12_ok 2 (by decide)) rfl rfl rfl ?_
  refine tm_iinc (q0 := 0) (L' := [(2, .int (iI 8)), (0, .ref b), (1, .int (iI x))]) dX12_four_30 rfl (by decide) rfl ?_
  refine tm_goto (tgt := 3) dX12_four_33 (by decide) ?_
  refine tm_iload_n dX12_four_3 rfl 0 rfl ?_
  refine tm_if_lt (tgt := 36) dX12_four_4 (by decide) ⟨by decide, by decide⟩ (fun h => absurd h (by decide)) (fun _ => ?_)
  refine tm_aload_n dX12_four_7 rfl 1 rfl ?_
  refine tm_get (k := 1) (v := .ref (b + 1 + 0)) lay_12 dX12_four_8 (by decide) fl12_7 rfl ?_
  refine tm_aload_n dX12_four_11 rfl 1 rfl ?_
  refine tm_getS (k := 2) (t := ((σ.1 2) + 1) + 1) dX12_four_12 (by decide) fl12_382 rfl (rs_eq) ?_
  refine tm_iload_n dX12_four_15 rfl 2 rfl ?_
  refine tm_iload_n dX12_four_16 rfl 0 rfl ?_
  refine tm_ishr dX12_four_17 ?_
  refine tm_i2b dX12_four_18 ?_
  have g8 := RB (vp_nar .byte (((iI x) >>> ((iI 8) &&& 31)).toInt8.toInt32))
  refine tm_bast (z := ((σ.1 2) + 1) + 1) (v := (vp_nar .byte (((iI x) >>> ((iI 8) &&& 31)).toInt8.toInt32)).toInt) dX12_four_19 (show mT[0]? = some (1, 1, 1200) from rfl) (by omega) (by omega) (by decide) (iI_self _).symm ?_
  refine tm_aload_n dX12_four_20 rfl 1 rfl ?_
  refine tm_dup dX12_four_21 rfl ?_
  refine tm_getS (k := 2) (t := ((σ.1 2) + 1) + 1) dX12_four_22 (by decide) fl12_382 rfl (rs_A (rs_eq)) ?_
  refine tm_iconst dX12_four_25 ?_
  refine tm_iadd dX12_four_26 ?_
  refine tm_putS (k := 2) (v := (((σ.1 2) + 1) + 1) + 1) lay_12 dX12_four_27 (by decide) fl12_382 rfl (tyX12_ok 2 (by decide)) rfl rfl rfl ?_
  refine tm_iinc (q0 := 0) (L' := [(2, .int (iI 0)), (0, .ref b), (1, .int (iI x))]) dX12_four_30 rfl (by decide) rfl ?_
  refine tm_goto (tgt := 3) dX12_four_33 (by decide) ?_
  refine tm_iload_n dX12_four_3 rfl 0 rfl ?_
  refine tm_if_lt (tgt := 36) dX12_four_4 (by decide) ⟨by decide, by decide⟩ (fun h => absurd h (by decide)) (fun _ => ?_)
  refine tm_aload_n dX12_four_7 rfl 1 rfl ?_
  refine tm_get (k := 1) (v := .ref (b + 1 + 0)) lay_12 dX12_four_8 (by decide) fl12_7 rfl ?_
  refine tm_aload_n dX12_four_11 rfl 1 rfl ?_
  refine tm_getS (k := 2) (t := (((σ.1 2) + 1) + 1) + 1) dX12_four_12 (by decide) fl12_382 rfl (rs_eq) ?_
  refine tm_iload_n dX12_four_15 rfl 2 rfl ?_
  refine tm_iload_n dX12_four_16 rfl 0 rfl ?_
  refine tm_ishr dX12_four_17 ?_
  refine tm_i2b dX12_four_18 ?_
  have g10 := RB (vp_nar .byte (((iI x) >>> ((iI 0) &&& 31)).toInt8.toInt32))
  refine tm_bast (z := (((σ.1 2) + 1) + 1) + 1) (v := (vp_nar .byte (((iI x) >>> ((iI 0) &&& 31)).toInt8.toInt32)).toInt) dX12_four_19 (show mT[0]? = some (1, 1, 1200) from rfl) (by omega) (by omega) (by decide) (iI_self _).symm ?_
  refine tm_aload_n dX12_four_20 rfl 1 rfl ?_
  refine tm_dup dX12_four_21 rfl ?_
  refine tm_getS (k := 2) (t := (((σ.1 2) + 1) + 1) + 1) dX12_four_22 (by decide) fl12_382 rfl (rs_A (rs_eq)) ?_
  refine tm_iconst dX12_four_25 ?_
  refine tm_iadd dX12_four_26 ?_
  refine tm_putS (k := 2) (v := ((((σ.1 2) + 1) + 1) + 1) + 1) lay_12 dX12_four_27 (by decide) fl12_382 rfl (tyX12_ok 2 (by decide)) rfl rfl rfl ?_
  refine tm_iinc (q0 := 0) (L' := [(2, .int (iI (-8))), (0, .ref b), (1, .int (iI x))]) dX12_four_30 rfl (by decide) rfl ?_
  refine tm_goto (tgt := 3) dX12_four_33 (by decide) ?_
  refine tm_iload_n dX12_four_3 rfl 0 rfl ?_
  refine tm_if_lt (tgt := 36) dX12_four_4 (by decide) ⟨by decide, by decide⟩ (fun _ => ?_) (fun h => absurd h (by decide))
  exact tm_vret rfl dX12_four_36 (⟨rfl, ((((((((Fr.rfl.A (by decide)).S (by decide)).A (by decide)).S (by decide)).A (by decide)).S (by decide)).A (by decide)).S (by decide)), ((((((((hR.A (by omega)).S (by omega)).A (by omega)).S (by omega)).A (by omega)).S (by omega)).A (by omega)).S (by omega)), (rs_eq : (sS 2 (((((σ.1 2) + 1) + 1) + 1) + 1) (sA 1 ((((σ.1 2) + 1) + 1) + 1) ((vp_nar .byte (((iI x) >>> ((iI 0) &&& 31)).toInt8.toInt32)).toInt) (sS 2 ((((σ.1 2) + 1) + 1) + 1) (sA 1 (((σ.1 2) + 1) + 1) ((vp_nar .byte (((iI x) >>> ((iI 8) &&& 31)).toInt8.toInt32)).toInt) (sS 2 (((σ.1 2) + 1) + 1) (sA 1 ((σ.1 2) + 1) ((vp_nar .byte (((iI x) >>> ((iI 16) &&& 31)).toInt8.toInt32)).toInt) (sS 2 ((σ.1 2) + 1) (sA 1 (σ.1 2) ((vp_nar .byte (((iI x) >>> ((iI 24) &&& 31)).toInt8.toInt32)).toInt) σ)))))))).1 2 = ((((σ.1 2) + 1) + 1) + 1) + 1).trans (by omega)⟩)
theorem fl12_185 : Cond.fieldLink RX12 185 (TX12 0).1 (TX12 0).2.1 (TX12 0).2.2.1 ∈ pWW := pw7 (List.mem_of_getElem? (i := 7) rfl) rfl
theorem ml12_385 : Cond.methodLink RX12 385 yX12_four ∈ pWW := pw8 (List.mem_of_getElem? (i := 32) rfl) rfl
theorem dX12_feed_0 : decode cX12_feed 0 = .ok (.aload_n 0, 1) := by decide +kernel
theorem dX12_feed_1 : decode cX12_feed 1 = .ok (.iconst 0, 1) := by decide +kernel
theorem dX12_feed_2 : decode cX12_feed 2 = .ok (.putfield 185, 3) := by decide +kernel
theorem dX12_feed_5 : decode cX12_feed 5 = .ok (.aload_n 0, 1) := by decide +kernel
theorem dX12_feed_6 : decode cX12_feed 6 = .ok (.getfield 382, 3) := by decide +kernel
theorem dX12_feed_9 : decode cX12_feed 9 = .ok (.bipush 20, 2) := by decide +kernel
theorem dX12_feed_11 : decode cX12_feed 11 = .ok (.iadd, 1) := by decide +kernel
theorem dX12_feed_12 : decode cX12_feed 12 = .ok (.sipush 1200, 3) := by decide +kernel
theorem dX12_feed_15 : decode cX12_feed 15 = .ok (.if_icmp .le 5, 3) := by decide +kernel
theorem dX12_feed_20 : decode cX12_feed 20 = .ok (.aload_n 0, 1) := by decide +kernel
theorem dX12_feed_21 : decode cX12_feed 21 = .ok (.iload_n 1, 1) := by decide +kernel
theorem dX12_feed_22 : decode cX12_feed 22 = .ok (.invokevirtual 385, 3) := by decide +kernel
theorem dX12_feed_25 : decode cX12_feed 25 = .ok (.aload_n 0, 1) := by decide +kernel
theorem dX12_feed_26 : decode cX12_feed 26 = .ok (.iload_n 2, 1) := by decide +kernel
theorem dX12_feed_27 : decode cX12_feed 27 = .ok (.invokevirtual 385, 3) := by decide +kernel
theorem dX12_feed_30 : decode cX12_feed 30 = .ok (.aload_n 0, 1) := by decide +kernel
theorem dX12_feed_31 : decode cX12_feed 31 = .ok (.iload_n 3, 1) := by decide +kernel
theorem dX12_feed_32 : decode cX12_feed 32 = .ok (.invokevirtual 385, 3) := by decide +kernel
theorem dX12_feed_35 : decode cX12_feed 35 = .ok (.aload_n 0, 1) := by decide +kernel
theorem dX12_feed_36 : decode cX12_feed 36 = .ok (.iload 4, 2) := by decide +kernel
theorem dX12_feed_38 : decode cX12_feed 38 = .ok (.invokevirtual 385, 3) := by decide +kernel
theorem dX12_feed_41 : decode cX12_feed 41 = .ok (.aload_n 0, 1) := by decide +kernel
theorem dX12_feed_42 : decode cX12_feed 42 = .ok (.iload 5, 2) := by decide +kernel
theorem dX12_feed_44 : decode cX12_feed 44 = .ok (.invokevirtual 385, 3) := by decide +kernel
theorem dX12_feed_47 : decode cX12_feed 47 = .ok (.aload_n 0, 1) := by decide +kernel
theorem dX12_feed_48 : decode cX12_feed 48 = .ok (.getfield 382, 3) := by decide +kernel
theorem dX12_feed_51 : decode cX12_feed 51 = .ok (.ireturn, 1) := by decide +kernel
theorem dX12_feed_18 : decode cX12_feed 18 = .ok (.iconst (-1), 1) := by decide +kernel
theorem dX12_feed_19 : decode cX12_feed 19 = .ok (.ireturn, 1) := by decide +kernel
set_option maxHeartbeats 4000000 in
set_option maxRecDepth 20000 in
theorem c_X12_feed (d : Nat) {b : Nat} {σ : MS} {x1 : Int} {x2 : Int} {x3 : Int} {x4 : Int} {x5 : Int} (hR : RG σ) (hsz : 0 ≤ σ.1 2 ∧ σ.1 2 ≤ 1200) : Tm (d + 2) m_X12_feed 0 b σ [(0, .ref b), (1, .int (iI x1)), (2, .int (iI x2)), (3, .int (iI x3)), (4, .int (iI x4)), (5, .int (iI x5))] [] (fun ro σ2 => ∃ v : Int, ro = some (.int (iI v)) ∧ (Fr [0, 2] [1] [] σ σ2) ∧ (RG σ2) ∧ (σ.1 2 ≤ 1180 → v = σ.1 2 + 20 ∧ σ2.1 2 = σ.1 2 + 20) ∧ (1180 < σ.1 2 → v = -1 ∧ σ2.1 2 = σ.1 2)) := by
  refine tm_aload_n dX12_feed_0 rfl 0 rfl ?_
  refine tm_iconst dX12_feed_1 ?_
  refine tm_putS (k := 0) (v := 0) lay_12 dX12_feed_2 (by decide) fl12_185 rfl (tyX12_ok 0 (by decide)) rfl rfl rfl ?_
  refine tm_aload_n dX12_feed_5 rfl 0 rfl ?_
  refine tm_getS (k := 2) (t := σ.1 2) dX12_feed_6 (by decide) fl12_382 rfl (rs_o (by decide) (rfl)) ?_
  have g1 := RG.s hR 2
  refine tm_bipush dX12_feed_9 (by decide) ?_
  refine tm_iadd dX12_feed_11 ?_
  refine tm_sipush dX12_feed_12 (by decide) ?_
  refine tm_icmp_le (tgt := 20) dX12_feed_15 (by decide) ⟨by omega, by omega⟩ ⟨by decide, by decide⟩ (fun h2 => ?_) (fun h2 => ?_)
  · refine tm_aload_n dX12_feed_20 rfl 0 rfl ?_
    refine tm_iload_n dX12_feed_21 rfl 1 rfl ?_
    refine tm_callV (M := m_X12_feed) (pc := 22) (ix := 385) (M' := m_X12_four) (As := [.int (iI x1)]) (rest := []) dX12_feed_22 ok_X12_four im_X12_four se_X12_four ml12_385 np_X12_four rfl rfl (Nat.le_of_ble_eq_true rfl) (Nat.le_of_ble_eq_true rfl) rfl (c_X12_four (d) (σ := (sS 0 0 σ)) (x := x1) (hR.S (by omega)) (by have := (rs_o (by decide) (rfl) : (sS 0 0 σ).1 2 = σ.1 2); omega)) (fun r3 σ4 hp => ?_)
    obtain ⟨rfl, f6, f7, f8⟩ := hp
    show Tm _ _ 25 b σ4 [(0, .ref b), (1, .int (iI x1)), (2, .int (iI x2)), (3, .int (iI x3)), (4, .int (iI x4)), (5, .int (iI x5))] [] _
    have e0 : (sS 0 0 σ).1 2 = σ.1 2 := rfl
    refine tm_aload_n dX12_feed_25 rfl 0 rfl ?_
    refine tm_iload_n dX12_feed_26 rfl 2 rfl ?_
    refine tm_callV (M := m_X12_feed) (pc := 27) (ix := 385) (M' := m_X12_four) (As := [.int (iI x2)]) (rest := []) dX12_feed_27 ok_X12_four im_X12_four se_X12_four ml12_385 np_X12_four rfl rfl (Nat.le_of_ble_eq_true rfl) (Nat.le_of_ble_eq_true rfl) rfl (c_X12_four (d) (σ := σ4) (x := x2) f7 (by have := (rfl : σ4.1 2 = σ4.1 2); omega)) (fun r9 σ10 hp => ?_)
    obtain ⟨rfl, f12, f13, f14⟩ := hp
    show Tm _ _ 30 b σ10 [(0, .ref b), (1, .int (iI x1)), (2, .int (iI x2)), (3, .int (iI x3)), (4, .int (iI x4)), (5, .int (iI x5))] [] _
    refine tm_aload_n dX12_feed_30 rfl 0 rfl ?_
    refine tm_iload_n dX12_feed_31 rfl 3 rfl ?_
    refine tm_callV (M := m_X12_feed) (pc := 32) (ix := 385) (M' := m_X12_four) (As := [.int (iI x3)]) (rest := []) dX12_feed_32 ok_X12_four im_X12_four se_X12_four ml12_385 np_X12_four rfl rfl (Nat.le_of_ble_eq_true rfl) (Nat.le_of_ble_eq_true rfl) rfl (c_X12_four (d) (σ := σ10) (x := x3) f13 (by have := (rfl : σ10.1 2 = σ10.1 2); omega)) (fun r15 σ16 hp => ?_)
    obtain ⟨rfl, f18, f19, f20⟩ := hp
    show Tm _ _ 35 b σ16 [(0, .ref b), (1, .int (iI x1)), (2, .int (iI x2)), (3, .int (iI x3)), (4, .int (iI x4)), (5, .int (iI x5))] [] _
    refine tm_aload_n dX12_feed_35 rfl 0 rfl ?_
    refine tm_iload dX12_feed_36 4 rfl ?_
    refine tm_callV (M := m_X12_feed) (pc := 38) (ix := 385) (M' := m_X12_four) (As := [.int (iI x4)]) (rest := []) dX12_feed_38 ok_X12_four im_X12_four se_X12_four ml12_385 np_X12_four rfl rfl (Nat.le_of_ble_eq_true rfl) (Nat.le_of_ble_eq_true rfl) rfl (c_X12_four (d) (σ := σ16) (x := x4) f19 (by have := (rfl : σ16.1 2 = σ16.1 2); omega)) (fun r21 σ22 hp => ?_)
    obtain ⟨rfl, f24, f25, f26⟩ := hp
    show Tm _ _ 41 b σ22 [(0, .ref b), (1, .int (iI x1)), (2, .int (iI x2)), (3, .int (iI x3)), (4, .int (iI x4)), (5, .int (iI x5))] [] _
    refine tm_aload_n dX12_feed_41 rfl 0 rfl ?_
    refine tm_iload dX12_feed_42 5 rfl ?_
    refine tm_callV (M := m_X12_feed) (pc := 44) (ix := 385) (M' := m_X12_four) (As := [.int (iI x5)]) (rest := []) dX12_feed_44 ok_X12_four im_X12_four se_X12_four ml12_385 np_X12_four rfl rfl (Nat.le_of_ble_eq_true rfl) (Nat.le_of_ble_eq_true rfl) rfl (c_X12_four (d) (σ := σ22) (x := x5) f25 (by have := (rfl : σ22.1 2 = σ22.1 2); omega)) (fun r27 σ28 hp => ?_)
    obtain ⟨rfl, f30, f31, f32⟩ := hp
    show Tm _ _ 47 b σ28 [(0, .ref b), (1, .int (iI x1)), (2, .int (iI x2)), (3, .int (iI x3)), (4, .int (iI x4)), (5, .int (iI x5))] [] _
    refine tm_aload_n dX12_feed_47 rfl 0 rfl ?_
    refine tm_getS (k := 2) (t := σ28.1 2) dX12_feed_48 (by decide) fl12_382 rfl (rfl) ?_
    have g33 := RG.s f31 2
    exact tm_iret rfl dX12_feed_51 (⟨_, rfl, ((((((Fr.rfl.S (by decide)).trans (Fr.sub f6 (by decide) (by decide) (by decide))).trans (Fr.sub f12 (by decide) (by decide) (by decide))).trans (Fr.sub f18 (by decide) (by decide) (by decide))).trans (Fr.sub f24 (by decide) (by decide) (by decide))).trans (Fr.sub f30 (by decide) (by decide) (by decide))), f31, by have := (rfl : σ28.1 2 = σ28.1 2); omega, by have := (rfl : σ28.1 2 = σ28.1 2); omega⟩)
  · refine tm_iconst dX12_feed_18 ?_
    exact tm_iret rfl dX12_feed_19 (⟨_, rfl, (Fr.rfl.S (by decide)), (hR.S (by omega)), by have := (rs_o (by decide) (rfl) : (sS 0 0 σ).1 2 = σ.1 2); omega, by have := (rs_o (by decide) (rfl) : (sS 0 0 σ).1 2 = σ.1 2); omega⟩)
theorem dX12_end_0 : decode cX12_end 0 = .ok (.aload_n 0, 1) := by decide +kernel
theorem dX12_end_1 : decode cX12_end 1 = .ok (.iconst 0, 1) := by decide +kernel
theorem dX12_end_2 : decode cX12_end 2 = .ok (.putfield 185, 3) := by decide +kernel
theorem dX12_end_5 : decode cX12_end 5 = .ok (.iload_n 1, 1) := by decide +kernel
theorem dX12_end_6 : decode cX12_end 6 = .ok (.iconst 0, 1) := by decide +kernel
theorem dX12_end_7 : decode cX12_end 7 = .ok (.aload_n 0, 1) := by decide +kernel
theorem dX12_end_8 : decode cX12_end 8 = .ok (.getfield 382, 3) := by decide +kernel
theorem dX12_end_11 : decode cX12_end 11 = .ok (.invokestatic 188, 3) := by decide +kernel
theorem dX12_end_14 : decode cX12_end 14 = .ok (.ifCond .ne 5, 3) := by decide +kernel
theorem dX12_end_19 : decode cX12_end 19 = .ok (.aload_n 0, 1) := by decide +kernel
theorem dX12_end_20 : decode cX12_end 20 = .ok (.iload_n 1, 1) := by decide +kernel
theorem dX12_end_21 : decode cX12_end 21 = .ok (.putfield 382, 3) := by decide +kernel
theorem dX12_end_24 : decode cX12_end 24 = .ok (.iload_n 1, 1) := by decide +kernel
theorem dX12_end_25 : decode cX12_end 25 = .ok (.ireturn, 1) := by decide +kernel
theorem dX12_end_17 : decode cX12_end 17 = .ok (.iconst (-1), 1) := by decide +kernel
theorem dX12_end_18 : decode cX12_end 18 = .ok (.ireturn, 1) := by decide +kernel
set_option maxHeartbeats 4000000 in
set_option maxRecDepth 20000 in
theorem c_X12_end (d : Nat) {b : Nat} {σ : MS} {x : Int} (hR : RG σ) (hsz : 0 ≤ σ.1 2 ∧ σ.1 2 ≤ 1200) (h_x : -2147483648 ≤ x ∧ x ≤ 2147483647) : Tm (d + 2) m_X12_end 0 b σ [(0, .ref b), (1, .int (iI x))] [] (fun ro σ2 => ∃ v : Int, ro = some (.int (iI v)) ∧ (Fr [0, 2] [] [] σ σ2) ∧ (RG σ2) ∧ ((0 ≤ x ∧ x ≤ σ.1 2) → v = x ∧ σ2.1 2 = x) ∧ (¬ (0 ≤ x ∧ x ≤ σ.1 2) → v = -1 ∧ σ2.1 2 = σ.1 2)) := by
  refine tm_aload_n dX12_end_0 rfl 0 rfl ?_
  refine tm_iconst dX12_end_1 ?_
  refine tm_putS (k := 0) (v := 0) lay_12 dX12_end_2 (by decide) fl12_185 rfl (tyX12_ok 0 (by decide)) rfl rfl rfl ?_
  refine tm_iload_n dX12_end_5 rfl 1 rfl ?_
  refine tm_iconst dX12_end_6 ?_
  refine tm_aload_n dX12_end_7 rfl 0 rfl ?_
  refine tm_getS (k := 2) (t := σ.1 2) dX12_end_8 (by decide) fl12_382 rfl (rs_o (by decide) (rfl)) ?_
  have g1 := RG.s hR 2
  refine tm_callS (M := m_X12_end) (pc := 11) (ix := 188) (M' := m_X12_in) (As := [.int (iI x), .int (iI 0), .int (iI (σ.1 2))]) (rest := []) dX12_end_11 ok_X12_in stt_X12_in ml12_188 np_X12_in rfl (Nat.le_of_ble_eq_true rfl) (Nat.le_of_ble_eq_true rfl) rfl (c_X12_in (d) (σ := (sS 0 0 σ)) (x := x) (lo := 0) (hi := σ.1 2) (by omega) (by omega) (by omega)) (fun r2 σ3 hp => ?_)
  obtain ⟨v4, rfl, rfl, f5, f6⟩ := hp
  show Tm _ _ 14 b (sS 0 0 σ) [(0, .ref b), (1, .int (iI x))] [.int (iI v4)] _
  refine tm_if_ne (tgt := 19) dX12_end_14 (by decide) ⟨by omega, by omega⟩ (fun h7 => ?_) (fun h7 => ?_)
  · refine tm_aload_n dX12_end_19 rfl 0 rfl ?_
    refine tm_iload_n dX12_end_20 rfl 1 rfl ?_
    refine tm_putS (k := 2) (v := x) lay_12 dX12_end_21 (by decide) fl12_382 rfl (tyX12_ok 2 (by decide)) rfl rfl rfl ?_
    refine tm_iload_n dX12_end_24 rfl 1 rfl ?_
    exact tm_iret rfl dX12_end_25 (⟨_, rfl, ((Fr.rfl.S (by decide)).S (by decide)), ((hR.S (by omega)).S (by omega)), by have := (rs_eq : (sS 2 x (sS 0 0 σ)).1 2 = x); omega, by have := (rs_eq : (sS 2 x (sS 0 0 σ)).1 2 = x); omega⟩)
  · refine tm_iconst dX12_end_17 ?_
    exact tm_iret rfl dX12_end_18 (⟨_, rfl, (Fr.rfl.S (by decide)), (hR.S (by omega)), by have := (rs_o (by decide) (rfl) : (sS 0 0 σ).1 2 = σ.1 2); omega, by have := (rs_o (by decide) (rfl) : (sS 0 0 σ).1 2 = σ.1 2); omega⟩)
theorem fl12_59 : Cond.fieldLink RX12 59 (TX12 27).1 (TX12 27).2.1 (TX12 27).2.2.1 ∈ pWW := pw7 (List.mem_of_getElem? (i := 34) rfl) rfl
theorem fl12_252 : Cond.fieldLink RX12 252 (TX12 26).1 (TX12 26).2.1 (TX12 26).2.2.1 ∈ pWW := pw7 (List.mem_of_getElem? (i := 33) rfl) rfl
theorem dX12_fault_0 : decode cX12_fault 0 = .ok (.aload_n 0, 1) := by decide +kernel
theorem dX12_fault_1 : decode cX12_fault 1 = .ok (.iconst 0, 1) := by decide +kernel
theorem dX12_fault_2 : decode cX12_fault 2 = .ok (.putfield 185, 3) := by decide +kernel
theorem dX12_fault_5 : decode cX12_fault 5 = .ok (.iload_n 1, 1) := by decide +kernel
theorem dX12_fault_6 : decode cX12_fault 6 = .ok (.ifCond .ne 10, 3) := by decide +kernel
theorem dX12_fault_16 : decode cX12_fault 16 = .ok (.iload_n 1, 1) := by decide +kernel
theorem dX12_fault_17 : decode cX12_fault 17 = .ok (.iconst 1, 1) := by decide +kernel
theorem dX12_fault_18 : decode cX12_fault 18 = .ok (.if_icmp .ne 10, 3) := by decide +kernel
theorem dX12_fault_28 : decode cX12_fault 28 = .ok (.iconst (-1), 1) := by decide +kernel
theorem dX12_fault_29 : decode cX12_fault 29 = .ok (.ireturn, 1) := by decide +kernel
theorem dX12_fault_21 : decode cX12_fault 21 = .ok (.aload_n 0, 1) := by decide +kernel
theorem dX12_fault_22 : decode cX12_fault 22 = .ok (.getfield 59, 3) := by decide +kernel
theorem dX12_fault_25 : decode cX12_fault 25 = .ok (.goto 4, 3) := by decide +kernel
theorem dX12_fault_9 : decode cX12_fault 9 = .ok (.aload_n 0, 1) := by decide +kernel
theorem dX12_fault_10 : decode cX12_fault 10 = .ok (.getfield 252, 3) := by decide +kernel
theorem dX12_fault_13 : decode cX12_fault 13 = .ok (.goto 16, 3) := by decide +kernel
set_option maxHeartbeats 4000000 in
set_option maxRecDepth 20000 in
theorem c_X12_fault (d : Nat) {b : Nat} {σ : MS} {x : Int} (hR : RG σ) (h_x : -2147483648 ≤ x ∧ x ≤ 2147483647) : Tm (d + 1) m_X12_fault 0 b σ [(0, .ref b), (1, .int (iI x))] [] (fun ro σ2 => ∃ v : Int, ro = some (.int (iI v)) ∧ (Fr [0] [] [] σ σ2) ∧ (RG σ2)) := by
  refine tm_aload_n dX12_fault_0 rfl 0 rfl ?_
  refine tm_iconst dX12_fault_1 ?_
  refine tm_putS (k := 0) (v := 0) lay_12 dX12_fault_2 (by decide) fl12_185 rfl (tyX12_ok 0 (by decide)) rfl rfl rfl ?_
  refine tm_iload_n dX12_fault_5 rfl 1 rfl ?_
  refine tm_if_ne (tgt := 16) dX12_fault_6 (by decide) ⟨by omega, by omega⟩ (fun h1 => ?_) (fun h1 => ?_)
  · refine tm_iload_n dX12_fault_16 rfl 1 rfl ?_
    refine tm_iconst dX12_fault_17 ?_
    refine tm_icmp_ne (tgt := 28) dX12_fault_18 (by decide) ⟨by omega, by omega⟩ ⟨by decide, by decide⟩ (fun h2 => ?_) (fun h2 => ?_)
    · refine tm_iconst dX12_fault_28 ?_
      exact tm_iret rfl dX12_fault_29 (⟨_, rfl, (Fr.rfl.S (by decide)), (hR.S (by omega))⟩)
    · refine tm_aload_n dX12_fault_21 rfl 0 rfl ?_
      refine tm_getS (k := 27) (t := σ.1 27) dX12_fault_22 (by decide) fl12_59 rfl (rs_o (by decide) (rfl)) ?_
      have g3 := RG.s hR 27
      refine tm_goto (tgt := 29) dX12_fault_25 (by decide) ?_
      exact tm_iret rfl dX12_fault_29 (⟨_, rfl, (Fr.rfl.S (by decide)), (hR.S (by omega))⟩)
  · refine tm_aload_n dX12_fault_9 rfl 0 rfl ?_
    refine tm_getS (k := 26) (t := σ.1 26) dX12_fault_10 (by decide) fl12_252 rfl (rs_o (by decide) (rfl)) ?_
    have g4 := RG.s hR 26
    refine tm_goto (tgt := 29) dX12_fault_13 (by decide) ?_
    exact tm_iret rfl dX12_fault_29 (⟨_, rfl, (Fr.rfl.S (by decide)), (hR.S (by omega))⟩)
theorem fl12_596 : Cond.fieldLink RX12 596 (TX12 85).1 (TX12 85).2.1 (TX12 85).2.2.1 ∈ pWW := pw7 (List.mem_of_getElem? (i := 90) rfl) rfl
theorem fl12_182 : Cond.fieldLink RX12 182 (TX12 86).1 (TX12 86).2.1 (TX12 86).2.2.1 ∈ pWW := pw7 (List.mem_of_getElem? (i := 91) rfl) rfl
theorem dX12_compared_0 : decode cX12_compared 0 = .ok (.aload_n 0, 1) := by decide +kernel
theorem dX12_compared_1 : decode cX12_compared 1 = .ok (.iconst 0, 1) := by decide +kernel
theorem dX12_compared_2 : decode cX12_compared 2 = .ok (.putfield 185, 3) := by decide +kernel
theorem dX12_compared_5 : decode cX12_compared 5 = .ok (.aload_n 0, 1) := by decide +kernel
theorem dX12_compared_6 : decode cX12_compared 6 = .ok (.getfield 596, 3) := by decide +kernel
theorem dX12_compared_9 : decode cX12_compared 9 = .ok (.ifCond .eq 21, 3) := by decide +kernel
theorem dX12_compared_30 : decode cX12_compared 30 = .ok (.iconst (-1), 1) := by decide +kernel
theorem dX12_compared_31 : decode cX12_compared 31 = .ok (.ireturn, 1) := by decide +kernel
theorem dX12_compared_12 : decode cX12_compared 12 = .ok (.iload_n 1, 1) := by decide +kernel
theorem dX12_compared_13 : decode cX12_compared 13 = .ok (.iconst 0, 1) := by decide +kernel
theorem dX12_compared_14 : decode cX12_compared 14 = .ok (.iconst 2, 1) := by decide +kernel
theorem dX12_compared_15 : decode cX12_compared 15 = .ok (.invokestatic 188, 3) := by decide +kernel
theorem dX12_compared_18 : decode cX12_compared 18 = .ok (.ifCond .eq 12, 3) := by decide +kernel
theorem dX12_compared_21 : decode cX12_compared 21 = .ok (.aload_n 0, 1) := by decide +kernel
theorem dX12_compared_22 : decode cX12_compared 22 = .ok (.getfield 182, 3) := by decide +kernel
theorem dX12_compared_25 : decode cX12_compared 25 = .ok (.iload_n 1, 1) := by decide +kernel
theorem dX12_compared_26 : decode cX12_compared 26 = .ok (.iaload, 1) := by decide +kernel
theorem dX12_compared_27 : decode cX12_compared 27 = .ok (.goto 4, 3) := by decide +kernel
set_option maxHeartbeats 4000000 in
set_option maxRecDepth 20000 in
theorem c_X12_compared (d : Nat) {b : Nat} {σ : MS} {x : Int} (hR : RG σ) (h_x : -2147483648 ≤ x ∧ x ≤ 2147483647) : Tm (d + 2) m_X12_compared 0 b σ [(0, .ref b), (1, .int (iI x))] [] (fun ro σ2 => ∃ v : Int, ro = some (.int (iI v)) ∧ (Fr [0] [] [] σ σ2) ∧ (RG σ2)) := by
  refine tm_aload_n dX12_compared_0 rfl 0 rfl ?_
  refine tm_iconst dX12_compared_1 ?_
  refine tm_putS (k := 0) (v := 0) lay_12 dX12_compared_2 (by decide) fl12_185 rfl (tyX12_ok 0 (by decide)) rfl rfl rfl ?_
  refine tm_aload_n dX12_compared_5 rfl 0 rfl ?_
  refine tm_getS (k := 85) (t := σ.1 85) dX12_compared_6 (by decide) fl12_596 rfl (rs_o (by decide) (rfl)) ?_
  have g1 := RG.s hR 85
  refine tm_if_eq (tgt := 30) dX12_compared_9 (by decide) ⟨by omega, by omega⟩ (fun h2 => ?_) (fun h2 => ?_)
  · refine tm_iconst dX12_compared_30 ?_
    exact tm_iret rfl dX12_compared_31 (⟨_, rfl, (Fr.rfl.S (by decide)), (hR.S (by omega))⟩)
  · refine tm_iload_n dX12_compared_12 rfl 1 rfl ?_
    refine tm_iconst dX12_compared_13 ?_
    refine tm_iconst dX12_compared_14 ?_
    refine tm_callS (M := m_X12_compared) (pc := 15) (ix := 188) (M' := m_X12_in) (As := [.int (iI x), .int (iI 0), .int (iI 2)]) (rest := []) dX12_compared_15 ok_X12_in stt_X12_in ml12_188 np_X12_in rfl (Nat.le_of_ble_eq_true rfl) (Nat.le_of_ble_eq_true rfl) rfl (c_X12_in (d) (σ := (sS 0 0 σ)) (x := x) (lo := 0) (hi := 2) (by omega) (by omega) (by omega)) (fun r3 σ4 hp => ?_)
    obtain ⟨v5, rfl, rfl, f6, f7⟩ := hp
    show Tm _ _ 18 b (sS 0 0 σ) [(0, .ref b), (1, .int (iI x))] [.int (iI v5)] _
    refine tm_if_eq (tgt := 30) dX12_compared_18 (by decide) ⟨by omega, by omega⟩ (fun h8 => ?_) (fun h8 => ?_)
    · refine tm_iconst dX12_compared_30 ?_
      exact tm_iret rfl dX12_compared_31 (⟨_, rfl, (Fr.rfl.S (by decide)), (hR.S (by omega))⟩)
    · refine tm_aload_n dX12_compared_21 rfl 0 rfl ?_
      refine tm_get (k := 86) (v := .ref (b + 1 + 54)) lay_12 dX12_compared_22 (by decide) fl12_182 rfl ?_
      refine tm_iload_n dX12_compared_25 rfl 1 rfl ?_
      refine tm_iald (z := x) (v := σ.2.1 86 x) dX12_compared_26 (show mT[54]? = some (86, 0, 3) from rfl) (by omega) (by omega) (by decide) (ra_S (rfl)) ?_
      have g9 := RG.a hR 86 (x)
      refine tm_goto (tgt := 31) dX12_compared_27 (by decide) ?_
      exact tm_iret rfl dX12_compared_31 (⟨_, rfl, (Fr.rfl.S (by decide)), (hR.S (by omega))⟩)
theorem fl12_397 : Cond.fieldLink RX12 397 (TX12 67).1 (TX12 67).2.1 (TX12 67).2.2.1 ∈ pWW := pw7 (List.mem_of_getElem? (i := 74) rfl) rfl
theorem fl12_161 : Cond.fieldLink RX12 161 (TX12 76).1 (TX12 76).2.1 (TX12 76).2.2.1 ∈ pWW := pw7 (List.mem_of_getElem? (i := 81) rfl) rfl
theorem fl12_164 : Cond.fieldLink RX12 164 (TX12 77).1 (TX12 77).2.1 (TX12 77).2.2.1 ∈ pWW := pw7 (List.mem_of_getElem? (i := 82) rfl) rfl
theorem dX12_printed_0 : decode cX12_printed 0 = .ok (.aload_n 0, 1) := by decide +kernel
theorem dX12_printed_1 : decode cX12_printed 1 = .ok (.iconst 0, 1) := by decide +kernel
theorem dX12_printed_2 : decode cX12_printed 2 = .ok (.putfield 185, 3) := by decide +kernel
theorem dX12_printed_5 : decode cX12_printed 5 = .ok (.aload_n 0, 1) := by decide +kernel
theorem dX12_printed_6 : decode cX12_printed 6 = .ok (.getfield 397, 3) := by decide +kernel
theorem dX12_printed_9 : decode cX12_printed 9 = .ok (.ifCond .eq 33, 3) := by decide +kernel
theorem dX12_printed_42 : decode cX12_printed 42 = .ok (.iconst 0, 1) := by decide +kernel
theorem dX12_printed_43 : decode cX12_printed 43 = .ok (.ireturn, 1) := by decide +kernel
theorem dX12_printed_12 : decode cX12_printed 12 = .ok (.iload_n 1, 1) := by decide +kernel
theorem dX12_printed_13 : decode cX12_printed 13 = .ok (.ifCond .lt 29, 3) := by decide +kernel
theorem dX12_printed_16 : decode cX12_printed 16 = .ok (.iload_n 1, 1) := by decide +kernel
theorem dX12_printed_17 : decode cX12_printed 17 = .ok (.sipush 200, 3) := by decide +kernel
theorem dX12_printed_20 : decode cX12_printed 20 = .ok (.if_icmp .ge 22, 3) := by decide +kernel
theorem dX12_printed_23 : decode cX12_printed 23 = .ok (.iload_n 1, 1) := by decide +kernel
theorem dX12_printed_24 : decode cX12_printed 24 = .ok (.aload_n 0, 1) := by decide +kernel
theorem dX12_printed_25 : decode cX12_printed 25 = .ok (.getfield 161, 3) := by decide +kernel
theorem dX12_printed_28 : decode cX12_printed 28 = .ok (.iconst 0, 1) := by decide +kernel
theorem dX12_printed_29 : decode cX12_printed 29 = .ok (.iaload, 1) := by decide +kernel
theorem dX12_printed_30 : decode cX12_printed 30 = .ok (.if_icmp .ge 12, 3) := by decide +kernel
theorem dX12_printed_33 : decode cX12_printed 33 = .ok (.aload_n 0, 1) := by decide +kernel
theorem dX12_printed_34 : decode cX12_printed 34 = .ok (.getfield 164, 3) := by decide +kernel
theorem dX12_printed_37 : decode cX12_printed 37 = .ok (.iload_n 1, 1) := by decide +kernel
theorem dX12_printed_38 : decode cX12_printed 38 = .ok (.iaload, 1) := by decide +kernel
theorem dX12_printed_39 : decode cX12_printed 39 = .ok (.goto 4, 3) := by decide +kernel
set_option maxHeartbeats 4000000 in
set_option maxRecDepth 20000 in
theorem c_X12_printed (d : Nat) {b : Nat} {σ : MS} {x : Int} (hR : RG σ) (h_x : -2147483648 ≤ x ∧ x ≤ 2147483647) : Tm (d + 1) m_X12_printed 0 b σ [(0, .ref b), (1, .int (iI x))] [] (fun ro σ2 => ∃ v : Int, ro = some (.int (iI v)) ∧ (Fr [0] [] [] σ σ2) ∧ (RG σ2)) := by
  refine tm_aload_n dX12_printed_0 rfl 0 rfl ?_
  refine tm_iconst dX12_printed_1 ?_
  refine tm_putS (k := 0) (v := 0) lay_12 dX12_printed_2 (by decide) fl12_185 rfl (tyX12_ok 0 (by decide)) rfl rfl rfl ?_
  refine tm_aload_n dX12_printed_5 rfl 0 rfl ?_
  refine tm_getS (k := 67) (t := σ.1 67) dX12_printed_6 (by decide) fl12_397 rfl (rs_o (by decide) (rfl)) ?_
  have g1 := RG.s hR 67
  refine tm_if_eq (tgt := 42) dX12_printed_9 (by decide) ⟨by omega, by omega⟩ (fun h2 => ?_) (fun h2 => ?_)
  · refine tm_iconst dX12_printed_42 ?_
    exact tm_iret rfl dX12_printed_43 (⟨_, rfl, (Fr.rfl.S (by decide)), (hR.S (by omega))⟩)
  · refine tm_iload_n dX12_printed_12 rfl 1 rfl ?_
    refine tm_if_lt (tgt := 42) dX12_printed_13 (by decide) ⟨by omega, by omega⟩ (fun h3 => ?_) (fun h3 => ?_)
    · refine tm_iconst dX12_printed_42 ?_
      exact tm_iret rfl dX12_printed_43 (⟨_, rfl, (Fr.rfl.S (by decide)), (hR.S (by omega))⟩)
    · refine tm_iload_n dX12_printed_16 rfl 1 rfl ?_
      refine tm_sipush dX12_printed_17 (by decide) ?_
      refine tm_icmp_ge (tgt := 42) dX12_printed_20 (by decide) ⟨by omega, by omega⟩ ⟨by decide, by decide⟩ (fun h4 => ?_) (fun h4 => ?_)
      · refine tm_iconst dX12_printed_42 ?_
        exact tm_iret rfl dX12_printed_43 (⟨_, rfl, (Fr.rfl.S (by decide)), (hR.S (by omega))⟩)
      · refine tm_iload_n dX12_printed_23 rfl 1 rfl ?_
        refine tm_aload_n dX12_printed_24 rfl 0 rfl ?_
        refine tm_get (k := 76) (v := .ref (b + 1 + 47)) lay_12 dX12_printed_25 (by decide) fl12_161 rfl ?_
        refine tm_iconst dX12_printed_28 ?_
        refine tm_iald (z := 0) (v := σ.2.1 76 0) dX12_printed_29 (show mT[47]? = some (76, 0, 3) from rfl) (by omega) (by omega) (by decide) (ra_S (rfl)) ?_
        have g5 := RG.a hR 76 (0)
        refine tm_icmp_ge (tgt := 42) dX12_printed_30 (by decide) ⟨by omega, by omega⟩ ⟨by omega, by omega⟩ (fun h6 => ?_) (fun h6 => ?_)
        · refine tm_iconst dX12_printed_42 ?_
          exact tm_iret rfl dX12_printed_43 (⟨_, rfl, (Fr.rfl.S (by decide)), (hR.S (by omega))⟩)
        · refine tm_aload_n dX12_printed_33 rfl 0 rfl ?_
          refine tm_get (k := 77) (v := .ref (b + 1 + 48)) lay_12 dX12_printed_34 (by decide) fl12_164 rfl ?_
          refine tm_iload_n dX12_printed_37 rfl 1 rfl ?_
          refine tm_iald (z := x) (v := σ.2.1 77 x) dX12_printed_38 (show mT[48]? = some (77, 0, 600) from rfl) (by omega) (by omega) (by decide) (ra_S (rfl)) ?_
          have g7 := RG.a hR 77 (x)
          refine tm_goto (tgt := 43) dX12_printed_39 (by decide) ?_
          exact tm_iret rfl dX12_printed_43 (⟨_, rfl, (Fr.rfl.S (by decide)), (hR.S (by omega))⟩)
theorem fl12_176 : Cond.fieldLink RX12 176 (TX12 81).1 (TX12 81).2.1 (TX12 81).2.2.1 ∈ pWW := pw7 (List.mem_of_getElem? (i := 86) rfl) rfl
theorem dX12_enterCall_46 : decode cX12_enterCall 46 = .ok (.iload 4, 2) := by decide +kernel
theorem dX12_enterCall_48 : decode cX12_enterCall 48 = .ok (.bipush 12, 2) := by decide +kernel
theorem dX12_enterCall_50 : decode cX12_enterCall 50 = .ok (.if_icmp .ge 22, 3) := by decide +kernel
theorem dX12_enterCall_53 : decode cX12_enterCall 53 = .ok (.aload_n 0, 1) := by decide +kernel
theorem dX12_enterCall_54 : decode cX12_enterCall 54 = .ok (.getfield 176, 3) := by decide +kernel
theorem dX12_enterCall_57 : decode cX12_enterCall 57 = .ok (.bipush 12, 2) := by decide +kernel
theorem dX12_enterCall_59 : decode cX12_enterCall 59 = .ok (.iload_n 3, 1) := by decide +kernel
theorem dX12_enterCall_60 : decode cX12_enterCall 60 = .ok (.imul, 1) := by decide +kernel
theorem dX12_enterCall_61 : decode cX12_enterCall 61 = .ok (.iload 4, 2) := by decide +kernel
theorem dX12_enterCall_63 : decode cX12_enterCall 63 = .ok (.iadd, 1) := by decide +kernel
theorem dX12_enterCall_64 : decode cX12_enterCall 64 = .ok (.iconst 0, 1) := by decide +kernel
theorem dX12_enterCall_65 : decode cX12_enterCall 65 = .ok (.iastore, 1) := by decide +kernel
theorem dX12_enterCall_66 : decode cX12_enterCall 66 = .ok (.iinc 4 1, 3) := by decide +kernel
theorem dX12_enterCall_69 : decode cX12_enterCall 69 = .ok (.goto (-23), 3) := by decide +kernel
set_option maxHeartbeats 4000000 in
set_option maxRecDepth 20000 in
theorem l_enter1 (d : Nat) {b : Nat} {σ0 : MS} {m : Int} {r : Int} {c : Int} {post : Option Value → MS → Prop} (hc : 0 ≤ c ∧ c < 27) (hx_72 : ∀ (f : Int) (σ : MS) , (Fr [] [81] [] σ0 σ) → (RG σ) → Tm (d + 1) m_X12_enterCall 72 b σ [(4, .int (iI f)), (3, .int (iI c)), (0, .ref b), (1, .int (iI m)), (2, .int (iI r))] [] post) : ∀ (n : Nat) (f : Int) (σ : MS) , (Fr [] [81] [] σ0 σ) → (RG σ) → (0 ≤ f ∧ f ≤ 12) → (12 - f).toNat = n → Tm (d + 1) m_X12_enterCall 46 b σ [(4, .int (iI f)), (3, .int (iI c)), (0, .ref b), (1, .int (iI m)), (2, .int (iI r))] [] post := by
  intro n
  induction n using Nat.strongRecOn with
  | _ n ih =>
    intro f σ hF hR h0 hm
    refine tm_iload dX12_enterCall_46 0 rfl ?_
    refine tm_bipush dX12_enterCall_48 (by decide) ?_
    refine tm_icmp_ge (tgt := 72) dX12_enterCall_50 (by decide) ⟨by omega, by omega⟩ ⟨by decide, by decide⟩ (fun h1 => ?_) (fun h1 => ?_)
    · exact tm_sub [0, 1, 2, 3, 4] rfl (hx_72 (f) σ (Fr.rfl.trans (Fr.sub hF (by decide) (by decide) (by decide))) hR)
    · refine tm_aload_n dX12_enterCall_53 rfl 2 rfl ?_
      refine tm_get (k := 81) (v := .ref (b + 1 + 52)) lay_12 dX12_enterCall_54 (by decide) fl12_176 rfl ?_
      refine tm_bipush dX12_enterCall_57 (by decide) ?_
      refine tm_iload_n dX12_enterCall_59 rfl 1 rfl ?_
      refine tm_imul dX12_enterCall_60 ?_
      refine tm_iload dX12_enterCall_61 0 rfl ?_
      refine tm_iadd dX12_enterCall_63 ?_
      refine tm_iconst dX12_enterCall_64 ?_
      refine tm_iast (z := (12 * c) + f) (v := 0) dX12_enterCall_65 (show mT[52]? = some (81, 0, 324) from rfl) (by omega) (by omega) (by decide) ?_
      refine tm_iinc (q0 := 0) (L' := [(4, .int (iI (f + 1))), (3, .int (iI c)), (0, .ref b), (1, .int (iI m)), (2, .int (iI r))]) dX12_enterCall_66 rfl (by decide) rfl ?_
      refine tm_goto (tgt := 46) dX12_enterCall_69 (by decide) ?_
      exact tm_sub [0, 1, 2, 3, 4] rfl (ih _ (by omega) (f + 1) (sA 81 ((12 * c) + f) (0) σ) ((Fr.rfl.trans (Fr.sub hF (by decide) (by decide) (by decide))).A (by decide)) (hR.A (by omega)) (by omega) rfl)
theorem dX12_enterCall_75 : decode cX12_enterCall 75 = .ok (.iload 4, 2) := by decide +kernel
theorem dX12_enterCall_77 : decode cX12_enterCall 77 = .ok (.sipush 192, 3) := by decide +kernel
theorem dX12_enterCall_80 : decode cX12_enterCall 80 = .ok (.if_icmp .ge 23, 3) := by decide +kernel
theorem dX12_enterCall_83 : decode cX12_enterCall 83 = .ok (.aload_n 0, 1) := by decide +kernel
theorem dX12_enterCall_84 : decode cX12_enterCall 84 = .ok (.getfield 179, 3) := by decide +kernel
theorem dX12_enterCall_87 : decode cX12_enterCall 87 = .ok (.sipush 192, 3) := by decide +kernel
theorem dX12_enterCall_90 : decode cX12_enterCall 90 = .ok (.iload_n 3, 1) := by decide +kernel
theorem dX12_enterCall_91 : decode cX12_enterCall 91 = .ok (.imul, 1) := by decide +kernel
theorem dX12_enterCall_92 : decode cX12_enterCall 92 = .ok (.iload 4, 2) := by decide +kernel
theorem dX12_enterCall_94 : decode cX12_enterCall 94 = .ok (.iadd, 1) := by decide +kernel
theorem dX12_enterCall_95 : decode cX12_enterCall 95 = .ok (.iconst 0, 1) := by decide +kernel
theorem dX12_enterCall_96 : decode cX12_enterCall 96 = .ok (.iastore, 1) := by decide +kernel
theorem dX12_enterCall_97 : decode cX12_enterCall 97 = .ok (.iinc 4 1, 3) := by decide +kernel
theorem dX12_enterCall_100 : decode cX12_enterCall 100 = .ok (.goto (-25), 3) := by decide +kernel
set_option maxHeartbeats 4000000 in
set_option maxRecDepth 20000 in
theorem l_enter2 (d : Nat) {b : Nat} {σ0 : MS} {m : Int} {r : Int} {c : Int} {post : Option Value → MS → Prop} (hc : 0 ≤ c ∧ c < 27) (hx_103 : ∀ (f : Int) (σ : MS) , (Fr [] [82] [] σ0 σ) → (RG σ) → Tm (d + 1) m_X12_enterCall 103 b σ [(4, .int (iI f)), (3, .int (iI c)), (0, .ref b), (1, .int (iI m)), (2, .int (iI r))] [] post) : ∀ (n : Nat) (f : Int) (σ : MS) , (Fr [] [82] [] σ0 σ) → (RG σ) → (0 ≤ f ∧ f ≤ 192) → (192 - f).toNat = n → Tm (d + 1) m_X12_enterCall 75 b σ [(4, .int (iI f)), (3, .int (iI c)), (0, .ref b), (1, .int (iI m)), (2, .int (iI r))] [] post := by
  intro n
  induction n using Nat.strongRecOn with
  | _ n ih =>
    intro f σ hF hR h0 hm
    refine tm_iload dX12_enterCall_75 0 rfl ?_
    refine tm_sipush dX12_enterCall_77 (by decide) ?_
    refine tm_icmp_ge (tgt := 103) dX12_enterCall_80 (by decide) ⟨by omega, by omega⟩ ⟨by decide, by decide⟩ (fun h1 => ?_) (fun h1 => ?_)
    · exact tm_sub [0, 1, 2, 3, 4] rfl (hx_103 (f) σ (Fr.rfl.trans (Fr.sub hF (by decide) (by decide) (by decide))) hR)
    · refine tm_aload_n dX12_enterCall_83 rfl 2 rfl ?_
      refine tm_get (k := 82) (v := .ref (b + 1 + 53)) lay_12 dX12_enterCall_84 (by decide) fl12_179 rfl ?_
      refine tm_sipush dX12_enterCall_87 (by decide) ?_
      refine tm_iload_n dX12_enterCall_90 rfl 1 rfl ?_
      refine tm_imul dX12_enterCall_91 ?_
      refine tm_iload dX12_enterCall_92 0 rfl ?_
      refine tm_iadd dX12_enterCall_94 ?_
      refine tm_iconst dX12_enterCall_95 ?_
      refine tm_iast (z := (192 * c) + f) (v := 0) dX12_enterCall_96 (show mT[53]? = some (82, 0, 5184) from rfl) (by omega) (by omega) (by decide) ?_
      refine tm_iinc (q0 := 0) (L' := [(4, .int (iI (f + 1))), (3, .int (iI c)), (0, .ref b), (1, .int (iI m)), (2, .int (iI r))]) dX12_enterCall_97 rfl (by decide) rfl ?_
      refine tm_goto (tgt := 75) dX12_enterCall_100 (by decide) ?_
      exact tm_sub [0, 1, 2, 3, 4] rfl (ih _ (by omega) (f + 1) (sA 82 ((192 * c) + f) (0) σ) ((Fr.rfl.trans (Fr.sub hF (by decide) (by decide) (by decide))).A (by decide)) (hR.A (by omega)) (by omega) rfl)
theorem fl12_152 : Cond.fieldLink RX12 152 (TX12 73).1 (TX12 73).2.1 (TX12 73).2.2.1 ∈ pWW := pw7 (List.mem_of_getElem? (i := 78) rfl) rfl
theorem fl12_167 : Cond.fieldLink RX12 167 (TX12 78).1 (TX12 78).2.1 (TX12 78).2.2.1 ∈ pWW := pw7 (List.mem_of_getElem? (i := 83) rfl) rfl
theorem fl12_170 : Cond.fieldLink RX12 170 (TX12 79).1 (TX12 79).2.1 (TX12 79).2.2.1 ∈ pWW := pw7 (List.mem_of_getElem? (i := 84) rfl) rfl
theorem fl12_173 : Cond.fieldLink RX12 173 (TX12 80).1 (TX12 80).2.1 (TX12 80).2.2.1 ∈ pWW := pw7 (List.mem_of_getElem? (i := 85) rfl) rfl
theorem dX12_enterCall_0 : decode cX12_enterCall 0 = .ok (.bipush 9, 2) := by decide +kernel
theorem dX12_enterCall_2 : decode cX12_enterCall 2 = .ok (.iload_n 1, 1) := by decide +kernel
theorem dX12_enterCall_3 : decode cX12_enterCall 3 = .ok (.imul, 1) := by decide +kernel
theorem dX12_enterCall_4 : decode cX12_enterCall 4 = .ok (.aload_n 0, 1) := by decide +kernel
theorem dX12_enterCall_5 : decode cX12_enterCall 5 = .ok (.getfield 152, 3) := by decide +kernel
theorem dX12_enterCall_8 : decode cX12_enterCall 8 = .ok (.iload_n 1, 1) := by decide +kernel
theorem dX12_enterCall_9 : decode cX12_enterCall 9 = .ok (.iaload, 1) := by decide +kernel
theorem dX12_enterCall_10 : decode cX12_enterCall 10 = .ok (.iadd, 1) := by decide +kernel
theorem dX12_enterCall_11 : decode cX12_enterCall 11 = .ok (.istore_n 3, 1) := by decide +kernel
theorem dX12_enterCall_12 : decode cX12_enterCall 12 = .ok (.aload_n 0, 1) := by decide +kernel
theorem dX12_enterCall_13 : decode cX12_enterCall 13 = .ok (.getfield 152, 3) := by decide +kernel
theorem dX12_enterCall_16 : decode cX12_enterCall 16 = .ok (.iload_n 1, 1) := by decide +kernel
theorem dX12_enterCall_17 : decode cX12_enterCall 17 = .ok (.dup2, 1) := by decide +kernel
theorem dX12_enterCall_18 : decode cX12_enterCall 18 = .ok (.iaload, 1) := by decide +kernel
theorem dX12_enterCall_19 : decode cX12_enterCall 19 = .ok (.iconst 1, 1) := by decide +kernel
theorem dX12_enterCall_20 : decode cX12_enterCall 20 = .ok (.iadd, 1) := by decide +kernel
theorem dX12_enterCall_21 : decode cX12_enterCall 21 = .ok (.iastore, 1) := by decide +kernel
theorem dX12_enterCall_22 : decode cX12_enterCall 22 = .ok (.aload_n 0, 1) := by decide +kernel
theorem dX12_enterCall_23 : decode cX12_enterCall 23 = .ok (.getfield 167, 3) := by decide +kernel
theorem dX12_enterCall_26 : decode cX12_enterCall 26 = .ok (.iload_n 3, 1) := by decide +kernel
theorem dX12_enterCall_27 : decode cX12_enterCall 27 = .ok (.iload_n 2, 1) := by decide +kernel
theorem dX12_enterCall_28 : decode cX12_enterCall 28 = .ok (.iastore, 1) := by decide +kernel
theorem dX12_enterCall_29 : decode cX12_enterCall 29 = .ok (.aload_n 0, 1) := by decide +kernel
theorem dX12_enterCall_30 : decode cX12_enterCall 30 = .ok (.getfield 170, 3) := by decide +kernel
theorem dX12_enterCall_33 : decode cX12_enterCall 33 = .ok (.iload_n 3, 1) := by decide +kernel
theorem dX12_enterCall_34 : decode cX12_enterCall 34 = .ok (.iconst 0, 1) := by decide +kernel
theorem dX12_enterCall_35 : decode cX12_enterCall 35 = .ok (.iastore, 1) := by decide +kernel
theorem dX12_enterCall_36 : decode cX12_enterCall 36 = .ok (.aload_n 0, 1) := by decide +kernel
theorem dX12_enterCall_37 : decode cX12_enterCall 37 = .ok (.getfield 173, 3) := by decide +kernel
theorem dX12_enterCall_40 : decode cX12_enterCall 40 = .ok (.iload_n 3, 1) := by decide +kernel
theorem dX12_enterCall_41 : decode cX12_enterCall 41 = .ok (.iconst 0, 1) := by decide +kernel
theorem dX12_enterCall_42 : decode cX12_enterCall 42 = .ok (.iastore, 1) := by decide +kernel
theorem dX12_enterCall_43 : decode cX12_enterCall 43 = .ok (.iconst 0, 1) := by decide +kernel
theorem dX12_enterCall_44 : decode cX12_enterCall 44 = .ok (.istore 4, 2) := by decide +kernel
theorem dX12_enterCall_72 : decode cX12_enterCall 72 = .ok (.iconst 0, 1) := by decide +kernel
theorem dX12_enterCall_73 : decode cX12_enterCall 73 = .ok (.istore 4, 2) := by decide +kernel
theorem dX12_enterCall_103 : decode cX12_enterCall 103 = .ok (.return_, 1) := by decide +kernel
set_option maxHeartbeats 4000000 in
set_option maxRecDepth 20000 in
theorem c_X12_enterCall (d : Nat) {b : Nat} {σ : MS} {m : Int} {r : Int} (hR : RG σ) (hm : 0 ≤ m ∧ m ≤ 2) (hc : 0 ≤ σ.2.1 73 m ∧ σ.2.1 73 m ≤ 8) (h_r : -2147483648 ≤ r ∧ r ≤ 2147483647) : Tm (d + 1) m_X12_enterCall 0 b σ [(0, .ref b), (1, .int (iI m)), (2, .int (iI r))] [] (fun ro σ2 => ro = none ∧ (Fr [] [73, 78, 79, 80, 81, 82] [] σ σ2) ∧ (RG σ2) ∧ (σ2.2.1 73 m = σ.2.1 73 m + 1) ∧ (σ2.2.1 78 (9 * m + σ.2.1 73 m) = r ∧ σ2.2.1 79 (9 * m + σ.2.1 73 m) = 0 ∧ σ2.2.1 80 (9 * m + σ.2.1 73 m) = 0) ∧ (∀ j, j ≠ m → σ2.2.1 73 j = σ.2.1 73 j) ∧ (∀ j, j ≠ 9 * m + σ.2.1 73 m → σ2.2.1 78 j = σ.2.1 78 j ∧ σ2.2.1 79 j = σ.2.1 79 j ∧ σ2.2.1 80 j = σ.2.1 80 j)) := by
  refine tm_bipush dX12_enterCall_0 (by decide) ?_
  refine tm_iload_n dX12_enterCall_2 rfl 1 rfl ?_
  refine tm_imul dX12_enterCall_3 ?_
  refine tm_aload_n dX12_enterCall_4 rfl 0 rfl ?_
  refine tm_get (k := 73) (v := .ref (b + 1 + 44)) lay_12 dX12_enterCall_5 (by decide) fl12_152 rfl ?_
  refine tm_iload_n dX12_enterCall_8 rfl 1 rfl ?_
  refine tm_iald (z := m) (v := σ.2.1 73 m) dX12_enterCall_9 (show mT[44]? = some (73, 0, 3) from rfl) (by omega) (by omega) (by decide) (rfl) ?_
  have g1 := RG.a hR 73 (m)
  refine tm_iadd dX12_enterCall_10 ?_
  refine tm_istore_n (L' := [(3, .int (iI ((9 * m) + (σ.2.1 73 m)))), (0, .ref b), (1, .int (iI m)), (2, .int (iI r))]) dX12_enterCall_11 rfl (by decide) rfl ?_
  refine tm_aload_n dX12_enterCall_12 rfl 1 rfl ?_
  refine tm_get (k := 73) (v := .ref (b + 1 + 44)) lay_12 dX12_enterCall_13 (by decide) fl12_152 rfl ?_
  refine tm_iload_n dX12_enterCall_16 rfl 2 rfl ?_
  refine tm_dup2 dX12_enterCall_17 rfl rfl ?_
  refine tm_iald (z := m) (v := σ.2.1 73 m) dX12_enterCall_18 (show mT[44]? = some (73, 0, 3) from rfl) (by omega) (by omega) (by decide) (rfl) ?_
  have g2 := RG.a hR 73 (m)
  refine tm_iconst dX12_enterCall_19 ?_
  refine tm_iadd dX12_enterCall_20 ?_
  refine tm_iast (z := m) (v := (σ.2.1 73 m) + 1) dX12_enterCall_21 (show mT[44]? = some (73, 0, 3) from rfl) (by omega) (by omega) (by decide) ?_
  refine tm_aload_n dX12_enterCall_22 rfl 1 rfl ?_
  refine tm_get (k := 78) (v := .ref (b + 1 + 49)) lay_12 dX12_enterCall_23 (by decide) fl12_167 rfl ?_
  refine tm_iload_n dX12_enterCall_26 rfl 0 rfl ?_
  refine tm_iload_n dX12_enterCall_27 rfl 3 rfl ?_
  refine tm_iast (z := (9 * m) + (σ.2.1 73 m)) (v := r) dX12_enterCall_28 (show mT[49]? = some (78, 0, 27) from rfl) (by omega) (by omega) (by decide) ?_
  refine tm_aload_n dX12_enterCall_29 rfl 1 rfl ?_
  refine tm_get (k := 79) (v := .ref (b + 1 + 50)) lay_12 dX12_enterCall_30 (by decide) fl12_170 rfl ?_
  refine tm_iload_n dX12_enterCall_33 rfl 0 rfl ?_
  refine tm_iconst dX12_enterCall_34 ?_
  refine tm_iast (z := (9 * m) + (σ.2.1 73 m)) (v := 0) dX12_enterCall_35 (show mT[50]? = some (79, 0, 27) from rfl) (by omega) (by omega) (by decide) ?_
  refine tm_aload_n dX12_enterCall_36 rfl 1 rfl ?_
  refine tm_get (k := 80) (v := .ref (b + 1 + 51)) lay_12 dX12_enterCall_37 (by decide) fl12_173 rfl ?_
  refine tm_iload_n dX12_enterCall_40 rfl 0 rfl ?_
  refine tm_iconst dX12_enterCall_41 ?_
  refine tm_iast (z := (9 * m) + (σ.2.1 73 m)) (v := 0) dX12_enterCall_42 (show mT[51]? = some (80, 0, 27) from rfl) (by omega) (by omega) (by decide) ?_
  refine tm_iconst dX12_enterCall_43 ?_
  refine tm_istore (L' := [(4, .int (iI 0)), (3, .int (iI ((9 * m) + (σ.2.1 73 m)))), (0, .ref b), (1, .int (iI m)), (2, .int (iI r))]) dX12_enterCall_44 (by decide) rfl ?_
  refine tm_sub [0, 1, 2, 3, 4] rfl (l_enter1 (d) (σ0 := (sA 80 ((9 * m) + (σ.2.1 73 m)) (0) (sA 79 ((9 * m) + (σ.2.1 73 m)) (0) (sA 78 ((9 * m) + (σ.2.1 73 m)) (r) (sA 73 (m) ((σ.2.1 73 m) + 1) σ))))) (m := m) (r := r) (c := (9 * m) + (σ.2.1 73 m)) (by omega) (fun f7 σ8 F5 R6 => ?_) _ (0) (sA 80 ((9 * m) + (σ.2.1 73 m)) (0) (sA 79 ((9 * m) + (σ.2.1 73 m)) (0) (sA 78 ((9 * m) + (σ.2.1 73 m)) (r) (sA 73 (m) ((σ.2.1 73 m) + 1) σ)))) Fr.rfl ((((hR.A (by omega)).A (by omega)).A (by omega)).A (by omega)) (by omega) rfl)
  show Tm _ _ 72 b σ8 [(4, .int (iI f7)), (3, .int (iI ((9 * m) + (σ.2.1 73 m)))), (0, .ref b), (1, .int (iI m)), (2, .int (iI r))] [] _
  refine tm_iconst dX12_enterCall_72 ?_
  refine tm_istore (L' := [(4, .int (iI 0)), (3, .int (iI ((9 * m) + (σ.2.1 73 m)))), (0, .ref b), (1, .int (iI m)), (2, .int (iI r))]) dX12_enterCall_73 (by decide) rfl ?_
  refine tm_sub [0, 1, 2, 3, 4] rfl (l_enter2 (d) (σ0 := σ8) (m := m) (r := r) (c := (9 * m) + (σ.2.1 73 m)) (by omega) (fun f13 σ14 F11 R12 => ?_) _ (0) σ8 Fr.rfl R6 (by omega) rfl)
  show Tm _ _ 103 b σ14 [(4, .int (iI f13)), (3, .int (iI ((9 * m) + (σ.2.1 73 m)))), (0, .ref b), (1, .int (iI m)), (2, .int (iI r))] [] _
  exact tm_vret rfl dX12_enterCall_103 (⟨rfl, ((((((Fr.rfl.A (by decide)).A (by decide)).A (by decide)).A (by decide)).trans (Fr.sub F5 (by decide) (by decide) (by decide))).trans (Fr.sub F11 (by decide) (by decide) (by decide))), R12, ra_F F11 (by decide) (ra_F F5 (by decide) (ra_o (by decide) (ra_o (by decide) (ra_o (by decide) (ra_eq))))), ⟨(ra_F F11 (by decide) (ra_F F5 (by decide) (ra_o (by decide) (ra_o (by decide) (ra_eq))))), (ra_F F11 (by decide) (ra_F F5 (by decide) (ra_o (by decide) (ra_eq)))), (ra_F F11 (by decide) (ra_F F5 (by decide) (ra_eq)))⟩, fun j hj => ra_F F11 (by decide) (ra_F F5 (by decide) (ra_o (by decide) (ra_o (by decide) (ra_o (by decide) (ra_ne hj (rfl)))))), fun j hj => ⟨ra_F F11 (by decide) (ra_F F5 (by decide) (ra_o (by decide) (ra_o (by decide) (ra_ne hj (ra_o (by decide) (rfl)))))), ra_F F11 (by decide) (ra_F F5 (by decide) (ra_o (by decide) (ra_ne hj (ra_o (by decide) (ra_o (by decide) (rfl)))))), ra_F F11 (by decide) (ra_F F5 (by decide) (ra_ne hj (ra_o (by decide) (ra_o (by decide) (ra_o (by decide) (rfl))))))⟩⟩)
