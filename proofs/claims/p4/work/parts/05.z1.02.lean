theorem cd_X1_holdRows : Cond.code yX1_holdRows cX1_holdRows 3 (some .boolean) ∈ pWW := pw4 (List.mem_of_getElem? (i := 39) rfl) rfl
abbrev m_X1_holdRows : MT := (yX1_holdRows, cX1_holdRows, 3, (some .boolean))
theorem ok_X1_holdRows : pOk m_X1_holdRows := ⟨⟨cd_X1_holdRows, ini_1⟩, by decide +kernel, ⟨by decide +kernel, by decide +kernel⟩, Nat.le_of_ble_eq_true rfl⟩
theorem np_X1_holdRows : (parseMethodDescriptor yX1_holdRows.desc).map (fun d => d.parameters.length) = some 1 := by decide +kernel
theorem im_X1_holdRows : Cond.instanceMethod yX1_holdRows ∈ pWW := pw4 (List.mem_of_getElem? (i := 38) rfl) rfl
theorem se_X1_holdRows : Cond.selects RX1 yX1_holdRows yX1_holdRows ∈ pWW := pws (List.mem_map.mpr ⟨_, lw_pin 36 rfl, rfl⟩) rfl
theorem dX1_holdRows_0 : decode cX1_holdRows 0 = .ok (.iload_n 1, 1) := by decide +kernel
theorem dX1_holdRows_1 : decode cX1_holdRows 1 = .ok (.ifCond .lt 10, 3) := by decide +kernel
theorem dX1_holdRows_11 : decode cX1_holdRows 11 = .ok (.iconst 0, 1) := by decide +kernel
theorem dX1_holdRows_12 : decode cX1_holdRows 12 = .ok (.ireturn, 1) := by decide +kernel
theorem dX1_holdRows_4 : decode cX1_holdRows 4 = .ok (.iload_n 1, 1) := by decide +kernel
theorem dX1_holdRows_5 : decode cX1_holdRows 5 = .ok (.sipush 200, 3) := by decide +kernel
theorem dX1_holdRows_8 : decode cX1_holdRows 8 = .ok (.if_icmp .le 5, 3) := by decide +kernel
theorem dX1_holdRows_13 : decode cX1_holdRows 13 = .ok (.iload_n 1, 1) := by decide +kernel
theorem dX1_holdRows_14 : decode cX1_holdRows 14 = .ok (.bipush 13, 2) := by decide +kernel
theorem dX1_holdRows_16 : decode cX1_holdRows 16 = .ok (.imul, 1) := by decide +kernel
theorem dX1_holdRows_17 : decode cX1_holdRows 17 = .ok (.aload_n 0, 1) := by decide +kernel
theorem dX1_holdRows_18 : decode cX1_holdRows 18 = .ok (.getfield 9, 3) := by decide +kernel
theorem dX1_holdRows_21 : decode cX1_holdRows 21 = .ok (.arraylength, 1) := by decide +kernel
theorem dX1_holdRows_22 : decode cX1_holdRows 22 = .ok (.if_icmp .le 36, 3) := by decide +kernel
theorem dX1_holdRows_58 : decode cX1_holdRows 58 = .ok (.iconst 1, 1) := by decide +kernel
theorem dX1_holdRows_59 : decode cX1_holdRows 59 = .ok (.ireturn, 1) := by decide +kernel
theorem dX1_holdRows_25 : decode cX1_holdRows 25 = .ok (.sipush 2600, 3) := by decide +kernel
theorem dX1_holdRows_28 : decode cX1_holdRows 28 = .ok (.iconst 2, 1) := by decide +kernel
theorem dX1_holdRows_29 : decode cX1_holdRows 29 = .ok (.aload_n 0, 1) := by decide +kernel
theorem dX1_holdRows_30 : decode cX1_holdRows 30 = .ok (.getfield 9, 3) := by decide +kernel
theorem dX1_holdRows_33 : decode cX1_holdRows 33 = .ok (.arraylength, 1) := by decide +kernel
theorem dX1_holdRows_34 : decode cX1_holdRows 34 = .ok (.imul, 1) := by decide +kernel
theorem dX1_holdRows_35 : decode cX1_holdRows 35 = .ok (.invokestatic 57, 3) := by decide +kernel
theorem dX1_holdRows_38 : decode cX1_holdRows 38 = .ok (.istore_n 2, 1) := by decide +kernel
theorem dX1_holdRows_39 : decode cX1_holdRows 39 = .ok (.aload_n 0, 1) := by decide +kernel
theorem dX1_holdRows_40 : decode cX1_holdRows 40 = .ok (.aload_n 0, 1) := by decide +kernel
theorem dX1_holdRows_41 : decode cX1_holdRows 41 = .ok (.getfield 9, 3) := by decide +kernel
theorem dX1_holdRows_44 : decode cX1_holdRows 44 = .ok (.iload_n 1, 1) := by decide +kernel
theorem dX1_holdRows_45 : decode cX1_holdRows 45 = .ok (.bipush 13, 2) := by decide +kernel
theorem dX1_holdRows_47 : decode cX1_holdRows 47 = .ok (.imul, 1) := by decide +kernel
theorem dX1_holdRows_48 : decode cX1_holdRows 48 = .ok (.iload_n 2, 1) := by decide +kernel
theorem dX1_holdRows_49 : decode cX1_holdRows 49 = .ok (.invokestatic 63, 3) := by decide +kernel
theorem dX1_holdRows_52 : decode cX1_holdRows 52 = .ok (.invokestatic 66, 3) := by decide +kernel
theorem dX1_holdRows_55 : decode cX1_holdRows 55 = .ok (.putfield 9, 3) := by decide +kernel
set_option maxRecDepth 20000 in
theorem k_X1_holdRows (d : Nat) {T : CT} {σ : MS} {a : Nat} {n : Int} (ha : OB T a 1) (hta : (T a).1 = 50) (h_n : -2147483648 ≤ n ∧ n ≤ 2147483647) (hw : WT T σ) : Tn (d + 2) m_X1_holdRows 0 T σ [(0, .ref a), (1, .int (iI n))] [] (fun ro T2 σ2 => ∃ v : Int, ro = some (.int (iI v)) ∧ WT T2 σ2 ∧ FrC T [5] σ σ2 ∧ (v = 0 ∨ v = 1) ∧ (v = 1 → (0 ≤ n ∧ n ≤ 200) ∧ HR T2 σ2 a n)) := by
  refine tn_iload_n dX1_holdRows_0 rfl 1 rfl ?_
  refine tn_if_lt (tgt := 11) dX1_holdRows_1 (by decide) ⟨by omega, by omega⟩ (fun h1 => ?_) (fun h1 => ?_)
  · refine tn_iconst dX1_holdRows_11 ?_
    exact tn_zret (v := 0) rfl (by decide) dX1_holdRows_12 ⟨_, rfl, hw, FrC.rfl, by omega, fun q => absurd q (by decide)⟩
  · refine tn_iload_n dX1_holdRows_4 rfl 1 rfl ?_
    refine tn_sipush dX1_holdRows_5 (by decide) ?_
    refine tn_icmp_le (tgt := 13) dX1_holdRows_8 (by decide) ⟨by omega, by omega⟩ ⟨by decide, by decide⟩ (fun h2 => ?_) (fun h2 => ?_)
    · refine tn_iload_n dX1_holdRows_13 rfl 1 rfl ?_
      refine tn_bipush dX1_holdRows_14 (by decide) ?_
      refine tn_imul dX1_holdRows_16 ?_
      refine tn_aload_n dX1_holdRows_17 rfl 0 rfl ?_
      obtain ⟨x3, hx4, hl6, hk5a, hk5b⟩ := wf_5 hw ha
      have hk5 : (T x3).1 = 1 := hk5a (by omega)
      clear hk5a hk5b
      have hk5i : IA T x3 := by unfold IA; omega
      refine tn_getR (ci := 1) (i := 0) (n := 5) (x := x3) dX1_holdRows_18 rfl lay_1 (by decide) fl1_9 ha rfl rfl (hx4) ?_
      refine tn_alenX dX1_holdRows_21 (Or.inl hk5i) ?_
      refine tn_icmp_le (tgt := 58) dX1_holdRows_22 (by decide) ⟨by omega, by omega⟩ ⟨by omega, by omega⟩ (fun h7 => ?_) (fun h7 => ?_)
      · refine tn_iconst dX1_holdRows_58 ?_
        exact tn_zret (v := 1) rfl (by decide) dX1_holdRows_59 ⟨_, rfl, hw, FrC.rfl, by omega, fun _ => ⟨⟨by omega, by omega⟩, HR.of (hx4) (by omega)⟩⟩
      · refine tn_sipush dX1_holdRows_25 (by decide) ?_
        refine tn_iconst dX1_holdRows_28 ?_
        refine tn_aload_n dX1_holdRows_29 rfl 0 rfl ?_
        refine tn_getR (ci := 1) (i := 0) (n := 5) (x := x3) dX1_holdRows_30 rfl lay_1 (by decide) fl1_9 ha rfl rfl (hx4) ?_
        refine tn_alenX dX1_holdRows_33 (Or.inl hk5i) ?_
        refine tn_imul dX1_holdRows_34 ?_
        refine tn_mmin (x := 2600) (y := 2 * (((T x3).2 : Int))) dX1_holdRows_35 mlm1_57 stM_min iniM cdM_min (by omega) (Nat.le_of_ble_eq_true rfl) ⟨by omega, by omega⟩ ⟨by omega, by omega⟩ (fun z8 g9 => ?_)
        refine tn_istore_n (L' := [(2, .int (iI z8)), (0, .ref a), (1, .int (iI n))]) dX1_holdRows_38 rfl (by decide) rfl ?_
        refine tn_aload_n dX1_holdRows_39 rfl 1 rfl ?_
        refine tn_aload_n dX1_holdRows_40 rfl 1 rfl ?_
        refine tn_getR (ci := 1) (i := 0) (n := 5) (x := x3) dX1_holdRows_41 rfl lay_1 (by decide) fl1_9 ha rfl rfl (hx4) ?_
        refine tn_iload_n dX1_holdRows_44 rfl 2 rfl ?_
        refine tn_bipush dX1_holdRows_45 (by decide) ?_
        refine tn_imul dX1_holdRows_47 ?_
        refine tn_iload_n dX1_holdRows_48 rfl 0 rfl ?_
        refine tn_mmax (x := n * 13) (y := z8) dX1_holdRows_49 mlm1_63 stM_max iniM cdM_max (by omega) (Nat.le_of_ble_eq_true rfl) ⟨by omega, by omega⟩ ⟨by omega, by omega⟩ (fun z10 g11 => ?_)
        have g23 : 13 * σ.2.1 6 a ≤ ((T x3).2 : Int) ∨ 2600 ≤ (T x3).2 := hw.2.1 a x3 ha hx4
        obtain ⟨N22, N22e⟩ : ∃ N : Nat, z10 = (N : Int) := ⟨(z10).toNat, by omega⟩
        refine tn_callS (M := m_X1_holdRows) (pc := 52) (ix := 66) (M' := m_J7_copyOf_59c91) (As := [.ref x3, .int (iI z10)]) (rest := [.ref a]) dX1_holdRows_52 ok_J7_copyOf_59c91 stt_J7_copyOf_59c91 ml1_66 np_J7_copyOf_59c91 rfl (Nat.le_of_ble_eq_true rfl) (Nat.le_of_ble_eq_true rfl) rfl (k_copyOf (d) (T := T) (σ := σ) (a := x3) (z := z10) (N := N22) hk5i (by omega) (fun i => by exact (hw.2.2.1 x3 (Or.inl hk5i) i)) N22e (by omega) (by omega)) (fun r12 T13 σ14 gt15 hp => ?_)
        obtain ⟨x16, f17, rfl, hx18, hT19, hs20, hf21⟩ := hp
        show Tn _ _ 55 T13 σ14 [(2, .int (iI z8)), (0, .ref a), (1, .int (iI n))] [.ref x16, .ref a] _
        have ob32 := ha
        replace ha : OB T13 a 1 := gt15.ob ha
        replace hta : (T13 a).1 = 50 := gt15.kk hta (by decide) (by decide)
        refine tn_putV (ci := 1) (i := 0) (n := 5) (r := true) (v := (x16 : Int)) tyX1 tyX1_ok nmX1 dX1_holdRows_55 rfl lay_1 (by decide) fl1_9 rfl (tyX1_ok 0 (by decide)) (vl_ref rfl).symm rfl rfl (gt15.ob ob32) rfl rfl ?_
        obtain ⟨σ24, h25⟩ : ∃ s, s = (sA 5 a (x16 : Int) σ14) := ⟨_, rfl⟩
        rw [← h25]
        have w26 : WT T13 σ24 := by
          rw [h25, hs20, hT19]
          exact WTx.app (hw.wx) ob32 (hx4) hx18 hf21 ⟨by omega, by omega⟩ (by omega) (by omega) (by rw [show σ.2.1 6 a = σ.2.1 6 a from rfl]; omega)
        have F27 : FrC T [5] σ σ24 := by
          rw [h25, hs20]
          exact FrC.put (FrC.row (FrC.gh FrC.rfl) (hk_no (by unfold NH HT; omega))) (by decide) (by decide)
        have c28 : σ24.2.1 6 a = σ.2.1 6 a := by rw [h25, hs20]; exact rc_o (by decide) (rc_r (Or.inl (by decide)) (rfl))
        have q29 : σ24.2.1 5 a = (x16 : Int) := by rw [h25]; exact ra_eq
        have l30 : (T13 x16).2 = N22 := by rw [hT19, tT_eq]
        obtain ⟨cx31, cx31i⟩ := cell_of w26 (gt15.ob ob32) q29
        have cx31t : (T13 x16).1 = 1 := cx31.1 (by omega)
        show Tn _ _ 58 T13 σ24 [(2, .int (iI z8)), (0, .ref a), (1, .int (iI n))] [] _
        refine tn_iconst dX1_holdRows_58 ?_
        exact tn_zret (v := 1) rfl (by decide) dX1_holdRows_59 ⟨_, rfl, w26, (FrC.rfl.trans (FrC.sub F27 (by decide))), by omega, fun _ => ⟨⟨by omega, by omega⟩, HR.of (q29) (by omega)⟩⟩
    · refine tn_iconst dX1_holdRows_11 ?_
      exact tn_zret (v := 0) rfl (by decide) dX1_holdRows_12 ⟨_, rfl, hw, FrC.rfl, by omega, fun q => absurd q (by decide)⟩
