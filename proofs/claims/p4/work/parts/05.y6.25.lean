theorem cd_X1_liftRow : Cond.code yX1_liftRow cX1_liftRow 3 none ∈ pWW := pw5 (List.mem_of_getElem? (i := 121) rfl) rfl
abbrev m_X1_liftRow : MT := (yX1_liftRow, cX1_liftRow, 3, none)
theorem ok_X1_liftRow : pOk m_X1_liftRow := ⟨⟨cd_X1_liftRow, ini_1⟩, by decide +kernel, ⟨by decide +kernel, by decide +kernel⟩, Nat.le_of_ble_eq_true rfl⟩
theorem np_X1_liftRow : (parseMethodDescriptor yX1_liftRow.desc).map (fun d => d.parameters.length) = some 2 := by decide +kernel
theorem im_X1_liftRow : Cond.instanceMethod yX1_liftRow ∈ pWW := pw5 (List.mem_of_getElem? (i := 119) rfl) rfl
theorem se_X1_liftRow : Cond.selects RX1 yX1_liftRow yX1_liftRow ∈ pWW := pw5 (List.mem_of_getElem? (i := 120) rfl) rfl
theorem fl1_30 : Cond.fieldLink RX1 30 (TX1 11).1 (TX1 11).2.1 (TX1 11).2.2.1 ∈ pWW := pw1 (List.mem_of_getElem? (i := 127) rfl) rfl
theorem dX1_liftRow_0 : decode cX1_liftRow 0 = .ok (.iload_n 2, 1) := by decide +kernel
theorem dX1_liftRow_1 : decode cX1_liftRow 1 = .ok (.ifCond .lt 31, 3) := by decide +kernel
theorem dX1_liftRow_32 : decode cX1_liftRow 32 = .ok (.return_, 1) := by decide +kernel
theorem dX1_liftRow_4 : decode cX1_liftRow 4 = .ok (.iload_n 2, 1) := by decide +kernel
theorem dX1_liftRow_5 : decode cX1_liftRow 5 = .ok (.iload_n 1, 1) := by decide +kernel
theorem dX1_liftRow_6 : decode cX1_liftRow 6 = .ok (.if_icmp .gt 26, 3) := by decide +kernel
theorem dX1_liftRow_9 : decode cX1_liftRow 9 = .ok (.iload_n 1, 1) := by decide +kernel
theorem dX1_liftRow_10 : decode cX1_liftRow 10 = .ok (.aload_n 0, 1) := by decide +kernel
theorem dX1_liftRow_11 : decode cX1_liftRow 11 = .ok (.getfield 33, 3) := by decide +kernel
theorem dX1_liftRow_14 : decode cX1_liftRow 14 = .ok (.if_icmp .ge 18, 3) := by decide +kernel
theorem dX1_liftRow_17 : decode cX1_liftRow 17 = .ok (.aload_n 0, 1) := by decide +kernel
theorem dX1_liftRow_18 : decode cX1_liftRow 18 = .ok (.getfield 33, 3) := by decide +kernel
theorem dX1_liftRow_21 : decode cX1_liftRow 21 = .ok (.bipush 13, 2) := by decide +kernel
theorem dX1_liftRow_23 : decode cX1_liftRow 23 = .ok (.imul, 1) := by decide +kernel
theorem dX1_liftRow_24 : decode cX1_liftRow 24 = .ok (.aload_n 0, 1) := by decide +kernel
theorem dX1_liftRow_25 : decode cX1_liftRow 25 = .ok (.getfield 9, 3) := by decide +kernel
theorem dX1_liftRow_28 : decode cX1_liftRow 28 = .ok (.arraylength, 1) := by decide +kernel
theorem dX1_liftRow_29 : decode cX1_liftRow 29 = .ok (.if_icmp .le 4, 3) := by decide +kernel
theorem dX1_liftRow_33 : decode cX1_liftRow 33 = .ok (.aload_n 0, 1) := by decide +kernel
theorem dX1_liftRow_34 : decode cX1_liftRow 34 = .ok (.getfield 9, 3) := by decide +kernel
theorem dX1_liftRow_37 : decode cX1_liftRow 37 = .ok (.iload_n 1, 1) := by decide +kernel
theorem dX1_liftRow_38 : decode cX1_liftRow 38 = .ok (.bipush 13, 2) := by decide +kernel
theorem dX1_liftRow_40 : decode cX1_liftRow 40 = .ok (.imul, 1) := by decide +kernel
theorem dX1_liftRow_41 : decode cX1_liftRow 41 = .ok (.aload_n 0, 1) := by decide +kernel
theorem dX1_liftRow_42 : decode cX1_liftRow 42 = .ok (.getfield 30, 3) := by decide +kernel
theorem dX1_liftRow_45 : decode cX1_liftRow 45 = .ok (.iconst 0, 1) := by decide +kernel
theorem dX1_liftRow_46 : decode cX1_liftRow 46 = .ok (.bipush 13, 2) := by decide +kernel
theorem dX1_liftRow_48 : decode cX1_liftRow 48 = .ok (.invokestatic 80, 3) := by decide +kernel
theorem dX1_liftRow_51 : decode cX1_liftRow 51 = .ok (.aload_n 0, 1) := by decide +kernel
theorem dX1_liftRow_52 : decode cX1_liftRow 52 = .ok (.getfield 9, 3) := by decide +kernel
theorem dX1_liftRow_55 : decode cX1_liftRow 55 = .ok (.iload_n 2, 1) := by decide +kernel
theorem dX1_liftRow_56 : decode cX1_liftRow 56 = .ok (.bipush 13, 2) := by decide +kernel
theorem dX1_liftRow_58 : decode cX1_liftRow 58 = .ok (.imul, 1) := by decide +kernel
theorem dX1_liftRow_59 : decode cX1_liftRow 59 = .ok (.aload_n 0, 1) := by decide +kernel
theorem dX1_liftRow_60 : decode cX1_liftRow 60 = .ok (.getfield 9, 3) := by decide +kernel
theorem dX1_liftRow_63 : decode cX1_liftRow 63 = .ok (.iload_n 2, 1) := by decide +kernel
theorem dX1_liftRow_64 : decode cX1_liftRow 64 = .ok (.iconst 1, 1) := by decide +kernel
theorem dX1_liftRow_65 : decode cX1_liftRow 65 = .ok (.iadd, 1) := by decide +kernel
theorem dX1_liftRow_66 : decode cX1_liftRow 66 = .ok (.bipush 13, 2) := by decide +kernel
theorem dX1_liftRow_68 : decode cX1_liftRow 68 = .ok (.imul, 1) := by decide +kernel
theorem dX1_liftRow_69 : decode cX1_liftRow 69 = .ok (.iload_n 1, 1) := by decide +kernel
theorem dX1_liftRow_70 : decode cX1_liftRow 70 = .ok (.iload_n 2, 1) := by decide +kernel
theorem dX1_liftRow_71 : decode cX1_liftRow 71 = .ok (.isub, 1) := by decide +kernel
theorem dX1_liftRow_72 : decode cX1_liftRow 72 = .ok (.bipush 13, 2) := by decide +kernel
theorem dX1_liftRow_74 : decode cX1_liftRow 74 = .ok (.imul, 1) := by decide +kernel
theorem dX1_liftRow_75 : decode cX1_liftRow 75 = .ok (.invokestatic 80, 3) := by decide +kernel
theorem dX1_liftRow_78 : decode cX1_liftRow 78 = .ok (.aload_n 0, 1) := by decide +kernel
theorem dX1_liftRow_79 : decode cX1_liftRow 79 = .ok (.getfield 30, 3) := by decide +kernel
theorem dX1_liftRow_82 : decode cX1_liftRow 82 = .ok (.iconst 0, 1) := by decide +kernel
theorem dX1_liftRow_83 : decode cX1_liftRow 83 = .ok (.aload_n 0, 1) := by decide +kernel
theorem dX1_liftRow_84 : decode cX1_liftRow 84 = .ok (.getfield 9, 3) := by decide +kernel
theorem dX1_liftRow_87 : decode cX1_liftRow 87 = .ok (.iload_n 2, 1) := by decide +kernel
theorem dX1_liftRow_88 : decode cX1_liftRow 88 = .ok (.bipush 13, 2) := by decide +kernel
theorem dX1_liftRow_90 : decode cX1_liftRow 90 = .ok (.imul, 1) := by decide +kernel
theorem dX1_liftRow_91 : decode cX1_liftRow 91 = .ok (.bipush 13, 2) := by decide +kernel
theorem dX1_liftRow_93 : decode cX1_liftRow 93 = .ok (.invokestatic 80, 3) := by decide +kernel
theorem dX1_liftRow_96 : decode cX1_liftRow 96 = .ok (.return_, 1) := by decide +kernel
set_option maxRecDepth 20000 in
theorem k_X1_liftRow (d : Nat) {T : CT} {σ : MS} {a : Nat} {f : Int} {t : Int} (ha : OB T a 1) (hta : (T a).1 = 50) (h_f : -2147483648 ≤ f ∧ f ≤ 2147483647) (h_t : -2147483648 ≤ t ∧ t ≤ 2147483647) (hw : WT T σ) : Tn (d + 1) m_X1_liftRow 0 T σ [(0, .ref a), (1, .int (iI f)), (2, .int (iI t))] [] (fun ro T2 σ2 => ro = none ∧ T = T2 ∧ WT T2 σ2 ∧ FrC T [] σ σ2) := by
  refine tn_iload_n dX1_liftRow_0 rfl 2 rfl ?_
  refine tn_if_lt (tgt := 32) dX1_liftRow_1 (by decide) ⟨by omega, by omega⟩ (fun h1 => ?_) (fun h1 => ?_)
  · exact tn_vret rfl dX1_liftRow_32 ⟨rfl, rfl, hw, FrC.rfl⟩
  · refine tn_iload_n dX1_liftRow_4 rfl 2 rfl ?_
    refine tn_iload_n dX1_liftRow_5 rfl 1 rfl ?_
    refine tn_icmp_gt (tgt := 32) dX1_liftRow_6 (by decide) ⟨by omega, by omega⟩ ⟨by omega, by omega⟩ (fun h2 => ?_) (fun h2 => ?_)
    · exact tn_vret rfl dX1_liftRow_32 ⟨rfl, rfl, hw, FrC.rfl⟩
    · refine tn_iload_n dX1_liftRow_9 rfl 1 rfl ?_
      refine tn_aload_n dX1_liftRow_10 rfl 0 rfl ?_
      refine tn_getI (ci := 1) (i := 1) (n := 6) (t := σ.2.1 6 a) dX1_liftRow_11 rfl lay_1 (by decide) fl1_33 ha rfl rfl (rfl) ?_
      have g3 : ((0 : Int) ≤ σ.2.1 6 a ∧ σ.2.1 6 a ≤ 5000) ∧ ((T a).1 = 50 → σ.2.1 6 a ≤ 200) := wf_6 hw ha
      have g3x := g3.2
      replace g3 := g3.1
      have g3x := g3x hta
      refine tn_icmp_ge (tgt := 32) dX1_liftRow_14 (by decide) ⟨by omega, by omega⟩ ⟨by omega, by omega⟩ (fun h4 => ?_) (fun h4 => ?_)
      · exact tn_vret rfl dX1_liftRow_32 ⟨rfl, rfl, hw, FrC.rfl⟩
      · refine tn_aload_n dX1_liftRow_17 rfl 0 rfl ?_
        refine tn_getI (ci := 1) (i := 1) (n := 6) (t := σ.2.1 6 a) dX1_liftRow_18 rfl lay_1 (by decide) fl1_33 ha rfl rfl (rfl) ?_
        refine tn_bipush dX1_liftRow_21 (by decide) ?_
        refine tn_imul dX1_liftRow_23 ?_
        refine tn_aload_n dX1_liftRow_24 rfl 0 rfl ?_
        obtain ⟨x5, hx6, hl8, hk7a, hk7b⟩ := wf_5 hw ha
        have hk7 : (T x5).1 = 1 := hk7a (by omega)
        clear hk7a hk7b
        have hk7i : IA T x5 := by unfold IA; omega
        refine tn_getR (ci := 1) (i := 0) (n := 5) (x := x5) dX1_liftRow_25 rfl lay_1 (by decide) fl1_9 ha rfl rfl (hx6) ?_
        refine tn_alenX dX1_liftRow_28 (Or.inl hk7i) ?_
        refine tn_icmp_le (tgt := 33) dX1_liftRow_29 (by decide) ⟨by omega, by omega⟩ ⟨by omega, by omega⟩ (fun h9 => ?_) (fun h9 => ?_)
        · refine tn_aload_n dX1_liftRow_33 rfl 0 rfl ?_
          refine tn_getR (ci := 1) (i := 0) (n := 5) (x := x5) dX1_liftRow_34 rfl lay_1 (by decide) fl1_9 ha rfl rfl (hx6) ?_
          refine tn_iload_n dX1_liftRow_37 rfl 1 rfl ?_
          refine tn_bipush dX1_liftRow_38 (by decide) ?_
          refine tn_imul dX1_liftRow_40 ?_
          refine tn_aload_n dX1_liftRow_41 rfl 0 rfl ?_
          obtain ⟨x10, hx11, hk12, hl13⟩ : ∃ x : Nat, σ.2.1 16 a = (x : Int) ∧ AR T x 1 13 13 := wf_16 hw ha
          have hk12i : IA T x10 := by unfold IA; omega
          refine tn_getR (ci := 1) (i := 11) (n := 16) (x := x10) dX1_liftRow_42 rfl lay_1 (by decide) fl1_30 ha rfl rfl (hx11) ?_
          refine tn_iconst dX1_liftRow_45 ?_
          refine tn_bipush dX1_liftRow_46 (by decide) ?_
          refine tn_acopyI (a := x5) (b := x10) (sp := f * 13) (dp := 0) (n := 13) dX1_liftRow_48 mla1_80 acNat acSt acIni hk7i hk12i ⟨by omega, by omega⟩ (by omega) (by omega) (by omega) (by omega) (by omega) (by omega) (Nat.le_of_ble_eq_true rfl) ?_
          refine tn_aload_n dX1_liftRow_51 rfl 0 rfl ?_
          refine tn_getR (ci := 1) (i := 0) (n := 5) (x := x5) dX1_liftRow_52 rfl lay_1 (by decide) fl1_9 ha rfl rfl (rc_r (Or.inl (by decide)) (hx6)) ?_
          refine tn_iload_n dX1_liftRow_55 rfl 2 rfl ?_
          refine tn_bipush dX1_liftRow_56 (by decide) ?_
          refine tn_imul dX1_liftRow_58 ?_
          refine tn_aload_n dX1_liftRow_59 rfl 0 rfl ?_
          refine tn_getR (ci := 1) (i := 0) (n := 5) (x := x5) dX1_liftRow_60 rfl lay_1 (by decide) fl1_9 ha rfl rfl (rc_r (Or.inl (by decide)) (hx6)) ?_
          refine tn_iload_n dX1_liftRow_63 rfl 2 rfl ?_
          refine tn_iconst dX1_liftRow_64 ?_
          refine tn_iadd dX1_liftRow_65 ?_
          refine tn_bipush dX1_liftRow_66 (by decide) ?_
          refine tn_imul dX1_liftRow_68 ?_
          refine tn_iload_n dX1_liftRow_69 rfl 1 rfl ?_
          refine tn_iload_n dX1_liftRow_70 rfl 2 rfl ?_
          refine tn_isub dX1_liftRow_71 ?_
          refine tn_bipush dX1_liftRow_72 (by decide) ?_
          refine tn_imul dX1_liftRow_74 ?_
          refine tn_acopyI (a := x5) (b := x5) (sp := t * 13) (dp := (t + 1) * 13) (n := (f - t) * 13) dX1_liftRow_75 mla1_80 acNat acSt acIni hk7i hk7i ⟨by omega, by omega⟩ (by omega) (by omega) (by omega) (by omega) (by omega) (by omega) (Nat.le_of_ble_eq_true rfl) ?_
          refine tn_aload_n dX1_liftRow_78 rfl 0 rfl ?_
          refine tn_getR (ci := 1) (i := 11) (n := 16) (x := x10) dX1_liftRow_79 rfl lay_1 (by decide) fl1_30 ha rfl rfl (rc_r (Or.inl (by decide)) (rc_r (Or.inl (by decide)) (hx11))) ?_
          refine tn_iconst dX1_liftRow_82 ?_
          refine tn_aload_n dX1_liftRow_83 rfl 0 rfl ?_
          refine tn_getR (ci := 1) (i := 0) (n := 5) (x := x5) dX1_liftRow_84 rfl lay_1 (by decide) fl1_9 ha rfl rfl (rc_r (Or.inl (by decide)) (rc_r (Or.inl (by decide)) (hx6))) ?_
          refine tn_iload_n dX1_liftRow_87 rfl 2 rfl ?_
          refine tn_bipush dX1_liftRow_88 (by decide) ?_
          refine tn_imul dX1_liftRow_90 ?_
          refine tn_bipush dX1_liftRow_91 (by decide) ?_
          refine tn_acopyI (a := x10) (b := x5) (sp := 0) (dp := t * 13) (n := 13) dX1_liftRow_93 mla1_80 acNat acSt acIni hk12i hk7i ⟨by omega, by omega⟩ (by omega) (by omega) (by omega) (by omega) (by omega) (by omega) (Nat.le_of_ble_eq_true rfl) ?_
          exact tn_vret rfl dX1_liftRow_96 ⟨rfl, rfl, (((hw.row (Or.inl hk12i) (vok_cp1 hw hk7i hk12i (by have q9 := hk12; omega))).row (Or.inl hk7i) (vok_cp1 (hw.row (Or.inl hk12i) (vok_cp1 hw hk7i hk12i (by have q9 := hk12; omega))) hk7i hk7i (by have q9 := hk7; omega))).row (Or.inl hk7i) (vok_cp1 ((hw.row (Or.inl hk12i) (vok_cp1 hw hk7i hk12i (by have q9 := hk12; omega))).row (Or.inl hk7i) (vok_cp1 (hw.row (Or.inl hk12i) (vok_cp1 hw hk7i hk12i (by have q9 := hk12; omega))) hk7i hk7i (by have q9 := hk7; omega))) hk12i hk7i (by have q9 := hk7; omega))), (((FrC.rfl.row (hk_no (nh_k hk12 (by unfold HT; omega)))).row (hk_no (nh_k hk7 (by unfold HT; omega)))).row (hk_no (nh_k hk7 (by unfold HT; omega))))⟩
        · exact tn_vret rfl dX1_liftRow_32 ⟨rfl, rfl, hw, FrC.rfl⟩
