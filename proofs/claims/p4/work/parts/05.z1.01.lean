theorem cd_X1_append : Cond.code yX1_append cX1_append 5 none ∈ pWW := pw3 (List.mem_of_getElem? (i := 128) rfl) rfl
abbrev m_X1_append : MT := (yX1_append, cX1_append, 5, none)
theorem ok_X1_append : pOk m_X1_append := ⟨⟨cd_X1_append, ini_1⟩, by decide +kernel, ⟨by decide +kernel, by decide +kernel⟩, Nat.le_of_ble_eq_true rfl⟩
theorem np_X1_append : (parseMethodDescriptor yX1_append.desc).map (fun d => d.parameters.length) = some 3 := by decide +kernel
theorem im_X1_append : Cond.instanceMethod yX1_append ∈ pWW := pw3 (List.mem_of_getElem? (i := 126) rfl) rfl
theorem se_X1_append : Cond.selects RX1 yX1_append yX1_append ∈ pWW := pw3 (List.mem_of_getElem? (i := 127) rfl) rfl
theorem ml1_72 : Cond.methodLink RX1 72 yJ7_fill_fda19 ∈ pWW := pw3 (List.mem_of_getElem? (i := 144) rfl) rfl
theorem mlm1_57 : Cond.methodLink RX1 57 Lib.Math.min.name ∈ pWW := pw3 (List.mem_of_getElem? (i := 129) rfl) rfl
theorem ml1_66 : Cond.methodLink RX1 66 yJ7_copyOf_59c91 ∈ pWW := pw3 (List.mem_of_getElem? (i := 130) rfl) rfl
theorem dX1_append_0 : decode cX1_append 0 = .ok (.aload_n 0, 1) := by decide +kernel
theorem dX1_append_1 : decode cX1_append 1 = .ok (.getfield 33, 3) := by decide +kernel
theorem dX1_append_4 : decode cX1_append 4 = .ok (.bipush 13, 2) := by decide +kernel
theorem dX1_append_6 : decode cX1_append 6 = .ok (.imul, 1) := by decide +kernel
theorem dX1_append_7 : decode cX1_append 7 = .ok (.istore 4, 2) := by decide +kernel
theorem dX1_append_9 : decode cX1_append 9 = .ok (.aload_n 0, 1) := by decide +kernel
theorem dX1_append_10 : decode cX1_append 10 = .ok (.dup, 1) := by decide +kernel
theorem dX1_append_11 : decode cX1_append 11 = .ok (.getfield 33, 3) := by decide +kernel
theorem dX1_append_14 : decode cX1_append 14 = .ok (.iconst 1, 1) := by decide +kernel
theorem dX1_append_15 : decode cX1_append 15 = .ok (.iadd, 1) := by decide +kernel
theorem dX1_append_16 : decode cX1_append 16 = .ok (.putfield 33, 3) := by decide +kernel
theorem dX1_append_19 : decode cX1_append 19 = .ok (.iload 4, 2) := by decide +kernel
theorem dX1_append_21 : decode cX1_append 21 = .ok (.bipush 13, 2) := by decide +kernel
theorem dX1_append_23 : decode cX1_append 23 = .ok (.iadd, 1) := by decide +kernel
theorem dX1_append_24 : decode cX1_append 24 = .ok (.aload_n 0, 1) := by decide +kernel
theorem dX1_append_25 : decode cX1_append 25 = .ok (.getfield 9, 3) := by decide +kernel
theorem dX1_append_28 : decode cX1_append 28 = .ok (.arraylength, 1) := by decide +kernel
theorem dX1_append_29 : decode cX1_append 29 = .ok (.if_icmp .le 37, 3) := by decide +kernel
theorem dX1_append_66 : decode cX1_append 66 = .ok (.iload 4, 2) := by decide +kernel
theorem dX1_append_68 : decode cX1_append 68 = .ok (.ifCond .lt 61, 3) := by decide +kernel
theorem dX1_append_71 : decode cX1_append 71 = .ok (.iload 4, 2) := by decide +kernel
theorem dX1_append_73 : decode cX1_append 73 = .ok (.bipush 13, 2) := by decide +kernel
theorem dX1_append_75 : decode cX1_append 75 = .ok (.iadd, 1) := by decide +kernel
theorem dX1_append_76 : decode cX1_append 76 = .ok (.aload_n 0, 1) := by decide +kernel
theorem dX1_append_77 : decode cX1_append 77 = .ok (.getfield 9, 3) := by decide +kernel
theorem dX1_append_80 : decode cX1_append 80 = .ok (.arraylength, 1) := by decide +kernel
theorem dX1_append_81 : decode cX1_append 81 = .ok (.if_icmp .gt 48, 3) := by decide +kernel
theorem dX1_append_129 : decode cX1_append 129 = .ok (.return_, 1) := by decide +kernel
theorem dX1_append_84 : decode cX1_append 84 = .ok (.aload_n 0, 1) := by decide +kernel
theorem dX1_append_85 : decode cX1_append 85 = .ok (.getfield 9, 3) := by decide +kernel
theorem dX1_append_88 : decode cX1_append 88 = .ok (.iload 4, 2) := by decide +kernel
theorem dX1_append_90 : decode cX1_append 90 = .ok (.iload 4, 2) := by decide +kernel
theorem dX1_append_92 : decode cX1_append 92 = .ok (.bipush 13, 2) := by decide +kernel
theorem dX1_append_94 : decode cX1_append 94 = .ok (.iadd, 1) := by decide +kernel
theorem dX1_append_95 : decode cX1_append 95 = .ok (.iconst 0, 1) := by decide +kernel
theorem dX1_append_96 : decode cX1_append 96 = .ok (.invokestatic 72, 3) := by decide +kernel
theorem dX1_append_99 : decode cX1_append 99 = .ok (.aload_n 0, 1) := by decide +kernel
theorem dX1_append_100 : decode cX1_append 100 = .ok (.getfield 9, 3) := by decide +kernel
theorem dX1_append_103 : decode cX1_append 103 = .ok (.iload 4, 2) := by decide +kernel
theorem dX1_append_105 : decode cX1_append 105 = .ok (.iconst 0, 1) := by decide +kernel
theorem dX1_append_106 : decode cX1_append 106 = .ok (.iadd, 1) := by decide +kernel
theorem dX1_append_107 : decode cX1_append 107 = .ok (.iload_n 1, 1) := by decide +kernel
theorem dX1_append_108 : decode cX1_append 108 = .ok (.iastore, 1) := by decide +kernel
theorem dX1_append_109 : decode cX1_append 109 = .ok (.aload_n 0, 1) := by decide +kernel
theorem dX1_append_110 : decode cX1_append 110 = .ok (.getfield 9, 3) := by decide +kernel
theorem dX1_append_113 : decode cX1_append 113 = .ok (.iload 4, 2) := by decide +kernel
theorem dX1_append_115 : decode cX1_append 115 = .ok (.iconst 1, 1) := by decide +kernel
theorem dX1_append_116 : decode cX1_append 116 = .ok (.iadd, 1) := by decide +kernel
theorem dX1_append_117 : decode cX1_append 117 = .ok (.iload_n 2, 1) := by decide +kernel
theorem dX1_append_118 : decode cX1_append 118 = .ok (.iastore, 1) := by decide +kernel
theorem dX1_append_119 : decode cX1_append 119 = .ok (.aload_n 0, 1) := by decide +kernel
theorem dX1_append_120 : decode cX1_append 120 = .ok (.getfield 9, 3) := by decide +kernel
theorem dX1_append_123 : decode cX1_append 123 = .ok (.iload 4, 2) := by decide +kernel
theorem dX1_append_125 : decode cX1_append 125 = .ok (.iconst 2, 1) := by decide +kernel
theorem dX1_append_126 : decode cX1_append 126 = .ok (.iadd, 1) := by decide +kernel
theorem dX1_append_127 : decode cX1_append 127 = .ok (.iload_n 3, 1) := by decide +kernel
theorem dX1_append_128 : decode cX1_append 128 = .ok (.iastore, 1) := by decide +kernel
theorem dX1_append_32 : decode cX1_append 32 = .ok (.aload_n 0, 1) := by decide +kernel
theorem dX1_append_33 : decode cX1_append 33 = .ok (.getfield 33, 3) := by decide +kernel
theorem dX1_append_36 : decode cX1_append 36 = .ok (.sipush 200, 3) := by decide +kernel
theorem dX1_append_39 : decode cX1_append 39 = .ok (.if_icmp .gt 27, 3) := by decide +kernel
theorem dX1_append_42 : decode cX1_append 42 = .ok (.aload_n 0, 1) := by decide +kernel
theorem dX1_append_43 : decode cX1_append 43 = .ok (.aload_n 0, 1) := by decide +kernel
theorem dX1_append_44 : decode cX1_append 44 = .ok (.getfield 9, 3) := by decide +kernel
theorem dX1_append_47 : decode cX1_append 47 = .ok (.sipush 2600, 3) := by decide +kernel
theorem dX1_append_50 : decode cX1_append 50 = .ok (.iconst 2, 1) := by decide +kernel
theorem dX1_append_51 : decode cX1_append 51 = .ok (.aload_n 0, 1) := by decide +kernel
theorem dX1_append_52 : decode cX1_append 52 = .ok (.getfield 9, 3) := by decide +kernel
theorem dX1_append_55 : decode cX1_append 55 = .ok (.arraylength, 1) := by decide +kernel
theorem dX1_append_56 : decode cX1_append 56 = .ok (.imul, 1) := by decide +kernel
theorem dX1_append_57 : decode cX1_append 57 = .ok (.invokestatic 57, 3) := by decide +kernel
theorem dX1_append_60 : decode cX1_append 60 = .ok (.invokestatic 66, 3) := by decide +kernel
theorem dX1_append_63 : decode cX1_append 63 = .ok (.putfield 9, 3) := by decide +kernel
set_option maxRecDepth 20000 in
theorem k_X1_append (d : Nat) {T : CT} {σ : MS} {a : Nat} {k : Int} {x : Int} {y : Int} (ha : OB T a 1) (hta : (T a).1 = 31) (h_k : -2147483648 ≤ k ∧ k ≤ 2147483647) (h_x : -2147483648 ≤ x ∧ x ≤ 2147483647) (h_y : -2147483648 ≤ y ∧ y ≤ 2147483647) (hw : WT T σ) (hc : σ.2.1 6 a ≤ 4999) (hk : k ≠ 14 ∧ k ≠ 15) : Tn (d + 3) m_X1_append 0 T σ [(0, .ref a), (1, .int (iI k)), (2, .int (iI x)), (3, .int (iI y))] [] (fun ro T2 σ2 => ro = none ∧ WT T2 σ2 ∧ FrC T [5, 6] σ σ2 ∧ (σ2.2.1 6 a = σ.2.1 6 a + 1)) := by
  refine tn_aload_n dX1_append_0 rfl 0 rfl ?_
  refine tn_getI (ci := 1) (i := 1) (n := 6) (t := σ.2.1 6 a) dX1_append_1 rfl lay_1 (by decide) fl1_33 ha rfl rfl (rfl) ?_
  have g1 : ((0 : Int) ≤ σ.2.1 6 a ∧ σ.2.1 6 a ≤ 5000) ∧ ((T a).1 = 50 → σ.2.1 6 a ≤ 200) := wf_6 hw ha
  have g1x := g1.2
  replace g1 := g1.1
  clear g1x
  refine tn_bipush dX1_append_4 (by decide) ?_
  refine tn_imul dX1_append_6 ?_
  refine tn_istore (L' := [(4, .int (iI ((σ.2.1 6 a) * 13))), (0, .ref a), (1, .int (iI k)), (2, .int (iI x)), (3, .int (iI y))]) dX1_append_7 (by decide) rfl ?_
  refine tn_aload_n dX1_append_9 rfl 1 rfl ?_
  refine tn_dup dX1_append_10 rfl ?_
  refine tn_getI (ci := 1) (i := 1) (n := 6) (t := σ.2.1 6 a) dX1_append_11 rfl lay_1 (by decide) fl1_33 ha rfl rfl (rfl) ?_
  refine tn_iconst dX1_append_14 ?_
  refine tn_iadd dX1_append_15 ?_
  obtain ⟨x2, hx3, hl5, hk4a, hk4b⟩ := wf_5 hw ha
  have hk4 : (T x2).1 = 13 := hk4b (by omega)
  clear hk4a hk4b
  have hk4i : IA T x2 := by unfold IA; omega
  have g6 : 13 * σ.2.1 6 a ≤ ((T x2).2 : Int) ∨ 2600 ≤ (T x2).2 := hw.2.1 a x2 ha hx3
  refine tn_putV (ci := 1) (i := 1) (n := 6) (r := false) (v := (σ.2.1 6 a) + 1) tyX1 tyX1_ok nmX1 dX1_append_16 rfl lay_1 (by decide) fl1_33 rfl (tyX1_ok 1 (by decide)) rfl rfl rfl ha rfl rfl ?_
  refine tn_iload dX1_append_19 0 rfl ?_
  refine tn_bipush dX1_append_21 (by decide) ?_
  refine tn_iadd dX1_append_23 ?_
  refine tn_aload_n dX1_append_24 rfl 1 rfl ?_
  refine tn_getR (ci := 1) (i := 0) (n := 5) (x := x2) dX1_append_25 rfl lay_1 (by decide) fl1_9 ha rfl rfl (rc_o (by decide) (hx3)) ?_
  refine tn_alenX dX1_append_28 (Or.inl hk4i) ?_
  refine tn_icmp_le (tgt := 66) dX1_append_29 (by decide) ⟨by omega, by omega⟩ ⟨by omega, by omega⟩ (fun h7 => ?_) (fun h7 => ?_)
  · refine tn_iload dX1_append_66 0 rfl ?_
    refine tn_if_lt (tgt := 129) dX1_append_68 (by decide) ⟨by omega, by omega⟩ (fun h8 => absurd h8 (by omega)) (fun h8 => ?_)
    refine tn_iload dX1_append_71 0 rfl ?_
    refine tn_bipush dX1_append_73 (by decide) ?_
    refine tn_iadd dX1_append_75 ?_
    refine tn_aload_n dX1_append_76 rfl 1 rfl ?_
    refine tn_getR (ci := 1) (i := 0) (n := 5) (x := x2) dX1_append_77 rfl lay_1 (by decide) fl1_9 ha rfl rfl (rc_o (by decide) (hx3)) ?_
    refine tn_alenX dX1_append_80 (Or.inl hk4i) ?_
    refine tn_icmp_gt (tgt := 129) dX1_append_81 (by decide) ⟨by omega, by omega⟩ ⟨by omega, by omega⟩ (fun h9 => ?_) (fun h9 => ?_)
    · have q10 : (sA 6 a ((σ.2.1 6 a) + 1) σ).2.1 6 a = (σ.2.1 6 a) + 1 := ra_eq
      exact tn_vret rfl dX1_append_129 ⟨rfl, (hw.put6 (hx3) (fo_6 ⟨by omega, by omega⟩) (by omega)), (FrC.rfl.put (by decide) (by decide)), by omega⟩
    · refine tn_aload_n dX1_append_84 rfl 1 rfl ?_
      refine tn_getR (ci := 1) (i := 0) (n := 5) (x := x2) dX1_append_85 rfl lay_1 (by decide) fl1_9 ha rfl rfl (rc_o (by decide) (hx3)) ?_
      refine tn_iload dX1_append_88 0 rfl ?_
      refine tn_iload dX1_append_90 0 rfl ?_
      refine tn_bipush dX1_append_92 (by decide) ?_
      refine tn_iadd dX1_append_94 ?_
      refine tn_iconst dX1_append_95 ?_
      refine tn_callS (M := m_X1_append) (pc := 96) (ix := 72) (M' := m_J7_fill_fda19) (As := [.ref x2, .int (iI ((σ.2.1 6 a) * 13)), .int (iI (((σ.2.1 6 a) * 13) + 13)), .int (iI 0)]) (rest := []) dX1_append_96 ok_J7_fill_fda19 stt_J7_fill_fda19 ml1_72 np_J7_fill_fda19 rfl (Nat.le_of_ble_eq_true rfl) (Nat.le_of_ble_eq_true rfl) rfl (k_J7_fill_fda19 (d) (T := T) (σ := (sA 6 a ((σ.2.1 6 a) + 1) σ)) (x := x2) (f := (σ.2.1 6 a) * 13) (t := ((σ.2.1 6 a) * 13) + 13) (y := 0) hk4i (by omega) (by omega) (by omega) (by decide) (hw.put6 (hx3) (fo_6 ⟨by omega, by omega⟩) (by omega)) (nh_k hk4 (by unfold HT; omega)) (by omega) (by omega)) (fun r11 T13 σ12 gt14 hp => ?_)
      obtain ⟨rfl, rfl, w16, F17⟩ := hp
      clear gt14
      show Tn _ _ 99 T σ12 [(4, .int (iI ((σ.2.1 6 a) * 13))), (0, .ref a), (1, .int (iI k)), (2, .int (iI x)), (3, .int (iI y))] [] _
      refine tn_aload_n dX1_append_99 rfl 1 rfl ?_
      refine tn_getR (ci := 1) (i := 0) (n := 5) (x := x2) dX1_append_100 rfl lay_1 (by decide) fl1_9 ha rfl rfl (rc_F F17 (Or.inl (by decide)) (by decide) (rc_o (by decide) (hx3))) ?_
      refine tn_iload dX1_append_103 0 rfl ?_
      refine tn_iconst dX1_append_105 ?_
      refine tn_iadd dX1_append_106 ?_
      refine tn_iload_n dX1_append_107 rfl 2 rfl ?_
      refine tn_iast (z := ((σ.2.1 6 a) * 13) + 0) (v := k) dX1_append_108 hk4i (by omega) (by omega) (by omega) ?_
      refine tn_aload_n dX1_append_109 rfl 1 rfl ?_
      refine tn_getR (ci := 1) (i := 0) (n := 5) (x := x2) dX1_append_110 rfl lay_1 (by decide) fl1_9 ha rfl rfl (rc_a (Or.inl (by decide)) (rc_F F17 (Or.inl (by decide)) (by decide) (rc_o (by decide) (hx3)))) ?_
      refine tn_iload dX1_append_113 0 rfl ?_
      refine tn_iconst dX1_append_115 ?_
      refine tn_iadd dX1_append_116 ?_
      refine tn_iload_n dX1_append_117 rfl 3 rfl ?_
      refine tn_iast (z := ((σ.2.1 6 a) * 13) + 1) (v := x) dX1_append_118 hk4i (by omega) (by omega) (by omega) ?_
      refine tn_aload_n dX1_append_119 rfl 1 rfl ?_
      refine tn_getR (ci := 1) (i := 0) (n := 5) (x := x2) dX1_append_120 rfl lay_1 (by decide) fl1_9 ha rfl rfl (rc_a (Or.inl (by decide)) (rc_a (Or.inl (by decide)) (rc_F F17 (Or.inl (by decide)) (by decide) (rc_o (by decide) (hx3))))) ?_
      refine tn_iload dX1_append_123 0 rfl ?_
      refine tn_iconst dX1_append_125 ?_
      refine tn_iadd dX1_append_126 ?_
      refine tn_iload_n dX1_append_127 rfl 4 rfl ?_
      refine tn_iast (z := ((σ.2.1 6 a) * 13) + 2) (v := y) dX1_append_128 hk4i (by omega) (by omega) (by omega) ?_
      have q18 : (sA (1000 + x2) (((σ.2.1 6 a) * 13) + 2) (y) (sA (1000 + x2) (((σ.2.1 6 a) * 13) + 1) (x) (sA (1000 + x2) (((σ.2.1 6 a) * 13) + 0) (k) σ12))).2.1 6 a = (σ.2.1 6 a) + 1 := rc_a (Or.inl (by decide)) (rc_a (Or.inl (by decide)) (rc_a (Or.inl (by decide)) (rc_F F17 (Or.inl (by decide)) (by decide) (ra_eq))))
      exact tn_vret rfl dX1_append_129 ⟨rfl, (((w16.arr (Or.inl hk4i) (vok_13 (by have q9 := hk4; omega) (by omega) (fun _ q => by omega))).arr (Or.inl hk4i) (vok_13 (by have q9 := hk4; omega) (by omega) (fun _ q => by omega))).arr (Or.inl hk4i) (vok_13 (by have q9 := hk4; omega) (by omega) (fun _ q => by omega))), (((((FrC.rfl.put (by decide) (by decide)).trans (FrC.sub F17 (by decide))).arr (hk_no (nh_k hk4 (by unfold HT; omega)))).arr (hk_no (nh_k hk4 (by unfold HT; omega)))).arr (hk_no (nh_k hk4 (by unfold HT; omega)))), by omega⟩
  · refine tn_aload_n dX1_append_32 rfl 1 rfl ?_
    refine tn_getI (ci := 1) (i := 1) (n := 6) (t := (σ.2.1 6 a) + 1) dX1_append_33 rfl lay_1 (by decide) fl1_33 ha rfl rfl (ra_eq) ?_
    refine tn_sipush dX1_append_36 (by decide) ?_
    refine tn_icmp_gt (tgt := 66) dX1_append_39 (by decide) ⟨by omega, by omega⟩ ⟨by decide, by decide⟩ (fun h19 => ?_) (fun h19 => ?_)
    · refine tn_iload dX1_append_66 0 rfl ?_
      refine tn_if_lt (tgt := 129) dX1_append_68 (by decide) ⟨by omega, by omega⟩ (fun h20 => absurd h20 (by omega)) (fun h20 => ?_)
      refine tn_iload dX1_append_71 0 rfl ?_
      refine tn_bipush dX1_append_73 (by decide) ?_
      refine tn_iadd dX1_append_75 ?_
      refine tn_aload_n dX1_append_76 rfl 1 rfl ?_
      refine tn_getR (ci := 1) (i := 0) (n := 5) (x := x2) dX1_append_77 rfl lay_1 (by decide) fl1_9 ha rfl rfl (rc_o (by decide) (hx3)) ?_
      refine tn_alenX dX1_append_80 (Or.inl hk4i) ?_
      refine tn_icmp_gt (tgt := 129) dX1_append_81 (by decide) ⟨by omega, by omega⟩ ⟨by omega, by omega⟩ (fun h21 => ?_) (fun h21 => ?_)
      · have q22 : (sA 6 a ((σ.2.1 6 a) + 1) σ).2.1 6 a = (σ.2.1 6 a) + 1 := ra_eq
        exact tn_vret rfl dX1_append_129 ⟨rfl, (hw.put6 (hx3) (fo_6 ⟨by omega, by omega⟩) (by omega)), (FrC.rfl.put (by decide) (by decide)), by omega⟩
      · refine tn_aload_n dX1_append_84 rfl 1 rfl ?_
        refine tn_getR (ci := 1) (i := 0) (n := 5) (x := x2) dX1_append_85 rfl lay_1 (by decide) fl1_9 ha rfl rfl (rc_o (by decide) (hx3)) ?_
        refine tn_iload dX1_append_88 0 rfl ?_
        refine tn_iload dX1_append_90 0 rfl ?_
        refine tn_bipush dX1_append_92 (by decide) ?_
        refine tn_iadd dX1_append_94 ?_
        refine tn_iconst dX1_append_95 ?_
        refine tn_callS (M := m_X1_append) (pc := 96) (ix := 72) (M' := m_J7_fill_fda19) (As := [.ref x2, .int (iI ((σ.2.1 6 a) * 13)), .int (iI (((σ.2.1 6 a) * 13) + 13)), .int (iI 0)]) (rest := []) dX1_append_96 ok_J7_fill_fda19 stt_J7_fill_fda19 ml1_72 np_J7_fill_fda19 rfl (Nat.le_of_ble_eq_true rfl) (Nat.le_of_ble_eq_true rfl) rfl (k_J7_fill_fda19 (d) (T := T) (σ := (sA 6 a ((σ.2.1 6 a) + 1) σ)) (x := x2) (f := (σ.2.1 6 a) * 13) (t := ((σ.2.1 6 a) * 13) + 13) (y := 0) hk4i (by omega) (by omega) (by omega) (by decide) (hw.put6 (hx3) (fo_6 ⟨by omega, by omega⟩) (by omega)) (nh_k hk4 (by unfold HT; omega)) (by omega) (by omega)) (fun r23 T25 σ24 gt26 hp => ?_)
        obtain ⟨rfl, rfl, w28, F29⟩ := hp
        clear gt26
        show Tn _ _ 99 T σ24 [(4, .int (iI ((σ.2.1 6 a) * 13))), (0, .ref a), (1, .int (iI k)), (2, .int (iI x)), (3, .int (iI y))] [] _
        refine tn_aload_n dX1_append_99 rfl 1 rfl ?_
        refine tn_getR (ci := 1) (i := 0) (n := 5) (x := x2) dX1_append_100 rfl lay_1 (by decide) fl1_9 ha rfl rfl (rc_F F29 (Or.inl (by decide)) (by decide) (rc_o (by decide) (hx3))) ?_
        refine tn_iload dX1_append_103 0 rfl ?_
        refine tn_iconst dX1_append_105 ?_
        refine tn_iadd dX1_append_106 ?_
        refine tn_iload_n dX1_append_107 rfl 2 rfl ?_
        refine tn_iast (z := ((σ.2.1 6 a) * 13) + 0) (v := k) dX1_append_108 hk4i (by omega) (by omega) (by omega) ?_
        refine tn_aload_n dX1_append_109 rfl 1 rfl ?_
        refine tn_getR (ci := 1) (i := 0) (n := 5) (x := x2) dX1_append_110 rfl lay_1 (by decide) fl1_9 ha rfl rfl (rc_a (Or.inl (by decide)) (rc_F F29 (Or.inl (by decide)) (by decide) (rc_o (by decide) (hx3)))) ?_
        refine tn_iload dX1_append_113 0 rfl ?_
        refine tn_iconst dX1_append_115 ?_
        refine tn_iadd dX1_append_116 ?_
        refine tn_iload_n dX1_append_117 rfl 3 rfl ?_
        refine tn_iast (z := ((σ.2.1 6 a) * 13) + 1) (v := x) dX1_append_118 hk4i (by omega) (by omega) (by omega) ?_
        refine tn_aload_n dX1_append_119 rfl 1 rfl ?_
        refine tn_getR (ci := 1) (i := 0) (n := 5) (x := x2) dX1_append_120 rfl lay_1 (by decide) fl1_9 ha rfl rfl (rc_a (Or.inl (by decide)) (rc_a (Or.inl (by decide)) (rc_F F29 (Or.inl (by decide)) (by decide) (rc_o (by decide) (hx3))))) ?_
        refine tn_iload dX1_append_123 0 rfl ?_
        refine tn_iconst dX1_append_125 ?_
        refine tn_iadd dX1_append_126 ?_
        refine tn_iload_n dX1_append_127 rfl 4 rfl ?_
        refine tn_iast (z := ((σ.2.1 6 a) * 13) + 2) (v := y) dX1_append_128 hk4i (by omega) (by omega) (by omega) ?_
        have q30 : (sA (1000 + x2) (((σ.2.1 6 a) * 13) + 2) (y) (sA (1000 + x2) (((σ.2.1 6 a) * 13) + 1) (x) (sA (1000 + x2) (((σ.2.1 6 a) * 13) + 0) (k) σ24))).2.1 6 a = (σ.2.1 6 a) + 1 := rc_a (Or.inl (by decide)) (rc_a (Or.inl (by decide)) (rc_a (Or.inl (by decide)) (rc_F F29 (Or.inl (by decide)) (by decide) (ra_eq))))
        exact tn_vret rfl dX1_append_129 ⟨rfl, (((w28.arr (Or.inl hk4i) (vok_13 (by have q9 := hk4; omega) (by omega) (fun _ q => by omega))).arr (Or.inl hk4i) (vok_13 (by have q9 := hk4; omega) (by omega) (fun _ q => by omega))).arr (Or.inl hk4i) (vok_13 (by have q9 := hk4; omega) (by omega) (fun _ q => by omega))), (((((FrC.rfl.put (by decide) (by decide)).trans (FrC.sub F29 (by decide))).arr (hk_no (nh_k hk4 (by unfold HT; omega)))).arr (hk_no (nh_k hk4 (by unfold HT; omega)))).arr (hk_no (nh_k hk4 (by unfold HT; omega)))), by omega⟩
    · refine tn_aload_n dX1_append_42 rfl 1 rfl ?_
      refine tn_aload_n dX1_append_43 rfl 1 rfl ?_
      refine tn_getR (ci := 1) (i := 0) (n := 5) (x := x2) dX1_append_44 rfl lay_1 (by decide) fl1_9 ha rfl rfl (rc_o (by decide) (hx3)) ?_
      refine tn_sipush dX1_append_47 (by decide) ?_
      refine tn_iconst dX1_append_50 ?_
      refine tn_aload_n dX1_append_51 rfl 1 rfl ?_
      refine tn_getR (ci := 1) (i := 0) (n := 5) (x := x2) dX1_append_52 rfl lay_1 (by decide) fl1_9 ha rfl rfl (rc_o (by decide) (hx3)) ?_
      refine tn_alenX dX1_append_55 (Or.inl hk4i) ?_
      refine tn_imul dX1_append_56 ?_
      refine tn_mmin (x := 2600) (y := 2 * (((T x2).2 : Int))) dX1_append_57 mlm1_57 stM_min iniM cdM_min (by omega) (Nat.le_of_ble_eq_true rfl) ⟨by omega, by omega⟩ ⟨by omega, by omega⟩ (fun z31 g32 => ?_)
      obtain ⟨N43, N43e⟩ : ∃ N : Nat, z31 = (N : Int) := ⟨(z31).toNat, by omega⟩
      refine tn_callS (M := m_X1_append) (pc := 60) (ix := 66) (M' := m_J7_copyOf_59c91) (As := [.ref x2, .int (iI z31)]) (rest := [.ref a]) dX1_append_60 ok_J7_copyOf_59c91 stt_J7_copyOf_59c91 ml1_66 np_J7_copyOf_59c91 rfl (Nat.le_of_ble_eq_true rfl) (Nat.le_of_ble_eq_true rfl) rfl (k_copyOf (d + 1) (T := T) (σ := (sA 6 a ((σ.2.1 6 a) + 1) σ)) (a := x2) (z := z31) (N := N43) hk4i (by omega) (fun i => by rw [sA_k (by omega)]; exact (hw.2.2.1 x2 (Or.inl hk4i) i)) N43e (by omega) (by omega)) (fun r33 T34 σ35 gt36 hp => ?_)
      obtain ⟨x37, f38, rfl, hx39, hT40, hs41, hf42⟩ := hp
      show Tn _ _ 63 T34 σ35 [(4, .int (iI ((σ.2.1 6 a) * 13))), (0, .ref a), (1, .int (iI k)), (2, .int (iI x)), (3, .int (iI y))] [.ref x37, .ref a] _
      have ob52 := ha
      replace ha : OB T34 a 1 := gt36.ob ha
      replace hta : (T34 a).1 = 31 := gt36.kk hta (by decide) (by decide)
      refine tn_putV (ci := 1) (i := 0) (n := 5) (r := true) (v := (x37 : Int)) tyX1 tyX1_ok nmX1 dX1_append_63 rfl lay_1 (by decide) fl1_9 rfl (tyX1_ok 0 (by decide)) (vl_ref rfl).symm rfl rfl (gt36.ob ob52) rfl rfl ?_
      obtain ⟨σ44, h45⟩ : ∃ s, s = (sA 5 a (x37 : Int) σ35) := ⟨_, rfl⟩
      rw [← h45]
      have w46 : WT T34 σ44 := by
        rw [h45, hs41, hT40]
        exact WTx.app (hw.put6x (fo_6 ⟨by omega, by omega⟩)) ob52 (rc_o (by decide) (hx3)) hx39 hf42 ⟨by omega, by omega⟩ (by omega) (by omega) (by rw [show (sA 6 a ((σ.2.1 6 a) + 1) σ).2.1 6 a = (σ.2.1 6 a) + 1 from ra_eq]; omega)
      have F47 : FrC T [5, 6] σ σ44 := by
        rw [h45, hs41]
        exact FrC.put (FrC.row (FrC.gh (FrC.rfl.put (by decide) (by decide))) (hk_no (by unfold NH HT; omega))) (by decide) (by decide)
      have c48 : σ44.2.1 6 a = (σ.2.1 6 a) + 1 := by rw [h45, hs41]; exact rc_o (by decide) (rc_r (Or.inl (by decide)) (ra_eq))
      have q49 : σ44.2.1 5 a = (x37 : Int) := by rw [h45]; exact ra_eq
      have l50 : (T34 x37).2 = N43 := by rw [hT40, tT_eq]
      obtain ⟨cx51, cx51i⟩ := cell_of w46 (gt36.ob ob52) q49
      have cx51t : (T34 x37).1 = 13 := cx51.2 (by omega)
      show Tn _ _ 66 T34 σ44 [(4, .int (iI ((σ.2.1 6 a) * 13))), (0, .ref a), (1, .int (iI k)), (2, .int (iI x)), (3, .int (iI y))] [] _
      refine tn_iload dX1_append_66 0 rfl ?_
      refine tn_if_lt (tgt := 129) dX1_append_68 (by decide) ⟨by omega, by omega⟩ (fun h53 => absurd h53 (by omega)) (fun h53 => ?_)
      refine tn_iload dX1_append_71 0 rfl ?_
      refine tn_bipush dX1_append_73 (by decide) ?_
      refine tn_iadd dX1_append_75 ?_
      refine tn_aload_n dX1_append_76 rfl 1 rfl ?_
      refine tn_getR (ci := 1) (i := 0) (n := 5) (x := x37) dX1_append_77 rfl lay_1 (by decide) fl1_9 ha rfl rfl (q49) ?_
      refine tn_alenX dX1_append_80 (Or.inl cx51i) ?_
      refine tn_icmp_gt (tgt := 129) dX1_append_81 (by decide) ⟨by omega, by omega⟩ ⟨by omega, by omega⟩ (fun h54 => ?_) (fun h54 => ?_)
      · have q55 : σ44.2.1 6 a = σ44.2.1 6 a := rfl
        exact tn_vret rfl dX1_append_129 ⟨rfl, w46, (FrC.rfl.trans (FrC.sub F47 (by decide))), by omega⟩
      · refine tn_aload_n dX1_append_84 rfl 1 rfl ?_
        refine tn_getR (ci := 1) (i := 0) (n := 5) (x := x37) dX1_append_85 rfl lay_1 (by decide) fl1_9 ha rfl rfl (q49) ?_
        refine tn_iload dX1_append_88 0 rfl ?_
        refine tn_iload dX1_append_90 0 rfl ?_
        refine tn_bipush dX1_append_92 (by decide) ?_
        refine tn_iadd dX1_append_94 ?_
        refine tn_iconst dX1_append_95 ?_
        refine tn_callS (M := m_X1_append) (pc := 96) (ix := 72) (M' := m_J7_fill_fda19) (As := [.ref x37, .int (iI ((σ.2.1 6 a) * 13)), .int (iI (((σ.2.1 6 a) * 13) + 13)), .int (iI 0)]) (rest := []) dX1_append_96 ok_J7_fill_fda19 stt_J7_fill_fda19 ml1_72 np_J7_fill_fda19 rfl (Nat.le_of_ble_eq_true rfl) (Nat.le_of_ble_eq_true rfl) rfl (k_J7_fill_fda19 (d) (T := T34) (σ := σ44) (x := x37) (f := (σ.2.1 6 a) * 13) (t := ((σ.2.1 6 a) * 13) + 13) (y := 0) cx51i (by omega) (by omega) (by omega) (by decide) w46 (nh_k cx51t (by unfold HT; omega)) (by omega) (by omega)) (fun r56 T58 σ57 gt59 hp => ?_)
        obtain ⟨rfl, rfl, w61, F62⟩ := hp
        clear gt59
        show Tn _ _ 99 T34 σ57 [(4, .int (iI ((σ.2.1 6 a) * 13))), (0, .ref a), (1, .int (iI k)), (2, .int (iI x)), (3, .int (iI y))] [] _
        refine tn_aload_n dX1_append_99 rfl 1 rfl ?_
        refine tn_getR (ci := 1) (i := 0) (n := 5) (x := x37) dX1_append_100 rfl lay_1 (by decide) fl1_9 ha rfl rfl (rc_F F62 (Or.inl (by decide)) (by decide) (q49)) ?_
        refine tn_iload dX1_append_103 0 rfl ?_
        refine tn_iconst dX1_append_105 ?_
        refine tn_iadd dX1_append_106 ?_
        refine tn_iload_n dX1_append_107 rfl 2 rfl ?_
        refine tn_iast (z := ((σ.2.1 6 a) * 13) + 0) (v := k) dX1_append_108 cx51i (by omega) (by omega) (by omega) ?_
        refine tn_aload_n dX1_append_109 rfl 1 rfl ?_
        refine tn_getR (ci := 1) (i := 0) (n := 5) (x := x37) dX1_append_110 rfl lay_1 (by decide) fl1_9 ha rfl rfl (rc_a (Or.inl (by decide)) (rc_F F62 (Or.inl (by decide)) (by decide) (q49))) ?_
        refine tn_iload dX1_append_113 0 rfl ?_
        refine tn_iconst dX1_append_115 ?_
        refine tn_iadd dX1_append_116 ?_
        refine tn_iload_n dX1_append_117 rfl 3 rfl ?_
        refine tn_iast (z := ((σ.2.1 6 a) * 13) + 1) (v := x) dX1_append_118 cx51i (by omega) (by omega) (by omega) ?_
        refine tn_aload_n dX1_append_119 rfl 1 rfl ?_
        refine tn_getR (ci := 1) (i := 0) (n := 5) (x := x37) dX1_append_120 rfl lay_1 (by decide) fl1_9 ha rfl rfl (rc_a (Or.inl (by decide)) (rc_a (Or.inl (by decide)) (rc_F F62 (Or.inl (by decide)) (by decide) (q49)))) ?_
        refine tn_iload dX1_append_123 0 rfl ?_
        refine tn_iconst dX1_append_125 ?_
        refine tn_iadd dX1_append_126 ?_
        refine tn_iload_n dX1_append_127 rfl 4 rfl ?_
        refine tn_iast (z := ((σ.2.1 6 a) * 13) + 2) (v := y) dX1_append_128 cx51i (by omega) (by omega) (by omega) ?_
        have q63 : (sA (1000 + x37) (((σ.2.1 6 a) * 13) + 2) (y) (sA (1000 + x37) (((σ.2.1 6 a) * 13) + 1) (x) (sA (1000 + x37) (((σ.2.1 6 a) * 13) + 0) (k) σ57))).2.1 6 a = σ44.2.1 6 a := rc_a (Or.inl (by decide)) (rc_a (Or.inl (by decide)) (rc_a (Or.inl (by decide)) (rc_F F62 (Or.inl (by decide)) (by decide) (rfl))))
        exact tn_vret rfl dX1_append_129 ⟨rfl, (((w61.arr (Or.inl cx51i) (vok_13 (by have q9 := cx51t; omega) (by omega) (fun _ q => by omega))).arr (Or.inl cx51i) (vok_13 (by have q9 := cx51t; omega) (by omega) (fun _ q => by omega))).arr (Or.inl cx51i) (vok_13 (by have q9 := cx51t; omega) (by omega) (fun _ q => by omega))), (((((FrC.rfl.trans (FrC.sub F47 (by decide))).trans (FrC.sub (FrC.old F62 gt36) (by decide))).arr (hk_no (GT.nh gt36 (nh_k cx51t (by unfold HT; omega))))).arr (hk_no (GT.nh gt36 (nh_k cx51t (by unfold HT; omega))))).arr (hk_no (GT.nh gt36 (nh_k cx51t (by unfold HT; omega))))), by omega⟩
