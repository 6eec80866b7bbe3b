section
theorem cd_X1_append : Cond.code yX1_append cX1_append 5 none ∈ pWW := pw3 (List.mem_of_getElem? (i := 128) rfl) rfl
abbrev m_X1_append : MT := (yX1_append, cX1_append, 5, none)
theorem ok_X1_append : pOk m_X1_append := ⟨⟨cd_X1_append, ini_1⟩, by decide +kernel, ⟨by decide +kernel, by decide +kernel⟩, Nat.le_of_ble_eq_true rfl⟩
theorem np_X1_append : (parseMethodDescriptor yX1_append.desc).map (fun d => d.parameters.length) = some 3 := by decide +kernel
theorem im_X1_append : Cond.instanceMethod yX1_append ∈ pWW := pw3 (List.mem_of_getElem? (i := 126) rfl) rfl
theorem se_X1_append : Cond.selects RX1 yX1_append yX1_append ∈ pWW := pw3 (List.mem_of_getElem? (i := 127) rfl) rfl
theorem ml1_72 : Cond.methodLink RX1 72 yJ7_fill_fda19 ∈ pWW := pw3 (List.mem_of_getElem? (i := 144) rfl) rfl
theorem mlm1_57 : Cond.methodLink RX1 57 Lib.Math.min.name ∈ pWW := pw3 (List.mem_of_getElem? (i := 129) rfl) rfl
theorem ml1_66 : Cond.methodLink RX1 66 yJ7_copyOf_59c91 ∈ pWW := pw3 (List.mem_of_getElem? (i := 130) rfl) rfl
theorem dX1_append_0 : decode cX1_append 0 = .ok (.aload_n 0, 1) := by decide +kernel
theorem dX1_append_1 : decode cX1_append 1 = .ok (.getfield 33, 3) := by decide +kernel
theorem dX1_append_4 : decode cX1_append 4 = .ok (.bipush 13, 2) := by decide +kernel
theorem dX1_append_6 : decode cX1_append 6 = .ok (.imul, 1) := by decide +kernel
theorem dX1_append_7 : decode cX1_append 7 = .ok (.istore 4, 2) := by decide +kernel
theorem dX1_append_9 : decode cX1_append 9 = .ok (.aload_n 0, 1) := by decide +kernel
theorem dX1_append_10 : decode cX1_append 10 = .ok (.dup, 1) := by decide +kernel
theorem dX1_append_11 : decode cX1_append 11 = .ok (.getfield 33, 3) := by decide +kernel
theorem dX1_append_14 : decode cX1_append 14 = .ok (.iconst 1, 1) := by decide +kernel
theorem dX1_append_15 : decode cX1_append 15 = .ok (.iadd, 1) := by decide +kernel
theorem dX1_append_16 : decode cX1_append 16 = .ok (.putfield 33, 3) := by decide +kernel
theorem dX1_append_19 : decode cX1_append 19 = .ok (.iload 4, 2) := by decide +kernel
theorem dX1_append_21 : decode cX1_append 21 = .ok (.bipush 13, 2) := by decide +kernel
theorem dX1_append_23 : decode cX1_append 23 = .ok (.iadd, 1) := by decide +kernel
theorem dX1_append_24 : decode cX1_append 24 = .ok (.aload_n 0, 1) := by decide +kernel
theorem dX1_append_25 : decode cX1_append 25 = .ok (.getfield 9, 3) := by decide +kernel
theorem dX1_append_28 : decode cX1_append 28 = .ok (.arraylength, 1) := by decide +kernel
theorem dX1_append_29 : decode cX1_append 29 = .ok (.if_icmp .le 37, 3) := by decide +kernel
theorem dX1_append_66 : decode cX1_append 66 = .ok (.iload 4, 2) := by decide +kernel
theorem dX1_append_68 : decode cX1_append 68 = .ok (.ifCond .lt 61, 3) := by decide +kernel
theorem dX1_append_71 : decode cX1_append 71 = .ok (.iload 4, 2) := by decide +kernel
theorem dX1_append_73 : decode cX1_append 73 = .ok (.bipush 13, 2) := by decide +kernel
theorem dX1_append_75 : decode cX1_append 75 = .ok (.iadd, 1) := by decide +kernel
theorem dX1_append_76 : decode cX1_append 76 = .ok (.aload_n 0, 1) := by decide +kernel
theorem dX1_append_77 : decode cX1_append 77 = .ok (.getfield 9, 3) := by decide +kernel
theorem dX1_append_80 : decode cX1_append 80 = .ok (.arraylength, 1) := by decide +kernel
theorem dX1_append_81 : decode cX1_append 81 = .ok (.if_icmp .gt 48, 3) := by decide +kernel
theorem dX1_append_129 : decode cX1_append 129 = .ok (.return_, 1) := by decide +kernel
theorem dX1_append_84 : decode cX1_append 84 = .ok (.aload_n 0, 1) := by decide +kernel
theorem dX1_append_85 : decode cX1_append 85 = .ok (.getfield 9, 3) := by decide +kernel
theorem dX1_append_88 : decode cX1_append 88 = .ok (.iload 4, 2) := by decide +kernel
theorem dX1_append_90 : decode cX1_append 90 = .ok (.iload 4, 2) := by decide +kernel
theorem dX1_append_92 : decode cX1_append 92 = .ok (.bipush 13, 2) := by decide +kernel
theorem dX1_append_94 : decode cX1_append 94 = .ok (.iadd, 1) := by decide +kernel
theorem dX1_append_95 : decode cX1_append 95 = .ok (.iconst 0, 1) := by decide +kernel
theorem dX1_append_96 : decode cX1_append 96 = .ok (.invokestatic 72, 3) := by decide +kernel
theorem dX1_append_99 : decode cX1_append 99 = .ok (.aload_n 0, 1) := by decide +kernel
theorem dX1_append_100 : decode cX1_append 100 = .ok (.getfield 9, 3) := by decide +kernel
theorem dX1_append_103 : decode cX1_append 103 = .ok (.iload 4, 2) := by decide +kernel
theorem dX1_append_105 : decode cX1_append 105 = .ok (.iconst 0, 1) := by decide +kernel
theorem dX1_append_106 : decode cX1_append 106 = .ok (.iadd, 1) := by decide +kernel
theorem dX1_append_107 : decode cX1_append 107 = .ok (.iload_n 1, 1) := by decide +kernel
theorem dX1_append_108 : decode cX1_append 108 = .ok (.iastore, 1) := by decide +kernel
theorem dX1_append_109 : decode cX1_append 109 = .ok (.aload_n 0, 1) := by decide +kernel
theorem dX1_append_110 : decode cX1_append 110 = .ok (.getfield 9, 3) := by decide +kernel
theorem dX1_append_113 : decode cX1_append 113 = .ok (.iload 4, 2) := by decide +kernel
theorem dX1_append_115 : decode cX1_append 115 = .ok (.iconst 1, 1) := by decide +kernel
theorem dX1_append_116 : decode cX1_append 116 = .ok (.iadd, 1) := by decide +kernel
theorem dX1_append_117 : decode cX1_append 117 = .ok (.iload_n 2, 1) := by decide +kernel
theorem dX1_append_118 : decode cX1_append 118 = .ok (.iastore, 1) := by decide +kernel
theorem dX1_append_119 : decode cX1_append 119 = .ok (.aload_n 0, 1) := by decide +kernel
theorem dX1_append_120 : decode cX1_append 120 = .ok (.getfield 9, 3) := by decide +kernel
theorem dX1_append_123 : decode cX1_append 123 = .ok (.iload 4, 2) := by decide +kernel
theorem dX1_append_125 : decode cX1_append 125 = .ok (.iconst 2, 1) := by decide +kernel
theorem dX1_append_126 : decode cX1_append 126 = .ok (.iadd, 1) := by decide +kernel
theorem dX1_append_127 : decode cX1_append 127 = .ok (.iload_n 3, 1) := by decide +kernel
theorem dX1_append_128 : decode cX1_append 128 = .ok (.iastore, 1) := by decide +kernel
theorem dX1_append_32 : decode cX1_append 32 = .ok (.aload_n 0, 1) := by decide +kernel
theorem dX1_append_33 : decode cX1_append 33 = .ok (.getfield 33, 3) := by decide +kernel
theorem dX1_append_36 : decode cX1_append 36 = .ok (.sipush 200, 3) := by decide +kernel
theorem dX1_append_39 : decode cX1_append 39 = .ok (.if_icmp .gt 27, 3) := by decide +kernel
theorem dX1_append_42 : decode cX1_append 42 = .ok (.aload_n 0, 1) := by decide +kernel
theorem dX1_append_43 : decode cX1_append 43 = .ok (.aload_n 0, 1) := by decide +kernel
theorem dX1_append_44 : decode cX1_append 44 = .ok (.getfield 9, 3) := by decide +kernel
theorem dX1_append_47 : decode cX1_append 47 = .ok (.sipush 2600, 3) := by decide +kernel
theorem dX1_append_50 : decode cX1_append 50 = .ok (.iconst 2, 1) := by decide +kernel
theorem dX1_append_51 : decode cX1_append 51 = .ok (.aload_n 0, 1) := by decide +kernel
theorem dX1_append_52 : decode cX1_append 52 = .ok (.getfield 9, 3) := by decide +kernel
theorem dX1_append_55 : decode cX1_append 55 = .ok (.arraylength, 1) := by decide +kernel
theorem dX1_append_56 : decode cX1_append 56 = .ok (.imul, 1) := by decide +kernel
theorem dX1_append_57 : decode cX1_append 57 = .ok (.invokestatic 57, 3) := by decide +kernel
theorem dX1_append_60 : decode cX1_append 60 = .ok (.invokestatic 66, 3) := by decide +kernel
theorem dX1_append_63 : decode cX1_append 63 = .ok (.putfield 9, 3) := by decide +kernel
set_option maxRecDepth 20000 in
theorem k_X1_append (d : Nat) {T : CT} {σ : MS} {a : Nat} {k : Int} {x : Int} {y : Int} (ha : OB T a 1) (hta : (T a).1 = 31) (h_k : -2147483648 ≤ k ∧ k ≤ 2147483647) (h_x : -2147483648 ≤ x ∧ x ≤ 2147483647) (h_y : -2147483648 ≤ y ∧ y ≤ 2147483647) (hw : WT T σ) (hc : σ.2.1 6 a ≤ 4999) (hk : k ≠ 14 ∧ k ≠ 15) : Tn (d + 3) m_X1_append 0 T σ [(0, .ref a), (1, .int (iI k)), (2, .int (iI x)), (3, .int (iI y))] [] (fun ro T2 σ2 => ro = none ∧ WT T2 σ2 ∧ FrC T [5, 6] σ σ2 ∧ (σ2.2.1 6 a = σ.2.1 6 a + 1)) := by
  refine tn_aload_n dX1_append_0 rfl 0 rfl ?_
  refine tn_getI (ci := 1) (i := 1) (n := 6) (t := σ.2.1 6 a) dX1_append_1 rfl lay_1 (by decide) fl1_33 ha rfl rfl (rfl) ?_
  have g1 : ((0 : Int) ≤ σ.2.1 6 a ∧ σ.2.1 6 a ≤ 5000) ∧ ((T a).1 = 50 → σ.2.1 6 a ≤ 200) := wf_6 hw ha
  have g1x := g1.2
  replace g1 := g1.1
  clear g1x
  refine tn_bipush dX1_append_4 (by decide) ?_
  refine tn_imul dX1_append_6 ?_
  refine tn_istore (L' := [(4, .int (iI ((σ.2.1 6 a) * 13))), (0, .ref a), (1, .int (iI k)), (2, .int (iI x)), (3, .int (iI y))]) dX1_append_7 (by decide) rfl ?_
  refine tn_aload_n dX1_append_9 rfl 1 rfl ?_
  refine tn_dup dX1_append_10 rfl ?_
  refine tn_getI (ci := 1) (i := 1) (n := 6) (t := σ.2.1 6 a) dX1_append_11 rfl lay_1 (by decide) fl1_33 ha rfl rfl (rfl) ?_
  refine tn_iconst dX1_append_14 ?_
  refine tn_iadd dX1_append_15 ?_
  obtain ⟨x2, hx3, hl5, hk4a, hk4b⟩ := wf_5 hw ha
  have hk4 : (T x2).1 = 13 := hk4b (by omega)
  clear hk4a hk4b
  have hk4i : IA T x2 := by unfold IA; omega
  have g6 : 13 * σ.2.1 6 a ≤ ((T x2).2 : Int) ∨ 2600 ≤ (T x2).2 := hw.2.1 a x2 ha hx3
  refine tn_putV (ci := 1) (i := 1) (n := 6) (r := false) (v := (σ.2.1 6 a) + 1) tyX1 tyX1_ok nmX1 dX1_append_16 rfl lay_1 (by decide) fl1_33 rfl (tyX1_ok 1 (by decide)) rfl rfl rfl ha rfl rfl ?_
  refine tn_iload dX1_append_19 0 rfl ?_
  refine tn_bipush dX1_append_21 (by decide) ?_
  refine tn_iadd dX1_append_23 ?_
  refine tn_aload_n dX1_append_24 rfl 1 rfl ?_
  refine tn_getR (ci := 1) (i := 0) (n := 5) (x := x2) dX1_append_25 rfl lay_1 (by decide) fl1_9 ha rfl rfl (rc_o (by decide) (hx3)) ?_
  refine tn_alenX dX1_append_28 (Or.inl hk4i) ?_
  refine tn_icmp_le (tgt := 66) dX1_append_29 (by decide) ⟨by omega, by omega⟩ ⟨by omega, by omega⟩ (fun h7 => ?_) (fun h7 => ?_)
  · refine tn_iload dX1_append_66 0 rfl ?_
    refine tn_if_lt (tgt := 129) dX1_append_68 (by decide) ⟨by omega, by omega⟩ (fun h8 => absurd h8 (by omega)) (fun h8 => ?_)
    refine tn_iload dX1_append_71 0 rfl ?_
    refine tn_bipush dX1_append_73 (by decide) ?_
    refine tn_iadd dX1_append_75 ?_
    refine tn_aload_n dX1_append_76 rfl 1 rfl ?_
    refine tn_getR (ci := 1) (i := 0) (n := 5) (x := x2) dX1_append_77 rfl lay_1 (by decide) fl1_9 ha rfl rfl (rc_o (by decide) (hx3)) ?_
    refine tn_alenX dX1_append_80 (Or.inl hk4i) ?_
    refine tn_icmp_gt (tgt := 129) dX1_append_81 (by decide) ⟨by omega, by omega⟩ ⟨by omega, by omega⟩ (fun h9 => ?_) (fun h9 => ?_)
    · have q10 : (sA 6 a ((σ.2.1 6 a) + 1) σ).2.1 6 a = (σ.2.1 6 a) + 1 := ra_eq
      exact tn_vret rfl dX1_append_129 ⟨rfl, (hw.put6 (hx3) (fo_6 ⟨by omega, by omega⟩) (by omega)), (FrC.rfl.put (by decide) (by decide)), by omega⟩
    · refine tn_aload_n dX1_append_84 rfl 1 rfl ?_
      refine tn_getR (ci := 1) (i := 0) (n := 5) (x := x2) dX1_append_85 rfl lay_1 (by decide) fl1_9 ha rfl rfl (rc_o (by decide) (hx3)) ?_
      refine tn_iload dX1_append_88 0 rfl ?_
      refine tn_iload dX1_append_90 0 rfl ?_
      refine tn_bipush dX1_append_92 (by decide) ?_
      refine tn_iadd dX1_append_94 ?_
      refine tn_iconst dX1_append_95 ?_
      refine tn_callS (M := m_X1_append) (pc := 96) (ix := 72) (M' := m_J7_fill_fda19) (As := [.ref x2, .int (iI ((σ.2.1 6 a) * 13)), .int (iI (((σ.2.1 6 a) * 13) + 13)), .int (iI 0)]) (rest := []) dX1_append_96 ok_J7_fill_fda19 stt_J7_fill_fda19 ml1_72 np_J7_fill_fda19 rfl (Nat.le_of_ble_eq_true rfl) (Nat.le_of_ble_eq_true rfl) rfl (k_J7_fill_fda19 (d) (T := T) (σ := (sA 6 a ((σ.2.1 6 a) + 1) σ)) (x := x2) (f := (σ.2.1 6 a) * 13) (t := ((σ.2.1 6 a) * 13) + 13) (y := 0) hk4i (by omega) (by omega) (by omega) (by decide) (hw.put6 (hx3) (fo_6 ⟨by omega, by omega⟩) (by omega)) (nh_k hk4 (by unfold HT; omega)) (by omega) (by omega)) (fun r11 T13 σ12 gt14 hp => ?_)
      obtain ⟨rfl, rfl, w16, F17⟩ := hp
      clear gt14
      show Tn _ _ 99 T σ12 [(4, .int (iI ((σ.2.1 6 a) * 13))), (0, .ref a), (1, .int (iI k)), (2, .int (iI x)), (3, .int (iI y))] [] _
      refine tn_aload_n dX1_append_99 rfl 1 rfl ?_
      refine tn_getR (ci := 1) (i := 0) (n := 5) (x := x2) dX1_append_100 rfl lay_1 (by decide) fl1_9 ha rfl rfl (rc_F F17 (Or.inl (by decide)) (by decide) (rc_o (by decide) (hx3))) ?_
      refine tn_iload dX1_append_103 0 rfl ?_
      refine tn_iconst dX1_append_105 ?_
      refine tn_iadd dX1_append_106 ?_
      refine tn_iload_n dX1_append_107 rfl 2 rfl ?_
      refine tn_iast (z := ((σ.2.1 6 a) * 13) + 0) (v := k) dX1_append_108 hk4i (by omega) (by omega) (by omega) ?_
      refine tn_aload_n dX1_append_109 rfl 1 rfl ?_
      refine tn_getR (ci := 1) (i := 0) (n := 5) (x := x2) dX1_append_110 rfl lay_1 (by decide) fl1_9 ha rfl rfl (rc_a (Or.inl (by decide)) (rc_F F17 (Or.inl (by decide)) (by decide) (rc_o (by decide) (hx3)))) ?_
      refine tn_iload dX1_append_113 0 rfl ?_
      refine tn_iconst dX1_append_115 ?_
      refine tn_iadd dX1_append_116 ?_
      refine tn_iload_n dX1_append_117 rfl 3 rfl ?_
      refine tn_iast (z := ((σ.2.1 6 a) * 13) + 1) (v := x) dX1_append_118 hk4i (by omega) (by omega) (by omega) ?_
      refine tn_aload_n dX1_append_119 rfl 1 rfl ?_
      refine tn_getR (ci := 1) (i := 0) (n := 5) (x := x2) dX1_append_120 rfl lay_1 (by decide) fl1_9 ha rfl rfl (rc_a (Or.inl (by decide)) (rc_a (Or.inl (by decide)) (rc_F F17 (Or.inl (by decide)) (by decide) (rc_o (by decide) (hx3))))) ?_
      refine tn_iload dX1_append_123 0 rfl ?_
      refine tn_iconst dX1_append_125 ?_
      refine tn_iadd dX1_append_126 ?_
      refine tn_iload_n dX1_append_127 rfl 4 rfl ?_
      refine tn_iast (z := ((σ.2.1 6 a) * 13) + 2) (v := y) dX1_append_128 hk4i (by omega) (by omega) (by omega) ?_
      have q18 : (sA (1000 + x2) (((σ.2.1 6 a) * 13) + 2) (y) (sA (1000 + x2) (((σ.2.1 6 a) * 13) + 1) (x) (sA (1000 + x2) (((σ.2.1 6 a) * 13) + 0) (k) σ12))).2.1 6 a = (σ.2.1 6 a) + 1 := rc_a (Or.inl (by decide)) (rc_a (Or.inl (by decide)) (rc_a (Or.inl (by decide)) (rc_F F17 (Or.inl (by decide)) (by decide) (ra_eq))))
      exact tn_vret rfl dX1_append_129 ⟨rfl, (((w16.arr (Or.inl hk4i) (vok_13 (by have q9 := hk4; omega) (by omega) (fun _ q => by omega))).arr (Or.inl hk4i) (vok_13 (by have q9 := hk4; omega) (by omega) (fun _ q => by omega))).arr (Or.inl hk4i) (vok_13 (by have q9 := hk4; omega) (by omega) (fun _ q => by omega))), (((((FrC.rfl.put (by decide) (by decide)).trans (FrC.sub F17 (by decide))).arr (hk_no (nh_k hk4 (by unfold HT; omega)))).arr (hk_no (nh_k hk4 (by unfold HT; omega)))).arr (hk_no (nh_k hk4 (by unfold HT; omega)))), by omega⟩
  · refine tn_aload_n dX1_append_32 rfl 1 rfl ?_
    refine tn_getI (ci := 1) (i := 1) (n := 6) (t := (σ.2.1 6 a) + 1) dX1_append_33 rfl lay_1 (by decide) fl1_33 ha rfl rfl (ra_eq) ?_
    refine tn_sipush dX1_append_36 (by decide) ?_
    refine tn_icmp_gt (tgt := 66) dX1_append_39 (by decide) ⟨by omega, by omega⟩ ⟨by decide, by decide⟩ (fun h19 => ?_) (fun h19 => ?_)
    · refine tn_iload dX1_append_66 0 rfl ?_
      refine tn_if_lt (tgt := 129) dX1_append_68 (by decide) ⟨by omega, by omega⟩ (fun h20 => absurd h20 (by omega)) (fun h20 => ?_)
      refine tn_iload dX1_append_71 0 rfl ?_
      refine tn_bipush dX1_append_73 (by decide) ?_
      refine tn_iadd dX1_append_75 ?_
      refine tn_aload_n dX1_append_76 rfl 1 rfl ?_
      refine tn_getR (ci := 1) (i := 0) (n := 5) (x := x2) dX1_append_77 rfl lay_1 (by decide) fl1_9 ha rfl rfl (rc_o (by decide) (hx3)) ?_
      refine tn_alenX dX1_append_80 (Or.inl hk4i) ?_
      refine tn_icmp_gt (tgt := 129) dX1_append_81 (by decide) ⟨by omega, by omega⟩ ⟨by omega, by omega⟩ (fun h21 => ?_) (fun h21 => ?_)
      · have q22 : (sA 6 a ((σ.2.1 6 a) + 1) σ).2.1 6 a = (σ.2.1 6 a) + 1 := ra_eq
        exact tn_vret rfl dX1_append_129 ⟨rfl, (hw.put6 (hx3) (fo_6 ⟨by omega, by omega⟩) (by omega)), (FrC.rfl.put (by decide) (by decide)), by omega⟩
      · refine tn_aload_n dX1_append_84 rfl 1 rfl ?_
        refine tn_getR (ci := 1) (i := 0) (n := 5) (x := x2) dX1_append_85 rfl lay_1 (by decide) fl1_9 ha rfl rfl (rc_o (by decide) (hx3)) ?_
        refine tn_iload dX1_append_88 0 rfl ?_
        refine tn_iload dX1_append_90 0 rfl ?_
        refine tn_bipush dX1_append_92 (by decide) ?_
        refine tn_iadd dX1_append_94 ?_
        refine tn_iconst dX1_append_95 ?_
        refine tn_callS (M := m_X1_append) (pc := 96) (ix := 72) (M' := m_J7_fill_fda19) (As := [.ref x2, .int (iI ((σ.2.1 6 a) * 13)), .int (iI (((σ.2.1 6 a) * 13) + 13)), .int (iI 0)]) (rest := []) dX1_append_96 ok_J7_fill_fda19 stt_J7_fill_fda19 ml1_72 np_J7_fill_fda19 rfl (Nat.le_of_ble_eq_true rfl) (Nat.le_of_ble_eq_true rfl) rfl (k_J7_fill_fda19 (d) (T := T) (σ := (sA 6 a ((σ.2.1 6 a) + 1) σ)) (x := x2) (f := (σ.2.1 6 a) * 13) (t := ((σ.2.1 6 a) * 13) + 13) (y := 0) hk4i (by omega) (by omega) (by omega) (by decide) (hw.put6 (hx3) (fo_6 ⟨by omega, by omega⟩) (by omega)) (nh_k hk4 (by unfold HT; omega)) (by omega) (by omega)) (fun r23 T25 σ24 gt26 hp => ?_)
        obtain ⟨rfl, rfl, w28, F29⟩ := hp
        clear gt26
        show Tn _ _ 99 T σ24 [(4, .int (iI ((σ.2.1 6 a) * 13))), (0, .ref a), (1, .int (iI k)), (2, .int (iI x)), (3, .int (iI y))] [] _
        refine tn_aload_n dX1_append_99 rfl 1 rfl ?_
        refine tn_getR (ci := 1) (i := 0) (n := 5) (x := x2) dX1_append_100 rfl lay_1 (by decide) fl1_9 ha rfl rfl (rc_F F29 (Or.inl (by decide)) (by decide) (rc_o (by decide) (hx3))) ?_
        refine tn_iload dX1_append_103 0 rfl ?_
        refine tn_iconst dX1_append_105 ?_
        refine tn_iadd dX1_append_106 ?_
        refine tn_iload_n dX1_append_107 rfl 2 rfl ?_
        refine tn_iast (z := ((σ.2.1 6 a) * 13) + 0) (v := k) dX1_append_108 hk4i (by omega) (by omega) (by omega) ?_
        refine tn_aload_n dX1_append_109 rfl 1 rfl ?_
        refine tn_getR (ci := 1) (i := 0) (n := 5) (x := x2) dX1_append_110 rfl lay_1 (by decide) fl1_9 ha rfl rfl (rc_a (Or.inl (by decide)) (rc_F F29 (Or.inl (by decide)) (by decide) (rc_o (by decide) (hx3)))) ?_
        refine tn_iload dX1_append_113 0 rfl ?_
        refine tn_iconst dX1_append_115 ?_
        refine tn_iadd dX1_append_116 ?_
        refine tn_iload_n dX1_append_117 rfl 3 rfl ?_
        refine tn_iast (z := ((σ.2.1 6 a) * 13) + 1) (v := x) dX1_append_118 hk4i (by omega) (by omega) (by omega) ?_
        refine tn_aload_n dX1_append_119 rfl 1 rfl ?_
        refine tn_getR (ci := 1) (i := 0) (n := 5) (x := x2) dX1_append_120 rfl lay_1 (by decide) fl1_9 ha rfl rfl (rc_a (Or.inl (by decide)) (rc_a (Or.inl (by decide)) (rc_F F29 (Or.inl (by decide)) (by decide) (rc_o (by decide) (hx3))))) ?_
        refine tn_iload dX1_append_123 0 rfl ?_
        refine tn_iconst dX1_append_125 ?_
        refine tn_iadd dX1_append_126 ?_
        refine tn_iload_n dX1_append_127 rfl 4 rfl ?_
        refine tn_iast (z := ((σ.2.1 6 a) * 13) + 2) (v := y) dX1_append_128 hk4i (by omega) (by omega) (by omega) ?_
        have q30 : (sA (1000 + x2) (((σ.2.1 6 a) * 13) + 2) (y) (sA (1000 + x2) (((σ.2.1 6 a) * 13) + 1) (x) (sA (1000 + x2) (((σ.2.1 6 a) * 13) + 0) (k) σ24))).2.1 6 a = (σ.2.1 6 a) + 1 := rc_a (Or.inl (by decide)) (rc_a (Or.inl (by decide)) (rc_a (Or.inl (by decide)) (rc_F F29 (Or.inl (by decide)) (by decide) (ra_eq))))
        exact tn_vret rfl dX1_append_129 ⟨rfl, (((w28.arr (Or.inl hk4i) (vok_13 (by have q9 := hk4; omega) (by omega) (fun _ q => by omega))).arr (Or.inl hk4i) (vok_13 (by have q9 := hk4; omega) (by omega) (fun _ q => by omega))).arr (Or.inl hk4i) (vok_13 (by have q9 := hk4; omega) (by omega) (fun _ q => by omega))), (((((FrC.rfl.put (by decide) (by decide)).trans (FrC.sub F29 (by decide))).arr (hk_no (nh_k hk4 (by unfold HT; omega)))).arr (hk_no (nh_k hk4 (by unfold HT; omega)))).arr (hk_no (nh_k hk4 (by unfold HT; omega)))), by omega⟩
    · refine tn_aload_n dX1_append_42 rfl 1 rfl ?_
      refine tn_aload_n dX1_append_43 rfl 1 rfl ?_
      refine tn_getR (ci := 1) (i := 0) (n := 5) (x := x2) dX1_append_44 rfl lay_1 (by decide) fl1_9 ha rfl rfl (rc_o (by decide) (hx3)) ?_
      refine tn_sipush dX1_append_47 (by decide) ?_
      refine tn_iconst dX1_append_50 ?_
      refine tn_aload_n dX1_append_51 rfl 1 rfl ?_
      refine tn_getR (ci := 1) (i := 0) (n := 5) (x := x2) dX1_append_52 rfl lay_1 (by decide) fl1_9 ha rfl rfl (rc_o (by decide) (hx3)) ?_
      refine tn_alenX dX1_append_55 (Or.inl hk4i) ?_
      refine tn_imul dX1_append_56 ?_
      refine tn_mmin (x := 2600) (y := 2 * (((T x2).2 : Int))) dX1_append_57 mlm1_57 stM_min iniM cdM_min (by omega) (Nat.le_of_ble_eq_true rfl) ⟨by omega, by omega⟩ ⟨by omega, by omega⟩ (fun z31 g32 => ?_)
      obtain ⟨N43, N43e⟩ : ∃ N : Nat, z31 = (N : Int) := ⟨(z31).toNat, by omega⟩
      refine tn_callS (M := m_X1_append) (pc := 60) (ix := 66) (M' := m_J7_copyOf_59c91) (As := [.ref x2, .int (iI z31)]) (rest := [.ref a]) dX1_append_60 ok_J7_copyOf_59c91 stt_J7_copyOf_59c91 ml1_66 np_J7_copyOf_59c91 rfl (Nat.le_of_ble_eq_true rfl) (Nat.le_of_ble_eq_true rfl) rfl (k_copyOf (d + 1) (T := T) (σ := (sA 6 a ((σ.2.1 6 a) + 1) σ)) (a := x2) (z := z31) (N := N43) hk4i (by omega) (fun i => by rw [sA_k (by omega)]; exact (hw.2.2.1 x2 (Or.inl hk4i) i)) N43e (by omega) (by omega)) (fun r33 T34 σ35 gt36 hp => ?_)
      obtain ⟨x37, f38, rfl, hx39, hT40, hs41, hf42⟩ := hp
      show Tn _ _ 63 T34 σ35 [(4, .int (iI ((σ.2.1 6 a) * 13))), (0, .ref a), (1, .int (iI k)), (2, .int (iI x)), (3, .int (iI y))] [.ref x37, .ref a] _
      have ob52 := ha
      replace ha : OB T34 a 1 := gt36.ob ha
      replace hta : (T34 a).1 = 31 := gt36.kk hta (by decide) (by decide)
      refine tn_putV (ci := 1) (i := 0) (n := 5) (r := true) (v := (x37 : Int)) tyX1 tyX1_ok nmX1 dX1_append_63 rfl lay_1 (by decide) fl1_9 rfl (tyX1_ok 0 (by decide)) (vl_ref rfl).symm rfl rfl (gt36.ob ob52) rfl rfl ?_
      obtain ⟨σ44, h45⟩ : ∃ s, s = (sA 5 a (x37 : Int) σ35) := ⟨_, rfl⟩
      rw [← h45]
      have w46 : WT T34 σ44 := by
        rw [h45, hs41, hT40]
        exact WTx.app (hw.put6x (fo_6 ⟨by omega, by omega⟩)) ob52 (rc_o (by decide) (hx3)) hx39 hf42 ⟨by omega, by omega⟩ (by omega) (by omega) (by rw [show (sA 6 a ((σ.2.1 6 a) + 1) σ).2.1 6 a = (σ.2.1 6 a) + 1 from ra_eq]; omega)
      have F47 : FrC T [5, 6] σ σ44 := by
        rw [h45, hs41]
        exact FrC.put (FrC.row (FrC.gh (FrC.rfl.put (by decide) (by decide))) (hk_no (by unfold NH HT; omega))) (by decide) (by decide)
      have c48 : σ44.2.1 6 a = (σ.2.1 6 a) + 1 := by rw [h45, hs41]; exact rc_o (by decide) (rc_r (Or.inl (by decide)) (ra_eq))
      have q49 : σ44.2.1 5 a = (x37 : Int) := by rw [h45]; exact ra_eq
      have l50 : (T34 x37).2 = N43 := by rw [hT40, tT_eq]
      obtain ⟨cx51, cx51i⟩ := cell_of w46 (gt36.ob ob52) q49
      have cx51t : (T34 x37).1 = 13 := cx51.2 (by omega)
      show Tn _ _ 66 T34 σ44 [(4, .int (iI ((σ.2.1 6 a) * 13))), (0, .ref a), (1, .int (iI k)), (2, .int (iI x)), (3, .int (iI y))] [] _
      refine tn_iload dX1_append_66 0 rfl ?_
      refine tn_if_lt (tgt := 129) dX1_append_68 (by decide) ⟨by omega, by omega⟩ (fun h53 => absurd h53 (by omega)) (fun h53 => ?_)
      refine tn_iload dX1_append_71 0 rfl ?_
      refine tn_bipush dX1_append_73 (by decide) ?_
      refine tn_iadd dX1_append_75 ?_
      refine tn_aload_n dX1_append_76 rfl 1 rfl ?_
      refine tn_getR (ci := 1) (i := 0) (n := 5) (x := x37) dX1_append_77 rfl lay_1 (by decide) fl1_9 ha rfl rfl (q49) ?_
      refine tn_alenX dX1_append_80 (Or.inl cx51i) ?_
      refine tn_icmp_gt (tgt := 129) dX1_append_81 (by decide) ⟨by omega, by omega⟩ ⟨by omega, by omega⟩ (fun h54 => ?_) (fun h54 => ?_)
      · have q55 : σ44.2.1 6 a = σ44.2.1 6 a := rfl
        exact tn_vret rfl dX1_append_129 ⟨rfl, w46, (FrC.rfl.trans (FrC.sub F47 (by decide))), by omega⟩
      · refine tn_aload_n dX1_append_84 rfl 1 rfl ?_
        refine tn_getR (ci := 1) (i := 0) (n := 5) (x := x37) dX1_append_85 rfl lay_1 (by decide) fl1_9 ha rfl rfl (q49) ?_
        refine tn_iload dX1_append_88 0 rfl ?_
        refine tn_iload dX1_append_90 0 rfl ?_
        refine tn_bipush dX1_append_92 (by decide) ?_
        refine tn_iadd dX1_append_94 ?_
        refine tn_iconst dX1_append_95 ?_
        refine tn_callS (M := m_X1_append) (pc := 96) (ix := 72) (M' := m_J7_fill_fda19) (As := [.ref x37, .int (iI ((σ.2.1 6 a) * 13)), .int (iI (((σ.2.1 6 a) * 13) + 13)), .int (iI 0)]) (rest := []) dX1_append_96 ok_J7_fill_fda19 stt_J7_fill_fda19 ml1_72 np_J7_fill_fda19 rfl (Nat.le_of_ble_eq_true rfl) (Nat.le_of_ble_eq_true rfl) rfl (k_J7_fill_fda19 (d) (T := T34) (σ := σ44) (x := x37) (f := (σ.2.1 6 a) * 13) (t := ((σ.2.1 6 a) * 13) + 13) (y := 0) cx51i (by omega) (by omega) (by omega) (by decide) w46 (nh_k cx51t (by unfold HT; omega)) (by omega) (by omega)) (fun r56 T58 σ57 gt59 hp => ?_)
        obtain ⟨rfl, rfl, w61, F62⟩ := hp
        clear gt59
        show Tn _ _ 99 T34 σ57 [(4, .int (iI ((σ.2.1 6 a) * 13))), (0, .ref a), (1, .int (iI k)), (2, .int (iI x)), (3, .int (iI y))] [] _
        refine tn_aload_n dX1_append_99 rfl 1 rfl ?_
        refine tn_getR (ci := 1) (i := 0) (n := 5) (x := x37) dX1_append_100 rfl lay_1 (by decide) fl1_9 ha rfl rfl (rc_F F62 (Or.inl (by decide)) (by decide) (q49)) ?_
        refine tn_iload dX1_append_103 0 rfl ?_
        refine tn_iconst dX1_append_105 ?_
        refine tn_iadd dX1_append_106 ?_
        refine tn_iload_n dX1_append_107 rfl 2 rfl ?_
        refine tn_iast (z := ((σ.2.1 6 a) * 13) + 0) (v := k) dX1_append_108 cx51i (by omega) (by omega) (by omega) ?_
        refine tn_aload_n dX1_append_109 rfl 1 rfl ?_
        refine tn_getR (ci := 1) (i := 0) (n := 5) (x := x37) dX1_append_110 rfl lay_1 (by decide) fl1_9 ha rfl rfl (rc_a (Or.inl (by decide)) (rc_F F62 (Or.inl (by decide)) (by decide) (q49))) ?_
        refine tn_iload dX1_append_113 0 rfl ?_
        refine tn_iconst dX1_append_115 ?_
        refine tn_iadd dX1_append_116 ?_
        refine tn_iload_n dX1_append_117 rfl 3 rfl ?_
        refine tn_iast (z := ((σ.2.1 6 a) * 13) + 1) (v := x) dX1_append_118 cx51i (by omega) (by omega) (by omega) ?_
        refine tn_aload_n dX1_append_119 rfl 1 rfl ?_
        refine tn_getR (ci := 1) (i := 0) (n := 5) (x := x37) dX1_append_120 rfl lay_1 (by decide) fl1_9 ha rfl rfl (rc_a (Or.inl (by decide)) (rc_a (Or.inl (by decide)) (rc_F F62 (Or.inl (by decide)) (by decide) (q49)))) ?_
        refine tn_iload dX1_append_123 0 rfl ?_
        refine tn_iconst dX1_append_125 ?_
        refine tn_iadd dX1_append_126 ?_
        refine tn_iload_n dX1_append_127 rfl 4 rfl ?_
        refine tn_iast (z := ((σ.2.1 6 a) * 13) + 2) (v := y) dX1_append_128 cx51i (by omega) (by omega) (by omega) ?_
        have q63 : (sA (1000 + x37) (((σ.2.1 6 a) * 13) + 2) (y) (sA (1000 + x37) (((σ.2.1 6 a) * 13) + 1) (x) (sA (1000 + x37) (((σ.2.1 6 a) * 13) + 0) (k) σ57))).2.1 6 a = σ44.2.1 6 a := rc_a (Or.inl (by decide)) (rc_a (Or.inl (by decide)) (rc_a (Or.inl (by decide)) (rc_F F62 (Or.inl (by decide)) (by decide) (rfl))))
        exact tn_vret rfl dX1_append_129 ⟨rfl, (((w61.arr (Or.inl cx51i) (vok_13 (by have q9 := cx51t; omega) (by omega) (fun _ q => by omega))).arr (Or.inl cx51i) (vok_13 (by have q9 := cx51t; omega) (by omega) (fun _ q => by omega))).arr (Or.inl cx51i) (vok_13 (by have q9 := cx51t; omega) (by omega) (fun _ q => by omega))), (((((FrC.rfl.trans (FrC.sub F47 (by decide))).trans (FrC.sub (FrC.old F62 gt36) (by decide))).arr (hk_no (GT.nh gt36 (nh_k cx51t (by unfold HT; omega))))).arr (hk_no (GT.nh gt36 (nh_k cx51t (by unfold HT; omega))))).arr (hk_no (GT.nh gt36 (nh_k cx51t (by unfold HT; omega))))), by omega⟩
end
section
theorem cd_X1_holdRows : Cond.code yX1_holdRows cX1_holdRows 3 (some .boolean) ∈ pWW := pw4 (List.mem_of_getElem? (i := 39) rfl) rfl
abbrev m_X1_holdRows : MT := (yX1_holdRows, cX1_holdRows, 3, (some .boolean))
theorem ok_X1_holdRows : pOk m_X1_holdRows := ⟨⟨cd_X1_holdRows, ini_1⟩, by decide +kernel, ⟨by decide +kernel, by decide +kernel⟩, Nat.le_of_ble_eq_true rfl⟩
theorem np_X1_holdRows : (parseMethodDescriptor yX1_holdRows.desc).map (fun d => d.parameters.length) = some 1 := by decide +kernel
theorem im_X1_holdRows : Cond.instanceMethod yX1_holdRows ∈ pWW := pw4 (List.mem_of_getElem? (i := 38) rfl) rfl
theorem se_X1_holdRows : Cond.selects RX1 yX1_holdRows yX1_holdRows ∈ pWW := pws (List.mem_map.mpr ⟨_, lw_pin 36 rfl, rfl⟩) rfl
theorem dX1_holdRows_0 : decode cX1_holdRows 0 = .ok (.iload_n 1, 1) := by decide +kernel
theorem dX1_holdRows_1 : decode cX1_holdRows 1 = .ok (.ifCond .lt 10, 3) := by decide +kernel
theorem dX1_holdRows_11 : decode cX1_holdRows 11 = .ok (.iconst 0, 1) := by decide +kernel
theorem dX1_holdRows_12 : decode cX1_holdRows 12 = .ok (.ireturn, 1) := by decide +kernel
theorem dX1_holdRows_4 : decode cX1_holdRows 4 = .ok (.iload_n 1, 1) := by decide +kernel
theorem dX1_holdRows_5 : decode cX1_holdRows 5 = .ok (.sipush 200, 3) := by decide +kernel
theorem dX1_holdRows_8 : decode cX1_holdRows 8 = .ok (.if_icmp .le 5, 3) := by decide +kernel
theorem dX1_holdRows_13 : decode cX1_holdRows 13 = .ok (.iload_n 1, 1) := by decide +kernel
theorem dX1_holdRows_14 : decode cX1_holdRows 14 = .ok (.bipush 13, 2) := by decide +kernel
theorem dX1_holdRows_16 : decode cX1_holdRows 16 = .ok (.imul, 1) := by decide +kernel
theorem dX1_holdRows_17 : decode cX1_holdRows 17 = .ok (.aload_n 0, 1) := by decide +kernel
theorem dX1_holdRows_18 : decode cX1_holdRows 18 = .ok (.getfield 9, 3) := by decide +kernel
theorem dX1_holdRows_21 : decode cX1_holdRows 21 = .ok (.arraylength, 1) := by decide +kernel
theorem dX1_holdRows_22 : decode cX1_holdRows 22 = .ok (.if_icmp .le 36, 3) := by decide +kernel
theorem dX1_holdRows_58 : decode cX1_holdRows 58 = .ok (.iconst 1, 1) := by decide +kernel
theorem dX1_holdRows_59 : decode cX1_holdRows 59 = .ok (.ireturn, 1) := by decide +kernel
theorem dX1_holdRows_25 : decode cX1_holdRows 25 = .ok (.sipush 2600, 3) := by decide +kernel
theorem dX1_holdRows_28 : decode cX1_holdRows 28 = .ok (.iconst 2, 1) := by decide +kernel
theorem dX1_holdRows_29 : decode cX1_holdRows 29 = .ok (.aload_n 0, 1) := by decide +kernel
theorem dX1_holdRows_30 : decode cX1_holdRows 30 = .ok (.getfield 9, 3) := by decide +kernel
theorem dX1_holdRows_33 : decode cX1_holdRows 33 = .ok (.arraylength, 1) := by decide +kernel
theorem dX1_holdRows_34 : decode cX1_holdRows 34 = .ok (.imul, 1) := by decide +kernel
theorem dX1_holdRows_35 : decode cX1_holdRows 35 = .ok (.invokestatic 57, 3) := by decide +kernel
theorem dX1_holdRows_38 : decode cX1_holdRows 38 = .ok (.istore_n 2, 1) := by decide +kernel
theorem dX1_holdRows_39 : decode cX1_holdRows 39 = .ok (.aload_n 0, 1) := by decide +kernel
theorem dX1_holdRows_40 : decode cX1_holdRows 40 = .ok (.aload_n 0, 1) := by decide +kernel
theorem dX1_holdRows_41 : decode cX1_holdRows 41 = .ok (.getfield 9, 3) := by decide +kernel
theorem dX1_holdRows_44 : decode cX1_holdRows 44 = .ok (.iload_n 1, 1) := by decide +kernel
theorem dX1_holdRows_45 : decode cX1_holdRows 45 = .ok (.bipush 13, 2) := by decide +kernel
theorem dX1_holdRows_47 : decode cX1_holdRows 47 = .ok (.imul, 1) := by decide +kernel
theorem dX1_holdRows_48 : decode cX1_holdRows 48 = .ok (.iload_n 2, 1) := by decide +kernel
theorem dX1_holdRows_49 : decode cX1_holdRows 49 = .ok (.invokestatic 63, 3) := by decide +kernel
theorem dX1_holdRows_52 : decode cX1_holdRows 52 = .ok (.invokestatic 66, 3) := by decide +kernel
theorem dX1_holdRows_55 : decode cX1_holdRows 55 = .ok (.putfield 9, 3) := by decide +kernel
set_option maxRecDepth 20000 in
theorem k_X1_holdRows (d : Nat) {T : CT} {σ : MS} {a : Nat} {n : Int} (ha : OB T a 1) (hta : (T a).1 = 50) (h_n : -2147483648 ≤ n ∧ n ≤ 2147483647) (hw : WT T σ) : Tn (d + 2) m_X1_holdRows 0 T σ [(0, .ref a), (1, .int (iI n))] [] (fun ro T2 σ2 => ∃ v : Int, ro = some (.int (iI v)) ∧ WT T2 σ2 ∧ FrC T [5] σ σ2 ∧ (v = 0 ∨ v = 1) ∧ (v = 1 → (0 ≤ n ∧ n ≤ 200) ∧ HR T2 σ2 a n)) := by
  refine tn_iload_n dX1_holdRows_0 rfl 1 rfl ?_
  refine tn_if_lt (tgt := 11) dX1_holdRows_1 (by decide) ⟨by omega, by omega⟩ (fun h1 => ?_) (fun h1 => ?_)
  · refine tn_iconst dX1_holdRows_11 ?_
    exact tn_zret (v := 0) rfl (by decide) dX1_holdRows_12 ⟨_, rfl, hw, FrC.rfl, by omega, fun q => absurd q (by decide)⟩
  · refine tn_iload_n dX1_holdRows_4 rfl 1 rfl ?_
    refine tn_sipush dX1_holdRows_5 (by decide) ?_
    refine tn_icmp_le (tgt := 13) dX1_holdRows_8 (by decide) ⟨by omega, by omega⟩ ⟨by decide, by decide⟩ (fun h2 => ?_) (fun h2 => ?_)
    · refine tn_iload_n dX1_holdRows_13 rfl 1 rfl ?_
      refine tn_bipush dX1_holdRows_14 (by decide) ?_
      refine tn_imul dX1_holdRows_16 ?_
      refine tn_aload_n dX1_holdRows_17 rfl 0 rfl ?_
      obtain ⟨x3, hx4, hl6, hk5a, hk5b⟩ := wf_5 hw ha
      have hk5 : (T x3).1 = 1 := hk5a (by omega)
      clear hk5a hk5b
      have hk5i : IA T x3 := by unfold IA; omega
      refine tn_getR (ci := 1) (i := 0) (n := 5) (x := x3) dX1_holdRows_18 rfl lay_1 (by decide) fl1_9 ha rfl rfl (hx4) ?_
      refine tn_alenX dX1_holdRows_21 (Or.inl hk5i) ?_
      refine tn_icmp_le (tgt := 58) dX1_holdRows_22 (by decide) ⟨by omega, by omega⟩ ⟨by omega, by omega⟩ (fun h7 => ?_) (fun h7 => ?_)
      · refine tn_iconst dX1_holdRows_58 ?_
        exact tn_zret (v := 1) rfl (by decide) dX1_holdRows_59 ⟨_, rfl, hw, FrC.rfl, by omega, fun _ => ⟨⟨by omega, by omega⟩, HR.of (hx4) (by omega)⟩⟩
      · refine tn_sipush dX1_holdRows_25 (by decide) ?_
        refine tn_iconst dX1_holdRows_28 ?_
        refine tn_aload_n dX1_holdRows_29 rfl 0 rfl ?_
        refine tn_getR (ci := 1) (i := 0) (n := 5) (x := x3) dX1_holdRows_30 rfl lay_1 (by decide) fl1_9 ha rfl rfl (hx4) ?_
        refine tn_alenX dX1_holdRows_33 (Or.inl hk5i) ?_
        refine tn_imul dX1_holdRows_34 ?_
        refine tn_mmin (x := 2600) (y := 2 * (((T x3).2 : Int))) dX1_holdRows_35 mlm1_57 stM_min iniM cdM_min (by omega) (Nat.le_of_ble_eq_true rfl) ⟨by omega, by omega⟩ ⟨by omega, by omega⟩ (fun z8 g9 => ?_)
        refine tn_istore_n (L' := [(2, .int (iI z8)), (0, .ref a), (1, .int (iI n))]) dX1_holdRows_38 rfl (by decide) rfl ?_
        refine tn_aload_n dX1_holdRows_39 rfl 1 rfl ?_
        refine tn_aload_n dX1_holdRows_40 rfl 1 rfl ?_
        refine tn_getR (ci := 1) (i := 0) (n := 5) (x := x3) dX1_holdRows_41 rfl lay_1 (by decide) fl1_9 ha rfl rfl (hx4) ?_
        refine tn_iload_n dX1_holdRows_44 rfl 2 rfl ?_
        refine tn_bipush dX1_holdRows_45 (by decide) ?_
        refine tn_imul dX1_holdRows_47 ?_
        refine tn_iload_n dX1_holdRows_48 rfl 0 rfl ?_
        refine tn_mmax (x := n * 13) (y := z8) dX1_holdRows_49 mlm1_63 stM_max iniM cdM_max (by omega) (Nat.le_of_ble_eq_true rfl) ⟨by omega, by omega⟩ ⟨by omega, by omega⟩ (fun z10 g11 => ?_)
        have g23 : 13 * σ.2.1 6 a ≤ ((T x3).2 : Int) ∨ 2600 ≤ (T x3).2 := hw.2.1 a x3 ha hx4
        obtain ⟨N22, N22e⟩ : ∃ N : Nat, z10 = (N : Int) := ⟨(z10).toNat, by omega⟩
        refine tn_callS (M := m_X1_holdRows) (pc := 52) (ix := 66) (M' := m_J7_copyOf_59c91) (As := [.ref x3, .int (iI z10)]) (rest := [.ref a]) dX1_holdRows_52 ok_J7_copyOf_59c91 stt_J7_copyOf_59c91 ml1_66 np_J7_copyOf_59c91 rfl (Nat.le_of_ble_eq_true rfl) (Nat.le_of_ble_eq_true rfl) rfl (k_copyOf (d) (T := T) (σ := σ) (a := x3) (z := z10) (N := N22) hk5i (by omega) (fun i => by exact (hw.2.2.1 x3 (Or.inl hk5i) i)) N22e (by omega) (by omega)) (fun r12 T13 σ14 gt15 hp => ?_)
        obtain ⟨x16, f17, rfl, hx18, hT19, hs20, hf21⟩ := hp
        show Tn _ _ 55 T13 σ14 [(2, .int (iI z8)), (0, .ref a), (1, .int (iI n))] [.ref x16, .ref a] _
        have ob32 := ha
        replace ha : OB T13 a 1 := gt15.ob ha
        replace hta : (T13 a).1 = 50 := gt15.kk hta (by decide) (by decide)
        refine tn_putV (ci := 1) (i := 0) (n := 5) (r := true) (v := (x16 : Int)) tyX1 tyX1_ok nmX1 dX1_holdRows_55 rfl lay_1 (by decide) fl1_9 rfl (tyX1_ok 0 (by decide)) (vl_ref rfl).symm rfl rfl (gt15.ob ob32) rfl rfl ?_
        obtain ⟨σ24, h25⟩ : ∃ s, s = (sA 5 a (x16 : Int) σ14) := ⟨_, rfl⟩
        rw [← h25]
        have w26 : WT T13 σ24 := by
          rw [h25, hs20, hT19]
          exact WTx.app (hw.wx) ob32 (hx4) hx18 hf21 ⟨by omega, by omega⟩ (by omega) (by omega) (by rw [show σ.2.1 6 a = σ.2.1 6 a from rfl]; omega)
        have F27 : FrC T [5] σ σ24 := by
          rw [h25, hs20]
          exact FrC.put (FrC.row (FrC.gh FrC.rfl) (hk_no (by unfold NH HT; omega))) (by decide) (by decide)
        have c28 : σ24.2.1 6 a = σ.2.1 6 a := by rw [h25, hs20]; exact rc_o (by decide) (rc_r (Or.inl (by decide)) (rfl))
        have q29 : σ24.2.1 5 a = (x16 : Int) := by rw [h25]; exact ra_eq
        have l30 : (T13 x16).2 = N22 := by rw [hT19, tT_eq]
        obtain ⟨cx31, cx31i⟩ := cell_of w26 (gt15.ob ob32) q29
        have cx31t : (T13 x16).1 = 1 := cx31.1 (by omega)
        show Tn _ _ 58 T13 σ24 [(2, .int (iI z8)), (0, .ref a), (1, .int (iI n))] [] _
        refine tn_iconst dX1_holdRows_58 ?_
        exact tn_zret (v := 1) rfl (by decide) dX1_holdRows_59 ⟨_, rfl, w26, (FrC.rfl.trans (FrC.sub F27 (by decide))), by omega, fun _ => ⟨⟨by omega, by omega⟩, HR.of (q29) (by omega)⟩⟩
    · refine tn_iconst dX1_holdRows_11 ?_
      exact tn_zret (v := 0) rfl (by decide) dX1_holdRows_12 ⟨_, rfl, hw, FrC.rfl, by omega, fun q => absurd q (by decide)⟩
end
section
theorem cd_X1_openRows : Cond.code yX1_openRows cX1_openRows 3 (some .boolean) ∈ pWW := pw5 (List.mem_of_getElem? (i := 171) rfl) rfl
abbrev m_X1_openRows : MT := (yX1_openRows, cX1_openRows, 3, (some .boolean))
theorem ok_X1_openRows : pOk m_X1_openRows := ⟨⟨cd_X1_openRows, ini_1⟩, by decide +kernel, ⟨by decide +kernel, by decide +kernel⟩, Nat.le_of_ble_eq_true rfl⟩
theorem np_X1_openRows : (parseMethodDescriptor yX1_openRows.desc).map (fun d => d.parameters.length) = some 2 := by decide +kernel
theorem im_X1_openRows : Cond.instanceMethod yX1_openRows ∈ pWW := pw5 (List.mem_of_getElem? (i := 169) rfl) rfl
theorem se_X1_openRows : Cond.selects RX1 yX1_openRows yX1_openRows ∈ pWW := pw5 (List.mem_of_getElem? (i := 170) rfl) rfl
theorem ml1_76 : Cond.methodLink RX1 76 yX1_holdRows ∈ pWW := pw4 (List.mem_of_getElem? (i := 36) rfl) rfl
theorem dX1_openRows_0 : decode cX1_openRows 0 = .ok (.iload_n 2, 1) := by decide +kernel
theorem dX1_openRows_1 : decode cX1_openRows 1 = .ok (.ifCond .lt 28, 3) := by decide +kernel
theorem dX1_openRows_29 : decode cX1_openRows 29 = .ok (.iconst 0, 1) := by decide +kernel
theorem dX1_openRows_30 : decode cX1_openRows 30 = .ok (.ireturn, 1) := by decide +kernel
theorem dX1_openRows_4 : decode cX1_openRows 4 = .ok (.iload_n 1, 1) := by decide +kernel
theorem dX1_openRows_5 : decode cX1_openRows 5 = .ok (.ifCond .lt 24, 3) := by decide +kernel
theorem dX1_openRows_8 : decode cX1_openRows 8 = .ok (.iload_n 1, 1) := by decide +kernel
theorem dX1_openRows_9 : decode cX1_openRows 9 = .ok (.aload_n 0, 1) := by decide +kernel
theorem dX1_openRows_10 : decode cX1_openRows 10 = .ok (.getfield 33, 3) := by decide +kernel
theorem dX1_openRows_13 : decode cX1_openRows 13 = .ok (.if_icmp .gt 16, 3) := by decide +kernel
theorem dX1_openRows_16 : decode cX1_openRows 16 = .ok (.aload_n 0, 1) := by decide +kernel
theorem dX1_openRows_17 : decode cX1_openRows 17 = .ok (.aload_n 0, 1) := by decide +kernel
theorem dX1_openRows_18 : decode cX1_openRows 18 = .ok (.getfield 33, 3) := by decide +kernel
theorem dX1_openRows_21 : decode cX1_openRows 21 = .ok (.iload_n 2, 1) := by decide +kernel
theorem dX1_openRows_22 : decode cX1_openRows 22 = .ok (.iadd, 1) := by decide +kernel
theorem dX1_openRows_23 : decode cX1_openRows 23 = .ok (.invokevirtual 76, 3) := by decide +kernel
theorem dX1_openRows_26 : decode cX1_openRows 26 = .ok (.ifCond .ne 5, 3) := by decide +kernel
theorem dX1_openRows_31 : decode cX1_openRows 31 = .ok (.aload_n 0, 1) := by decide +kernel
theorem dX1_openRows_32 : decode cX1_openRows 32 = .ok (.getfield 9, 3) := by decide +kernel
theorem dX1_openRows_35 : decode cX1_openRows 35 = .ok (.iload_n 1, 1) := by decide +kernel
theorem dX1_openRows_36 : decode cX1_openRows 36 = .ok (.bipush 13, 2) := by decide +kernel
theorem dX1_openRows_38 : decode cX1_openRows 38 = .ok (.imul, 1) := by decide +kernel
theorem dX1_openRows_39 : decode cX1_openRows 39 = .ok (.aload_n 0, 1) := by decide +kernel
theorem dX1_openRows_40 : decode cX1_openRows 40 = .ok (.getfield 9, 3) := by decide +kernel
theorem dX1_openRows_43 : decode cX1_openRows 43 = .ok (.iload_n 1, 1) := by decide +kernel
theorem dX1_openRows_44 : decode cX1_openRows 44 = .ok (.iload_n 2, 1) := by decide +kernel
theorem dX1_openRows_45 : decode cX1_openRows 45 = .ok (.iadd, 1) := by decide +kernel
theorem dX1_openRows_46 : decode cX1_openRows 46 = .ok (.bipush 13, 2) := by decide +kernel
theorem dX1_openRows_48 : decode cX1_openRows 48 = .ok (.imul, 1) := by decide +kernel
theorem dX1_openRows_49 : decode cX1_openRows 49 = .ok (.aload_n 0, 1) := by decide +kernel
theorem dX1_openRows_50 : decode cX1_openRows 50 = .ok (.getfield 33, 3) := by decide +kernel
theorem dX1_openRows_53 : decode cX1_openRows 53 = .ok (.iload_n 1, 1) := by decide +kernel
theorem dX1_openRows_54 : decode cX1_openRows 54 = .ok (.isub, 1) := by decide +kernel
theorem dX1_openRows_55 : decode cX1_openRows 55 = .ok (.bipush 13, 2) := by decide +kernel
theorem dX1_openRows_57 : decode cX1_openRows 57 = .ok (.imul, 1) := by decide +kernel
theorem dX1_openRows_58 : decode cX1_openRows 58 = .ok (.invokestatic 80, 3) := by decide +kernel
theorem dX1_openRows_61 : decode cX1_openRows 61 = .ok (.aload_n 0, 1) := by decide +kernel
theorem dX1_openRows_62 : decode cX1_openRows 62 = .ok (.getfield 9, 3) := by decide +kernel
theorem dX1_openRows_65 : decode cX1_openRows 65 = .ok (.iload_n 1, 1) := by decide +kernel
theorem dX1_openRows_66 : decode cX1_openRows 66 = .ok (.bipush 13, 2) := by decide +kernel
theorem dX1_openRows_68 : decode cX1_openRows 68 = .ok (.imul, 1) := by decide +kernel
theorem dX1_openRows_69 : decode cX1_openRows 69 = .ok (.iload_n 1, 1) := by decide +kernel
theorem dX1_openRows_70 : decode cX1_openRows 70 = .ok (.iload_n 2, 1) := by decide +kernel
theorem dX1_openRows_71 : decode cX1_openRows 71 = .ok (.iadd, 1) := by decide +kernel
theorem dX1_openRows_72 : decode cX1_openRows 72 = .ok (.bipush 13, 2) := by decide +kernel
theorem dX1_openRows_74 : decode cX1_openRows 74 = .ok (.imul, 1) := by decide +kernel
theorem dX1_openRows_75 : decode cX1_openRows 75 = .ok (.iconst 0, 1) := by decide +kernel
theorem dX1_openRows_76 : decode cX1_openRows 76 = .ok (.invokestatic 72, 3) := by decide +kernel
theorem dX1_openRows_79 : decode cX1_openRows 79 = .ok (.aload_n 0, 1) := by decide +kernel
theorem dX1_openRows_80 : decode cX1_openRows 80 = .ok (.dup, 1) := by decide +kernel
theorem dX1_openRows_81 : decode cX1_openRows 81 = .ok (.getfield 33, 3) := by decide +kernel
theorem dX1_openRows_84 : decode cX1_openRows 84 = .ok (.iload_n 2, 1) := by decide +kernel
theorem dX1_openRows_85 : decode cX1_openRows 85 = .ok (.iadd, 1) := by decide +kernel
theorem dX1_openRows_86 : decode cX1_openRows 86 = .ok (.putfield 33, 3) := by decide +kernel
theorem dX1_openRows_89 : decode cX1_openRows 89 = .ok (.iconst 1, 1) := by decide +kernel
theorem dX1_openRows_90 : decode cX1_openRows 90 = .ok (.ireturn, 1) := by decide +kernel
end
section
theorem cd_X1_copyFrom : Cond.code yX1_copyFrom cX1_copyFrom 2 none ∈ pWW := pw4 (List.mem_of_getElem? (i := 35) rfl) rfl
abbrev m_X1_copyFrom : MT := (yX1_copyFrom, cX1_copyFrom, 2, none)
theorem ok_X1_copyFrom : pOk m_X1_copyFrom := ⟨⟨cd_X1_copyFrom, ini_1⟩, by decide +kernel, ⟨by decide +kernel, by decide +kernel⟩, Nat.le_of_ble_eq_true rfl⟩
theorem np_X1_copyFrom : (parseMethodDescriptor yX1_copyFrom.desc).map (fun d => d.parameters.length) = some 1 := by decide +kernel
theorem im_X1_copyFrom : Cond.instanceMethod yX1_copyFrom ∈ pWW := pw4 (List.mem_of_getElem? (i := 33) rfl) rfl
theorem se_X1_copyFrom : Cond.selects RX1 yX1_copyFrom yX1_copyFrom ∈ pWW := pw4 (List.mem_of_getElem? (i := 34) rfl) rfl
theorem dX1_copyFrom_0 : decode cX1_copyFrom 0 = .ok (.aload_n 0, 1) := by decide +kernel
theorem dX1_copyFrom_1 : decode cX1_copyFrom 1 = .ok (.aload_n 1, 1) := by decide +kernel
theorem dX1_copyFrom_2 : decode cX1_copyFrom 2 = .ok (.getfield 33, 3) := by decide +kernel
theorem dX1_copyFrom_5 : decode cX1_copyFrom 5 = .ok (.invokevirtual 76, 3) := by decide +kernel
theorem dX1_copyFrom_8 : decode cX1_copyFrom 8 = .ok (.ifCond .ne 4, 3) := by decide +kernel
theorem dX1_copyFrom_12 : decode cX1_copyFrom 12 = .ok (.aload_n 0, 1) := by decide +kernel
theorem dX1_copyFrom_13 : decode cX1_copyFrom 13 = .ok (.aload_n 1, 1) := by decide +kernel
theorem dX1_copyFrom_14 : decode cX1_copyFrom 14 = .ok (.getfield 33, 3) := by decide +kernel
theorem dX1_copyFrom_17 : decode cX1_copyFrom 17 = .ok (.putfield 33, 3) := by decide +kernel
theorem dX1_copyFrom_20 : decode cX1_copyFrom 20 = .ok (.aload_n 0, 1) := by decide +kernel
theorem dX1_copyFrom_21 : decode cX1_copyFrom 21 = .ok (.aload_n 1, 1) := by decide +kernel
theorem dX1_copyFrom_22 : decode cX1_copyFrom 22 = .ok (.getfield 37, 3) := by decide +kernel
theorem dX1_copyFrom_25 : decode cX1_copyFrom 25 = .ok (.putfield 37, 3) := by decide +kernel
theorem dX1_copyFrom_28 : decode cX1_copyFrom 28 = .ok (.aload_n 0, 1) := by decide +kernel
theorem dX1_copyFrom_29 : decode cX1_copyFrom 29 = .ok (.aload_n 1, 1) := by decide +kernel
theorem dX1_copyFrom_30 : decode cX1_copyFrom 30 = .ok (.getfield 40, 3) := by decide +kernel
theorem dX1_copyFrom_33 : decode cX1_copyFrom 33 = .ok (.putfield 40, 3) := by decide +kernel
theorem dX1_copyFrom_36 : decode cX1_copyFrom 36 = .ok (.aload_n 0, 1) := by decide +kernel
theorem dX1_copyFrom_37 : decode cX1_copyFrom 37 = .ok (.aload_n 1, 1) := by decide +kernel
theorem dX1_copyFrom_38 : decode cX1_copyFrom 38 = .ok (.getfield 43, 3) := by decide +kernel
theorem dX1_copyFrom_41 : decode cX1_copyFrom 41 = .ok (.putfield 43, 3) := by decide +kernel
theorem dX1_copyFrom_44 : decode cX1_copyFrom 44 = .ok (.aload_n 0, 1) := by decide +kernel
theorem dX1_copyFrom_45 : decode cX1_copyFrom 45 = .ok (.aload_n 1, 1) := by decide +kernel
theorem dX1_copyFrom_46 : decode cX1_copyFrom 46 = .ok (.getfield 46, 3) := by decide +kernel
theorem dX1_copyFrom_49 : decode cX1_copyFrom 49 = .ok (.putfield 46, 3) := by decide +kernel
theorem dX1_copyFrom_52 : decode cX1_copyFrom 52 = .ok (.aload_n 1, 1) := by decide +kernel
theorem dX1_copyFrom_53 : decode cX1_copyFrom 53 = .ok (.getfield 9, 3) := by decide +kernel
theorem dX1_copyFrom_56 : decode cX1_copyFrom 56 = .ok (.iconst 0, 1) := by decide +kernel
theorem dX1_copyFrom_57 : decode cX1_copyFrom 57 = .ok (.aload_n 0, 1) := by decide +kernel
theorem dX1_copyFrom_58 : decode cX1_copyFrom 58 = .ok (.getfield 9, 3) := by decide +kernel
theorem dX1_copyFrom_61 : decode cX1_copyFrom 61 = .ok (.iconst 0, 1) := by decide +kernel
theorem dX1_copyFrom_62 : decode cX1_copyFrom 62 = .ok (.aload_n 0, 1) := by decide +kernel
theorem dX1_copyFrom_63 : decode cX1_copyFrom 63 = .ok (.getfield 33, 3) := by decide +kernel
theorem dX1_copyFrom_66 : decode cX1_copyFrom 66 = .ok (.bipush 13, 2) := by decide +kernel
theorem dX1_copyFrom_68 : decode cX1_copyFrom 68 = .ok (.imul, 1) := by decide +kernel
theorem dX1_copyFrom_69 : decode cX1_copyFrom 69 = .ok (.invokestatic 80, 3) := by decide +kernel
theorem dX1_copyFrom_72 : decode cX1_copyFrom 72 = .ok (.aload_n 1, 1) := by decide +kernel
theorem dX1_copyFrom_73 : decode cX1_copyFrom 73 = .ok (.getfield 15, 3) := by decide +kernel
theorem dX1_copyFrom_76 : decode cX1_copyFrom 76 = .ok (.iconst 0, 1) := by decide +kernel
theorem dX1_copyFrom_77 : decode cX1_copyFrom 77 = .ok (.aload_n 0, 1) := by decide +kernel
theorem dX1_copyFrom_78 : decode cX1_copyFrom 78 = .ok (.getfield 15, 3) := by decide +kernel
theorem dX1_copyFrom_81 : decode cX1_copyFrom 81 = .ok (.iconst 0, 1) := by decide +kernel
theorem dX1_copyFrom_82 : decode cX1_copyFrom 82 = .ok (.bipush 12, 2) := by decide +kernel
theorem dX1_copyFrom_84 : decode cX1_copyFrom 84 = .ok (.invokestatic 80, 3) := by decide +kernel
theorem dX1_copyFrom_87 : decode cX1_copyFrom 87 = .ok (.aload_n 1, 1) := by decide +kernel
theorem dX1_copyFrom_88 : decode cX1_copyFrom 88 = .ok (.getfield 18, 3) := by decide +kernel
theorem dX1_copyFrom_91 : decode cX1_copyFrom 91 = .ok (.iconst 0, 1) := by decide +kernel
theorem dX1_copyFrom_92 : decode cX1_copyFrom 92 = .ok (.aload_n 0, 1) := by decide +kernel
theorem dX1_copyFrom_93 : decode cX1_copyFrom 93 = .ok (.getfield 18, 3) := by decide +kernel
theorem dX1_copyFrom_96 : decode cX1_copyFrom 96 = .ok (.iconst 0, 1) := by decide +kernel
theorem dX1_copyFrom_97 : decode cX1_copyFrom 97 = .ok (.bipush 12, 2) := by decide +kernel
theorem dX1_copyFrom_99 : decode cX1_copyFrom 99 = .ok (.invokestatic 80, 3) := by decide +kernel
theorem dX1_copyFrom_102 : decode cX1_copyFrom 102 = .ok (.aload_n 1, 1) := by decide +kernel
theorem dX1_copyFrom_103 : decode cX1_copyFrom 103 = .ok (.getfield 21, 3) := by decide +kernel
theorem dX1_copyFrom_106 : decode cX1_copyFrom 106 = .ok (.iconst 0, 1) := by decide +kernel
theorem dX1_copyFrom_107 : decode cX1_copyFrom 107 = .ok (.aload_n 0, 1) := by decide +kernel
theorem dX1_copyFrom_108 : decode cX1_copyFrom 108 = .ok (.getfield 21, 3) := by decide +kernel
theorem dX1_copyFrom_111 : decode cX1_copyFrom 111 = .ok (.iconst 0, 1) := by decide +kernel
theorem dX1_copyFrom_112 : decode cX1_copyFrom 112 = .ok (.bipush 12, 2) := by decide +kernel
theorem dX1_copyFrom_114 : decode cX1_copyFrom 114 = .ok (.invokestatic 80, 3) := by decide +kernel
theorem dX1_copyFrom_117 : decode cX1_copyFrom 117 = .ok (.aload_n 1, 1) := by decide +kernel
theorem dX1_copyFrom_118 : decode cX1_copyFrom 118 = .ok (.getfield 24, 3) := by decide +kernel
theorem dX1_copyFrom_121 : decode cX1_copyFrom 121 = .ok (.iconst 0, 1) := by decide +kernel
theorem dX1_copyFrom_122 : decode cX1_copyFrom 122 = .ok (.aload_n 0, 1) := by decide +kernel
theorem dX1_copyFrom_123 : decode cX1_copyFrom 123 = .ok (.getfield 24, 3) := by decide +kernel
theorem dX1_copyFrom_126 : decode cX1_copyFrom 126 = .ok (.iconst 0, 1) := by decide +kernel
theorem dX1_copyFrom_127 : decode cX1_copyFrom 127 = .ok (.bipush 12, 2) := by decide +kernel
theorem dX1_copyFrom_129 : decode cX1_copyFrom 129 = .ok (.invokestatic 80, 3) := by decide +kernel
theorem dX1_copyFrom_132 : decode cX1_copyFrom 132 = .ok (.aload_n 1, 1) := by decide +kernel
theorem dX1_copyFrom_133 : decode cX1_copyFrom 133 = .ok (.getfield 27, 3) := by decide +kernel
theorem dX1_copyFrom_136 : decode cX1_copyFrom 136 = .ok (.iconst 0, 1) := by decide +kernel
theorem dX1_copyFrom_137 : decode cX1_copyFrom 137 = .ok (.aload_n 0, 1) := by decide +kernel
theorem dX1_copyFrom_138 : decode cX1_copyFrom 138 = .ok (.getfield 27, 3) := by decide +kernel
theorem dX1_copyFrom_141 : decode cX1_copyFrom 141 = .ok (.iconst 0, 1) := by decide +kernel
theorem dX1_copyFrom_142 : decode cX1_copyFrom 142 = .ok (.sipush 144, 3) := by decide +kernel
theorem dX1_copyFrom_145 : decode cX1_copyFrom 145 = .ok (.invokestatic 80, 3) := by decide +kernel
theorem dX1_copyFrom_148 : decode cX1_copyFrom 148 = .ok (.return_, 1) := by decide +kernel
theorem dX1_copyFrom_11 : decode cX1_copyFrom 11 = .ok (.return_, 1) := by decide +kernel
set_option maxRecDepth 20000 in
theorem k_X1_copyFrom (d : Nat) {T : CT} {σ : MS} {a : Nat} {p1 : Nat} (ha : OB T a 1) (hta : (T a).1 = 50) (h_p1 : OB T p1 1) (t_p1 : (T p1).1 = 31) (hw : WT T σ) : Tn (d + 3) m_X1_copyFrom 0 T σ [(0, .ref a), (1, .ref p1)] [] (fun ro T2 σ2 => ro = none ∧ WT T2 σ2 ∧ FrC T [5, 6, 7, 8, 9, 10] σ σ2) := by
  refine tn_aload_n dX1_copyFrom_0 rfl 0 rfl ?_
  refine tn_aload_n dX1_copyFrom_1 rfl 1 rfl ?_
  refine tn_getI (ci := 1) (i := 1) (n := 6) (t := σ.2.1 6 p1) dX1_copyFrom_2 rfl lay_1 (by decide) fl1_33 h_p1 rfl rfl (rfl) ?_
  have g1 : ((0 : Int) ≤ σ.2.1 6 p1 ∧ σ.2.1 6 p1 ≤ 5000) ∧ ((T p1).1 = 50 → σ.2.1 6 p1 ≤ 200) := wf_6 hw h_p1
  have g1x := g1.2
  replace g1 := g1.1
  clear g1x
  refine tn_callV (M := m_X1_copyFrom) (pc := 5) (ix := 76) (ci := 1) (M' := m_X1_holdRows) (As := [.int (iI (σ.2.1 6 p1))]) (rest := []) dX1_copyFrom_5 ok_X1_holdRows im_X1_holdRows se_X1_holdRows ml1_76 np_X1_holdRows rfl rfl ha rfl (Nat.le_of_ble_eq_true rfl) (Nat.le_of_ble_eq_true rfl) rfl (k_X1_holdRows (d) (T := T) (σ := σ) (a := a) (n := σ.2.1 6 p1) ha hta (by omega) hw ) (fun r2 T4 σ3 gt5 hp => ?_)
  obtain ⟨v8, rfl, w9, F10, f6, f7⟩ := hp
  replace ha : OB T4 a 1 := gt5.ob ha
  replace hta : (T4 a).1 = 50 := gt5.kk hta (by decide) (by decide)
  replace t_p1 : (T4 p1).1 = 31 := gt5.kk t_p1 (by decide) (by decide)
  replace h_p1 : OB T4 p1 1 := gt5.ob h_p1
  have q11 : σ3.2.1 6 a = σ.2.1 6 a := rc_F F10 (Or.inl (by decide)) (by decide) (rfl)
  have q12 : σ3.2.1 6 p1 = σ.2.1 6 p1 := rc_F F10 (Or.inl (by decide)) (by decide) (rfl)
  show Tn _ _ 8 T4 σ3 [(0, .ref a), (1, .ref p1)] [.int (iI v8)] _
  refine tn_if_ne (tgt := 12) dX1_copyFrom_8 (by decide) ⟨by omega, by omega⟩ (fun h13 => ?_) (fun h13 => ?_)
  · obtain ⟨q14, q14h⟩ := f7 (by omega)
    obtain ⟨x15, hx16, hl18, hk17a, hk17b⟩ := wf_5 w9 ha
    have hk17 : (T4 x15).1 = 1 := hk17a (by omega)
    clear hk17a hk17b
    have hk17i : IA T4 x15 := by unfold IA; omega
    have q14x := q14h x15 (hx16)
    refine tn_aload_n dX1_copyFrom_12 rfl 0 rfl ?_
    refine tn_aload_n dX1_copyFrom_13 rfl 1 rfl ?_
    refine tn_getI (ci := 1) (i := 1) (n := 6) (t := σ3.2.1 6 p1) dX1_copyFrom_14 rfl lay_1 (by decide) fl1_33 h_p1 rfl rfl (rfl) ?_
    have g19 : ((0 : Int) ≤ σ3.2.1 6 p1 ∧ σ3.2.1 6 p1 ≤ 5000) ∧ ((T4 p1).1 = 50 → σ3.2.1 6 p1 ≤ 200) := wf_6 w9 h_p1
    have g19x := g19.2
    replace g19 := g19.1
    clear g19x
    refine tn_putV (ci := 1) (i := 1) (n := 6) (r := false) (v := σ3.2.1 6 p1) tyX1 tyX1_ok nmX1 dX1_copyFrom_17 rfl lay_1 (by decide) fl1_33 rfl (tyX1_ok 1 (by decide)) rfl rfl rfl ha rfl rfl ?_
    refine tn_aload_n dX1_copyFrom_20 rfl 0 rfl ?_
    refine tn_aload_n dX1_copyFrom_21 rfl 1 rfl ?_
    refine tn_getI (ci := 1) (i := 2) (n := 7) (t := σ3.2.1 7 p1) dX1_copyFrom_22 rfl lay_1 (by decide) fl1_37 h_p1 rfl rfl (rc_o (by decide) (rfl)) ?_
    have g20 : ((0 : Int) ≤ σ3.2.1 7 p1 ∧ σ3.2.1 7 p1 ≤ 12) := wf_7 w9 h_p1
    refine tn_putV (ci := 1) (i := 2) (n := 7) (r := false) (v := σ3.2.1 7 p1) tyX1 tyX1_ok nmX1 dX1_copyFrom_25 rfl lay_1 (by decide) fl1_37 rfl (tyX1_ok 2 (by decide)) rfl rfl rfl ha rfl rfl ?_
    refine tn_aload_n dX1_copyFrom_28 rfl 0 rfl ?_
    refine tn_aload_n dX1_copyFrom_29 rfl 1 rfl ?_
    refine tn_getI (ci := 1) (i := 3) (n := 8) (t := σ3.2.1 8 p1) dX1_copyFrom_30 rfl lay_1 (by decide) fl1_40 h_p1 rfl rfl (rc_o (by decide) (rc_o (by decide) (rfl))) ?_
    have g21 : ((0 : Int) ≤ σ3.2.1 8 p1 ∧ σ3.2.1 8 p1 ≤ 4) := wf_8 w9 h_p1
    refine tn_putV (ci := 1) (i := 3) (n := 8) (r := false) (v := σ3.2.1 8 p1) tyX1 tyX1_ok nmX1 dX1_copyFrom_33 rfl lay_1 (by decide) fl1_40 rfl (tyX1_ok 3 (by decide)) rfl rfl rfl ha rfl rfl ?_
    refine tn_aload_n dX1_copyFrom_36 rfl 0 rfl ?_
    refine tn_aload_n dX1_copyFrom_37 rfl 1 rfl ?_
    refine tn_getI (ci := 1) (i := 4) (n := 9) (t := σ3.2.1 9 p1) dX1_copyFrom_38 rfl lay_1 (by decide) fl1_43 h_p1 rfl rfl (rc_o (by decide) (rc_o (by decide) (rc_o (by decide) (rfl)))) ?_
    have g22 : ((-2147483648 : Int) ≤ σ3.2.1 9 p1 ∧ σ3.2.1 9 p1 ≤ 2147483647) := wf_9 w9 h_p1
    refine tn_putV (ci := 1) (i := 4) (n := 9) (r := false) (v := σ3.2.1 9 p1) tyX1 tyX1_ok nmX1 dX1_copyFrom_41 rfl lay_1 (by decide) fl1_43 rfl (tyX1_ok 4 (by decide)) rfl rfl rfl ha rfl rfl ?_
    refine tn_aload_n dX1_copyFrom_44 rfl 0 rfl ?_
    refine tn_aload_n dX1_copyFrom_45 rfl 1 rfl ?_
    refine tn_getI (ci := 1) (i := 5) (n := 10) (t := σ3.2.1 10 p1) dX1_copyFrom_46 rfl lay_1 (by decide) fl1_46 h_p1 rfl rfl (rc_o (by decide) (rc_o (by decide) (rc_o (by decide) (rc_o (by decide) (rfl))))) ?_
    have g23 : ((0 : Int) ≤ σ3.2.1 10 p1 ∧ σ3.2.1 10 p1 ≤ 12) := wf_10 w9 h_p1
    refine tn_putV (ci := 1) (i := 5) (n := 10) (r := false) (v := σ3.2.1 10 p1) tyX1 tyX1_ok nmX1 dX1_copyFrom_49 rfl lay_1 (by decide) fl1_46 rfl (tyX1_ok 5 (by decide)) rfl rfl rfl ha rfl rfl ?_
    obtain ⟨x24, hx25, hl27, hk26a, hk26b⟩ := wf_5 w9 h_p1
    have hk26 : (T4 x24).1 = 13 := hk26b (by omega)
    clear hk26a hk26b
    have hk26i : IA T4 x24 := by unfold IA; omega
    have g28 : 13 * σ3.2.1 6 p1 ≤ ((T4 x24).2 : Int) ∨ 2600 ≤ (T4 x24).2 := w9.2.1 p1 x24 h_p1 hx25
    refine tn_aload_n dX1_copyFrom_52 rfl 1 rfl ?_
    refine tn_getR (ci := 1) (i := 0) (n := 5) (x := x24) dX1_copyFrom_53 rfl lay_1 (by decide) fl1_9 h_p1 rfl rfl (rc_o (by decide) (rc_o (by decide) (rc_o (by decide) (rc_o (by decide) (rc_o (by decide) (hx25)))))) ?_
    refine tn_iconst dX1_copyFrom_56 ?_
    refine tn_aload_n dX1_copyFrom_57 rfl 0 rfl ?_
    refine tn_getR (ci := 1) (i := 0) (n := 5) (x := x15) dX1_copyFrom_58 rfl lay_1 (by decide) fl1_9 ha rfl rfl (rc_o (by decide) (rc_o (by decide) (rc_o (by decide) (rc_o (by decide) (rc_o (by decide) (hx16)))))) ?_
    refine tn_iconst dX1_copyFrom_61 ?_
    refine tn_aload_n dX1_copyFrom_62 rfl 0 rfl ?_
    refine tn_getI (ci := 1) (i := 1) (n := 6) (t := σ3.2.1 6 p1) dX1_copyFrom_63 rfl lay_1 (by decide) fl1_33 ha rfl rfl (rc_o (by decide) (rc_o (by decide) (rc_o (by decide) (rc_o (by decide) (ra_eq))))) ?_
    refine tn_bipush dX1_copyFrom_66 (by decide) ?_
    refine tn_imul dX1_copyFrom_68 ?_
    refine tn_acopyI (a := x24) (b := x15) (sp := 0) (dp := 0) (n := (σ3.2.1 6 p1) * 13) dX1_copyFrom_69 mla1_80 acNat acSt acIni hk26i hk17i ⟨by omega, by omega⟩ (by omega) (by omega) (by omega) (by omega) (by omega) (by omega) (Nat.le_of_ble_eq_true rfl) ?_
    refine tn_aload_n dX1_copyFrom_72 rfl 1 rfl ?_
    obtain ⟨x29, hx30, hk31, hl32⟩ : ∃ x : Nat, σ3.2.1 11 p1 = (x : Int) ∧ AR T4 x 1 12 12 := wf_11 w9 h_p1
    have hk31i : IA T4 x29 := by unfold IA; omega
    refine tn_getR (ci := 1) (i := 6) (n := 11) (x := x29) dX1_copyFrom_73 rfl lay_1 (by decide) fl1_15 h_p1 rfl rfl (rc_r (Or.inl (by decide)) (rc_o (by decide) (rc_o (by decide) (rc_o (by decide) (rc_o (by decide) (rc_o (by decide) (hx30))))))) ?_
    refine tn_iconst dX1_copyFrom_76 ?_
    refine tn_aload_n dX1_copyFrom_77 rfl 0 rfl ?_
    obtain ⟨x33, hx34, hk35, hl36⟩ : ∃ x : Nat, σ3.2.1 11 a = (x : Int) ∧ AR T4 x 1 12 12 := wf_11 w9 ha
    have hk35i : IA T4 x33 := by unfold IA; omega
    refine tn_getR (ci := 1) (i := 6) (n := 11) (x := x33) dX1_copyFrom_78 rfl lay_1 (by decide) fl1_15 ha rfl rfl (rc_r (Or.inl (by decide)) (rc_o (by decide) (rc_o (by decide) (rc_o (by decide) (rc_o (by decide) (rc_o (by decide) (hx34))))))) ?_
    refine tn_iconst dX1_copyFrom_81 ?_
    refine tn_bipush dX1_copyFrom_82 (by decide) ?_
    refine tn_acopyI (a := x29) (b := x33) (sp := 0) (dp := 0) (n := 12) dX1_copyFrom_84 mla1_80 acNat acSt acIni hk31i hk35i ⟨by omega, by omega⟩ (by omega) (by omega) (by omega) (by omega) (by omega) (by omega) (Nat.le_of_ble_eq_true rfl) ?_
    refine tn_aload_n dX1_copyFrom_87 rfl 1 rfl ?_
    obtain ⟨x37, hx38, hk39, hl40⟩ : ∃ x : Nat, σ3.2.1 12 p1 = (x : Int) ∧ AR T4 x 1 12 12 := wf_12 w9 h_p1
    have hk39i : IA T4 x37 := by unfold IA; omega
    refine tn_getR (ci := 1) (i := 7) (n := 12) (x := x37) dX1_copyFrom_88 rfl lay_1 (by decide) fl1_18 h_p1 rfl rfl (rc_r (Or.inl (by decide)) (rc_r (Or.inl (by decide)) (rc_o (by decide) (rc_o (by decide) (rc_o (by decide) (rc_o (by decide) (rc_o (by decide) (hx38)))))))) ?_
    refine tn_iconst dX1_copyFrom_91 ?_
    refine tn_aload_n dX1_copyFrom_92 rfl 0 rfl ?_
    obtain ⟨x41, hx42, hk43, hl44⟩ : ∃ x : Nat, σ3.2.1 12 a = (x : Int) ∧ AR T4 x 1 12 12 := wf_12 w9 ha
    have hk43i : IA T4 x41 := by unfold IA; omega
    refine tn_getR (ci := 1) (i := 7) (n := 12) (x := x41) dX1_copyFrom_93 rfl lay_1 (by decide) fl1_18 ha rfl rfl (rc_r (Or.inl (by decide)) (rc_r (Or.inl (by decide)) (rc_o (by decide) (rc_o (by decide) (rc_o (by decide) (rc_o (by decide) (rc_o (by decide) (hx42)))))))) ?_
    refine tn_iconst dX1_copyFrom_96 ?_
    refine tn_bipush dX1_copyFrom_97 (by decide) ?_
    refine tn_acopyI (a := x37) (b := x41) (sp := 0) (dp := 0) (n := 12) dX1_copyFrom_99 mla1_80 acNat acSt acIni hk39i hk43i ⟨by omega, by omega⟩ (by omega) (by omega) (by omega) (by omega) (by omega) (by omega) (Nat.le_of_ble_eq_true rfl) ?_
    refine tn_aload_n dX1_copyFrom_102 rfl 1 rfl ?_
    obtain ⟨x45, hx46, hk47, hl48⟩ : ∃ x : Nat, σ3.2.1 13 p1 = (x : Int) ∧ AR T4 x 1 12 12 := wf_13 w9 h_p1
    have hk47i : IA T4 x45 := by unfold IA; omega
    refine tn_getR (ci := 1) (i := 8) (n := 13) (x := x45) dX1_copyFrom_103 rfl lay_1 (by decide) fl1_21 h_p1 rfl rfl (rc_r (Or.inl (by decide)) (rc_r (Or.inl (by decide)) (rc_r (Or.inl (by decide)) (rc_o (by decide) (rc_o (by decide) (rc_o (by decide) (rc_o (by decide) (rc_o (by decide) (hx46))))))))) ?_
    refine tn_iconst dX1_copyFrom_106 ?_
    refine tn_aload_n dX1_copyFrom_107 rfl 0 rfl ?_
    obtain ⟨x49, hx50, hk51, hl52⟩ : ∃ x : Nat, σ3.2.1 13 a = (x : Int) ∧ AR T4 x 1 12 12 := wf_13 w9 ha
    have hk51i : IA T4 x49 := by unfold IA; omega
    refine tn_getR (ci := 1) (i := 8) (n := 13) (x := x49) dX1_copyFrom_108 rfl lay_1 (by decide) fl1_21 ha rfl rfl (rc_r (Or.inl (by decide)) (rc_r (Or.inl (by decide)) (rc_r (Or.inl (by decide)) (rc_o (by decide) (rc_o (by decide) (rc_o (by decide) (rc_o (by decide) (rc_o (by decide) (hx50))))))))) ?_
    refine tn_iconst dX1_copyFrom_111 ?_
    refine tn_bipush dX1_copyFrom_112 (by decide) ?_
    refine tn_acopyI (a := x45) (b := x49) (sp := 0) (dp := 0) (n := 12) dX1_copyFrom_114 mla1_80 acNat acSt acIni hk47i hk51i ⟨by omega, by omega⟩ (by omega) (by omega) (by omega) (by omega) (by omega) (by omega) (Nat.le_of_ble_eq_true rfl) ?_
    refine tn_aload_n dX1_copyFrom_117 rfl 1 rfl ?_
    obtain ⟨x53, hx54, hk55, hl56⟩ : ∃ x : Nat, σ3.2.1 14 p1 = (x : Int) ∧ AR T4 x 11 12 12 := wf_14 w9 h_p1
    have hk55i : IA T4 x53 := by unfold IA; omega
    refine tn_getR (ci := 1) (i := 9) (n := 14) (x := x53) dX1_copyFrom_118 rfl lay_1 (by decide) fl1_24 h_p1 rfl rfl (rc_r (Or.inl (by decide)) (rc_r (Or.inl (by decide)) (rc_r (Or.inl (by decide)) (rc_r (Or.inl (by decide)) (rc_o (by decide) (rc_o (by decide) (rc_o (by decide) (rc_o (by decide) (rc_o (by decide) (hx54)))))))))) ?_
    refine tn_iconst dX1_copyFrom_121 ?_
    refine tn_aload_n dX1_copyFrom_122 rfl 0 rfl ?_
    obtain ⟨x57, hx58, hk59, hl60⟩ : ∃ x : Nat, σ3.2.1 14 a = (x : Int) ∧ AR T4 x 11 12 12 := wf_14 w9 ha
    have hk59i : IA T4 x57 := by unfold IA; omega
    refine tn_getR (ci := 1) (i := 9) (n := 14) (x := x57) dX1_copyFrom_123 rfl lay_1 (by decide) fl1_24 ha rfl rfl (rc_r (Or.inl (by decide)) (rc_r (Or.inl (by decide)) (rc_r (Or.inl (by decide)) (rc_r (Or.inl (by decide)) (rc_o (by decide) (rc_o (by decide) (rc_o (by decide) (rc_o (by decide) (rc_o (by decide) (hx58)))))))))) ?_
    refine tn_iconst dX1_copyFrom_126 ?_
    refine tn_bipush dX1_copyFrom_127 (by decide) ?_
    refine tn_acopyI (a := x53) (b := x57) (sp := 0) (dp := 0) (n := 12) dX1_copyFrom_129 mla1_80 acNat acSt acIni hk55i hk59i ⟨by omega, by omega⟩ (by omega) (by omega) (by omega) (by omega) (by omega) (by omega) (Nat.le_of_ble_eq_true rfl) ?_
    refine tn_aload_n dX1_copyFrom_132 rfl 1 rfl ?_
    obtain ⟨x61, hx62, hk63, hl64⟩ : ∃ x : Nat, σ3.2.1 15 p1 = (x : Int) ∧ AR T4 x 1 144 144 := wf_15 w9 h_p1
    have hk63i : IA T4 x61 := by unfold IA; omega
    refine tn_getR (ci := 1) (i := 10) (n := 15) (x := x61) dX1_copyFrom_133 rfl lay_1 (by decide) fl1_27 h_p1 rfl rfl (rc_r (Or.inl (by decide)) (rc_r (Or.inl (by decide)) (rc_r (Or.inl (by decide)) (rc_r (Or.inl (by decide)) (rc_r (Or.inl (by decide)) (rc_o (by decide) (rc_o (by decide) (rc_o (by decide) (rc_o (by decide) (rc_o (by decide) (hx62))))))))))) ?_
    refine tn_iconst dX1_copyFrom_136 ?_
    refine tn_aload_n dX1_copyFrom_137 rfl 0 rfl ?_
    obtain ⟨x65, hx66, hk67, hl68⟩ : ∃ x : Nat, σ3.2.1 15 a = (x : Int) ∧ AR T4 x 1 144 144 := wf_15 w9 ha
    have hk67i : IA T4 x65 := by unfold IA; omega
    refine tn_getR (ci := 1) (i := 10) (n := 15) (x := x65) dX1_copyFrom_138 rfl lay_1 (by decide) fl1_27 ha rfl rfl (rc_r (Or.inl (by decide)) (rc_r (Or.inl (by decide)) (rc_r (Or.inl (by decide)) (rc_r (Or.inl (by decide)) (rc_r (Or.inl (by decide)) (rc_o (by decide) (rc_o (by decide) (rc_o (by decide) (rc_o (by decide) (rc_o (by decide) (hx66))))))))))) ?_
    refine tn_iconst dX1_copyFrom_141 ?_
    refine tn_sipush dX1_copyFrom_142 (by decide) ?_
    refine tn_acopyI (a := x61) (b := x65) (sp := 0) (dp := 0) (n := 144) dX1_copyFrom_145 mla1_80 acNat acSt acIni hk63i hk67i ⟨by omega, by omega⟩ (by omega) (by omega) (by omega) (by omega) (by omega) (by omega) (Nat.le_of_ble_eq_true rfl) ?_
    exact tn_vret rfl dX1_copyFrom_148 ⟨rfl, (((((((((((w9.put6 (hx16) (fo_6 ⟨by omega, by omega⟩) (by omega)).put (by decide) (by decide) (fo_7 (by omega))).put (by decide) (by decide) (fo_8 (by omega))).put (by decide) (by decide) (fo_9 (by omega))).put (by decide) (by decide) (fo_10 (by omega))).row (Or.inl hk17i) (vok_cp1 (((((w9.put6 (hx16) (fo_6 ⟨by omega, by omega⟩) (by omega)).put (by decide) (by decide) (fo_7 (by omega))).put (by decide) (by decide) (fo_8 (by omega))).put (by decide) (by decide) (fo_9 (by omega))).put (by decide) (by decide) (fo_10 (by omega))) hk26i hk17i (by have q9 := hk17; omega))).row (Or.inl hk35i) (vok_cp1 ((((((w9.put6 (hx16) (fo_6 ⟨by omega, by omega⟩) (by omega)).put (by decide) (by decide) (fo_7 (by omega))).put (by decide) (by decide) (fo_8 (by omega))).put (by decide) (by decide) (fo_9 (by omega))).put (by decide) (by decide) (fo_10 (by omega))).row (Or.inl hk17i) (vok_cp1 (((((w9.put6 (hx16) (fo_6 ⟨by omega, by omega⟩) (by omega)).put (by decide) (by decide) (fo_7 (by omega))).put (by decide) (by decide) (fo_8 (by omega))).put (by decide) (by decide) (fo_9 (by omega))).put (by decide) (by decide) (fo_10 (by omega))) hk26i hk17i (by have q9 := hk17; omega))) hk31i hk35i (by have q9 := hk35; omega))).row (Or.inl hk43i) (vok_cp1 (((((((w9.put6 (hx16) (fo_6 ⟨by omega, by omega⟩) (by omega)).put (by decide) (by decide) (fo_7 (by omega))).put (by decide) (by decide) (fo_8 (by omega))).put (by decide) (by decide) (fo_9 (by omega))).put (by decide) (by decide) (fo_10 (by omega))).row (Or.inl hk17i) (vok_cp1 (((((w9.put6 (hx16) (fo_6 ⟨by omega, by omega⟩) (by omega)).put (by decide) (by decide) (fo_7 (by omega))).put (by decide) (by decide) (fo_8 (by omega))).put (by decide) (by decide) (fo_9 (by omega))).put (by decide) (by decide) (fo_10 (by omega))) hk26i hk17i (by have q9 := hk17; omega))).row (Or.inl hk35i) (vok_cp1 ((((((w9.put6 (hx16) (fo_6 ⟨by omega, by omega⟩) (by omega)).put (by decide) (by decide) (fo_7 (by omega))).put (by decide) (by decide) (fo_8 (by omega))).put (by decide) (by decide) (fo_9 (by omega))).put (by decide) (by decide) (fo_10 (by omega))).row (Or.inl hk17i) (vok_cp1 (((((w9.put6 (hx16) (fo_6 ⟨by omega, by omega⟩) (by omega)).put (by decide) (by decide) (fo_7 (by omega))).put (by decide) (by decide) (fo_8 (by omega))).put (by decide) (by decide) (fo_9 (by omega))).put (by decide) (by decide) (fo_10 (by omega))) hk26i hk17i (by have q9 := hk17; omega))) hk31i hk35i (by have q9 := hk35; omega))) hk39i hk43i (by have q9 := hk43; omega))).row (Or.inl hk51i) (vok_cp1 ((((((((w9.put6 (hx16) (fo_6 ⟨by omega, by omega⟩) (by omega)).put (by decide) (by decide) (fo_7 (by omega))).put (by decide) (by decide) (fo_8 (by omega))).put (by decide) (by decide) (fo_9 (by omega))).put (by decide) (by decide) (fo_10 (by omega))).row (Or.inl hk17i) (vok_cp1 (((((w9.put6 (hx16) (fo_6 ⟨by omega, by omega⟩) (by omega)).put (by decide) (by decide) (fo_7 (by omega))).put (by decide) (by decide) (fo_8 (by omega))).put (by decide) (by decide) (fo_9 (by omega))).put (by decide) (by decide) (fo_10 (by omega))) hk26i hk17i (by have q9 := hk17; omega))).row (Or.inl hk35i) (vok_cp1 ((((((w9.put6 (hx16) (fo_6 ⟨by omega, by omega⟩) (by omega)).put (by decide) (by decide) (fo_7 (by omega))).put (by decide) (by decide) (fo_8 (by omega))).put (by decide) (by decide) (fo_9 (by omega))).put (by decide) (by decide) (fo_10 (by omega))).row (Or.inl hk17i) (vok_cp1 (((((w9.put6 (hx16) (fo_6 ⟨by omega, by omega⟩) (by omega)).put (by decide) (by decide) (fo_7 (by omega))).put (by decide) (by decide) (fo_8 (by omega))).put (by decide) (by decide) (fo_9 (by omega))).put (by decide) (by decide) (fo_10 (by omega))) hk26i hk17i (by have q9 := hk17; omega))) hk31i hk35i (by have q9 := hk35; omega))).row (Or.inl hk43i) (vok_cp1 (((((((w9.put6 (hx16) (fo_6 ⟨by omega, by omega⟩) (by omega)).put (by decide) (by decide) (fo_7 (by omega))).put (by decide) (by decide) (fo_8 (by omega))).put (by decide) (by decide) (fo_9 (by omega))).put (by decide) (by decide) (fo_10 (by omega))).row (Or.inl hk17i) (vok_cp1 (((((w9.put6 (hx16) (fo_6 ⟨by omega, by omega⟩) (by omega)).put (by decide) (by decide) (fo_7 (by omega))).put (by decide) (by decide) (fo_8 (by omega))).put (by decide) (by decide) (fo_9 (by omega))).put (by decide) (by decide) (fo_10 (by omega))) hk26i hk17i (by have q9 := hk17; omega))).row (Or.inl hk35i) (vok_cp1 ((((((w9.put6 (hx16) (fo_6 ⟨by omega, by omega⟩) (by omega)).put (by decide) (by decide) (fo_7 (by omega))).put (by decide) (by decide) (fo_8 (by omega))).put (by decide) (by decide) (fo_9 (by omega))).put (by decide) (by decide) (fo_10 (by omega))).row (Or.inl hk17i) (vok_cp1 (((((w9.put6 (hx16) (fo_6 ⟨by omega, by omega⟩) (by omega)).put (by decide) (by decide) (fo_7 (by omega))).put (by decide) (by decide) (fo_8 (by omega))).put (by decide) (by decide) (fo_9 (by omega))).put (by decide) (by decide) (fo_10 (by omega))) hk26i hk17i (by have q9 := hk17; omega))) hk31i hk35i (by have q9 := hk35; omega))) hk39i hk43i (by have q9 := hk43; omega))) hk47i hk51i (by have q9 := hk51; omega))).row (Or.inl hk59i) (vok_cp11 (((((((((w9.put6 (hx16) (fo_6 ⟨by omega, by omega⟩) (by omega)).put (by decide) (by decide) (fo_7 (by omega))).put (by decide) (by decide) (fo_8 (by omega))).put (by decide) (by decide) (fo_9 (by omega))).put (by decide) (by decide) (fo_10 (by omega))).row (Or.inl hk17i) (vok_cp1 (((((w9.put6 (hx16) (fo_6 ⟨by omega, by omega⟩) (by omega)).put (by decide) (by decide) (fo_7 (by omega))).put (by decide) (by decide) (fo_8 (by omega))).put (by decide) (by decide) (fo_9 (by omega))).put (by decide) (by decide) (fo_10 (by omega))) hk26i hk17i (by have q9 := hk17; omega))).row (Or.inl hk35i) (vok_cp1 ((((((w9.put6 (hx16) (fo_6 ⟨by omega, by omega⟩) (by omega)).put (by decide) (by decide) (fo_7 (by omega))).put (by decide) (by decide) (fo_8 (by omega))).put (by decide) (by decide) (fo_9 (by omega))).put (by decide) (by decide) (fo_10 (by omega))).row (Or.inl hk17i) (vok_cp1 (((((w9.put6 (hx16) (fo_6 ⟨by omega, by omega⟩) (by omega)).put (by decide) (by decide) (fo_7 (by omega))).put (by decide) (by decide) (fo_8 (by omega))).put (by decide) (by decide) (fo_9 (by omega))).put (by decide) (by decide) (fo_10 (by omega))) hk26i hk17i (by have q9 := hk17; omega))) hk31i hk35i (by have q9 := hk35; omega))).row (Or.inl hk43i) (vok_cp1 (((((((w9.put6 (hx16) (fo_6 ⟨by omega, by omega⟩) (by omega)).put (by decide) (by decide) (fo_7 (by omega))).put (by decide) (by decide) (fo_8 (by omega))).put (by decide) (by decide) (fo_9 (by omega))).put (by decide) (by decide) (fo_10 (by omega))).row (Or.inl hk17i) (vok_cp1 (((((w9.put6 (hx16) (fo_6 ⟨by omega, by omega⟩) (by omega)).put (by decide) (by decide) (fo_7 (by omega))).put (by decide) (by decide) (fo_8 (by omega))).put (by decide) (by decide) (fo_9 (by omega))).put (by decide) (by decide) (fo_10 (by omega))) hk26i hk17i (by have q9 := hk17; omega))).row (Or.inl hk35i) (vok_cp1 ((((((w9.put6 (hx16) (fo_6 ⟨by omega, by omega⟩) (by omega)).put (by decide) (by decide) (fo_7 (by omega))).put (by decide) (by decide) (fo_8 (by omega))).put (by decide) (by decide) (fo_9 (by omega))).put (by decide) (by decide) (fo_10 (by omega))).row (Or.inl hk17i) (vok_cp1 (((((w9.put6 (hx16) (fo_6 ⟨by omega, by omega⟩) (by omega)).put (by decide) (by decide) (fo_7 (by omega))).put (by decide) (by decide) (fo_8 (by omega))).put (by decide) (by decide) (fo_9 (by omega))).put (by decide) (by decide) (fo_10 (by omega))) hk26i hk17i (by have q9 := hk17; omega))) hk31i hk35i (by have q9 := hk35; omega))) hk39i hk43i (by have q9 := hk43; omega))).row (Or.inl hk51i) (vok_cp1 ((((((((w9.put6 (hx16) (fo_6 ⟨by omega, by omega⟩) (by omega)).put (by decide) (by decide) (fo_7 (by omega))).put (by decide) (by decide) (fo_8 (by omega))).put (by decide) (by decide) (fo_9 (by omega))).put (by decide) (by decide) (fo_10 (by omega))).row (Or.inl hk17i) (vok_cp1 (((((w9.put6 (hx16) (fo_6 ⟨by omega, by omega⟩) (by omega)).put (by decide) (by decide) (fo_7 (by omega))).put (by decide) (by decide) (fo_8 (by omega))).put (by decide) (by decide) (fo_9 (by omega))).put (by decide) (by decide) (fo_10 (by omega))) hk26i hk17i (by have q9 := hk17; omega))).row (Or.inl hk35i) (vok_cp1 ((((((w9.put6 (hx16) (fo_6 ⟨by omega, by omega⟩) (by omega)).put (by decide) (by decide) (fo_7 (by omega))).put (by decide) (by decide) (fo_8 (by omega))).put (by decide) (by decide) (fo_9 (by omega))).put (by decide) (by decide) (fo_10 (by omega))).row (Or.inl hk17i) (vok_cp1 (((((w9.put6 (hx16) (fo_6 ⟨by omega, by omega⟩) (by omega)).put (by decide) (by decide) (fo_7 (by omega))).put (by decide) (by decide) (fo_8 (by omega))).put (by decide) (by decide) (fo_9 (by omega))).put (by decide) (by decide) (fo_10 (by omega))) hk26i hk17i (by have q9 := hk17; omega))) hk31i hk35i (by have q9 := hk35; omega))).row (Or.inl hk43i) (vok_cp1 (((((((w9.put6 (hx16) (fo_6 ⟨by omega, by omega⟩) (by omega)).put (by decide) (by decide) (fo_7 (by omega))).put (by decide) (by decide) (fo_8 (by omega))).put (by decide) (by decide) (fo_9 (by omega))).put (by decide) (by decide) (fo_10 (by omega))).row (Or.inl hk17i) (vok_cp1 (((((w9.put6 (hx16) (fo_6 ⟨by omega, by omega⟩) (by omega)).put (by decide) (by decide) (fo_7 (by omega))).put (by decide) (by decide) (fo_8 (by omega))).put (by decide) (by decide) (fo_9 (by omega))).put (by decide) (by decide) (fo_10 (by omega))) hk26i hk17i (by have q9 := hk17; omega))).row (Or.inl hk35i) (vok_cp1 ((((((w9.put6 (hx16) (fo_6 ⟨by omega, by omega⟩) (by omega)).put (by decide) (by decide) (fo_7 (by omega))).put (by decide) (by decide) (fo_8 (by omega))).put (by decide) (by decide) (fo_9 (by omega))).put (by decide) (by decide) (fo_10 (by omega))).row (Or.inl hk17i) (vok_cp1 (((((w9.put6 (hx16) (fo_6 ⟨by omega, by omega⟩) (by omega)).put (by decide) (by decide) (fo_7 (by omega))).put (by decide) (by decide) (fo_8 (by omega))).put (by decide) (by decide) (fo_9 (by omega))).put (by decide) (by decide) (fo_10 (by omega))) hk26i hk17i (by have q9 := hk17; omega))) hk31i hk35i (by have q9 := hk35; omega))) hk39i hk43i (by have q9 := hk43; omega))) hk47i hk51i (by have q9 := hk51; omega))) hk55 hk59)).row (Or.inl hk67i) (vok_cp1 ((((((((((w9.put6 (hx16) (fo_6 ⟨by omega, by omega⟩) (by omega)).put (by decide) (by decide) (fo_7 (by omega))).put (by decide) (by decide) (fo_8 (by omega))).put (by decide) (by decide) (fo_9 (by omega))).put (by decide) (by decide) (fo_10 (by omega))).row (Or.inl hk17i) (vok_cp1 (((((w9.put6 (hx16) (fo_6 ⟨by omega, by omega⟩) (by omega)).put (by decide) (by decide) (fo_7 (by omega))).put (by decide) (by decide) (fo_8 (by omega))).put (by decide) (by decide) (fo_9 (by omega))).put (by decide) (by decide) (fo_10 (by omega))) hk26i hk17i (by have q9 := hk17; omega))).row (Or.inl hk35i) (vok_cp1 ((((((w9.put6 (hx16) (fo_6 ⟨by omega, by omega⟩) (by omega)).put (by decide) (by decide) (fo_7 (by omega))).put (by decide) (by decide) (fo_8 (by omega))).put (by decide) (by decide) (fo_9 (by omega))).put (by decide) (by decide) (fo_10 (by omega))).row (Or.inl hk17i) (vok_cp1 (((((w9.put6 (hx16) (fo_6 ⟨by omega, by omega⟩) (by omega)).put (by decide) (by decide) (fo_7 (by omega))).put (by decide) (by decide) (fo_8 (by omega))).put (by decide) (by decide) (fo_9 (by omega))).put (by decide) (by decide) (fo_10 (by omega))) hk26i hk17i (by have q9 := hk17; omega))) hk31i hk35i (by have q9 := hk35; omega))).row (Or.inl hk43i) (vok_cp1 (((((((w9.put6 (hx16) (fo_6 ⟨by omega, by omega⟩) (by omega)).put (by decide) (by decide) (fo_7 (by omega))).put (by decide) (by decide) (fo_8 (by omega))).put (by decide) (by decide) (fo_9 (by omega))).put (by decide) (by decide) (fo_10 (by omega))).row (Or.inl hk17i) (vok_cp1 (((((w9.put6 (hx16) (fo_6 ⟨by omega, by omega⟩) (by omega)).put (by decide) (by decide) (fo_7 (by omega))).put (by decide) (by decide) (fo_8 (by omega))).put (by decide) (by decide) (fo_9 (by omega))).put (by decide) (by decide) (fo_10 (by omega))) hk26i hk17i (by have q9 := hk17; omega))).row (Or.inl hk35i) (vok_cp1 ((((((w9.put6 (hx16) (fo_6 ⟨by omega, by omega⟩) (by omega)).put (by decide) (by decide) (fo_7 (by omega))).put (by decide) (by decide) (fo_8 (by omega))).put (by decide) (by decide) (fo_9 (by omega))).put (by decide) (by decide) (fo_10 (by omega))).row (Or.inl hk17i) (vok_cp1 (((((w9.put6 (hx16) (fo_6 ⟨by omega, by omega⟩) (by omega)).put (by decide) (by decide) (fo_7 (by omega))).put (by decide) (by decide) (fo_8 (by omega))).put (by decide) (by decide) (fo_9 (by omega))).put (by decide) (by decide) (fo_10 (by omega))) hk26i hk17i (by have q9 := hk17; omega))) hk31i hk35i (by have q9 := hk35; omega))) hk39i hk43i (by have q9 := hk43; omega))).row (Or.inl hk51i) (vok_cp1 ((((((((w9.put6 (hx16) (fo_6 ⟨by omega, by omega⟩) (by omega)).put (by decide) (by decide) (fo_7 (by omega))).put (by decide) (by decide) (fo_8 (by omega))).put (by decide) (by decide) (fo_9 (by omega))).put (by decide) (by decide) (fo_10 (by omega))).row (Or.inl hk17i) (vok_cp1 (((((w9.put6 (hx16) (fo_6 ⟨by omega, by omega⟩) (by omega)).put (by decide) (by decide) (fo_7 (by omega))).put (by decide) (by decide) (fo_8 (by omega))).put (by decide) (by decide) (fo_9 (by omega))).put (by decide) (by decide) (fo_10 (by omega))) hk26i hk17i (by have q9 := hk17; omega))).row (Or.inl hk35i) (vok_cp1 ((((((w9.put6 (hx16) (fo_6 ⟨by omega, by omega⟩) (by omega)).put (by decide) (by decide) (fo_7 (by omega))).put (by decide) (by decide) (fo_8 (by omega))).put (by decide) (by decide) (fo_9 (by omega))).put (by decide) (by decide) (fo_10 (by omega))).row (Or.inl hk17i) (vok_cp1 (((((w9.put6 (hx16) (fo_6 ⟨by omega, by omega⟩) (by omega)).put (by decide) (by decide) (fo_7 (by omega))).put (by decide) (by decide) (fo_8 (by omega))).put (by decide) (by decide) (fo_9 (by omega))).put (by decide) (by decide) (fo_10 (by omega))) hk26i hk17i (by have q9 := hk17; omega))) hk31i hk35i (by have q9 := hk35; omega))).row (Or.inl hk43i) (vok_cp1 (((((((w9.put6 (hx16) (fo_6 ⟨by omega, by omega⟩) (by omega)).put (by decide) (by decide) (fo_7 (by omega))).put (by decide) (by decide) (fo_8 (by omega))).put (by decide) (by decide) (fo_9 (by omega))).put (by decide) (by decide) (fo_10 (by omega))).row (Or.inl hk17i) (vok_cp1 (((((w9.put6 (hx16) (fo_6 ⟨by omega, by omega⟩) (by omega)).put (by decide) (by decide) (fo_7 (by omega))).put (by decide) (by decide) (fo_8 (by omega))).put (by decide) (by decide) (fo_9 (by omega))).put (by decide) (by decide) (fo_10 (by omega))) hk26i hk17i (by have q9 := hk17; omega))).row (Or.inl hk35i) (vok_cp1 ((((((w9.put6 (hx16) (fo_6 ⟨by omega, by omega⟩) (by omega)).put (by decide) (by decide) (fo_7 (by omega))).put (by decide) (by decide) (fo_8 (by omega))).put (by decide) (by decide) (fo_9 (by omega))).put (by decide) (by decide) (fo_10 (by omega))).row (Or.inl hk17i) (vok_cp1 (((((w9.put6 (hx16) (fo_6 ⟨by omega, by omega⟩) (by omega)).put (by decide) (by decide) (fo_7 (by omega))).put (by decide) (by decide) (fo_8 (by omega))).put (by decide) (by decide) (fo_9 (by omega))).put (by decide) (by decide) (fo_10 (by omega))) hk26i hk17i (by have q9 := hk17; omega))) hk31i hk35i (by have q9 := hk35; omega))) hk39i hk43i (by have q9 := hk43; omega))) hk47i hk51i (by have q9 := hk51; omega))).row (Or.inl hk59i) (vok_cp11 (((((((((w9.put6 (hx16) (fo_6 ⟨by omega, by omega⟩) (by omega)).put (by decide) (by decide) (fo_7 (by omega))).put (by decide) (by decide) (fo_8 (by omega))).put (by decide) (by decide) (fo_9 (by omega))).put (by decide) (by decide) (fo_10 (by omega))).row (Or.inl hk17i) (vok_cp1 (((((w9.put6 (hx16) (fo_6 ⟨by omega, by omega⟩) (by omega)).put (by decide) (by decide) (fo_7 (by omega))).put (by decide) (by decide) (fo_8 (by omega))).put (by decide) (by decide) (fo_9 (by omega))).put (by decide) (by decide) (fo_10 (by omega))) hk26i hk17i (by have q9 := hk17; omega))).row (Or.inl hk35i) (vok_cp1 ((((((w9.put6 (hx16) (fo_6 ⟨by omega, by omega⟩) (by omega)).put (by decide) (by decide) (fo_7 (by omega))).put (by decide) (by decide) (fo_8 (by omega))).put (by decide) (by decide) (fo_9 (by omega))).put (by decide) (by decide) (fo_10 (by omega))).row (Or.inl hk17i) (vok_cp1 (((((w9.put6 (hx16) (fo_6 ⟨by omega, by omega⟩) (by omega)).put (by decide) (by decide) (fo_7 (by omega))).put (by decide) (by decide) (fo_8 (by omega))).put (by decide) (by decide) (fo_9 (by omega))).put (by decide) (by decide) (fo_10 (by omega))) hk26i hk17i (by have q9 := hk17; omega))) hk31i hk35i (by have q9 := hk35; omega))).row (Or.inl hk43i) (vok_cp1 (((((((w9.put6 (hx16) (fo_6 ⟨by omega, by omega⟩) (by omega)).put (by decide) (by decide) (fo_7 (by omega))).put (by decide) (by decide) (fo_8 (by omega))).put (by decide) (by decide) (fo_9 (by omega))).put (by decide) (by decide) (fo_10 (by omega))).row (Or.inl hk17i) (vok_cp1 (((((w9.put6 (hx16) (fo_6 ⟨by omega, by omega⟩) (by omega)).put (by decide) (by decide) (fo_7 (by omega))).put (by decide) (by decide) (fo_8 (by omega))).put (by decide) (by decide) (fo_9 (by omega))).put (by decide) (by decide) (fo_10 (by omega))) hk26i hk17i (by have q9 := hk17; omega))).row (Or.inl hk35i) (vok_cp1 ((((((w9.put6 (hx16) (fo_6 ⟨by omega, by omega⟩) (by omega)).put (by decide) (by decide) (fo_7 (by omega))).put (by decide) (by decide) (fo_8 (by omega))).put (by decide) (by decide) (fo_9 (by omega))).put (by decide) (by decide) (fo_10 (by omega))).row (Or.inl hk17i) (vok_cp1 (((((w9.put6 (hx16) (fo_6 ⟨by omega, by omega⟩) (by omega)).put (by decide) (by decide) (fo_7 (by omega))).put (by decide) (by decide) (fo_8 (by omega))).put (by decide) (by decide) (fo_9 (by omega))).put (by decide) (by decide) (fo_10 (by omega))) hk26i hk17i (by have q9 := hk17; omega))) hk31i hk35i (by have q9 := hk35; omega))) hk39i hk43i (by have q9 := hk43; omega))).row (Or.inl hk51i) (vok_cp1 ((((((((w9.put6 (hx16) (fo_6 ⟨by omega, by omega⟩) (by omega)).put (by decide) (by decide) (fo_7 (by omega))).put (by decide) (by decide) (fo_8 (by omega))).put (by decide) (by decide) (fo_9 (by omega))).put (by decide) (by decide) (fo_10 (by omega))).row (Or.inl hk17i) (vok_cp1 (((((w9.put6 (hx16) (fo_6 ⟨by omega, by omega⟩) (by omega)).put (by decide) (by decide) (fo_7 (by omega))).put (by decide) (by decide) (fo_8 (by omega))).put (by decide) (by decide) (fo_9 (by omega))).put (by decide) (by decide) (fo_10 (by omega))) hk26i hk17i (by have q9 := hk17; omega))).row (Or.inl hk35i) (vok_cp1 ((((((w9.put6 (hx16) (fo_6 ⟨by omega, by omega⟩) (by omega)).put (by decide) (by decide) (fo_7 (by omega))).put (by decide) (by decide) (fo_8 (by omega))).put (by decide) (by decide) (fo_9 (by omega))).put (by decide) (by decide) (fo_10 (by omega))).row (Or.inl hk17i) (vok_cp1 (((((w9.put6 (hx16) (fo_6 ⟨by omega, by omega⟩) (by omega)).put (by decide) (by decide) (fo_7 (by omega))).put (by decide) (by decide) (fo_8 (by omega))).put (by decide) (by decide) (fo_9 (by omega))).put (by decide) (by decide) (fo_10 (by omega))) hk26i hk17i (by have q9 := hk17; omega))) hk31i hk35i (by have q9 := hk35; omega))).row (Or.inl hk43i) (vok_cp1 (((((((w9.put6 (hx16) (fo_6 ⟨by omega, by omega⟩) (by omega)).put (by decide) (by decide) (fo_7 (by omega))).put (by decide) (by decide) (fo_8 (by omega))).put (by decide) (by decide) (fo_9 (by omega))).put (by decide) (by decide) (fo_10 (by omega))).row (Or.inl hk17i) (vok_cp1 (((((w9.put6 (hx16) (fo_6 ⟨by omega, by omega⟩) (by omega)).put (by decide) (by decide) (fo_7 (by omega))).put (by decide) (by decide) (fo_8 (by omega))).put (by decide) (by decide) (fo_9 (by omega))).put (by decide) (by decide) (fo_10 (by omega))) hk26i hk17i (by have q9 := hk17; omega))).row (Or.inl hk35i) (vok_cp1 ((((((w9.put6 (hx16) (fo_6 ⟨by omega, by omega⟩) (by omega)).put (by decide) (by decide) (fo_7 (by omega))).put (by decide) (by decide) (fo_8 (by omega))).put (by decide) (by decide) (fo_9 (by omega))).put (by decide) (by decide) (fo_10 (by omega))).row (Or.inl hk17i) (vok_cp1 (((((w9.put6 (hx16) (fo_6 ⟨by omega, by omega⟩) (by omega)).put (by decide) (by decide) (fo_7 (by omega))).put (by decide) (by decide) (fo_8 (by omega))).put (by decide) (by decide) (fo_9 (by omega))).put (by decide) (by decide) (fo_10 (by omega))) hk26i hk17i (by have q9 := hk17; omega))) hk31i hk35i (by have q9 := hk35; omega))) hk39i hk43i (by have q9 := hk43; omega))) hk47i hk51i (by have q9 := hk51; omega))) hk55 hk59)) hk63i hk67i (by have q9 := hk67; omega))), ((((((((((((FrC.rfl.trans (FrC.sub F10 (by decide))).put (by decide) (by decide)).put (by decide) (by decide)).put (by decide) (by decide)).put (by decide) (by decide)).put (by decide) (by decide)).row (hk_no (GT.nh gt5 (nh_k hk17 (by unfold HT; omega))))).row (hk_no (GT.nh gt5 (nh_k hk35 (by unfold HT; omega))))).row (hk_no (GT.nh gt5 (nh_k hk43 (by unfold HT; omega))))).row (hk_no (GT.nh gt5 (nh_k hk51 (by unfold HT; omega))))).row (hk_no (GT.nh gt5 (nh_k hk59 (by unfold HT; omega))))).row (hk_no (GT.nh gt5 (nh_k hk67 (by unfold HT; omega)))))⟩
  · exact tn_vret rfl dX1_copyFrom_11 ⟨rfl, w9, (FrC.rfl.trans (FrC.sub F10 (by decide)))⟩
end
section
theorem cd_X4_isSmall : Cond.code yX4_isSmall cX4_isSmall 2 (some .boolean) ∈ pWW := pw5 (List.mem_of_getElem? (i := 139) rfl) rfl
theorem ini_4 : Cond.initialized RX4 ∈ pWW := pw1 (List.mem_of_getElem? (i := 9) rfl) rfl
abbrev m_X4_isSmall : MT := (yX4_isSmall, cX4_isSmall, 2, (some .boolean))
theorem ok_X4_isSmall : pOk m_X4_isSmall := ⟨⟨cd_X4_isSmall, ini_4⟩, by decide +kernel, ⟨by decide +kernel, by decide +kernel⟩, Nat.le_of_ble_eq_true rfl⟩
theorem np_X4_isSmall : (parseMethodDescriptor yX4_isSmall.desc).map (fun d => d.parameters.length) = some 0 := by decide +kernel
theorem im_X4_isSmall : Cond.instanceMethod yX4_isSmall ∈ pWW := pw5 (List.mem_of_getElem? (i := 138) rfl) rfl
theorem se_X4_isSmall : Cond.selects RX4 yX4_isSmall yX4_isSmall ∈ pWW := pws (List.mem_map.mpr ⟨_, lw_pin 64 rfl, rfl⟩) rfl
theorem fl4_33 : Cond.fieldLink RX4 33 (TX4 3).1 (TX4 3).2.1 (TX4 3).2.2.1 ∈ pWW := pw2 (List.mem_of_getElem? (i := 64) rfl) rfl
theorem fl4_23 : Cond.fieldLink RX4 23 (TX1 1).1 (TX1 1).2.1 (TX1 1).2.2.1 ∈ pWW := pw1 (List.mem_of_getElem? (i := 80) rfl) rfl
theorem ml4_29 : Cond.methodLink RX4 29 yX1_get ∈ pWW := pw5 (List.mem_of_getElem? (i := 135) rfl) rfl
theorem dX4_isSmall_0 : decode cX4_isSmall 0 = .ok (.iconst 0, 1) := by decide +kernel
theorem dX4_isSmall_1 : decode cX4_isSmall 1 = .ok (.istore_n 1, 1) := by decide +kernel
theorem dX4_isSmall_2 : decode cX4_isSmall 2 = .ok (.iload_n 1, 1) := by decide +kernel
theorem dX4_isSmall_3 : decode cX4_isSmall 3 = .ok (.aload_n 0, 1) := by decide +kernel
theorem dX4_isSmall_4 : decode cX4_isSmall 4 = .ok (.getfield 33, 3) := by decide +kernel
theorem dX4_isSmall_7 : decode cX4_isSmall 7 = .ok (.getfield 23, 3) := by decide +kernel
theorem dX4_isSmall_10 : decode cX4_isSmall 10 = .ok (.if_icmp .ge 25, 3) := by decide +kernel
theorem dX4_isSmall_13 : decode cX4_isSmall 13 = .ok (.aload_n 0, 1) := by decide +kernel
theorem dX4_isSmall_14 : decode cX4_isSmall 14 = .ok (.getfield 33, 3) := by decide +kernel
theorem dX4_isSmall_17 : decode cX4_isSmall 17 = .ok (.iload_n 1, 1) := by decide +kernel
theorem dX4_isSmall_18 : decode cX4_isSmall 18 = .ok (.iconst 0, 1) := by decide +kernel
theorem dX4_isSmall_19 : decode cX4_isSmall 19 = .ok (.invokevirtual 29, 3) := by decide +kernel
theorem dX4_isSmall_22 : decode cX4_isSmall 22 = .ok (.bipush 10, 2) := by decide +kernel
theorem dX4_isSmall_24 : decode cX4_isSmall 24 = .ok (.if_icmp .ne 5, 3) := by decide +kernel
theorem dX4_isSmall_29 : decode cX4_isSmall 29 = .ok (.iinc 1 1, 3) := by decide +kernel
theorem dX4_isSmall_32 : decode cX4_isSmall 32 = .ok (.goto (-30), 3) := by decide +kernel
theorem ml4_44 : Cond.methodLink RX4 44 yX1_acts ∈ pWW := pw5 (List.mem_of_getElem? (i := 140) rfl) rfl
theorem dX4_isSmall_27 : decode cX4_isSmall 27 = .ok (.iconst 0, 1) := by decide +kernel
theorem dX4_isSmall_28 : decode cX4_isSmall 28 = .ok (.ireturn, 1) := by decide +kernel
theorem dX4_isSmall_35 : decode cX4_isSmall 35 = .ok (.aload_n 0, 1) := by decide +kernel
theorem dX4_isSmall_36 : decode cX4_isSmall 36 = .ok (.getfield 33, 3) := by decide +kernel
theorem dX4_isSmall_39 : decode cX4_isSmall 39 = .ok (.invokevirtual 44, 3) := by decide +kernel
theorem dX4_isSmall_42 : decode cX4_isSmall 42 = .ok (.bipush 20, 2) := by decide +kernel
theorem dX4_isSmall_44 : decode cX4_isSmall 44 = .ok (.if_icmp .gt 7, 3) := by decide +kernel
theorem dX4_isSmall_51 : decode cX4_isSmall 51 = .ok (.iconst 0, 1) := by decide +kernel
theorem dX4_isSmall_52 : decode cX4_isSmall 52 = .ok (.ireturn, 1) := by decide +kernel
theorem dX4_isSmall_47 : decode cX4_isSmall 47 = .ok (.iconst 1, 1) := by decide +kernel
theorem dX4_isSmall_48 : decode cX4_isSmall 48 = .ok (.goto 4, 3) := by decide +kernel
end
section
theorem cd_X4_needsNought : Cond.code yX4_needsNought cX4_needsNought 3 (some .boolean) ∈ pWW := pw5 (List.mem_of_getElem? (i := 158) rfl) rfl
abbrev m_X4_needsNought : MT := (yX4_needsNought, cX4_needsNought, 3, (some .boolean))
theorem ok_X4_needsNought : pOk m_X4_needsNought := ⟨⟨cd_X4_needsNought, ini_4⟩, by decide +kernel, ⟨by decide +kernel, by decide +kernel⟩, Nat.le_of_ble_eq_true rfl⟩
theorem np_X4_needsNought : (parseMethodDescriptor yX4_needsNought.desc).map (fun d => d.parameters.length) = some 1 := by decide +kernel
theorem im_X4_needsNought : Cond.instanceMethod yX4_needsNought ∈ pWW := pw5 (List.mem_of_getElem? (i := 157) rfl) rfl
theorem se_X4_needsNought : Cond.selects RX4 yX4_needsNought yX4_needsNought ∈ pWW := pws (List.mem_map.mpr ⟨_, lw_pin 67 rfl, rfl⟩) rfl
theorem fl4_15 : Cond.fieldLink RX4 15 (TX4 0).1 (TX4 0).2.1 (TX4 0).2.2.1 ∈ pWW := pw2 (List.mem_of_getElem? (i := 61) rfl) rfl
theorem fl4_114 : Cond.fieldLink RX4 114 (TX3 0).1 (TX3 0).2.1 (TX3 0).2.2.1 ∈ pWW := pw1 (List.mem_of_getElem? (i := 222) rfl) rfl
theorem nl4_118 : (RX4, 118, yX11_has, "LineKeeper") ∈ nst_M := List.mem_of_getElem? (i := 36) rfl
theorem fl4_108 : Cond.fieldLink RX4 108 (TX1 3).1 (TX1 3).2.1 (TX1 3).2.2.1 ∈ pWW := pw1 (List.mem_of_getElem? (i := 94) rfl) rfl
theorem ml4_122 : Cond.methodLink RX4 122 yX1_homeOf ∈ pWW := pw5 (List.mem_of_getElem? (i := 160) rfl) rfl
theorem dX4_needsNought_0 : decode cX4_needsNought 0 = .ok (.aload_n 0, 1) := by decide +kernel
theorem dX4_needsNought_1 : decode cX4_needsNought 1 = .ok (.getfield 15, 3) := by decide +kernel
theorem dX4_needsNought_4 : decode cX4_needsNought 4 = .ok (.getfield 114, 3) := by decide +kernel
theorem dX4_needsNought_7 : decode cX4_needsNought 7 = .ok (.iconst 0, 1) := by decide +kernel
theorem dX4_needsNought_8 : decode cX4_needsNought 8 = .ok (.iload_n 1, 1) := by decide +kernel
theorem dX4_needsNought_9 : decode cX4_needsNought 9 = .ok (.invokestatic 118, 3) := by decide +kernel
theorem dX4_needsNought_12 : decode cX4_needsNought 12 = .ok (.ifCond .ne 5, 3) := by decide +kernel
theorem dX4_needsNought_17 : decode cX4_needsNought 17 = .ok (.iconst 0, 1) := by decide +kernel
theorem dX4_needsNought_18 : decode cX4_needsNought 18 = .ok (.istore_n 2, 1) := by decide +kernel
theorem dX4_needsNought_19 : decode cX4_needsNought 19 = .ok (.iload_n 2, 1) := by decide +kernel
theorem dX4_needsNought_20 : decode cX4_needsNought 20 = .ok (.aload_n 0, 1) := by decide +kernel
theorem dX4_needsNought_21 : decode cX4_needsNought 21 = .ok (.getfield 33, 3) := by decide +kernel
theorem dX4_needsNought_24 : decode cX4_needsNought 24 = .ok (.getfield 108, 3) := by decide +kernel
theorem dX4_needsNought_27 : decode cX4_needsNought 27 = .ok (.if_icmp .ge 24, 3) := by decide +kernel
theorem dX4_needsNought_30 : decode cX4_needsNought 30 = .ok (.aload_n 0, 1) := by decide +kernel
theorem dX4_needsNought_31 : decode cX4_needsNought 31 = .ok (.getfield 33, 3) := by decide +kernel
theorem dX4_needsNought_34 : decode cX4_needsNought 34 = .ok (.iconst 0, 1) := by decide +kernel
theorem dX4_needsNought_35 : decode cX4_needsNought 35 = .ok (.iload_n 2, 1) := by decide +kernel
theorem dX4_needsNought_36 : decode cX4_needsNought 36 = .ok (.invokevirtual 122, 3) := by decide +kernel
theorem dX4_needsNought_39 : decode cX4_needsNought 39 = .ok (.iload_n 1, 1) := by decide +kernel
theorem dX4_needsNought_40 : decode cX4_needsNought 40 = .ok (.if_icmp .ne 5, 3) := by decide +kernel
theorem dX4_needsNought_45 : decode cX4_needsNought 45 = .ok (.iinc 2 1, 3) := by decide +kernel
theorem dX4_needsNought_48 : decode cX4_needsNought 48 = .ok (.goto (-29), 3) := by decide +kernel
theorem dX4_needsNought_43 : decode cX4_needsNought 43 = .ok (.iconst 0, 1) := by decide +kernel
theorem dX4_needsNought_44 : decode cX4_needsNought 44 = .ok (.ireturn, 1) := by decide +kernel
theorem dX4_needsNought_51 : decode cX4_needsNought 51 = .ok (.iconst 1, 1) := by decide +kernel
theorem dX4_needsNought_52 : decode cX4_needsNought 52 = .ok (.ireturn, 1) := by decide +kernel
theorem dX4_needsNought_15 : decode cX4_needsNought 15 = .ok (.iconst 0, 1) := by decide +kernel
theorem dX4_needsNought_16 : decode cX4_needsNought 16 = .ok (.ireturn, 1) := by decide +kernel
end
section
theorem cd_X4_rowsNeeded : Cond.code yX4_rowsNeeded cX4_rowsNeeded 3 (some .int) ∈ pWW := pw5 (List.mem_of_getElem? (i := 154) rfl) rfl
abbrev m_X4_rowsNeeded : MT := (yX4_rowsNeeded, cX4_rowsNeeded, 3, (some .int))
theorem ok_X4_rowsNeeded : pOk m_X4_rowsNeeded := ⟨⟨cd_X4_rowsNeeded, ini_4⟩, by decide +kernel, ⟨by decide +kernel, by decide +kernel⟩, Nat.le_of_ble_eq_true rfl⟩
theorem np_X4_rowsNeeded : (parseMethodDescriptor yX4_rowsNeeded.desc).map (fun d => d.parameters.length) = some 0 := by decide +kernel
theorem im_X4_rowsNeeded : Cond.instanceMethod yX4_rowsNeeded ∈ pWW := pw5 (List.mem_of_getElem? (i := 153) rfl) rfl
theorem se_X4_rowsNeeded : Cond.selects RX4 yX4_rowsNeeded yX4_rowsNeeded ∈ pWW := pws (List.mem_map.mpr ⟨_, lw_pin 66 rfl, rfl⟩) rfl
theorem fl4_105 : Cond.fieldLink RX4 105 (TX1 2).1 (TX1 2).2.1 (TX1 2).2.2.1 ∈ pWW := pw1 (List.mem_of_getElem? (i := 88) rfl) rfl
theorem dX4_rowsNeeded_0 : decode cX4_rowsNeeded 0 = .ok (.iconst 3, 1) := by decide +kernel
theorem dX4_rowsNeeded_1 : decode cX4_rowsNeeded 1 = .ok (.aload_n 0, 1) := by decide +kernel
theorem dX4_rowsNeeded_2 : decode cX4_rowsNeeded 2 = .ok (.getfield 33, 3) := by decide +kernel
theorem dX4_rowsNeeded_5 : decode cX4_rowsNeeded 5 = .ok (.getfield 23, 3) := by decide +kernel
theorem dX4_rowsNeeded_8 : decode cX4_rowsNeeded 8 = .ok (.iadd, 1) := by decide +kernel
theorem dX4_rowsNeeded_9 : decode cX4_rowsNeeded 9 = .ok (.aload_n 0, 1) := by decide +kernel
theorem dX4_rowsNeeded_10 : decode cX4_rowsNeeded 10 = .ok (.getfield 33, 3) := by decide +kernel
theorem dX4_rowsNeeded_13 : decode cX4_rowsNeeded 13 = .ok (.getfield 105, 3) := by decide +kernel
theorem dX4_rowsNeeded_16 : decode cX4_rowsNeeded 16 = .ok (.iadd, 1) := by decide +kernel
theorem dX4_rowsNeeded_17 : decode cX4_rowsNeeded 17 = .ok (.aload_n 0, 1) := by decide +kernel
theorem dX4_rowsNeeded_18 : decode cX4_rowsNeeded 18 = .ok (.getfield 33, 3) := by decide +kernel
theorem dX4_rowsNeeded_21 : decode cX4_rowsNeeded 21 = .ok (.getfield 108, 3) := by decide +kernel
theorem dX4_rowsNeeded_24 : decode cX4_rowsNeeded 24 = .ok (.iadd, 1) := by decide +kernel
theorem dX4_rowsNeeded_25 : decode cX4_rowsNeeded 25 = .ok (.istore_n 1, 1) := by decide +kernel
theorem dX4_rowsNeeded_26 : decode cX4_rowsNeeded 26 = .ok (.iconst 0, 1) := by decide +kernel
theorem dX4_rowsNeeded_27 : decode cX4_rowsNeeded 27 = .ok (.istore_n 2, 1) := by decide +kernel
theorem dX4_rowsNeeded_28 : decode cX4_rowsNeeded 28 = .ok (.iload_n 2, 1) := by decide +kernel
theorem dX4_rowsNeeded_29 : decode cX4_rowsNeeded 29 = .ok (.aload_n 0, 1) := by decide +kernel
theorem dX4_rowsNeeded_30 : decode cX4_rowsNeeded 30 = .ok (.getfield 33, 3) := by decide +kernel
theorem dX4_rowsNeeded_33 : decode cX4_rowsNeeded 33 = .ok (.getfield 23, 3) := by decide +kernel
theorem dX4_rowsNeeded_36 : decode cX4_rowsNeeded 36 = .ok (.if_icmp .ge 31, 3) := by decide +kernel
theorem dX4_rowsNeeded_39 : decode cX4_rowsNeeded 39 = .ok (.iload_n 1, 1) := by decide +kernel
theorem dX4_rowsNeeded_40 : decode cX4_rowsNeeded 40 = .ok (.aload_n 0, 1) := by decide +kernel
theorem dX4_rowsNeeded_41 : decode cX4_rowsNeeded 41 = .ok (.getfield 33, 3) := by decide +kernel
theorem dX4_rowsNeeded_44 : decode cX4_rowsNeeded 44 = .ok (.iload_n 2, 1) := by decide +kernel
theorem dX4_rowsNeeded_45 : decode cX4_rowsNeeded 45 = .ok (.iconst 0, 1) := by decide +kernel
theorem dX4_rowsNeeded_46 : decode cX4_rowsNeeded 46 = .ok (.invokevirtual 29, 3) := by decide +kernel
theorem dX4_rowsNeeded_49 : decode cX4_rowsNeeded 49 = .ok (.bipush 7, 2) := by decide +kernel
theorem dX4_rowsNeeded_51 : decode cX4_rowsNeeded 51 = .ok (.if_icmp .ne 7, 3) := by decide +kernel
theorem dX4_rowsNeeded_58 : decode cX4_rowsNeeded 58 = .ok (.iconst 0, 1) := by decide +kernel
theorem dX4_rowsNeeded_59 : decode cX4_rowsNeeded 59 = .ok (.iadd, 1) := by decide +kernel
theorem dX4_rowsNeeded_60 : decode cX4_rowsNeeded 60 = .ok (.istore_n 1, 1) := by decide +kernel
theorem dX4_rowsNeeded_61 : decode cX4_rowsNeeded 61 = .ok (.iinc 2 1, 3) := by decide +kernel
theorem dX4_rowsNeeded_64 : decode cX4_rowsNeeded 64 = .ok (.goto (-36), 3) := by decide +kernel
theorem dX4_rowsNeeded_54 : decode cX4_rowsNeeded 54 = .ok (.iconst 1, 1) := by decide +kernel
theorem dX4_rowsNeeded_55 : decode cX4_rowsNeeded 55 = .ok (.goto 4, 3) := by decide +kernel
theorem ml4_111 : Cond.methodLink RX4 111 yX4_needsNought ∈ pWW := pw5 (List.mem_of_getElem? (i := 155) rfl) rfl
theorem dX4_rowsNeeded_67 : decode cX4_rowsNeeded 67 = .ok (.iconst 0, 1) := by decide +kernel
theorem dX4_rowsNeeded_68 : decode cX4_rowsNeeded 68 = .ok (.istore_n 2, 1) := by decide +kernel
theorem dX4_rowsNeeded_69 : decode cX4_rowsNeeded 69 = .ok (.iload_n 2, 1) := by decide +kernel
theorem dX4_rowsNeeded_70 : decode cX4_rowsNeeded 70 = .ok (.sipush 192, 3) := by decide +kernel
theorem dX4_rowsNeeded_73 : decode cX4_rowsNeeded 73 = .ok (.if_icmp .ge 25, 3) := by decide +kernel
theorem dX4_rowsNeeded_76 : decode cX4_rowsNeeded 76 = .ok (.iload_n 1, 1) := by decide +kernel
theorem dX4_rowsNeeded_77 : decode cX4_rowsNeeded 77 = .ok (.aload_n 0, 1) := by decide +kernel
theorem dX4_rowsNeeded_78 : decode cX4_rowsNeeded 78 = .ok (.iload_n 2, 1) := by decide +kernel
theorem dX4_rowsNeeded_79 : decode cX4_rowsNeeded 79 = .ok (.invokevirtual 111, 3) := by decide +kernel
theorem dX4_rowsNeeded_82 : decode cX4_rowsNeeded 82 = .ok (.ifCond .eq 7, 3) := by decide +kernel
theorem dX4_rowsNeeded_89 : decode cX4_rowsNeeded 89 = .ok (.iconst 0, 1) := by decide +kernel
theorem dX4_rowsNeeded_90 : decode cX4_rowsNeeded 90 = .ok (.iadd, 1) := by decide +kernel
theorem dX4_rowsNeeded_91 : decode cX4_rowsNeeded 91 = .ok (.istore_n 1, 1) := by decide +kernel
theorem dX4_rowsNeeded_92 : decode cX4_rowsNeeded 92 = .ok (.iinc 2 1, 3) := by decide +kernel
theorem dX4_rowsNeeded_95 : decode cX4_rowsNeeded 95 = .ok (.goto (-26), 3) := by decide +kernel
theorem dX4_rowsNeeded_85 : decode cX4_rowsNeeded 85 = .ok (.iconst 1, 1) := by decide +kernel
theorem dX4_rowsNeeded_86 : decode cX4_rowsNeeded 86 = .ok (.goto 4, 3) := by decide +kernel
theorem dX4_rowsNeeded_98 : decode cX4_rowsNeeded 98 = .ok (.iload_n 1, 1) := by decide +kernel
theorem dX4_rowsNeeded_99 : decode cX4_rowsNeeded 99 = .ok (.ireturn, 1) := by decide +kernel
end
section
theorem cd_X4_shiftOf : Cond.code yX4_shiftOf cX4_shiftOf 2 (some .int) ∈ pWW := pw5 (List.mem_of_getElem? (i := 197) rfl) rfl
abbrev m_X4_shiftOf : MT := (yX4_shiftOf, cX4_shiftOf, 2, (some .int))
theorem ok_X4_shiftOf : pOk m_X4_shiftOf := ⟨⟨cd_X4_shiftOf, ini_4⟩, by decide +kernel, ⟨by decide +kernel, by decide +kernel⟩, Nat.le_of_ble_eq_true rfl⟩
theorem np_X4_shiftOf : (parseMethodDescriptor yX4_shiftOf.desc).map (fun d => d.parameters.length) = some 1 := by decide +kernel
theorem im_X4_shiftOf : Cond.instanceMethod yX4_shiftOf ∈ pWW := pw5 (List.mem_of_getElem? (i := 196) rfl) rfl
theorem se_X4_shiftOf : Cond.selects RX4 yX4_shiftOf yX4_shiftOf ∈ pWW := pws (List.mem_map.mpr ⟨_, lw_pin 74 rfl, rfl⟩) rfl
theorem nl4_164 : (RX4, 164, yX11_isPure, "LineKeeper") ∈ nst_M := List.mem_of_getElem? (i := 39) rfl
theorem fl4_63 : Cond.fieldLink RX4 63 (TX4 5).1 (TX4 5).2.1 (TX4 5).2.2.1 ∈ pWW := pw2 (List.mem_of_getElem? (i := 66) rfl) rfl
theorem fl4_69 : Cond.fieldLink RX4 69 (TX4 6).1 (TX4 6).2.1 (TX4 6).2.2.1 ∈ pWW := pw2 (List.mem_of_getElem? (i := 67) rfl) rfl
theorem fl4_57 : Cond.fieldLink RX4 57 (TX4 4).1 (TX4 4).2.1 (TX4 4).2.2.1 ∈ pWW := pw2 (List.mem_of_getElem? (i := 65) rfl) rfl
theorem dX4_shiftOf_0 : decode cX4_shiftOf 0 = .ok (.iload_n 1, 1) := by decide +kernel
theorem dX4_shiftOf_1 : decode cX4_shiftOf 1 = .ok (.invokestatic 164, 3) := by decide +kernel
theorem dX4_shiftOf_4 : decode cX4_shiftOf 4 = .ok (.ifCond .eq 8, 3) := by decide +kernel
theorem dX4_shiftOf_12 : decode cX4_shiftOf 12 = .ok (.iload_n 1, 1) := by decide +kernel
theorem dX4_shiftOf_13 : decode cX4_shiftOf 13 = .ok (.bipush 8, 2) := by decide +kernel
theorem dX4_shiftOf_15 : decode cX4_shiftOf 15 = .ok (.if_icmp .eq 15, 3) := by decide +kernel
theorem dX4_shiftOf_30 : decode cX4_shiftOf 30 = .ok (.aload_n 0, 1) := by decide +kernel
theorem dX4_shiftOf_31 : decode cX4_shiftOf 31 = .ok (.getfield 63, 3) := by decide +kernel
theorem dX4_shiftOf_34 : decode cX4_shiftOf 34 = .ok (.ireturn, 1) := by decide +kernel
theorem dX4_shiftOf_18 : decode cX4_shiftOf 18 = .ok (.iload_n 1, 1) := by decide +kernel
theorem dX4_shiftOf_19 : decode cX4_shiftOf 19 = .ok (.bipush 9, 2) := by decide +kernel
theorem dX4_shiftOf_21 : decode cX4_shiftOf 21 = .ok (.if_icmp .eq 9, 3) := by decide +kernel
theorem dX4_shiftOf_24 : decode cX4_shiftOf 24 = .ok (.iload_n 1, 1) := by decide +kernel
theorem dX4_shiftOf_25 : decode cX4_shiftOf 25 = .ok (.bipush 13, 2) := by decide +kernel
theorem dX4_shiftOf_27 : decode cX4_shiftOf 27 = .ok (.if_icmp .ne 8, 3) := by decide +kernel
theorem dX4_shiftOf_35 : decode cX4_shiftOf 35 = .ok (.iload_n 1, 1) := by decide +kernel
theorem dX4_shiftOf_36 : decode cX4_shiftOf 36 = .ok (.bipush 14, 2) := by decide +kernel
theorem dX4_shiftOf_38 : decode cX4_shiftOf 38 = .ok (.if_icmp .eq 9, 3) := by decide +kernel
theorem dX4_shiftOf_47 : decode cX4_shiftOf 47 = .ok (.aload_n 0, 1) := by decide +kernel
theorem dX4_shiftOf_48 : decode cX4_shiftOf 48 = .ok (.getfield 69, 3) := by decide +kernel
theorem dX4_shiftOf_51 : decode cX4_shiftOf 51 = .ok (.goto 4, 3) := by decide +kernel
theorem dX4_shiftOf_55 : decode cX4_shiftOf 55 = .ok (.ireturn, 1) := by decide +kernel
theorem dX4_shiftOf_41 : decode cX4_shiftOf 41 = .ok (.iload_n 1, 1) := by decide +kernel
theorem dX4_shiftOf_42 : decode cX4_shiftOf 42 = .ok (.bipush 15, 2) := by decide +kernel
theorem dX4_shiftOf_44 : decode cX4_shiftOf 44 = .ok (.if_icmp .ne 10, 3) := by decide +kernel
theorem dX4_shiftOf_54 : decode cX4_shiftOf 54 = .ok (.iconst 0, 1) := by decide +kernel
theorem dX4_shiftOf_7 : decode cX4_shiftOf 7 = .ok (.aload_n 0, 1) := by decide +kernel
theorem dX4_shiftOf_8 : decode cX4_shiftOf 8 = .ok (.getfield 57, 3) := by decide +kernel
theorem dX4_shiftOf_11 : decode cX4_shiftOf 11 = .ok (.ireturn, 1) := by decide +kernel
end
section
theorem cd_X4_addRow : Cond.code yX4_addRow cX4_addRow 4 none ∈ pWW := pw5 (List.mem_of_getElem? (i := 179) rfl) rfl
abbrev m_X4_addRow : MT := (yX4_addRow, cX4_addRow, 4, none)
theorem ok_X4_addRow : pOk m_X4_addRow := ⟨⟨cd_X4_addRow, ini_4⟩, by decide +kernel, ⟨by decide +kernel, by decide +kernel⟩, Nat.le_of_ble_eq_true rfl⟩
theorem np_X4_addRow : (parseMethodDescriptor yX4_addRow.desc).map (fun d => d.parameters.length) = some 3 := by decide +kernel
theorem im_X4_addRow : Cond.instanceMethod yX4_addRow ∈ pWW := pw5 (List.mem_of_getElem? (i := 178) rfl) rfl
theorem se_X4_addRow : Cond.selects RX4 yX4_addRow yX4_addRow ∈ pWW := pws (List.mem_map.mpr ⟨_, lw_pin 70 rfl, rfl⟩) rfl
theorem fl4_19 : Cond.fieldLink RX4 19 (TX4 2).1 (TX4 2).2.1 (TX4 2).2.2.1 ∈ pWW := pw2 (List.mem_of_getElem? (i := 63) rfl) rfl
theorem fl4_96 : Cond.fieldLink RX4 96 (TX4 9).1 (TX4 9).2.1 (TX4 9).2.2.1 ∈ pWW := pw2 (List.mem_of_getElem? (i := 70) rfl) rfl
theorem ml4_144 : Cond.methodLink RX4 144 yX1_set ∈ pWW := pw5 (List.mem_of_getElem? (i := 180) rfl) rfl
theorem dX4_addRow_0 : decode cX4_addRow 0 = .ok (.aload_n 0, 1) := by decide +kernel
theorem dX4_addRow_1 : decode cX4_addRow 1 = .ok (.getfield 19, 3) := by decide +kernel
theorem dX4_addRow_4 : decode cX4_addRow 4 = .ok (.aload_n 0, 1) := by decide +kernel
theorem dX4_addRow_5 : decode cX4_addRow 5 = .ok (.getfield 96, 3) := by decide +kernel
theorem dX4_addRow_8 : decode cX4_addRow 8 = .ok (.iconst 0, 1) := by decide +kernel
theorem dX4_addRow_9 : decode cX4_addRow 9 = .ok (.iload_n 1, 1) := by decide +kernel
theorem dX4_addRow_10 : decode cX4_addRow 10 = .ok (.invokevirtual 144, 3) := by decide +kernel
theorem dX4_addRow_13 : decode cX4_addRow 13 = .ok (.aload_n 0, 1) := by decide +kernel
theorem dX4_addRow_14 : decode cX4_addRow 14 = .ok (.getfield 19, 3) := by decide +kernel
theorem dX4_addRow_17 : decode cX4_addRow 17 = .ok (.aload_n 0, 1) := by decide +kernel
theorem dX4_addRow_18 : decode cX4_addRow 18 = .ok (.getfield 96, 3) := by decide +kernel
theorem dX4_addRow_21 : decode cX4_addRow 21 = .ok (.iconst 1, 1) := by decide +kernel
theorem dX4_addRow_22 : decode cX4_addRow 22 = .ok (.iload_n 2, 1) := by decide +kernel
theorem dX4_addRow_23 : decode cX4_addRow 23 = .ok (.invokevirtual 144, 3) := by decide +kernel
theorem dX4_addRow_26 : decode cX4_addRow 26 = .ok (.aload_n 0, 1) := by decide +kernel
theorem dX4_addRow_27 : decode cX4_addRow 27 = .ok (.getfield 19, 3) := by decide +kernel
theorem dX4_addRow_30 : decode cX4_addRow 30 = .ok (.aload_n 0, 1) := by decide +kernel
theorem dX4_addRow_31 : decode cX4_addRow 31 = .ok (.getfield 96, 3) := by decide +kernel
theorem dX4_addRow_34 : decode cX4_addRow 34 = .ok (.iconst 2, 1) := by decide +kernel
theorem dX4_addRow_35 : decode cX4_addRow 35 = .ok (.iload_n 3, 1) := by decide +kernel
theorem dX4_addRow_36 : decode cX4_addRow 36 = .ok (.invokevirtual 144, 3) := by decide +kernel
theorem dX4_addRow_39 : decode cX4_addRow 39 = .ok (.aload_n 0, 1) := by decide +kernel
theorem dX4_addRow_40 : decode cX4_addRow 40 = .ok (.dup, 1) := by decide +kernel
theorem dX4_addRow_41 : decode cX4_addRow 41 = .ok (.getfield 96, 3) := by decide +kernel
theorem dX4_addRow_44 : decode cX4_addRow 44 = .ok (.iconst 1, 1) := by decide +kernel
theorem dX4_addRow_45 : decode cX4_addRow 45 = .ok (.iadd, 1) := by decide +kernel
theorem dX4_addRow_46 : decode cX4_addRow 46 = .ok (.putfield 96, 3) := by decide +kernel
theorem dX4_addRow_49 : decode cX4_addRow 49 = .ok (.return_, 1) := by decide +kernel
end
section
theorem cd_X4_addCopy : Cond.code yX4_addCopy cX4_addCopy 4 none ∈ pWW := pw5 (List.mem_of_getElem? (i := 184) rfl) rfl
abbrev m_X4_addCopy : MT := (yX4_addCopy, cX4_addCopy, 4, none)
theorem ok_X4_addCopy : pOk m_X4_addCopy := ⟨⟨cd_X4_addCopy, ini_4⟩, by decide +kernel, ⟨by decide +kernel, by decide +kernel⟩, Nat.le_of_ble_eq_true rfl⟩
theorem np_X4_addCopy : (parseMethodDescriptor yX4_addCopy.desc).map (fun d => d.parameters.length) = some 3 := by decide +kernel
theorem im_X4_addCopy : Cond.instanceMethod yX4_addCopy ∈ pWW := pw5 (List.mem_of_getElem? (i := 183) rfl) rfl
theorem se_X4_addCopy : Cond.selects RX4 yX4_addCopy yX4_addCopy ∈ pWW := pws (List.mem_map.mpr ⟨_, lw_pin 71 rfl, rfl⟩) rfl
theorem ml4_148 : Cond.methodLink RX4 148 yX4_addRow ∈ pWW := pw5 (List.mem_of_getElem? (i := 176) rfl) rfl
theorem dX4_addCopy_0 : decode cX4_addCopy 0 = .ok (.aload_n 0, 1) := by decide +kernel
theorem dX4_addCopy_1 : decode cX4_addCopy 1 = .ok (.getfield 19, 3) := by decide +kernel
theorem dX4_addCopy_4 : decode cX4_addCopy 4 = .ok (.aload_n 0, 1) := by decide +kernel
theorem dX4_addCopy_5 : decode cX4_addCopy 5 = .ok (.getfield 96, 3) := by decide +kernel
theorem dX4_addCopy_8 : decode cX4_addCopy 8 = .ok (.iconst 3, 1) := by decide +kernel
theorem dX4_addCopy_9 : decode cX4_addCopy 9 = .ok (.iload_n 2, 1) := by decide +kernel
theorem dX4_addCopy_10 : decode cX4_addCopy 10 = .ok (.invokevirtual 144, 3) := by decide +kernel
theorem dX4_addCopy_13 : decode cX4_addCopy 13 = .ok (.aload_n 0, 1) := by decide +kernel
theorem dX4_addCopy_14 : decode cX4_addCopy 14 = .ok (.getfield 19, 3) := by decide +kernel
theorem dX4_addCopy_17 : decode cX4_addCopy 17 = .ok (.aload_n 0, 1) := by decide +kernel
theorem dX4_addCopy_18 : decode cX4_addCopy 18 = .ok (.getfield 96, 3) := by decide +kernel
theorem dX4_addCopy_21 : decode cX4_addCopy 21 = .ok (.iconst 4, 1) := by decide +kernel
theorem dX4_addCopy_22 : decode cX4_addCopy 22 = .ok (.iload_n 3, 1) := by decide +kernel
theorem dX4_addCopy_23 : decode cX4_addCopy 23 = .ok (.invokevirtual 144, 3) := by decide +kernel
theorem dX4_addCopy_26 : decode cX4_addCopy 26 = .ok (.aload_n 0, 1) := by decide +kernel
theorem dX4_addCopy_27 : decode cX4_addCopy 27 = .ok (.iconst 0, 1) := by decide +kernel
theorem dX4_addCopy_28 : decode cX4_addCopy 28 = .ok (.iload_n 1, 1) := by decide +kernel
theorem dX4_addCopy_29 : decode cX4_addCopy 29 = .ok (.iconst 0, 1) := by decide +kernel
theorem dX4_addCopy_30 : decode cX4_addCopy 30 = .ok (.invokevirtual 148, 3) := by decide +kernel
theorem dX4_addCopy_33 : decode cX4_addCopy 33 = .ok (.return_, 1) := by decide +kernel
end
section
theorem cd_X4_addItem : Cond.code yX4_addItem cX4_addItem 6 none ∈ pWW := pw5 (List.mem_of_getElem? (i := 193) rfl) rfl
abbrev m_X4_addItem : MT := (yX4_addItem, cX4_addItem, 6, none)
theorem ok_X4_addItem : pOk m_X4_addItem := ⟨⟨cd_X4_addItem, ini_4⟩, by decide +kernel, ⟨by decide +kernel, by decide +kernel⟩, Nat.le_of_ble_eq_true rfl⟩
theorem np_X4_addItem : (parseMethodDescriptor yX4_addItem.desc).map (fun d => d.parameters.length) = some 1 := by decide +kernel
theorem im_X4_addItem : Cond.instanceMethod yX4_addItem ∈ pWW := pw5 (List.mem_of_getElem? (i := 192) rfl) rfl
theorem se_X4_addItem : Cond.selects RX4 yX4_addItem yX4_addItem ∈ pWW := pws (List.mem_map.mpr ⟨_, lw_pin 73 rfl, rfl⟩) rfl
theorem dX4_addItem_0 : decode cX4_addItem 0 = .ok (.aload_n 0, 1) := by decide +kernel
theorem dX4_addItem_1 : decode cX4_addItem 1 = .ok (.getfield 33, 3) := by decide +kernel
theorem dX4_addItem_4 : decode cX4_addItem 4 = .ok (.iload_n 1, 1) := by decide +kernel
theorem dX4_addItem_5 : decode cX4_addItem 5 = .ok (.iconst 0, 1) := by decide +kernel
theorem dX4_addItem_6 : decode cX4_addItem 6 = .ok (.invokevirtual 29, 3) := by decide +kernel
theorem dX4_addItem_9 : decode cX4_addItem 9 = .ok (.istore_n 2, 1) := by decide +kernel
theorem dX4_addItem_10 : decode cX4_addItem 10 = .ok (.aload_n 0, 1) := by decide +kernel
theorem dX4_addItem_11 : decode cX4_addItem 11 = .ok (.getfield 33, 3) := by decide +kernel
theorem dX4_addItem_14 : decode cX4_addItem 14 = .ok (.iload_n 1, 1) := by decide +kernel
theorem dX4_addItem_15 : decode cX4_addItem 15 = .ok (.bipush 11, 2) := by decide +kernel
theorem dX4_addItem_17 : decode cX4_addItem 17 = .ok (.invokevirtual 29, 3) := by decide +kernel
theorem dX4_addItem_20 : decode cX4_addItem 20 = .ok (.istore_n 3, 1) := by decide +kernel
theorem dX4_addItem_21 : decode cX4_addItem 21 = .ok (.iconst 3, 1) := by decide +kernel
theorem dX4_addItem_22 : decode cX4_addItem 22 = .ok (.istore 4, 2) := by decide +kernel
theorem dX4_addItem_24 : decode cX4_addItem 24 = .ok (.iload 4, 2) := by decide +kernel
theorem dX4_addItem_26 : decode cX4_addItem 26 = .ok (.bipush 11, 2) := by decide +kernel
theorem dX4_addItem_28 : decode cX4_addItem 28 = .ok (.if_icmp .ge 111, 3) := by decide +kernel
theorem dX4_addItem_31 : decode cX4_addItem 31 = .ok (.aload_n 0, 1) := by decide +kernel
theorem dX4_addItem_32 : decode cX4_addItem 32 = .ok (.getfield 33, 3) := by decide +kernel
theorem dX4_addItem_35 : decode cX4_addItem 35 = .ok (.iload_n 1, 1) := by decide +kernel
theorem dX4_addItem_36 : decode cX4_addItem 36 = .ok (.iload 4, 2) := by decide +kernel
theorem dX4_addItem_38 : decode cX4_addItem 38 = .ok (.invokevirtual 29, 3) := by decide +kernel
theorem dX4_addItem_41 : decode cX4_addItem 41 = .ok (.iconst 2, 1) := by decide +kernel
theorem dX4_addItem_42 : decode cX4_addItem 42 = .ok (.if_icmp .eq 20, 3) := by decide +kernel
theorem dX4_addItem_62 : decode cX4_addItem 62 = .ok (.iconst 1, 1) := by decide +kernel
theorem dX4_addItem_63 : decode cX4_addItem 63 = .ok (.goto 4, 3) := by decide +kernel
theorem dX4_addItem_67 : decode cX4_addItem 67 = .ok (.istore 5, 2) := by decide +kernel
theorem dX4_addItem_69 : decode cX4_addItem 69 = .ok (.aload_n 0, 1) := by decide +kernel
theorem dX4_addItem_70 : decode cX4_addItem 70 = .ok (.getfield 19, 3) := by decide +kernel
theorem dX4_addItem_73 : decode cX4_addItem 73 = .ok (.aload_n 0, 1) := by decide +kernel
theorem dX4_addItem_74 : decode cX4_addItem 74 = .ok (.getfield 96, 3) := by decide +kernel
theorem dX4_addItem_77 : decode cX4_addItem 77 = .ok (.iload 4, 2) := by decide +kernel
theorem dX4_addItem_79 : decode cX4_addItem 79 = .ok (.aload_n 0, 1) := by decide +kernel
theorem dX4_addItem_80 : decode cX4_addItem 80 = .ok (.getfield 33, 3) := by decide +kernel
theorem dX4_addItem_83 : decode cX4_addItem 83 = .ok (.iload_n 1, 1) := by decide +kernel
theorem dX4_addItem_84 : decode cX4_addItem 84 = .ok (.iload 4, 2) := by decide +kernel
theorem dX4_addItem_86 : decode cX4_addItem 86 = .ok (.invokevirtual 29, 3) := by decide +kernel
theorem dX4_addItem_89 : decode cX4_addItem 89 = .ok (.invokevirtual 144, 3) := by decide +kernel
theorem dX4_addItem_92 : decode cX4_addItem 92 = .ok (.aload_n 0, 1) := by decide +kernel
theorem dX4_addItem_93 : decode cX4_addItem 93 = .ok (.getfield 19, 3) := by decide +kernel
theorem dX4_addItem_96 : decode cX4_addItem 96 = .ok (.aload_n 0, 1) := by decide +kernel
theorem dX4_addItem_97 : decode cX4_addItem 97 = .ok (.getfield 96, 3) := by decide +kernel
theorem dX4_addItem_100 : decode cX4_addItem 100 = .ok (.iload 4, 2) := by decide +kernel
theorem dX4_addItem_102 : decode cX4_addItem 102 = .ok (.iconst 1, 1) := by decide +kernel
theorem dX4_addItem_103 : decode cX4_addItem 103 = .ok (.iadd, 1) := by decide +kernel
theorem dX4_addItem_104 : decode cX4_addItem 104 = .ok (.aload_n 0, 1) := by decide +kernel
theorem dX4_addItem_105 : decode cX4_addItem 105 = .ok (.getfield 33, 3) := by decide +kernel
theorem dX4_addItem_108 : decode cX4_addItem 108 = .ok (.iload_n 1, 1) := by decide +kernel
theorem dX4_addItem_109 : decode cX4_addItem 109 = .ok (.iload 4, 2) := by decide +kernel
theorem dX4_addItem_111 : decode cX4_addItem 111 = .ok (.iconst 1, 1) := by decide +kernel
theorem dX4_addItem_112 : decode cX4_addItem 112 = .ok (.iadd, 1) := by decide +kernel
theorem dX4_addItem_113 : decode cX4_addItem 113 = .ok (.invokevirtual 29, 3) := by decide +kernel
theorem dX4_addItem_116 : decode cX4_addItem 116 = .ok (.iload 5, 2) := by decide +kernel
theorem dX4_addItem_118 : decode cX4_addItem 118 = .ok (.ifCond .eq 10, 3) := by decide +kernel
theorem dX4_addItem_121 : decode cX4_addItem 121 = .ok (.aload_n 0, 1) := by decide +kernel
theorem dX4_addItem_122 : decode cX4_addItem 122 = .ok (.getfield 57, 3) := by decide +kernel
theorem dX4_addItem_125 : decode cX4_addItem 125 = .ok (.goto 4, 3) := by decide +kernel
theorem dX4_addItem_129 : decode cX4_addItem 129 = .ok (.iadd, 1) := by decide +kernel
theorem dX4_addItem_130 : decode cX4_addItem 130 = .ok (.invokevirtual 144, 3) := by decide +kernel
theorem dX4_addItem_133 : decode cX4_addItem 133 = .ok (.iinc 4 2, 3) := by decide +kernel
theorem dX4_addItem_136 : decode cX4_addItem 136 = .ok (.goto (-112), 3) := by decide +kernel
theorem dX4_addItem_45 : decode cX4_addItem 45 = .ok (.iload 4, 2) := by decide +kernel
theorem dX4_addItem_47 : decode cX4_addItem 47 = .ok (.iconst 3, 1) := by decide +kernel
theorem dX4_addItem_48 : decode cX4_addItem 48 = .ok (.if_icmp .ne 18, 3) := by decide +kernel
theorem dX4_addItem_66 : decode cX4_addItem 66 = .ok (.iconst 0, 1) := by decide +kernel
theorem dX4_addItem_128 : decode cX4_addItem 128 = .ok (.iconst 0, 1) := by decide +kernel
theorem dX4_addItem_51 : decode cX4_addItem 51 = .ok (.iload_n 2, 1) := by decide +kernel
theorem dX4_addItem_52 : decode cX4_addItem 52 = .ok (.bipush 12, 2) := by decide +kernel
theorem dX4_addItem_54 : decode cX4_addItem 54 = .ok (.if_icmp .ne 12, 3) := by decide +kernel
theorem dX4_addItem_57 : decode cX4_addItem 57 = .ok (.iload_n 3, 1) := by decide +kernel
theorem dX4_addItem_58 : decode cX4_addItem 58 = .ok (.iconst 2, 1) := by decide +kernel
theorem dX4_addItem_59 : decode cX4_addItem 59 = .ok (.if_icmp .ne 7, 3) := by decide +kernel
theorem ml4_160 : Cond.methodLink RX4 160 yX4_shiftOf ∈ pWW := pw5 (List.mem_of_getElem? (i := 194) rfl) rfl
theorem dX4_addItem_139 : decode cX4_addItem 139 = .ok (.aload_n 0, 1) := by decide +kernel
theorem dX4_addItem_140 : decode cX4_addItem 140 = .ok (.getfield 19, 3) := by decide +kernel
theorem dX4_addItem_143 : decode cX4_addItem 143 = .ok (.aload_n 0, 1) := by decide +kernel
theorem dX4_addItem_144 : decode cX4_addItem 144 = .ok (.getfield 96, 3) := by decide +kernel
theorem dX4_addItem_147 : decode cX4_addItem 147 = .ok (.bipush 11, 2) := by decide +kernel
theorem dX4_addItem_149 : decode cX4_addItem 149 = .ok (.iload_n 3, 1) := by decide +kernel
theorem dX4_addItem_150 : decode cX4_addItem 150 = .ok (.invokevirtual 144, 3) := by decide +kernel
theorem dX4_addItem_153 : decode cX4_addItem 153 = .ok (.iload_n 2, 1) := by decide +kernel
theorem dX4_addItem_154 : decode cX4_addItem 154 = .ok (.bipush 11, 2) := by decide +kernel
theorem dX4_addItem_156 : decode cX4_addItem 156 = .ok (.if_icmp .eq 9, 3) := by decide +kernel
theorem dX4_addItem_165 : decode cX4_addItem 165 = .ok (.iconst 1, 1) := by decide +kernel
theorem dX4_addItem_166 : decode cX4_addItem 166 = .ok (.goto 4, 3) := by decide +kernel
theorem dX4_addItem_170 : decode cX4_addItem 170 = .ok (.istore 4, 2) := by decide +kernel
theorem dX4_addItem_172 : decode cX4_addItem 172 = .ok (.aload_n 0, 1) := by decide +kernel
theorem dX4_addItem_173 : decode cX4_addItem 173 = .ok (.iload_n 2, 1) := by decide +kernel
theorem dX4_addItem_174 : decode cX4_addItem 174 = .ok (.aload_n 0, 1) := by decide +kernel
theorem dX4_addItem_175 : decode cX4_addItem 175 = .ok (.getfield 33, 3) := by decide +kernel
theorem dX4_addItem_178 : decode cX4_addItem 178 = .ok (.iload_n 1, 1) := by decide +kernel
theorem dX4_addItem_179 : decode cX4_addItem 179 = .ok (.iconst 1, 1) := by decide +kernel
theorem dX4_addItem_180 : decode cX4_addItem 180 = .ok (.invokevirtual 29, 3) := by decide +kernel
theorem dX4_addItem_183 : decode cX4_addItem 183 = .ok (.aload_n 0, 1) := by decide +kernel
theorem dX4_addItem_184 : decode cX4_addItem 184 = .ok (.iload_n 2, 1) := by decide +kernel
theorem dX4_addItem_185 : decode cX4_addItem 185 = .ok (.invokevirtual 160, 3) := by decide +kernel
theorem dX4_addItem_188 : decode cX4_addItem 188 = .ok (.iadd, 1) := by decide +kernel
theorem dX4_addItem_189 : decode cX4_addItem 189 = .ok (.aload_n 0, 1) := by decide +kernel
theorem dX4_addItem_190 : decode cX4_addItem 190 = .ok (.getfield 33, 3) := by decide +kernel
theorem dX4_addItem_193 : decode cX4_addItem 193 = .ok (.iload_n 1, 1) := by decide +kernel
theorem dX4_addItem_194 : decode cX4_addItem 194 = .ok (.iconst 2, 1) := by decide +kernel
theorem dX4_addItem_195 : decode cX4_addItem 195 = .ok (.invokevirtual 29, 3) := by decide +kernel
theorem dX4_addItem_198 : decode cX4_addItem 198 = .ok (.iload 4, 2) := by decide +kernel
theorem dX4_addItem_200 : decode cX4_addItem 200 = .ok (.ifCond .eq 10, 3) := by decide +kernel
theorem dX4_addItem_203 : decode cX4_addItem 203 = .ok (.aload_n 0, 1) := by decide +kernel
theorem dX4_addItem_204 : decode cX4_addItem 204 = .ok (.getfield 69, 3) := by decide +kernel
theorem dX4_addItem_207 : decode cX4_addItem 207 = .ok (.goto 4, 3) := by decide +kernel
theorem dX4_addItem_211 : decode cX4_addItem 211 = .ok (.iadd, 1) := by decide +kernel
theorem dX4_addItem_212 : decode cX4_addItem 212 = .ok (.invokevirtual 148, 3) := by decide +kernel
theorem dX4_addItem_215 : decode cX4_addItem 215 = .ok (.return_, 1) := by decide +kernel
theorem dX4_addItem_159 : decode cX4_addItem 159 = .ok (.iload_n 2, 1) := by decide +kernel
theorem dX4_addItem_160 : decode cX4_addItem 160 = .ok (.bipush 12, 2) := by decide +kernel
theorem dX4_addItem_162 : decode cX4_addItem 162 = .ok (.if_icmp .ne 7, 3) := by decide +kernel
theorem dX4_addItem_169 : decode cX4_addItem 169 = .ok (.iconst 0, 1) := by decide +kernel
theorem dX4_addItem_210 : decode cX4_addItem 210 = .ok (.iconst 0, 1) := by decide +kernel
end
section
theorem cd_X4_addBody : Cond.code yX4_addBody cX4_addBody 3 none ∈ pWW := pw5 (List.mem_of_getElem? (i := 189) rfl) rfl
abbrev m_X4_addBody : MT := (yX4_addBody, cX4_addBody, 3, none)
theorem ok_X4_addBody : pOk m_X4_addBody := ⟨⟨cd_X4_addBody, ini_4⟩, by decide +kernel, ⟨by decide +kernel, by decide +kernel⟩, Nat.le_of_ble_eq_true rfl⟩
theorem np_X4_addBody : (parseMethodDescriptor yX4_addBody.desc).map (fun d => d.parameters.length) = some 0 := by decide +kernel
theorem im_X4_addBody : Cond.instanceMethod yX4_addBody ∈ pWW := pw5 (List.mem_of_getElem? (i := 188) rfl) rfl
theorem se_X4_addBody : Cond.selects RX4 yX4_addBody yX4_addBody ∈ pWW := pws (List.mem_map.mpr ⟨_, lw_pin 72 rfl, rfl⟩) rfl
theorem ml4_157 : Cond.methodLink RX4 157 yX4_addItem ∈ pWW := pw5 (List.mem_of_getElem? (i := 190) rfl) rfl
theorem fl4_78 : Cond.fieldLink RX4 78 (TX4 8).1 (TX4 8).2.1 (TX4 8).2.2.1 ∈ pWW := pw2 (List.mem_of_getElem? (i := 69) rfl) rfl
theorem ml4_151 : Cond.methodLink RX4 151 yX4_addCopy ∈ pWW := pw5 (List.mem_of_getElem? (i := 181) rfl) rfl
theorem fl4_72 : Cond.fieldLink RX4 72 (TX4 7).1 (TX4 7).2.1 (TX4 7).2.2.1 ∈ pWW := pw2 (List.mem_of_getElem? (i := 68) rfl) rfl
theorem dX4_addBody_0 : decode cX4_addBody 0 = .ok (.iconst 0, 1) := by decide +kernel
theorem dX4_addBody_1 : decode cX4_addBody 1 = .ok (.istore_n 1, 1) := by decide +kernel
theorem dX4_addBody_2 : decode cX4_addBody 2 = .ok (.iload_n 1, 1) := by decide +kernel
theorem dX4_addBody_3 : decode cX4_addBody 3 = .ok (.aload_n 0, 1) := by decide +kernel
theorem dX4_addBody_4 : decode cX4_addBody 4 = .ok (.getfield 33, 3) := by decide +kernel
theorem dX4_addBody_7 : decode cX4_addBody 7 = .ok (.getfield 23, 3) := by decide +kernel
theorem dX4_addBody_10 : decode cX4_addBody 10 = .ok (.if_icmp .ge 84, 3) := by decide +kernel
theorem dX4_addBody_13 : decode cX4_addBody 13 = .ok (.aload_n 0, 1) := by decide +kernel
theorem dX4_addBody_14 : decode cX4_addBody 14 = .ok (.getfield 33, 3) := by decide +kernel
theorem dX4_addBody_17 : decode cX4_addBody 17 = .ok (.iload_n 1, 1) := by decide +kernel
theorem dX4_addBody_18 : decode cX4_addBody 18 = .ok (.iconst 0, 1) := by decide +kernel
theorem dX4_addBody_19 : decode cX4_addBody 19 = .ok (.invokevirtual 29, 3) := by decide +kernel
theorem dX4_addBody_22 : decode cX4_addBody 22 = .ok (.bipush 7, 2) := by decide +kernel
theorem dX4_addBody_24 : decode cX4_addBody 24 = .ok (.if_icmp .ne 59, 3) := by decide +kernel
theorem dX4_addBody_83 : decode cX4_addBody 83 = .ok (.aload_n 0, 1) := by decide +kernel
theorem dX4_addBody_84 : decode cX4_addBody 84 = .ok (.iload_n 1, 1) := by decide +kernel
theorem dX4_addBody_85 : decode cX4_addBody 85 = .ok (.invokevirtual 157, 3) := by decide +kernel
theorem dX4_addBody_88 : decode cX4_addBody 88 = .ok (.iinc 1 1, 3) := by decide +kernel
theorem dX4_addBody_91 : decode cX4_addBody 91 = .ok (.goto (-89), 3) := by decide +kernel
theorem dX4_addBody_27 : decode cX4_addBody 27 = .ok (.aload_n 0, 1) := by decide +kernel
theorem dX4_addBody_28 : decode cX4_addBody 28 = .ok (.getfield 33, 3) := by decide +kernel
theorem dX4_addBody_31 : decode cX4_addBody 31 = .ok (.iload_n 1, 1) := by decide +kernel
theorem dX4_addBody_32 : decode cX4_addBody 32 = .ok (.iconst 3, 1) := by decide +kernel
theorem dX4_addBody_33 : decode cX4_addBody 33 = .ok (.invokevirtual 29, 3) := by decide +kernel
theorem dX4_addBody_36 : decode cX4_addBody 36 = .ok (.istore_n 2, 1) := by decide +kernel
theorem dX4_addBody_37 : decode cX4_addBody 37 = .ok (.aload_n 0, 1) := by decide +kernel
theorem dX4_addBody_38 : decode cX4_addBody 38 = .ok (.aload_n 0, 1) := by decide +kernel
theorem dX4_addBody_39 : decode cX4_addBody 39 = .ok (.getfield 78, 3) := by decide +kernel
theorem dX4_addBody_42 : decode cX4_addBody 42 = .ok (.iload_n 2, 1) := by decide +kernel
theorem dX4_addBody_43 : decode cX4_addBody 43 = .ok (.aload_n 0, 1) := by decide +kernel
theorem dX4_addBody_44 : decode cX4_addBody 44 = .ok (.getfield 33, 3) := by decide +kernel
theorem dX4_addBody_47 : decode cX4_addBody 47 = .ok (.iload_n 1, 1) := by decide +kernel
theorem dX4_addBody_48 : decode cX4_addBody 48 = .ok (.iconst 4, 1) := by decide +kernel
theorem dX4_addBody_49 : decode cX4_addBody 49 = .ok (.invokevirtual 29, 3) := by decide +kernel
theorem dX4_addBody_52 : decode cX4_addBody 52 = .ok (.iload_n 2, 1) := by decide +kernel
theorem dX4_addBody_53 : decode cX4_addBody 53 = .ok (.iconst 2, 1) := by decide +kernel
theorem dX4_addBody_54 : decode cX4_addBody 54 = .ok (.if_icmp .ne 10, 3) := by decide +kernel
theorem dX4_addBody_64 : decode cX4_addBody 64 = .ok (.iconst 0, 1) := by decide +kernel
theorem dX4_addBody_65 : decode cX4_addBody 65 = .ok (.iadd, 1) := by decide +kernel
theorem dX4_addBody_66 : decode cX4_addBody 66 = .ok (.invokevirtual 151, 3) := by decide +kernel
theorem dX4_addBody_69 : decode cX4_addBody 69 = .ok (.aload_n 0, 1) := by decide +kernel
theorem dX4_addBody_70 : decode cX4_addBody 70 = .ok (.bipush 8, 2) := by decide +kernel
theorem dX4_addBody_72 : decode cX4_addBody 72 = .ok (.aload_n 0, 1) := by decide +kernel
theorem dX4_addBody_73 : decode cX4_addBody 73 = .ok (.getfield 72, 3) := by decide +kernel
theorem dX4_addBody_76 : decode cX4_addBody 76 = .ok (.iconst 0, 1) := by decide +kernel
theorem dX4_addBody_77 : decode cX4_addBody 77 = .ok (.invokevirtual 148, 3) := by decide +kernel
theorem dX4_addBody_80 : decode cX4_addBody 80 = .ok (.goto 8, 3) := by decide +kernel
theorem dX4_addBody_57 : decode cX4_addBody 57 = .ok (.aload_n 0, 1) := by decide +kernel
theorem dX4_addBody_58 : decode cX4_addBody 58 = .ok (.getfield 57, 3) := by decide +kernel
theorem dX4_addBody_61 : decode cX4_addBody 61 = .ok (.goto 4, 3) := by decide +kernel
theorem dX4_addBody_94 : decode cX4_addBody 94 = .ok (.aload_n 0, 1) := by decide +kernel
theorem dX4_addBody_95 : decode cX4_addBody 95 = .ok (.bipush 13, 2) := by decide +kernel
theorem dX4_addBody_97 : decode cX4_addBody 97 = .ok (.aload_n 0, 1) := by decide +kernel
theorem dX4_addBody_98 : decode cX4_addBody 98 = .ok (.getfield 72, 3) := by decide +kernel
theorem dX4_addBody_101 : decode cX4_addBody 101 = .ok (.iconst 0, 1) := by decide +kernel
theorem dX4_addBody_102 : decode cX4_addBody 102 = .ok (.invokevirtual 148, 3) := by decide +kernel
theorem dX4_addBody_105 : decode cX4_addBody 105 = .ok (.aload_n 0, 1) := by decide +kernel
theorem dX4_addBody_106 : decode cX4_addBody 106 = .ok (.bipush 15, 2) := by decide +kernel
theorem dX4_addBody_108 : decode cX4_addBody 108 = .ok (.aload_n 0, 1) := by decide +kernel
theorem dX4_addBody_109 : decode cX4_addBody 109 = .ok (.getfield 69, 3) := by decide +kernel
theorem dX4_addBody_112 : decode cX4_addBody 112 = .ok (.iconst 0, 1) := by decide +kernel
theorem dX4_addBody_113 : decode cX4_addBody 113 = .ok (.invokevirtual 148, 3) := by decide +kernel
theorem dX4_addBody_116 : decode cX4_addBody 116 = .ok (.return_, 1) := by decide +kernel
end
section
theorem cd_X4_addEntry : Cond.code yX4_addEntry cX4_addEntry 4 none ∈ pWW := pw5 (List.mem_of_getElem? (i := 175) rfl) rfl
abbrev m_X4_addEntry : MT := (yX4_addEntry, cX4_addEntry, 4, none)
theorem ok_X4_addEntry : pOk m_X4_addEntry := ⟨⟨cd_X4_addEntry, ini_4⟩, by decide +kernel, ⟨by decide +kernel, by decide +kernel⟩, Nat.le_of_ble_eq_true rfl⟩
theorem np_X4_addEntry : (parseMethodDescriptor yX4_addEntry.desc).map (fun d => d.parameters.length) = some 0 := by decide +kernel
theorem im_X4_addEntry : Cond.instanceMethod yX4_addEntry ∈ pWW := pw5 (List.mem_of_getElem? (i := 174) rfl) rfl
theorem se_X4_addEntry : Cond.selects RX4 yX4_addEntry yX4_addEntry ∈ pWW := pws (List.mem_map.mpr ⟨_, lw_pin 69 rfl, rfl⟩) rfl
theorem ml4_154 : Cond.methodLink RX4 154 yX1_setWhere ∈ pWW := pw5 (List.mem_of_getElem? (i := 185) rfl) rfl
theorem fl4_9 : Cond.fieldLink RX4 9 (TX4 1).1 (TX4 1).2.1 (TX4 1).2.2.1 ∈ pWW := pw2 (List.mem_of_getElem? (i := 62) rfl) rfl
theorem nl4_128 : (RX4, 128, yX11_at, "LineKeeper") ∈ nst_M := List.mem_of_getElem? (i := 38) rfl
theorem dX4_addEntry_0 : decode cX4_addEntry 0 = .ok (.aload_n 0, 1) := by decide +kernel
theorem dX4_addEntry_1 : decode cX4_addEntry 1 = .ok (.bipush 14, 2) := by decide +kernel
theorem dX4_addEntry_3 : decode cX4_addEntry 3 = .ok (.aload_n 0, 1) := by decide +kernel
theorem dX4_addEntry_4 : decode cX4_addEntry 4 = .ok (.getfield 69, 3) := by decide +kernel
theorem dX4_addEntry_7 : decode cX4_addEntry 7 = .ok (.iconst 0, 1) := by decide +kernel
theorem dX4_addEntry_8 : decode cX4_addEntry 8 = .ok (.invokevirtual 148, 3) := by decide +kernel
theorem dX4_addEntry_11 : decode cX4_addEntry 11 = .ok (.iconst 0, 1) := by decide +kernel
theorem dX4_addEntry_12 : decode cX4_addEntry 12 = .ok (.istore_n 1, 1) := by decide +kernel
theorem dX4_addEntry_13 : decode cX4_addEntry 13 = .ok (.iload_n 1, 1) := by decide +kernel
theorem dX4_addEntry_14 : decode cX4_addEntry 14 = .ok (.aload_n 0, 1) := by decide +kernel
theorem dX4_addEntry_15 : decode cX4_addEntry 15 = .ok (.getfield 33, 3) := by decide +kernel
theorem dX4_addEntry_18 : decode cX4_addEntry 18 = .ok (.getfield 105, 3) := by decide +kernel
theorem dX4_addEntry_21 : decode cX4_addEntry 21 = .ok (.if_icmp .ge 112, 3) := by decide +kernel
theorem dX4_addEntry_24 : decode cX4_addEntry 24 = .ok (.aload_n 0, 1) := by decide +kernel
theorem dX4_addEntry_25 : decode cX4_addEntry 25 = .ok (.getfield 57, 3) := by decide +kernel
theorem dX4_addEntry_28 : decode cX4_addEntry 28 = .ok (.aload_n 0, 1) := by decide +kernel
theorem dX4_addEntry_29 : decode cX4_addEntry 29 = .ok (.getfield 33, 3) := by decide +kernel
theorem dX4_addEntry_32 : decode cX4_addEntry 32 = .ok (.iconst 0, 1) := by decide +kernel
theorem dX4_addEntry_33 : decode cX4_addEntry 33 = .ok (.iload_n 1, 1) := by decide +kernel
theorem dX4_addEntry_34 : decode cX4_addEntry 34 = .ok (.invokevirtual 122, 3) := by decide +kernel
theorem dX4_addEntry_37 : decode cX4_addEntry 37 = .ok (.iadd, 1) := by decide +kernel
theorem dX4_addEntry_38 : decode cX4_addEntry 38 = .ok (.istore_n 2, 1) := by decide +kernel
theorem dX4_addEntry_39 : decode cX4_addEntry 39 = .ok (.iload_n 1, 1) := by decide +kernel
theorem dX4_addEntry_40 : decode cX4_addEntry 40 = .ok (.aload_n 0, 1) := by decide +kernel
theorem dX4_addEntry_41 : decode cX4_addEntry 41 = .ok (.getfield 33, 3) := by decide +kernel
theorem dX4_addEntry_44 : decode cX4_addEntry 44 = .ok (.getfield 108, 3) := by decide +kernel
theorem dX4_addEntry_47 : decode cX4_addEntry 47 = .ok (.if_icmp .ge 7, 3) := by decide +kernel
theorem dX4_addEntry_54 : decode cX4_addEntry 54 = .ok (.iconst 0, 1) := by decide +kernel
theorem dX4_addEntry_55 : decode cX4_addEntry 55 = .ok (.istore_n 3, 1) := by decide +kernel
theorem dX4_addEntry_56 : decode cX4_addEntry 56 = .ok (.iload_n 3, 1) := by decide +kernel
theorem dX4_addEntry_57 : decode cX4_addEntry 57 = .ok (.ifCond .eq 30, 3) := by decide +kernel
theorem dX4_addEntry_87 : decode cX4_addEntry 87 = .ok (.aload_n 0, 1) := by decide +kernel
theorem dX4_addEntry_88 : decode cX4_addEntry 88 = .ok (.getfield 19, 3) := by decide +kernel
theorem dX4_addEntry_91 : decode cX4_addEntry 91 = .ok (.aload_n 0, 1) := by decide +kernel
theorem dX4_addEntry_92 : decode cX4_addEntry 92 = .ok (.getfield 96, 3) := by decide +kernel
theorem dX4_addEntry_95 : decode cX4_addEntry 95 = .ok (.iload_n 3, 1) := by decide +kernel
theorem dX4_addEntry_96 : decode cX4_addEntry 96 = .ok (.ifCond .eq 7, 3) := by decide +kernel
theorem dX4_addEntry_103 : decode cX4_addEntry 103 = .ok (.iconst 1, 1) := by decide +kernel
theorem dX4_addEntry_104 : decode cX4_addEntry 104 = .ok (.iload_n 3, 1) := by decide +kernel
theorem dX4_addEntry_105 : decode cX4_addEntry 105 = .ok (.ifCond .eq 7, 3) := by decide +kernel
theorem dX4_addEntry_112 : decode cX4_addEntry 112 = .ok (.iconst 0, 1) := by decide +kernel
theorem dX4_addEntry_113 : decode cX4_addEntry 113 = .ok (.invokevirtual 154, 3) := by decide +kernel
theorem dX4_addEntry_116 : decode cX4_addEntry 116 = .ok (.aload_n 0, 1) := by decide +kernel
theorem dX4_addEntry_117 : decode cX4_addEntry 117 = .ok (.bipush 12, 2) := by decide +kernel
theorem dX4_addEntry_119 : decode cX4_addEntry 119 = .ok (.iload_n 1, 1) := by decide +kernel
theorem dX4_addEntry_120 : decode cX4_addEntry 120 = .ok (.aload_n 0, 1) := by decide +kernel
theorem dX4_addEntry_121 : decode cX4_addEntry 121 = .ok (.getfield 69, 3) := by decide +kernel
theorem dX4_addEntry_124 : decode cX4_addEntry 124 = .ok (.invokevirtual 148, 3) := by decide +kernel
theorem dX4_addEntry_127 : decode cX4_addEntry 127 = .ok (.iinc 1 1, 3) := by decide +kernel
theorem dX4_addEntry_130 : decode cX4_addEntry 130 = .ok (.goto (-117), 3) := by decide +kernel
theorem dX4_addEntry_50 : decode cX4_addEntry 50 = .ok (.iconst 1, 1) := by decide +kernel
theorem dX4_addEntry_51 : decode cX4_addEntry 51 = .ok (.goto 4, 3) := by decide +kernel
theorem dX4_addEntry_60 : decode cX4_addEntry 60 = .ok (.aload_n 0, 1) := by decide +kernel
theorem dX4_addEntry_61 : decode cX4_addEntry 61 = .ok (.iload_n 2, 1) := by decide +kernel
theorem dX4_addEntry_62 : decode cX4_addEntry 62 = .ok (.aload_n 0, 1) := by decide +kernel
theorem dX4_addEntry_63 : decode cX4_addEntry 63 = .ok (.getfield 9, 3) := by decide +kernel
theorem dX4_addEntry_66 : decode cX4_addEntry 66 = .ok (.iconst 2, 1) := by decide +kernel
theorem dX4_addEntry_67 : decode cX4_addEntry 67 = .ok (.iload_n 1, 1) := by decide +kernel
theorem dX4_addEntry_68 : decode cX4_addEntry 68 = .ok (.imul, 1) := by decide +kernel
theorem dX4_addEntry_69 : decode cX4_addEntry 69 = .ok (.invokestatic 128, 3) := by decide +kernel
theorem dX4_addEntry_72 : decode cX4_addEntry 72 = .ok (.aload_n 0, 1) := by decide +kernel
theorem dX4_addEntry_73 : decode cX4_addEntry 73 = .ok (.getfield 9, 3) := by decide +kernel
theorem dX4_addEntry_76 : decode cX4_addEntry 76 = .ok (.iconst 2, 1) := by decide +kernel
theorem dX4_addEntry_77 : decode cX4_addEntry 77 = .ok (.iload_n 1, 1) := by decide +kernel
theorem dX4_addEntry_78 : decode cX4_addEntry 78 = .ok (.imul, 1) := by decide +kernel
theorem dX4_addEntry_79 : decode cX4_addEntry 79 = .ok (.iconst 1, 1) := by decide +kernel
theorem dX4_addEntry_80 : decode cX4_addEntry 80 = .ok (.iadd, 1) := by decide +kernel
theorem dX4_addEntry_81 : decode cX4_addEntry 81 = .ok (.invokestatic 128, 3) := by decide +kernel
theorem dX4_addEntry_84 : decode cX4_addEntry 84 = .ok (.invokevirtual 151, 3) := by decide +kernel
theorem dX4_addEntry_99 : decode cX4_addEntry 99 = .ok (.iconst 2, 1) := by decide +kernel
theorem dX4_addEntry_100 : decode cX4_addEntry 100 = .ok (.goto 4, 3) := by decide +kernel
theorem dX4_addEntry_108 : decode cX4_addEntry 108 = .ok (.iload_n 2, 1) := by decide +kernel
theorem dX4_addEntry_109 : decode cX4_addEntry 109 = .ok (.goto 4, 3) := by decide +kernel
theorem dX4_addEntry_133 : decode cX4_addEntry 133 = .ok (.iconst 0, 1) := by decide +kernel
theorem dX4_addEntry_134 : decode cX4_addEntry 134 = .ok (.istore_n 1, 1) := by decide +kernel
theorem dX4_addEntry_135 : decode cX4_addEntry 135 = .ok (.iload_n 1, 1) := by decide +kernel
theorem dX4_addEntry_136 : decode cX4_addEntry 136 = .ok (.sipush 192, 3) := by decide +kernel
theorem dX4_addEntry_139 : decode cX4_addEntry 139 = .ok (.if_icmp .ge 29, 3) := by decide +kernel
theorem dX4_addEntry_142 : decode cX4_addEntry 142 = .ok (.aload_n 0, 1) := by decide +kernel
theorem dX4_addEntry_143 : decode cX4_addEntry 143 = .ok (.iload_n 1, 1) := by decide +kernel
theorem dX4_addEntry_144 : decode cX4_addEntry 144 = .ok (.invokevirtual 111, 3) := by decide +kernel
theorem dX4_addEntry_147 : decode cX4_addEntry 147 = .ok (.ifCond .eq 15, 3) := by decide +kernel
theorem dX4_addEntry_162 : decode cX4_addEntry 162 = .ok (.iinc 1 1, 3) := by decide +kernel
theorem dX4_addEntry_165 : decode cX4_addEntry 165 = .ok (.goto (-30), 3) := by decide +kernel
theorem dX4_addEntry_150 : decode cX4_addEntry 150 = .ok (.aload_n 0, 1) := by decide +kernel
theorem dX4_addEntry_151 : decode cX4_addEntry 151 = .ok (.aload_n 0, 1) := by decide +kernel
theorem dX4_addEntry_152 : decode cX4_addEntry 152 = .ok (.getfield 57, 3) := by decide +kernel
theorem dX4_addEntry_155 : decode cX4_addEntry 155 = .ok (.iload_n 1, 1) := by decide +kernel
theorem dX4_addEntry_156 : decode cX4_addEntry 156 = .ok (.iadd, 1) := by decide +kernel
theorem dX4_addEntry_157 : decode cX4_addEntry 157 = .ok (.iconst 1, 1) := by decide +kernel
theorem dX4_addEntry_158 : decode cX4_addEntry 158 = .ok (.iconst 0, 1) := by decide +kernel
theorem dX4_addEntry_159 : decode cX4_addEntry 159 = .ok (.invokevirtual 151, 3) := by decide +kernel
theorem dX4_addEntry_168 : decode cX4_addEntry 168 = .ok (.return_, 1) := by decide +kernel
end
section
theorem cd_X4_addFrames : Cond.code yX4_addFrames cX4_addFrames 6 none ∈ pWW := pw5 (List.mem_of_getElem? (i := 165) rfl) rfl
abbrev m_X4_addFrames : MT := (yX4_addFrames, cX4_addFrames, 6, none)
theorem ok_X4_addFrames : pOk m_X4_addFrames := ⟨⟨cd_X4_addFrames, ini_4⟩, by decide +kernel, ⟨by decide +kernel, by decide +kernel⟩, Nat.le_of_ble_eq_true rfl⟩
theorem np_X4_addFrames : (parseMethodDescriptor yX4_addFrames.desc).map (fun d => d.parameters.length) = some 1 := by decide +kernel
theorem im_X4_addFrames : Cond.instanceMethod yX4_addFrames ∈ pWW := pw5 (List.mem_of_getElem? (i := 164) rfl) rfl
theorem se_X4_addFrames : Cond.selects RX4 yX4_addFrames yX4_addFrames ∈ pWW := pws (List.mem_map.mpr ⟨_, lw_pin 68 rfl, rfl⟩) rfl
theorem dX4_addFrames_0 : decode cX4_addFrames 0 = .ok (.iload_n 1, 1) := by decide +kernel
theorem dX4_addFrames_1 : decode cX4_addFrames 1 = .ok (.istore_n 2, 1) := by decide +kernel
theorem dX4_addFrames_2 : decode cX4_addFrames 2 = .ok (.iload_n 2, 1) := by decide +kernel
theorem dX4_addFrames_3 : decode cX4_addFrames 3 = .ok (.ifCond .lt 23, 3) := by decide +kernel
theorem dX4_addFrames_6 : decode cX4_addFrames 6 = .ok (.aload_n 0, 1) := by decide +kernel
theorem dX4_addFrames_7 : decode cX4_addFrames 7 = .ok (.getfield 19, 3) := by decide +kernel
theorem dX4_addFrames_10 : decode cX4_addFrames 10 = .ok (.iload_n 2, 1) := by decide +kernel
theorem dX4_addFrames_11 : decode cX4_addFrames 11 = .ok (.iconst 0, 1) := by decide +kernel
theorem dX4_addFrames_12 : decode cX4_addFrames 12 = .ok (.invokevirtual 29, 3) := by decide +kernel
theorem dX4_addFrames_15 : decode cX4_addFrames 15 = .ok (.bipush 11, 2) := by decide +kernel
theorem dX4_addFrames_17 : decode cX4_addFrames 17 = .ok (.if_icmp .eq 9, 3) := by decide +kernel
theorem dX4_addFrames_20 : decode cX4_addFrames 20 = .ok (.iinc 2 (-1), 3) := by decide +kernel
theorem dX4_addFrames_23 : decode cX4_addFrames 23 = .ok (.goto (-21), 3) := by decide +kernel
theorem fl4_66 : Cond.fieldLink RX4 66 (TX1 5).1 (TX1 5).2.1 (TX1 5).2.2.1 ∈ pWW := pw1 (List.mem_of_getElem? (i := 104) rfl) rfl
theorem fl4_125 : Cond.fieldLink RX4 125 (TX1 6).1 (TX1 6).2.1 (TX1 6).2.2.1 ∈ pWW := pw1 (List.mem_of_getElem? (i := 108) rfl) rfl
theorem nl4_81 : (RX4, 81, yX11_put, "LineKeeper") ∈ nst_M := List.mem_of_getElem? (i := 37) rfl
theorem fl4_132 : Cond.fieldLink RX4 132 (TX1 7).1 (TX1 7).2.1 (TX1 7).2.2.1 ∈ pWW := pw1 (List.mem_of_getElem? (i := 112) rfl) rfl
theorem fl4_135 : Cond.fieldLink RX4 135 (TX1 8).1 (TX1 8).2.1 (TX1 8).2.2.1 ∈ pWW := pw1 (List.mem_of_getElem? (i := 116) rfl) rfl
theorem fl4_138 : Cond.fieldLink RX4 138 (TX1 9).1 (TX1 9).2.1 (TX1 9).2.2.1 ∈ pWW := pw1 (List.mem_of_getElem? (i := 119) rfl) rfl
theorem fl4_141 : Cond.fieldLink RX4 141 (TX1 10).1 (TX1 10).2.1 (TX1 10).2.2.1 ∈ pWW := pw1 (List.mem_of_getElem? (i := 124) rfl) rfl
theorem dX4_addFrames_26 : decode cX4_addFrames 26 = .ok (.iconst 0, 1) := by decide +kernel
theorem dX4_addFrames_27 : decode cX4_addFrames 27 = .ok (.istore_n 3, 1) := by decide +kernel
theorem dX4_addFrames_28 : decode cX4_addFrames 28 = .ok (.iload_n 3, 1) := by decide +kernel
theorem dX4_addFrames_29 : decode cX4_addFrames 29 = .ok (.aload_n 0, 1) := by decide +kernel
theorem dX4_addFrames_30 : decode cX4_addFrames 30 = .ok (.getfield 33, 3) := by decide +kernel
theorem dX4_addFrames_33 : decode cX4_addFrames 33 = .ok (.getfield 66, 3) := by decide +kernel
theorem dX4_addFrames_36 : decode cX4_addFrames 36 = .ok (.if_icmp .ge 204, 3) := by decide +kernel
theorem dX4_addFrames_39 : decode cX4_addFrames 39 = .ok (.aload_n 0, 1) := by decide +kernel
theorem dX4_addFrames_40 : decode cX4_addFrames 40 = .ok (.getfield 69, 3) := by decide +kernel
theorem dX4_addFrames_43 : decode cX4_addFrames 43 = .ok (.iload_n 3, 1) := by decide +kernel
theorem dX4_addFrames_44 : decode cX4_addFrames 44 = .ok (.iadd, 1) := by decide +kernel
theorem dX4_addFrames_45 : decode cX4_addFrames 45 = .ok (.istore 4, 2) := by decide +kernel
theorem dX4_addFrames_47 : decode cX4_addFrames 47 = .ok (.aload_n 0, 1) := by decide +kernel
theorem dX4_addFrames_48 : decode cX4_addFrames 48 = .ok (.getfield 19, 3) := by decide +kernel
theorem dX4_addFrames_51 : decode cX4_addFrames 51 = .ok (.getfield 125, 3) := by decide +kernel
theorem dX4_addFrames_54 : decode cX4_addFrames 54 = .ok (.iload 4, 2) := by decide +kernel
theorem dX4_addFrames_56 : decode cX4_addFrames 56 = .ok (.aload_n 0, 1) := by decide +kernel
theorem dX4_addFrames_57 : decode cX4_addFrames 57 = .ok (.getfield 33, 3) := by decide +kernel
theorem dX4_addFrames_60 : decode cX4_addFrames 60 = .ok (.getfield 125, 3) := by decide +kernel
theorem dX4_addFrames_63 : decode cX4_addFrames 63 = .ok (.iload_n 3, 1) := by decide +kernel
theorem dX4_addFrames_64 : decode cX4_addFrames 64 = .ok (.invokestatic 128, 3) := by decide +kernel
theorem dX4_addFrames_67 : decode cX4_addFrames 67 = .ok (.invokestatic 81, 3) := by decide +kernel
theorem dX4_addFrames_70 : decode cX4_addFrames 70 = .ok (.aload_n 0, 1) := by decide +kernel
theorem dX4_addFrames_71 : decode cX4_addFrames 71 = .ok (.getfield 19, 3) := by decide +kernel
theorem dX4_addFrames_74 : decode cX4_addFrames 74 = .ok (.getfield 132, 3) := by decide +kernel
theorem dX4_addFrames_77 : decode cX4_addFrames 77 = .ok (.iload 4, 2) := by decide +kernel
theorem dX4_addFrames_79 : decode cX4_addFrames 79 = .ok (.iload_n 3, 1) := by decide +kernel
theorem dX4_addFrames_80 : decode cX4_addFrames 80 = .ok (.ifCond .ne 15, 3) := by decide +kernel
theorem dX4_addFrames_95 : decode cX4_addFrames 95 = .ok (.aload_n 0, 1) := by decide +kernel
theorem dX4_addFrames_96 : decode cX4_addFrames 96 = .ok (.getfield 69, 3) := by decide +kernel
theorem dX4_addFrames_99 : decode cX4_addFrames 99 = .ok (.aload_n 0, 1) := by decide +kernel
theorem dX4_addFrames_100 : decode cX4_addFrames 100 = .ok (.getfield 33, 3) := by decide +kernel
theorem dX4_addFrames_103 : decode cX4_addFrames 103 = .ok (.getfield 132, 3) := by decide +kernel
theorem dX4_addFrames_106 : decode cX4_addFrames 106 = .ok (.iload_n 3, 1) := by decide +kernel
theorem dX4_addFrames_107 : decode cX4_addFrames 107 = .ok (.invokestatic 128, 3) := by decide +kernel
theorem dX4_addFrames_110 : decode cX4_addFrames 110 = .ok (.iadd, 1) := by decide +kernel
theorem dX4_addFrames_111 : decode cX4_addFrames 111 = .ok (.invokestatic 81, 3) := by decide +kernel
theorem dX4_addFrames_114 : decode cX4_addFrames 114 = .ok (.aload_n 0, 1) := by decide +kernel
theorem dX4_addFrames_115 : decode cX4_addFrames 115 = .ok (.getfield 19, 3) := by decide +kernel
theorem dX4_addFrames_118 : decode cX4_addFrames 118 = .ok (.getfield 135, 3) := by decide +kernel
theorem dX4_addFrames_121 : decode cX4_addFrames 121 = .ok (.iload 4, 2) := by decide +kernel
theorem dX4_addFrames_123 : decode cX4_addFrames 123 = .ok (.iload_n 3, 1) := by decide +kernel
theorem dX4_addFrames_124 : decode cX4_addFrames 124 = .ok (.ifCond .ne 15, 3) := by decide +kernel
theorem dX4_addFrames_139 : decode cX4_addFrames 139 = .ok (.aload_n 0, 1) := by decide +kernel
theorem dX4_addFrames_140 : decode cX4_addFrames 140 = .ok (.getfield 33, 3) := by decide +kernel
theorem dX4_addFrames_143 : decode cX4_addFrames 143 = .ok (.getfield 135, 3) := by decide +kernel
theorem dX4_addFrames_146 : decode cX4_addFrames 146 = .ok (.iload_n 3, 1) := by decide +kernel
theorem dX4_addFrames_147 : decode cX4_addFrames 147 = .ok (.invokestatic 128, 3) := by decide +kernel
theorem dX4_addFrames_150 : decode cX4_addFrames 150 = .ok (.invokestatic 81, 3) := by decide +kernel
theorem dX4_addFrames_153 : decode cX4_addFrames 153 = .ok (.aload_n 0, 1) := by decide +kernel
theorem dX4_addFrames_154 : decode cX4_addFrames 154 = .ok (.getfield 19, 3) := by decide +kernel
theorem dX4_addFrames_157 : decode cX4_addFrames 157 = .ok (.getfield 138, 3) := by decide +kernel
theorem dX4_addFrames_160 : decode cX4_addFrames 160 = .ok (.iload 4, 2) := by decide +kernel
theorem dX4_addFrames_162 : decode cX4_addFrames 162 = .ok (.aload_n 0, 1) := by decide +kernel
theorem dX4_addFrames_163 : decode cX4_addFrames 163 = .ok (.getfield 33, 3) := by decide +kernel
theorem dX4_addFrames_166 : decode cX4_addFrames 166 = .ok (.getfield 138, 3) := by decide +kernel
theorem dX4_addFrames_169 : decode cX4_addFrames 169 = .ok (.iload_n 3, 1) := by decide +kernel
theorem dX4_addFrames_170 : decode cX4_addFrames 170 = .ok (.invokestatic 128, 3) := by decide +kernel
theorem dX4_addFrames_173 : decode cX4_addFrames 173 = .ok (.invokestatic 81, 3) := by decide +kernel
theorem dX4_addFrames_176 : decode cX4_addFrames 176 = .ok (.iconst 0, 1) := by decide +kernel
theorem dX4_addFrames_177 : decode cX4_addFrames 177 = .ok (.istore 5, 2) := by decide +kernel
theorem dX4_addFrames_179 : decode cX4_addFrames 179 = .ok (.iload 5, 2) := by decide +kernel
theorem dX4_addFrames_181 : decode cX4_addFrames 181 = .ok (.aload_n 0, 1) := by decide +kernel
theorem dX4_addFrames_182 : decode cX4_addFrames 182 = .ok (.getfield 33, 3) := by decide +kernel
theorem dX4_addFrames_185 : decode cX4_addFrames 185 = .ok (.getfield 138, 3) := by decide +kernel
theorem dX4_addFrames_188 : decode cX4_addFrames 188 = .ok (.iload_n 3, 1) := by decide +kernel
theorem dX4_addFrames_189 : decode cX4_addFrames 189 = .ok (.invokestatic 128, 3) := by decide +kernel
theorem dX4_addFrames_192 : decode cX4_addFrames 192 = .ok (.if_icmp .ge 42, 3) := by decide +kernel
theorem dX4_addFrames_195 : decode cX4_addFrames 195 = .ok (.aload_n 0, 1) := by decide +kernel
theorem dX4_addFrames_196 : decode cX4_addFrames 196 = .ok (.getfield 19, 3) := by decide +kernel
theorem dX4_addFrames_199 : decode cX4_addFrames 199 = .ok (.getfield 141, 3) := by decide +kernel
theorem dX4_addFrames_202 : decode cX4_addFrames 202 = .ok (.iload 4, 2) := by decide +kernel
theorem dX4_addFrames_204 : decode cX4_addFrames 204 = .ok (.bipush 12, 2) := by decide +kernel
theorem dX4_addFrames_206 : decode cX4_addFrames 206 = .ok (.imul, 1) := by decide +kernel
theorem dX4_addFrames_207 : decode cX4_addFrames 207 = .ok (.iload 5, 2) := by decide +kernel
theorem dX4_addFrames_209 : decode cX4_addFrames 209 = .ok (.iadd, 1) := by decide +kernel
theorem dX4_addFrames_210 : decode cX4_addFrames 210 = .ok (.aload_n 0, 1) := by decide +kernel
theorem dX4_addFrames_211 : decode cX4_addFrames 211 = .ok (.getfield 57, 3) := by decide +kernel
theorem dX4_addFrames_214 : decode cX4_addFrames 214 = .ok (.aload_n 0, 1) := by decide +kernel
theorem dX4_addFrames_215 : decode cX4_addFrames 215 = .ok (.getfield 33, 3) := by decide +kernel
theorem dX4_addFrames_218 : decode cX4_addFrames 218 = .ok (.iload_n 3, 1) := by decide +kernel
theorem dX4_addFrames_219 : decode cX4_addFrames 219 = .ok (.iload 5, 2) := by decide +kernel
theorem dX4_addFrames_221 : decode cX4_addFrames 221 = .ok (.invokevirtual 122, 3) := by decide +kernel
theorem dX4_addFrames_224 : decode cX4_addFrames 224 = .ok (.iadd, 1) := by decide +kernel
theorem dX4_addFrames_225 : decode cX4_addFrames 225 = .ok (.invokestatic 81, 3) := by decide +kernel
theorem dX4_addFrames_228 : decode cX4_addFrames 228 = .ok (.iinc 5 1, 3) := by decide +kernel
theorem dX4_addFrames_231 : decode cX4_addFrames 231 = .ok (.goto (-52), 3) := by decide +kernel
theorem dX4_addFrames_234 : decode cX4_addFrames 234 = .ok (.iinc 3 1, 3) := by decide +kernel
theorem dX4_addFrames_237 : decode cX4_addFrames 237 = .ok (.goto (-209), 3) := by decide +kernel
theorem dX4_addFrames_83 : decode cX4_addFrames 83 = .ok (.aload_n 0, 1) := by decide +kernel
theorem dX4_addFrames_84 : decode cX4_addFrames 84 = .ok (.getfield 19, 3) := by decide +kernel
theorem dX4_addFrames_87 : decode cX4_addFrames 87 = .ok (.iload_n 2, 1) := by decide +kernel
theorem dX4_addFrames_88 : decode cX4_addFrames 88 = .ok (.iconst 2, 1) := by decide +kernel
theorem dX4_addFrames_89 : decode cX4_addFrames 89 = .ok (.invokevirtual 29, 3) := by decide +kernel
theorem dX4_addFrames_92 : decode cX4_addFrames 92 = .ok (.goto 19, 3) := by decide +kernel
theorem dX4_addFrames_127 : decode cX4_addFrames 127 = .ok (.aload_n 0, 1) := by decide +kernel
theorem dX4_addFrames_128 : decode cX4_addFrames 128 = .ok (.getfield 19, 3) := by decide +kernel
theorem dX4_addFrames_131 : decode cX4_addFrames 131 = .ok (.iload_n 2, 1) := by decide +kernel
theorem dX4_addFrames_132 : decode cX4_addFrames 132 = .ok (.iconst 1, 1) := by decide +kernel
theorem dX4_addFrames_133 : decode cX4_addFrames 133 = .ok (.invokevirtual 29, 3) := by decide +kernel
theorem dX4_addFrames_136 : decode cX4_addFrames 136 = .ok (.goto 14, 3) := by decide +kernel
theorem dX4_addFrames_240 : decode cX4_addFrames 240 = .ok (.aload_n 0, 1) := by decide +kernel
theorem dX4_addFrames_241 : decode cX4_addFrames 241 = .ok (.getfield 19, 3) := by decide +kernel
theorem dX4_addFrames_244 : decode cX4_addFrames 244 = .ok (.aload_n 0, 1) := by decide +kernel
theorem dX4_addFrames_245 : decode cX4_addFrames 245 = .ok (.getfield 69, 3) := by decide +kernel
theorem dX4_addFrames_248 : decode cX4_addFrames 248 = .ok (.aload_n 0, 1) := by decide +kernel
theorem dX4_addFrames_249 : decode cX4_addFrames 249 = .ok (.getfield 33, 3) := by decide +kernel
theorem dX4_addFrames_252 : decode cX4_addFrames 252 = .ok (.getfield 66, 3) := by decide +kernel
theorem dX4_addFrames_255 : decode cX4_addFrames 255 = .ok (.iadd, 1) := by decide +kernel
theorem dX4_addFrames_256 : decode cX4_addFrames 256 = .ok (.putfield 66, 3) := by decide +kernel
theorem dX4_addFrames_259 : decode cX4_addFrames 259 = .ok (.return_, 1) := by decide +kernel
end
section
theorem cd_X4_meltAt : Cond.code yX4_meltAt cX4_meltAt 4 (some .boolean) ∈ pWW := pw5 (List.mem_of_getElem? (i := 144) rfl) rfl
abbrev m_X4_meltAt : MT := (yX4_meltAt, cX4_meltAt, 4, (some .boolean))
theorem ok_X4_meltAt : pOk m_X4_meltAt := ⟨⟨cd_X4_meltAt, ini_4⟩, by decide +kernel, ⟨by decide +kernel, by decide +kernel⟩, Nat.le_of_ble_eq_true rfl⟩
theorem np_X4_meltAt : (parseMethodDescriptor yX4_meltAt.desc).map (fun d => d.parameters.length) = some 1 := by decide +kernel
theorem im_X4_meltAt : Cond.instanceMethod yX4_meltAt ∈ pWW := pw5 (List.mem_of_getElem? (i := 143) rfl) rfl
theorem se_X4_meltAt : Cond.selects RX4 yX4_meltAt yX4_meltAt ∈ pWW := pws (List.mem_map.mpr ⟨_, lw_pin 65 rfl, rfl⟩) rfl
theorem ml4_48 : Cond.methodLink RX4 48 yX3_findLiving ∈ pWW := pw5 (List.mem_of_getElem? (i := 145) rfl) rfl
theorem ml4_54 : Cond.methodLink RX4 54 yX1_registers ∈ pWW := pw5 (List.mem_of_getElem? (i := 146) rfl) rfl
theorem ml4_60 : Cond.methodLink RX4 60 yX1_greatestLabel ∈ pWW := pw5 (List.mem_of_getElem? (i := 147) rfl) rfl
theorem ml4_75 : Cond.methodLink RX4 75 yX4_rowsNeeded ∈ pWW := pw5 (List.mem_of_getElem? (i := 151) rfl) rfl
theorem dX4_meltAt_0 : decode cX4_meltAt 0 = .ok (.aload_n 0, 1) := by decide +kernel
theorem dX4_meltAt_1 : decode cX4_meltAt 1 = .ok (.getfield 15, 3) := by decide +kernel
theorem dX4_meltAt_4 : decode cX4_meltAt 4 = .ok (.aload_n 0, 1) := by decide +kernel
theorem dX4_meltAt_5 : decode cX4_meltAt 5 = .ok (.getfield 33, 3) := by decide +kernel
theorem dX4_meltAt_8 : decode cX4_meltAt 8 = .ok (.invokevirtual 48, 3) := by decide +kernel
theorem dX4_meltAt_11 : decode cX4_meltAt 11 = .ok (.aload_n 0, 1) := by decide +kernel
theorem dX4_meltAt_12 : decode cX4_meltAt 12 = .ok (.aload_n 0, 1) := by decide +kernel
theorem dX4_meltAt_13 : decode cX4_meltAt 13 = .ok (.getfield 19, 3) := by decide +kernel
theorem dX4_meltAt_16 : decode cX4_meltAt 16 = .ok (.invokevirtual 54, 3) := by decide +kernel
theorem dX4_meltAt_19 : decode cX4_meltAt 19 = .ok (.putfield 57, 3) := by decide +kernel
theorem dX4_meltAt_22 : decode cX4_meltAt 22 = .ok (.aload_n 0, 1) := by decide +kernel
theorem dX4_meltAt_23 : decode cX4_meltAt 23 = .ok (.aload_n 0, 1) := by decide +kernel
theorem dX4_meltAt_24 : decode cX4_meltAt 24 = .ok (.getfield 19, 3) := by decide +kernel
theorem dX4_meltAt_27 : decode cX4_meltAt 27 = .ok (.invokevirtual 60, 3) := by decide +kernel
theorem dX4_meltAt_30 : decode cX4_meltAt 30 = .ok (.iconst 1, 1) := by decide +kernel
theorem dX4_meltAt_31 : decode cX4_meltAt 31 = .ok (.iadd, 1) := by decide +kernel
theorem dX4_meltAt_32 : decode cX4_meltAt 32 = .ok (.putfield 63, 3) := by decide +kernel
theorem dX4_meltAt_35 : decode cX4_meltAt 35 = .ok (.aload_n 0, 1) := by decide +kernel
theorem dX4_meltAt_36 : decode cX4_meltAt 36 = .ok (.aload_n 0, 1) := by decide +kernel
theorem dX4_meltAt_37 : decode cX4_meltAt 37 = .ok (.getfield 19, 3) := by decide +kernel
theorem dX4_meltAt_40 : decode cX4_meltAt 40 = .ok (.getfield 66, 3) := by decide +kernel
theorem dX4_meltAt_43 : decode cX4_meltAt 43 = .ok (.putfield 69, 3) := by decide +kernel
theorem dX4_meltAt_46 : decode cX4_meltAt 46 = .ok (.aload_n 0, 1) := by decide +kernel
theorem dX4_meltAt_47 : decode cX4_meltAt 47 = .ok (.aload_n 0, 1) := by decide +kernel
theorem dX4_meltAt_48 : decode cX4_meltAt 48 = .ok (.getfield 63, 3) := by decide +kernel
theorem dX4_meltAt_51 : decode cX4_meltAt 51 = .ok (.aload_n 0, 1) := by decide +kernel
theorem dX4_meltAt_52 : decode cX4_meltAt 52 = .ok (.getfield 33, 3) := by decide +kernel
theorem dX4_meltAt_55 : decode cX4_meltAt 55 = .ok (.invokevirtual 60, 3) := by decide +kernel
theorem dX4_meltAt_58 : decode cX4_meltAt 58 = .ok (.iadd, 1) := by decide +kernel
theorem dX4_meltAt_59 : decode cX4_meltAt 59 = .ok (.iconst 1, 1) := by decide +kernel
theorem dX4_meltAt_60 : decode cX4_meltAt 60 = .ok (.iadd, 1) := by decide +kernel
theorem dX4_meltAt_61 : decode cX4_meltAt 61 = .ok (.putfield 72, 3) := by decide +kernel
theorem dX4_meltAt_64 : decode cX4_meltAt 64 = .ok (.aload_n 0, 1) := by decide +kernel
theorem dX4_meltAt_65 : decode cX4_meltAt 65 = .ok (.invokevirtual 75, 3) := by decide +kernel
theorem dX4_meltAt_68 : decode cX4_meltAt 68 = .ok (.iconst 1, 1) := by decide +kernel
theorem dX4_meltAt_69 : decode cX4_meltAt 69 = .ok (.isub, 1) := by decide +kernel
theorem dX4_meltAt_70 : decode cX4_meltAt 70 = .ok (.istore_n 2, 1) := by decide +kernel
theorem dX4_meltAt_71 : decode cX4_meltAt 71 = .ok (.aload_n 0, 1) := by decide +kernel
theorem dX4_meltAt_72 : decode cX4_meltAt 72 = .ok (.getfield 19, 3) := by decide +kernel
theorem dX4_meltAt_75 : decode cX4_meltAt 75 = .ok (.getfield 23, 3) := by decide +kernel
theorem dX4_meltAt_78 : decode cX4_meltAt 78 = .ok (.iload_n 2, 1) := by decide +kernel
theorem dX4_meltAt_79 : decode cX4_meltAt 79 = .ok (.iadd, 1) := by decide +kernel
theorem dX4_meltAt_80 : decode cX4_meltAt 80 = .ok (.sipush 200, 3) := by decide +kernel
theorem dX4_meltAt_83 : decode cX4_meltAt 83 = .ok (.if_icmp .gt 37, 3) := by decide +kernel
theorem dX4_meltAt_120 : decode cX4_meltAt 120 = .ok (.iconst 0, 1) := by decide +kernel
theorem dX4_meltAt_121 : decode cX4_meltAt 121 = .ok (.ireturn, 1) := by decide +kernel
theorem dX4_meltAt_86 : decode cX4_meltAt 86 = .ok (.aload_n 0, 1) := by decide +kernel
theorem dX4_meltAt_87 : decode cX4_meltAt 87 = .ok (.getfield 69, 3) := by decide +kernel
theorem dX4_meltAt_90 : decode cX4_meltAt 90 = .ok (.aload_n 0, 1) := by decide +kernel
theorem dX4_meltAt_91 : decode cX4_meltAt 91 = .ok (.getfield 33, 3) := by decide +kernel
theorem dX4_meltAt_94 : decode cX4_meltAt 94 = .ok (.getfield 66, 3) := by decide +kernel
theorem dX4_meltAt_97 : decode cX4_meltAt 97 = .ok (.iadd, 1) := by decide +kernel
theorem dX4_meltAt_98 : decode cX4_meltAt 98 = .ok (.bipush 12, 2) := by decide +kernel
theorem dX4_meltAt_100 : decode cX4_meltAt 100 = .ok (.if_icmp .gt 20, 3) := by decide +kernel
theorem dX4_meltAt_103 : decode cX4_meltAt 103 = .ok (.aload_n 0, 1) := by decide +kernel
theorem dX4_meltAt_104 : decode cX4_meltAt 104 = .ok (.getfield 57, 3) := by decide +kernel
theorem dX4_meltAt_107 : decode cX4_meltAt 107 = .ok (.aload_n 0, 1) := by decide +kernel
theorem dX4_meltAt_108 : decode cX4_meltAt 108 = .ok (.getfield 33, 3) := by decide +kernel
theorem dX4_meltAt_111 : decode cX4_meltAt 111 = .ok (.invokevirtual 54, 3) := by decide +kernel
theorem dX4_meltAt_114 : decode cX4_meltAt 114 = .ok (.iadd, 1) := by decide +kernel
theorem dX4_meltAt_115 : decode cX4_meltAt 115 = .ok (.bipush 100, 2) := by decide +kernel
theorem dX4_meltAt_117 : decode cX4_meltAt 117 = .ok (.if_icmp .le 5, 3) := by decide +kernel
theorem dX4_meltAt_122 : decode cX4_meltAt 122 = .ok (.aload_n 0, 1) := by decide +kernel
theorem dX4_meltAt_123 : decode cX4_meltAt 123 = .ok (.aload_n 0, 1) := by decide +kernel
theorem dX4_meltAt_124 : decode cX4_meltAt 124 = .ok (.getfield 19, 3) := by decide +kernel
theorem dX4_meltAt_127 : decode cX4_meltAt 127 = .ok (.iload_n 1, 1) := by decide +kernel
theorem dX4_meltAt_128 : decode cX4_meltAt 128 = .ok (.iconst 1, 1) := by decide +kernel
theorem dX4_meltAt_129 : decode cX4_meltAt 129 = .ok (.invokevirtual 29, 3) := by decide +kernel
theorem dX4_meltAt_132 : decode cX4_meltAt 132 = .ok (.putfield 78, 3) := by decide +kernel
theorem dX4_meltAt_135 : decode cX4_meltAt 135 = .ok (.iconst 0, 1) := by decide +kernel
theorem dX4_meltAt_136 : decode cX4_meltAt 136 = .ok (.istore_n 3, 1) := by decide +kernel
theorem dX4_meltAt_137 : decode cX4_meltAt 137 = .ok (.iload_n 3, 1) := by decide +kernel
theorem dX4_meltAt_138 : decode cX4_meltAt 138 = .ok (.aload_n 0, 1) := by decide +kernel
theorem dX4_meltAt_139 : decode cX4_meltAt 139 = .ok (.getfield 9, 3) := by decide +kernel
theorem dX4_meltAt_142 : decode cX4_meltAt 142 = .ok (.arraylength, 1) := by decide +kernel
theorem dX4_meltAt_143 : decode cX4_meltAt 143 = .ok (.if_icmp .ge 28, 3) := by decide +kernel
theorem dX4_meltAt_146 : decode cX4_meltAt 146 = .ok (.aload_n 0, 1) := by decide +kernel
theorem dX4_meltAt_147 : decode cX4_meltAt 147 = .ok (.getfield 9, 3) := by decide +kernel
theorem dX4_meltAt_150 : decode cX4_meltAt 150 = .ok (.iload_n 3, 1) := by decide +kernel
theorem dX4_meltAt_151 : decode cX4_meltAt 151 = .ok (.aload_n 0, 1) := by decide +kernel
theorem dX4_meltAt_152 : decode cX4_meltAt 152 = .ok (.getfield 19, 3) := by decide +kernel
theorem dX4_meltAt_155 : decode cX4_meltAt 155 = .ok (.iload_n 1, 1) := by decide +kernel
theorem dX4_meltAt_156 : decode cX4_meltAt 156 = .ok (.iconst 3, 1) := by decide +kernel
theorem dX4_meltAt_157 : decode cX4_meltAt 157 = .ok (.iload_n 3, 1) := by decide +kernel
theorem dX4_meltAt_158 : decode cX4_meltAt 158 = .ok (.iadd, 1) := by decide +kernel
theorem dX4_meltAt_159 : decode cX4_meltAt 159 = .ok (.invokevirtual 29, 3) := by decide +kernel
theorem dX4_meltAt_162 : decode cX4_meltAt 162 = .ok (.invokestatic 81, 3) := by decide +kernel
theorem dX4_meltAt_165 : decode cX4_meltAt 165 = .ok (.iinc 3 1, 3) := by decide +kernel
theorem dX4_meltAt_168 : decode cX4_meltAt 168 = .ok (.goto (-31), 3) := by decide +kernel
theorem ml4_85 : Cond.methodLink RX4 85 yX4_addFrames ∈ pWW := pw5 (List.mem_of_getElem? (i := 162) rfl) rfl
theorem ml4_89 : Cond.methodLink RX4 89 yX1_removeRow ∈ pWW := pw5 (List.mem_of_getElem? (i := 167) rfl) rfl
theorem ml4_92 : Cond.methodLink RX4 92 yX1_openRows ∈ pWW := pw5 (List.mem_of_getElem? (i := 168) rfl) rfl
theorem ml4_99 : Cond.methodLink RX4 99 yX4_addEntry ∈ pWW := pw5 (List.mem_of_getElem? (i := 172) rfl) rfl
theorem ml4_102 : Cond.methodLink RX4 102 yX4_addBody ∈ pWW := pw5 (List.mem_of_getElem? (i := 186) rfl) rfl
theorem dX4_meltAt_171 : decode cX4_meltAt 171 = .ok (.aload_n 0, 1) := by decide +kernel
theorem dX4_meltAt_172 : decode cX4_meltAt 172 = .ok (.iload_n 1, 1) := by decide +kernel
theorem dX4_meltAt_173 : decode cX4_meltAt 173 = .ok (.invokevirtual 85, 3) := by decide +kernel
theorem dX4_meltAt_176 : decode cX4_meltAt 176 = .ok (.aload_n 0, 1) := by decide +kernel
theorem dX4_meltAt_177 : decode cX4_meltAt 177 = .ok (.getfield 19, 3) := by decide +kernel
theorem dX4_meltAt_180 : decode cX4_meltAt 180 = .ok (.iload_n 1, 1) := by decide +kernel
theorem dX4_meltAt_181 : decode cX4_meltAt 181 = .ok (.invokevirtual 89, 3) := by decide +kernel
theorem dX4_meltAt_184 : decode cX4_meltAt 184 = .ok (.aload_n 0, 1) := by decide +kernel
theorem dX4_meltAt_185 : decode cX4_meltAt 185 = .ok (.getfield 19, 3) := by decide +kernel
theorem dX4_meltAt_188 : decode cX4_meltAt 188 = .ok (.iload_n 1, 1) := by decide +kernel
theorem dX4_meltAt_189 : decode cX4_meltAt 189 = .ok (.iload_n 2, 1) := by decide +kernel
theorem dX4_meltAt_190 : decode cX4_meltAt 190 = .ok (.iconst 1, 1) := by decide +kernel
theorem dX4_meltAt_191 : decode cX4_meltAt 191 = .ok (.iadd, 1) := by decide +kernel
theorem dX4_meltAt_192 : decode cX4_meltAt 192 = .ok (.invokevirtual 92, 3) := by decide +kernel
theorem dX4_meltAt_195 : decode cX4_meltAt 195 = .ok (.pop, 1) := by decide +kernel
theorem dX4_meltAt_196 : decode cX4_meltAt 196 = .ok (.aload_n 0, 1) := by decide +kernel
theorem dX4_meltAt_197 : decode cX4_meltAt 197 = .ok (.iload_n 1, 1) := by decide +kernel
theorem dX4_meltAt_198 : decode cX4_meltAt 198 = .ok (.putfield 96, 3) := by decide +kernel
theorem dX4_meltAt_201 : decode cX4_meltAt 201 = .ok (.aload_n 0, 1) := by decide +kernel
theorem dX4_meltAt_202 : decode cX4_meltAt 202 = .ok (.invokevirtual 99, 3) := by decide +kernel
theorem dX4_meltAt_205 : decode cX4_meltAt 205 = .ok (.aload_n 0, 1) := by decide +kernel
theorem dX4_meltAt_206 : decode cX4_meltAt 206 = .ok (.invokevirtual 102, 3) := by decide +kernel
theorem dX4_meltAt_209 : decode cX4_meltAt 209 = .ok (.iconst 1, 1) := by decide +kernel
theorem dX4_meltAt_210 : decode cX4_meltAt 210 = .ok (.ireturn, 1) := by decide +kernel
end
section
theorem cd_X4_melt : Cond.code yX4_melt cX4_melt 8 (some .int) ∈ pWW := pw5 (List.mem_of_getElem? (i := 134) rfl) rfl
abbrev m_X4_melt : MT := (yX4_melt, cX4_melt, 8, (some .int))
theorem ok_X4_melt : pOk m_X4_melt := ⟨⟨cd_X4_melt, ini_4⟩, by decide +kernel, ⟨by decide +kernel, by decide +kernel⟩, Nat.le_of_ble_eq_true rfl⟩
theorem np_X4_melt : (parseMethodDescriptor yX4_melt.desc).map (fun d => d.parameters.length) = some 4 := by decide +kernel
theorem im_X4_melt : Cond.instanceMethod yX4_melt ∈ pWW := pw5 (List.mem_of_getElem? (i := 132) rfl) rfl
theorem se_X4_melt : Cond.selects RX4 yX4_melt yX4_melt ∈ pWW := pw5 (List.mem_of_getElem? (i := 133) rfl) rfl
theorem ml4_36 : Cond.methodLink RX4 36 yX4_isSmall ∈ pWW := pw5 (List.mem_of_getElem? (i := 136) rfl) rfl
theorem ml4_40 : Cond.methodLink RX4 40 yX4_meltAt ∈ pWW := pw5 (List.mem_of_getElem? (i := 141) rfl) rfl
theorem dX4_melt_0 : decode cX4_melt 0 = .ok (.aload_n 0, 1) := by decide +kernel
theorem dX4_melt_1 : decode cX4_melt 1 = .ok (.aload 4, 2) := by decide +kernel
theorem dX4_melt_3 : decode cX4_melt 3 = .ok (.putfield 19, 3) := by decide +kernel
theorem dX4_melt_6 : decode cX4_melt 6 = .ok (.iconst 0, 1) := by decide +kernel
theorem dX4_melt_7 : decode cX4_melt 7 = .ok (.istore 5, 2) := by decide +kernel
theorem dX4_melt_9 : decode cX4_melt 9 = .ok (.iconst 0, 1) := by decide +kernel
theorem dX4_melt_10 : decode cX4_melt 10 = .ok (.istore 6, 2) := by decide +kernel
theorem dX4_melt_12 : decode cX4_melt 12 = .ok (.iload 6, 2) := by decide +kernel
theorem dX4_melt_14 : decode cX4_melt 14 = .ok (.aload_n 0, 1) := by decide +kernel
theorem dX4_melt_15 : decode cX4_melt 15 = .ok (.getfield 19, 3) := by decide +kernel
theorem dX4_melt_18 : decode cX4_melt 18 = .ok (.getfield 23, 3) := by decide +kernel
theorem dX4_melt_21 : decode cX4_melt 21 = .ok (.if_icmp .ge 98, 3) := by decide +kernel
theorem dX4_melt_24 : decode cX4_melt 24 = .ok (.aload_n 0, 1) := by decide +kernel
theorem dX4_melt_25 : decode cX4_melt 25 = .ok (.getfield 19, 3) := by decide +kernel
theorem dX4_melt_28 : decode cX4_melt 28 = .ok (.iload 6, 2) := by decide +kernel
theorem dX4_melt_30 : decode cX4_melt 30 = .ok (.iconst 0, 1) := by decide +kernel
theorem dX4_melt_31 : decode cX4_melt 31 = .ok (.invokevirtual 29, 3) := by decide +kernel
theorem dX4_melt_34 : decode cX4_melt 34 = .ok (.bipush 10, 2) := by decide +kernel
theorem dX4_melt_36 : decode cX4_melt 36 = .ok (.if_icmp .ne 16, 3) := by decide +kernel
theorem dX4_melt_52 : decode cX4_melt 52 = .ok (.iconst (-1), 1) := by decide +kernel
theorem dX4_melt_53 : decode cX4_melt 53 = .ok (.istore 7, 2) := by decide +kernel
theorem dX4_melt_55 : decode cX4_melt 55 = .ok (.iload 7, 2) := by decide +kernel
theorem dX4_melt_57 : decode cX4_melt 57 = .ok (.ifCond .lt 56, 3) := by decide +kernel
theorem dX4_melt_113 : decode cX4_melt 113 = .ok (.iinc 6 1, 3) := by decide +kernel
theorem dX4_melt_116 : decode cX4_melt 116 = .ok (.goto (-104), 3) := by decide +kernel
theorem dX4_melt_39 : decode cX4_melt 39 = .ok (.aload_n 0, 1) := by decide +kernel
theorem dX4_melt_40 : decode cX4_melt 40 = .ok (.getfield 19, 3) := by decide +kernel
theorem dX4_melt_43 : decode cX4_melt 43 = .ok (.iload 6, 2) := by decide +kernel
theorem dX4_melt_45 : decode cX4_melt 45 = .ok (.iconst 2, 1) := by decide +kernel
theorem dX4_melt_46 : decode cX4_melt 46 = .ok (.invokevirtual 29, 3) := by decide +kernel
theorem dX4_melt_49 : decode cX4_melt 49 = .ok (.goto 4, 3) := by decide +kernel
theorem dX4_melt_60 : decode cX4_melt 60 = .ok (.iload 7, 2) := by decide +kernel
theorem dX4_melt_62 : decode cX4_melt 62 = .ok (.iload_n 2, 1) := by decide +kernel
theorem dX4_melt_63 : decode cX4_melt 63 = .ok (.if_icmp .ge 50, 3) := by decide +kernel
theorem dX4_melt_66 : decode cX4_melt 66 = .ok (.iload 7, 2) := by decide +kernel
theorem dX4_melt_68 : decode cX4_melt 68 = .ok (.aload_n 1, 1) := by decide +kernel
theorem dX4_melt_69 : decode cX4_melt 69 = .ok (.arraylength, 1) := by decide +kernel
theorem dX4_melt_70 : decode cX4_melt 70 = .ok (.if_icmp .ge 43, 3) := by decide +kernel
theorem dX4_melt_73 : decode cX4_melt 73 = .ok (.iload 7, 2) := by decide +kernel
theorem dX4_melt_75 : decode cX4_melt 75 = .ok (.iload_n 3, 1) := by decide +kernel
theorem dX4_melt_76 : decode cX4_melt 76 = .ok (.if_icmp .eq 37, 3) := by decide +kernel
theorem dX4_melt_79 : decode cX4_melt 79 = .ok (.aload_n 1, 1) := by decide +kernel
theorem dX4_melt_80 : decode cX4_melt 80 = .ok (.iload 7, 2) := by decide +kernel
theorem dX4_melt_82 : decode cX4_melt 82 = .ok (.aaload, 1) := by decide +kernel
theorem dX4_melt_83 : decode cX4_melt 83 = .ok (.ifnull 30, 3) := by decide +kernel
theorem dX4_melt_86 : decode cX4_melt 86 = .ok (.aload_n 0, 1) := by decide +kernel
theorem dX4_melt_87 : decode cX4_melt 87 = .ok (.aload_n 1, 1) := by decide +kernel
theorem dX4_melt_88 : decode cX4_melt 88 = .ok (.iload 7, 2) := by decide +kernel
theorem dX4_melt_90 : decode cX4_melt 90 = .ok (.aaload, 1) := by decide +kernel
theorem dX4_melt_91 : decode cX4_melt 91 = .ok (.putfield 33, 3) := by decide +kernel
theorem dX4_melt_94 : decode cX4_melt 94 = .ok (.aload_n 0, 1) := by decide +kernel
theorem dX4_melt_95 : decode cX4_melt 95 = .ok (.invokevirtual 36, 3) := by decide +kernel
theorem dX4_melt_98 : decode cX4_melt 98 = .ok (.ifCond .eq 15, 3) := by decide +kernel
theorem dX4_melt_101 : decode cX4_melt 101 = .ok (.aload_n 0, 1) := by decide +kernel
theorem dX4_melt_102 : decode cX4_melt 102 = .ok (.iload 6, 2) := by decide +kernel
theorem dX4_melt_104 : decode cX4_melt 104 = .ok (.invokevirtual 40, 3) := by decide +kernel
theorem dX4_melt_107 : decode cX4_melt 107 = .ok (.ifCond .eq 6, 3) := by decide +kernel
theorem dX4_melt_110 : decode cX4_melt 110 = .ok (.iinc 5 1, 3) := by decide +kernel
theorem dX4_melt_119 : decode cX4_melt 119 = .ok (.iload 5, 2) := by decide +kernel
theorem dX4_melt_121 : decode cX4_melt 121 = .ok (.ireturn, 1) := by decide +kernel
end
section
def RP (σ : MS) (a : Nat) (k : Int) : Prop := ∀ t c : Nat, σ.2.1 33 a = (t : Int) → σ.2.1 35 a = (c : Int) → TKI σ t ∧ σ.2.1 6 c ≤ 4 * σ.2.1 84 t + k
section RPS
variable {T : CT} {σ τ : MS} {a t c n x : Nat} {k j z v : Int} {ks : List Nat}
theorem RP.up (h : RP σ a k) (hj : k ≤ j) : RP σ a j := fun t c q r => ⟨(h t c q r).1, by have := (h t c q r).2; omega⟩
theorem RP.frc (h : RP σ a k) (f : FrC T ks σ τ) (h1 : 33 ∉ ks) (h2 : 35 ∉ ks) (h3 : 6 ∉ ks) (h4 : 84 ∉ ks) (h5 : 85 ∉ ks) : RP τ a k := fun t c q r => by
  rw [f.1 33 (by omega) h1] at q
  rw [f.1 35 (by omega) h2] at r
  obtain ⟨w1, w2⟩ := h t c q r
  unfold TKI at *
  rw [f.1 84 (by omega) h4, f.1 85 (by omega) h5, f.1 6 (by omega) h3]
  exact ⟨w1, w2⟩
theorem RP.put (h : RP σ a k) (hn : n ≠ 33 ∧ n ≠ 35 ∧ n ≠ 6 ∧ n ≠ 84 ∧ n ≠ 85) : RP (sA n z v σ) a k := fun t c q r => by
  rw [sA_k (by omega)] at q
  rw [sA_k (by omega)] at r
  obtain ⟨w1, w2⟩ := h t c q r
  unfold TKI at *
  rw [sA_k (by omega), sA_k (by omega), sA_k (by omega)]
  exact ⟨w1, w2⟩
theorem RP.row {f : Int → Int} (h : RP σ a k) : RP (rowS (1000 + x) f σ) a k := fun t c q r => by
  rw [rowS_ne (by omega)] at q
  rw [rowS_ne (by omega)] at r
  obtain ⟨w1, w2⟩ := h t c q r
  unfold TKI at *
  rw [rowS_ne (by omega), rowS_ne (by omega), rowS_ne (by omega)]
  exact ⟨w1, w2⟩
theorem RP.arr (h : RP σ a k) : RP (sA (1000 + x) z v σ) a k := by rw [sA_row]; exact h.row
theorem RP.next (h : RP σ a k) (ht : σ.2.1 33 a = (t : Int)) (f : FrC T ks σ τ) (h1 : 33 ∉ ks) (h2 : 35 ∉ ks) (h3 : 6 ∉ ks) (hT : TKI τ t) (hle : σ.2.1 84 t ≤ τ.2.1 84 t) : RP τ a k := fun t2 c q r => by
  rw [f.1 33 (by omega) h1] at q
  rw [f.1 35 (by omega) h2] at r
  have e : t2 = t := by omega
  subst e
  obtain ⟨w1, w2⟩ := h t2 c q r
  rw [f.1 6 (by omega) h3]
  exact ⟨hT, by omega⟩
theorem RP.next4 (h : RP σ a k) (ht : σ.2.1 33 a = (t : Int)) (f : FrC T ks σ τ) (h1 : 33 ∉ ks) (h2 : 35 ∉ ks) (h3 : 6 ∉ ks) (hT : TKI τ t) (hA : ADV σ τ t) (hk : σ.2.1 85 t ≠ 0 ∧ σ.2.1 85 t ≠ 263 ∧ σ.2.1 85 t ≠ 264) : RP τ a (k - 4) := fun t2 c q r => by
  rw [f.1 33 (by omega) h1] at q
  rw [f.1 35 (by omega) h2] at r
  have e : t2 = t := by omega
  subst e
  obtain ⟨w1, w2⟩ := h t2 c q r
  have w3 := hA hk.1 hk.2.1 hk.2.2
  rw [f.1 6 (by omega) h3]
  exact ⟨hT, by omega⟩
theorem RP.app (h : RP σ a k) (hc : σ.2.1 35 a = (c : Int)) (f : FrC T ks σ τ) (h1 : 33 ∉ ks) (h2 : 35 ∉ ks) (h3 : 84 ∉ ks) (h4 : 85 ∉ ks) (h6 : τ.2.1 6 c = σ.2.1 6 c + 1) : RP τ a (k + 1) := fun t c2 q r => by
  rw [f.1 33 (by omega) h1] at q
  rw [f.1 35 (by omega) h2] at r
  have e : c2 = c := by omega
  subst e
  obtain ⟨w1, w2⟩ := h t c2 q r
  unfold TKI at *
  rw [f.1 84 (by omega) h3, f.1 85 (by omega) h4, h6]
  exact ⟨w1, by omega⟩
theorem RP.tk (h : RP σ a k) (hw : WT T σ) (ha : OB T a 5) (ht : σ.2.1 33 a = (t : Int)) : TKI σ t := by
  obtain ⟨c, hc, -⟩ := wf_35 hw ha
  exact (h t c ht hc).1
theorem RP.cnt (h : RP σ a k) (hw : WT T σ) (ha : OB T a 5) (hc : σ.2.1 35 a = (c : Int)) (hk : k ≤ 190) : σ.2.1 6 c ≤ 4999 := by
  obtain ⟨t, ht, hk2⟩ := wf_33 hw ha
  have ob : OB T t 9 := ⟨by omega, by rw [hk2]; rfl, by omega⟩
  have w := (h t c ht hc).2
  have q := wf_84 hw ob
  omega
end RPS
end
section
theorem cd_X5_exchange : Cond.code yX5_exchange cX5_exchange 4 (some (.object "LineKeeper$Code")) ∈ pWW := pw4 (List.mem_of_getElem? (i := 23) rfl) rfl
theorem ini_5 : Cond.initialized RX5 ∈ pWW := pw1 (List.mem_of_getElem? (i := 2) rfl) rfl
abbrev m_X5_exchange : MT := (yX5_exchange, cX5_exchange, 4, (some (.object "LineKeeper$Code")))
theorem ok_X5_exchange : pOk m_X5_exchange := ⟨⟨cd_X5_exchange, ini_5⟩, by decide +kernel, ⟨by decide +kernel, by decide +kernel⟩, Nat.le_of_ble_eq_true rfl⟩
theorem np_X5_exchange : (parseMethodDescriptor yX5_exchange.desc).map (fun d => d.parameters.length) = some 2 := by decide +kernel
theorem im_X5_exchange : Cond.instanceMethod yX5_exchange ∈ pWW := pw4 (List.mem_of_getElem? (i := 21) rfl) rfl
theorem se_X5_exchange : Cond.selects RX5 yX5_exchange yX5_exchange ∈ pWW := pw4 (List.mem_of_getElem? (i := 22) rfl) rfl
theorem fl5_20 : Cond.fieldLink RX5 20 (TX5 1).1 (TX5 1).2.1 (TX5 1).2.2.1 ∈ pWW := pw1 (List.mem_of_getElem? (i := 154) rfl) rfl
theorem dX5_exchange_0 : decode cX5_exchange 0 = .ok (.iload_n 1, 1) := by decide +kernel
theorem dX5_exchange_1 : decode cX5_exchange 1 = .ok (.ifCond .lt 21, 3) := by decide +kernel
theorem dX5_exchange_22 : decode cX5_exchange 22 = .ok (.aload_n 2, 1) := by decide +kernel
theorem dX5_exchange_23 : decode cX5_exchange 23 = .ok (.areturn, 1) := by decide +kernel
theorem dX5_exchange_4 : decode cX5_exchange 4 = .ok (.iload_n 1, 1) := by decide +kernel
theorem dX5_exchange_5 : decode cX5_exchange 5 = .ok (.aload_n 0, 1) := by decide +kernel
theorem dX5_exchange_6 : decode cX5_exchange 6 = .ok (.getfield 20, 3) := by decide +kernel
theorem dX5_exchange_9 : decode cX5_exchange 9 = .ok (.arraylength, 1) := by decide +kernel
theorem dX5_exchange_10 : decode cX5_exchange 10 = .ok (.if_icmp .ge 12, 3) := by decide +kernel
theorem dX5_exchange_13 : decode cX5_exchange 13 = .ok (.aload_n 0, 1) := by decide +kernel
theorem dX5_exchange_14 : decode cX5_exchange 14 = .ok (.getfield 20, 3) := by decide +kernel
theorem dX5_exchange_17 : decode cX5_exchange 17 = .ok (.iload_n 1, 1) := by decide +kernel
theorem dX5_exchange_18 : decode cX5_exchange 18 = .ok (.aaload, 1) := by decide +kernel
theorem dX5_exchange_19 : decode cX5_exchange 19 = .ok (.ifnonnull 5, 3) := by decide +kernel
theorem dX5_exchange_24 : decode cX5_exchange 24 = .ok (.aload_n 0, 1) := by decide +kernel
theorem dX5_exchange_25 : decode cX5_exchange 25 = .ok (.getfield 20, 3) := by decide +kernel
theorem dX5_exchange_28 : decode cX5_exchange 28 = .ok (.iload_n 1, 1) := by decide +kernel
theorem dX5_exchange_29 : decode cX5_exchange 29 = .ok (.aaload, 1) := by decide +kernel
theorem dX5_exchange_30 : decode cX5_exchange 30 = .ok (.astore_n 3, 1) := by decide +kernel
theorem dX5_exchange_31 : decode cX5_exchange 31 = .ok (.aload_n 0, 1) := by decide +kernel
theorem dX5_exchange_32 : decode cX5_exchange 32 = .ok (.getfield 20, 3) := by decide +kernel
theorem dX5_exchange_35 : decode cX5_exchange 35 = .ok (.iload_n 1, 1) := by decide +kernel
theorem dX5_exchange_36 : decode cX5_exchange 36 = .ok (.aload_n 2, 1) := by decide +kernel
theorem dX5_exchange_37 : decode cX5_exchange 37 = .ok (.aastore, 1) := by decide +kernel
theorem dX5_exchange_38 : decode cX5_exchange 38 = .ok (.aload_n 3, 1) := by decide +kernel
theorem dX5_exchange_39 : decode cX5_exchange 39 = .ok (.areturn, 1) := by decide +kernel
set_option maxRecDepth 20000 in
theorem k_X5_exchange (d : Nat) {T : CT} {σ : MS} {a : Nat} {p1 : Int} {p2 : Nat} (ha : OB T a 5) (h_p1 : -2147483648 ≤ p1 ∧ p1 ≤ 2147483647) (h_p2 : OB T p2 1) (t_p2 : (T p2).1 = 31) (hw : WT T σ) : Tn (d + 1) m_X5_exchange 0 T σ [(0, .ref a), (1, .int (iI p1)), (2, .ref p2)] [] (fun ro T2 σ2 => ∃ v : Int, ro = some (vl true v) ∧ T = T2 ∧ WT T2 σ2 ∧ FrC T [] σ σ2 ∧ (∃ x : Nat, v = (x : Int) ∧ (T2 x).1 = 31)) := by
  refine tn_iload_n dX5_exchange_0 rfl 1 rfl ?_
  refine tn_if_lt (tgt := 22) dX5_exchange_1 (by decide) ⟨by omega, by omega⟩ (fun h1 => ?_) (fun h1 => ?_)
  · refine tn_aload_n dX5_exchange_22 rfl 2 rfl ?_
    exact tn_aret rfl (Or.inl ⟨_, rfl⟩) (Or.inr ⟨_, rfl⟩) dX5_exchange_23 ⟨(p2 : Int), congrArg some (vl_ref rfl).symm, rfl, hw, FrC.rfl, ⟨_, rfl, t_p2⟩⟩
  · refine tn_iload_n dX5_exchange_4 rfl 1 rfl ?_
    refine tn_aload_n dX5_exchange_5 rfl 0 rfl ?_
    obtain ⟨x2, hx3, hk4, hl5⟩ : ∃ x : Nat, σ.2.1 34 a = (x : Int) ∧ AR T x 4 7 7 := wf_34 hw ha
    have hk4i : (T x2).1 = 4 ∨ (T x2).1 = 5 := by omega
    refine tn_getR (ci := 5) (i := 1) (n := 34) (x := x2) dX5_exchange_6 rfl lay_5 (by decide) fl5_20 ha rfl rfl (hx3) ?_
    refine tn_alenX dX5_exchange_9 (by have q9 := hk4i; omega) ?_
    refine tn_icmp_ge (tgt := 22) dX5_exchange_10 (by decide) ⟨by omega, by omega⟩ ⟨by omega, by omega⟩ (fun h6 => ?_) (fun h6 => ?_)
    · refine tn_aload_n dX5_exchange_22 rfl 2 rfl ?_
      exact tn_aret rfl (Or.inl ⟨_, rfl⟩) (Or.inr ⟨_, rfl⟩) dX5_exchange_23 ⟨(p2 : Int), congrArg some (vl_ref rfl).symm, rfl, hw, FrC.rfl, ⟨_, rfl, t_p2⟩⟩
    · refine tn_aload_n dX5_exchange_13 rfl 0 rfl ?_
      refine tn_getR (ci := 5) (i := 1) (n := 34) (x := x2) dX5_exchange_14 rfl lay_5 (by decide) fl5_20 ha rfl rfl (hx3) ?_
      refine tn_iload_n dX5_exchange_17 rfl 1 rfl ?_
      obtain ⟨x7, hx8, hk9⟩ := (hw).2.2.2.1.1 x2 hk4 (p1) (by omega) (by omega)
      refine tn_aald (z := p1) (x := x7) dX5_exchange_18 hk4i (by omega) (by omega) (by omega) hx8 ?_
      have hk9o : OB T x7 1 := ⟨by omega, by rw [hk9]; rfl, by omega⟩
      refine tn_ifnonnull (tgt := 24) dX5_exchange_19 (by decide) ?_
      refine tn_aload_n dX5_exchange_24 rfl 0 rfl ?_
      refine tn_getR (ci := 5) (i := 1) (n := 34) (x := x2) dX5_exchange_25 rfl lay_5 (by decide) fl5_20 ha rfl rfl (hx3) ?_
      refine tn_iload_n dX5_exchange_28 rfl 1 rfl ?_
      obtain ⟨x10, hx11, hk12⟩ := (hw).2.2.2.1.1 x2 hk4 (p1) (by omega) (by omega)
      refine tn_aald (z := p1) (x := x10) dX5_exchange_29 hk4i (by omega) (by omega) (by omega) hx11 ?_
      have hk12o : OB T x10 1 := ⟨by omega, by rw [hk12]; rfl, by omega⟩
      refine tn_astore_n (L' := [(3, .ref x10), (0, .ref a), (1, .int (iI p1)), (2, .ref p2)]) dX5_exchange_30 rfl (by decide) rfl ?_
      refine tn_aload_n dX5_exchange_31 rfl 1 rfl ?_
      refine tn_getR (ci := 5) (i := 1) (n := 34) (x := x2) dX5_exchange_32 rfl lay_5 (by decide) fl5_20 ha rfl rfl (hx3) ?_
      refine tn_iload_n dX5_exchange_35 rfl 2 rfl ?_
      refine tn_aload_n dX5_exchange_36 rfl 3 rfl ?_
      refine tn_aastQ (z := p1) (v := p2) dX5_exchange_37 (by have q9 := hk4i; omega) h_p2.r (by omega) (by omega) (by omega) ?_
      refine tn_aload_n dX5_exchange_38 rfl 0 rfl ?_
      exact tn_aret rfl (Or.inl ⟨_, rfl⟩) (Or.inr ⟨_, rfl⟩) dX5_exchange_39 ⟨(x10 : Int), congrArg some (vl_ref rfl).symm, rfl, (hw.rq (by have h1 := hk4; have h2 := t_p2; omega)), (FrC.rfl.arr (hk_no (nh_k hk4 (by unfold HT; omega)))), ⟨_, rfl, hk12⟩⟩
end
section
theorem cd_X5_refuse : Cond.code yX5_refuse cX5_refuse 1 (some .boolean) ∈ pWW := pw3 (List.mem_of_getElem? (i := 68) rfl) rfl
abbrev m_X5_refuse : MT := (yX5_refuse, cX5_refuse, 1, (some .boolean))
theorem ok_X5_refuse : pOk m_X5_refuse := ⟨⟨cd_X5_refuse, ini_5⟩, by decide +kernel, ⟨by decide +kernel, by decide +kernel⟩, Nat.le_of_ble_eq_true rfl⟩
theorem np_X5_refuse : (parseMethodDescriptor yX5_refuse.desc).map (fun d => d.parameters.length) = some 0 := by decide +kernel
theorem im_X5_refuse : Cond.instanceMethod yX5_refuse ∈ pWW := pw3 (List.mem_of_getElem? (i := 67) rfl) rfl
theorem se_X5_refuse : Cond.selects RX5 yX5_refuse yX5_refuse ∈ pWW := pws (List.mem_map.mpr ⟨_, lw_pin 5 rfl, rfl⟩) rfl
theorem fl5_51 : Cond.fieldLink RX5 51 (TX5 10).1 (TX5 10).2.1 (TX5 10).2.2.1 ∈ pWW := pw1 (List.mem_of_getElem? (i := 164) rfl) rfl
theorem fl5_12 : Cond.fieldLink RX5 12 (TX5 0).1 (TX5 0).2.1 (TX5 0).2.2.1 ∈ pWW := pw1 (List.mem_of_getElem? (i := 153) rfl) rfl
theorem fl5_74 : Cond.fieldLink RX5 74 (TX9 6).1 (TX9 6).2.1 (TX9 6).2.2.1 ∈ pWW := pw1 (List.mem_of_getElem? (i := 53) rfl) rfl
theorem fl5_55 : Cond.fieldLink RX5 55 (TX5 11).1 (TX5 11).2.1 (TX5 11).2.2.1 ∈ pWW := pw1 (List.mem_of_getElem? (i := 166) rfl) rfl
theorem dX5_refuse_0 : decode cX5_refuse 0 = .ok (.aload_n 0, 1) := by decide +kernel
theorem dX5_refuse_1 : decode cX5_refuse 1 = .ok (.iconst 1, 1) := by decide +kernel
theorem dX5_refuse_2 : decode cX5_refuse 2 = .ok (.putfield 51, 3) := by decide +kernel
theorem dX5_refuse_5 : decode cX5_refuse 5 = .ok (.aload_n 0, 1) := by decide +kernel
theorem dX5_refuse_6 : decode cX5_refuse 6 = .ok (.aload_n 0, 1) := by decide +kernel
theorem dX5_refuse_7 : decode cX5_refuse 7 = .ok (.getfield 12, 3) := by decide +kernel
theorem dX5_refuse_10 : decode cX5_refuse 10 = .ok (.getfield 74, 3) := by decide +kernel
theorem dX5_refuse_13 : decode cX5_refuse 13 = .ok (.putfield 55, 3) := by decide +kernel
theorem dX5_refuse_16 : decode cX5_refuse 16 = .ok (.iconst 0, 1) := by decide +kernel
theorem dX5_refuse_17 : decode cX5_refuse 17 = .ok (.ireturn, 1) := by decide +kernel
end
section
theorem cd_X5_note : Cond.code yX5_note cX5_note 3 none ∈ pWW := pw3 (List.mem_of_getElem? (i := 83) rfl) rfl
abbrev m_X5_note : MT := (yX5_note, cX5_note, 3, none)
theorem ok_X5_note : pOk m_X5_note := ⟨⟨cd_X5_note, ini_5⟩, by decide +kernel, ⟨by decide +kernel, by decide +kernel⟩, Nat.le_of_ble_eq_true rfl⟩
theorem np_X5_note : (parseMethodDescriptor yX5_note.desc).map (fun d => d.parameters.length) = some 2 := by decide +kernel
theorem im_X5_note : Cond.instanceMethod yX5_note ∈ pWW := pw3 (List.mem_of_getElem? (i := 82) rfl) rfl
theorem se_X5_note : Cond.selects RX5 yX5_note yX5_note ∈ pWW := pws (List.mem_map.mpr ⟨_, lw_pin 8 rfl, rfl⟩) rfl
theorem dX5_note_0 : decode cX5_note 0 = .ok (.aload_n 0, 1) := by decide +kernel
theorem dX5_note_1 : decode cX5_note 1 = .ok (.getfield 51, 3) := by decide +kernel
theorem dX5_note_4 : decode cX5_note 4 = .ok (.ifCond .eq 27, 3) := by decide +kernel
theorem dX5_note_31 : decode cX5_note 31 = .ok (.aload_n 0, 1) := by decide +kernel
theorem dX5_note_32 : decode cX5_note 32 = .ok (.iload_n 1, 1) := by decide +kernel
theorem dX5_note_33 : decode cX5_note 33 = .ok (.putfield 51, 3) := by decide +kernel
theorem dX5_note_36 : decode cX5_note 36 = .ok (.aload_n 0, 1) := by decide +kernel
theorem dX5_note_37 : decode cX5_note 37 = .ok (.iload_n 2, 1) := by decide +kernel
theorem dX5_note_38 : decode cX5_note 38 = .ok (.putfield 55, 3) := by decide +kernel
theorem dX5_note_41 : decode cX5_note 41 = .ok (.return_, 1) := by decide +kernel
theorem dX5_note_7 : decode cX5_note 7 = .ok (.iload_n 2, 1) := by decide +kernel
theorem dX5_note_8 : decode cX5_note 8 = .ok (.aload_n 0, 1) := by decide +kernel
theorem dX5_note_9 : decode cX5_note 9 = .ok (.getfield 55, 3) := by decide +kernel
theorem dX5_note_12 : decode cX5_note 12 = .ok (.if_icmp .lt 19, 3) := by decide +kernel
theorem dX5_note_15 : decode cX5_note 15 = .ok (.iload_n 2, 1) := by decide +kernel
theorem dX5_note_16 : decode cX5_note 16 = .ok (.aload_n 0, 1) := by decide +kernel
theorem dX5_note_17 : decode cX5_note 17 = .ok (.getfield 55, 3) := by decide +kernel
theorem dX5_note_20 : decode cX5_note 20 = .ok (.if_icmp .ne 21, 3) := by decide +kernel
theorem dX5_note_23 : decode cX5_note 23 = .ok (.iload_n 1, 1) := by decide +kernel
theorem dX5_note_24 : decode cX5_note 24 = .ok (.aload_n 0, 1) := by decide +kernel
theorem dX5_note_25 : decode cX5_note 25 = .ok (.getfield 51, 3) := by decide +kernel
theorem dX5_note_28 : decode cX5_note 28 = .ok (.if_icmp .ge 13, 3) := by decide +kernel
end
section
theorem cd_X5_taken : Cond.code yX5_taken cX5_taken 2 (some .boolean) ∈ pWW := pw3 (List.mem_of_getElem? (i := 96) rfl) rfl
abbrev m_X5_taken : MT := (yX5_taken, cX5_taken, 2, (some .boolean))
theorem ok_X5_taken : pOk m_X5_taken := ⟨⟨cd_X5_taken, ini_5⟩, by decide +kernel, ⟨by decide +kernel, by decide +kernel⟩, Nat.le_of_ble_eq_true rfl⟩
theorem np_X5_taken : (parseMethodDescriptor yX5_taken.desc).map (fun d => d.parameters.length) = some 1 := by decide +kernel
theorem im_X5_taken : Cond.instanceMethod yX5_taken ∈ pWW := pw3 (List.mem_of_getElem? (i := 95) rfl) rfl
theorem se_X5_taken : Cond.selects RX5 yX5_taken yX5_taken ∈ pWW := pws (List.mem_map.mpr ⟨_, lw_pin 9 rfl, rfl⟩) rfl
theorem fl5_71 : Cond.fieldLink RX5 71 (TX9 4).1 (TX9 4).2.1 (TX9 4).2.2.1 ∈ pWW := pw1 (List.mem_of_getElem? (i := 49) rfl) rfl
theorem ml5_93 : Cond.methodLink RX5 93 yX9_next ∈ pWW := pw3 (List.mem_of_getElem? (i := 92) rfl) rfl
theorem ml5_90 : Cond.methodLink RX5 90 yX5_refuse ∈ pWW := pw3 (List.mem_of_getElem? (i := 65) rfl) rfl
theorem dX5_taken_0 : decode cX5_taken 0 = .ok (.aload_n 0, 1) := by decide +kernel
theorem dX5_taken_1 : decode cX5_taken 1 = .ok (.getfield 12, 3) := by decide +kernel
theorem dX5_taken_4 : decode cX5_taken 4 = .ok (.getfield 71, 3) := by decide +kernel
theorem dX5_taken_7 : decode cX5_taken 7 = .ok (.iload_n 1, 1) := by decide +kernel
theorem dX5_taken_8 : decode cX5_taken 8 = .ok (.if_icmp .eq 8, 3) := by decide +kernel
theorem dX5_taken_16 : decode cX5_taken 16 = .ok (.aload_n 0, 1) := by decide +kernel
theorem dX5_taken_17 : decode cX5_taken 17 = .ok (.getfield 12, 3) := by decide +kernel
theorem dX5_taken_20 : decode cX5_taken 20 = .ok (.invokevirtual 93, 3) := by decide +kernel
theorem dX5_taken_23 : decode cX5_taken 23 = .ok (.iconst 1, 1) := by decide +kernel
theorem dX5_taken_24 : decode cX5_taken 24 = .ok (.ireturn, 1) := by decide +kernel
theorem dX5_taken_11 : decode cX5_taken 11 = .ok (.aload_n 0, 1) := by decide +kernel
theorem dX5_taken_12 : decode cX5_taken 12 = .ok (.invokevirtual 90, 3) := by decide +kernel
theorem dX5_taken_15 : decode cX5_taken 15 = .ok (.ireturn, 1) := by decide +kernel
end
section
theorem cd_X5_routineOf : Cond.code yX5_routineOf cX5_routineOf 3 (some .int) ∈ pWW := pw3 (List.mem_of_getElem? (i := 76) rfl) rfl
abbrev m_X5_routineOf : MT := (yX5_routineOf, cX5_routineOf, 3, (some .int))
theorem ok_X5_routineOf : pOk m_X5_routineOf := ⟨⟨cd_X5_routineOf, ini_5⟩, by decide +kernel, ⟨by decide +kernel, by decide +kernel⟩, Nat.le_of_ble_eq_true rfl⟩
theorem np_X5_routineOf : (parseMethodDescriptor yX5_routineOf.desc).map (fun d => d.parameters.length) = some 1 := by decide +kernel
theorem im_X5_routineOf : Cond.instanceMethod yX5_routineOf ∈ pWW := pw3 (List.mem_of_getElem? (i := 75) rfl) rfl
theorem se_X5_routineOf : Cond.selects RX5 yX5_routineOf yX5_routineOf ∈ pWW := pws (List.mem_map.mpr ⟨_, lw_pin 7 rfl, rfl⟩) rfl
theorem fl5_58 : Cond.fieldLink RX5 58 (TX5 5).1 (TX5 5).2.1 (TX5 5).2.2.1 ∈ pWW := pw1 (List.mem_of_getElem? (i := 158) rfl) rfl
theorem fl5_24 : Cond.fieldLink RX5 24 (TX5 3).1 (TX5 3).2.1 (TX5 3).2.2.1 ∈ pWW := pw1 (List.mem_of_getElem? (i := 156) rfl) rfl
theorem nl5_231 : (RX5, 231, yX11_at, "LineKeeper") ∈ nst_M := List.mem_of_getElem? (i := 7) rfl
theorem dX5_routineOf_0 : decode cX5_routineOf 0 = .ok (.iconst 0, 1) := by decide +kernel
theorem dX5_routineOf_1 : decode cX5_routineOf 1 = .ok (.istore_n 2, 1) := by decide +kernel
theorem dX5_routineOf_2 : decode cX5_routineOf 2 = .ok (.iload_n 2, 1) := by decide +kernel
theorem dX5_routineOf_3 : decode cX5_routineOf 3 = .ok (.aload_n 0, 1) := by decide +kernel
theorem dX5_routineOf_4 : decode cX5_routineOf 4 = .ok (.getfield 58, 3) := by decide +kernel
theorem dX5_routineOf_7 : decode cX5_routineOf 7 = .ok (.if_icmp .ge 23, 3) := by decide +kernel
theorem dX5_routineOf_10 : decode cX5_routineOf 10 = .ok (.aload_n 0, 1) := by decide +kernel
theorem dX5_routineOf_11 : decode cX5_routineOf 11 = .ok (.getfield 24, 3) := by decide +kernel
theorem dX5_routineOf_14 : decode cX5_routineOf 14 = .ok (.iload_n 2, 1) := by decide +kernel
theorem dX5_routineOf_15 : decode cX5_routineOf 15 = .ok (.invokestatic 231, 3) := by decide +kernel
theorem dX5_routineOf_18 : decode cX5_routineOf 18 = .ok (.iload_n 1, 1) := by decide +kernel
theorem dX5_routineOf_19 : decode cX5_routineOf 19 = .ok (.if_icmp .ne 5, 3) := by decide +kernel
theorem dX5_routineOf_24 : decode cX5_routineOf 24 = .ok (.iinc 2 1, 3) := by decide +kernel
theorem dX5_routineOf_27 : decode cX5_routineOf 27 = .ok (.goto (-25), 3) := by decide +kernel
theorem dX5_routineOf_22 : decode cX5_routineOf 22 = .ok (.iload_n 2, 1) := by decide +kernel
theorem dX5_routineOf_23 : decode cX5_routineOf 23 = .ok (.ireturn, 1) := by decide +kernel
theorem dX5_routineOf_30 : decode cX5_routineOf 30 = .ok (.iconst (-1), 1) := by decide +kernel
theorem dX5_routineOf_31 : decode cX5_routineOf 31 = .ok (.ireturn, 1) := by decide +kernel
end
section
theorem cd_X5_nameIndex : Cond.code yX5_nameIndex cX5_nameIndex 3 (some .int) ∈ pWW := pw3 (List.mem_of_getElem? (i := 108) rfl) rfl
abbrev m_X5_nameIndex : MT := (yX5_nameIndex, cX5_nameIndex, 3, (some .int))
theorem ok_X5_nameIndex : pOk m_X5_nameIndex := ⟨⟨cd_X5_nameIndex, ini_5⟩, by decide +kernel, ⟨by decide +kernel, by decide +kernel⟩, Nat.le_of_ble_eq_true rfl⟩
theorem np_X5_nameIndex : (parseMethodDescriptor yX5_nameIndex.desc).map (fun d => d.parameters.length) = some 1 := by decide +kernel
theorem im_X5_nameIndex : Cond.instanceMethod yX5_nameIndex ∈ pWW := pw3 (List.mem_of_getElem? (i := 107) rfl) rfl
theorem se_X5_nameIndex : Cond.selects RX5 yX5_nameIndex yX5_nameIndex ∈ pWW := pws (List.mem_map.mpr ⟨_, lw_pin 12 rfl, rfl⟩) rfl
theorem fl5_47 : Cond.fieldLink RX5 47 (TX5 2).1 (TX5 2).2.1 (TX5 2).2.2.1 ∈ pWW := pw1 (List.mem_of_getElem? (i := 155) rfl) rfl
theorem fl5_152 : Cond.fieldLink RX5 152 (TX1 2).1 (TX1 2).2.1 (TX1 2).2.2.1 ∈ pWW := pw1 (List.mem_of_getElem? (i := 91) rfl) rfl
theorem fl5_40 : Cond.fieldLink RX5 40 (TX5 15).1 (TX5 15).2.1 (TX5 15).2.2.1 ∈ pWW := pw1 (List.mem_of_getElem? (i := 171) rfl) rfl
theorem dX5_nameIndex_0 : decode cX5_nameIndex 0 = .ok (.iconst 0, 1) := by decide +kernel
theorem dX5_nameIndex_1 : decode cX5_nameIndex 1 = .ok (.istore_n 2, 1) := by decide +kernel
theorem dX5_nameIndex_2 : decode cX5_nameIndex 2 = .ok (.iload_n 2, 1) := by decide +kernel
theorem dX5_nameIndex_3 : decode cX5_nameIndex 3 = .ok (.aload_n 0, 1) := by decide +kernel
theorem dX5_nameIndex_4 : decode cX5_nameIndex 4 = .ok (.getfield 47, 3) := by decide +kernel
theorem dX5_nameIndex_7 : decode cX5_nameIndex 7 = .ok (.getfield 152, 3) := by decide +kernel
theorem dX5_nameIndex_10 : decode cX5_nameIndex 10 = .ok (.if_icmp .ge 30, 3) := by decide +kernel
theorem dX5_nameIndex_13 : decode cX5_nameIndex 13 = .ok (.iload_n 2, 1) := by decide +kernel
theorem dX5_nameIndex_14 : decode cX5_nameIndex 14 = .ok (.aload_n 0, 1) := by decide +kernel
theorem dX5_nameIndex_15 : decode cX5_nameIndex 15 = .ok (.getfield 40, 3) := by decide +kernel
theorem dX5_nameIndex_18 : decode cX5_nameIndex 18 = .ok (.arraylength, 1) := by decide +kernel
theorem dX5_nameIndex_19 : decode cX5_nameIndex 19 = .ok (.if_icmp .ge 21, 3) := by decide +kernel
theorem dX5_nameIndex_22 : decode cX5_nameIndex 22 = .ok (.aload_n 0, 1) := by decide +kernel
theorem dX5_nameIndex_23 : decode cX5_nameIndex 23 = .ok (.getfield 40, 3) := by decide +kernel
theorem dX5_nameIndex_26 : decode cX5_nameIndex 26 = .ok (.iload_n 2, 1) := by decide +kernel
theorem dX5_nameIndex_27 : decode cX5_nameIndex 27 = .ok (.iaload, 1) := by decide +kernel
theorem dX5_nameIndex_28 : decode cX5_nameIndex 28 = .ok (.iload_n 1, 1) := by decide +kernel
theorem dX5_nameIndex_29 : decode cX5_nameIndex 29 = .ok (.if_icmp .ne 5, 3) := by decide +kernel
theorem dX5_nameIndex_34 : decode cX5_nameIndex 34 = .ok (.iinc 2 1, 3) := by decide +kernel
theorem dX5_nameIndex_37 : decode cX5_nameIndex 37 = .ok (.goto (-35), 3) := by decide +kernel
theorem dX5_nameIndex_32 : decode cX5_nameIndex 32 = .ok (.iload_n 2, 1) := by decide +kernel
theorem dX5_nameIndex_33 : decode cX5_nameIndex 33 = .ok (.ireturn, 1) := by decide +kernel
theorem dX5_nameIndex_40 : decode cX5_nameIndex 40 = .ok (.iconst (-1), 1) := by decide +kernel
theorem dX5_nameIndex_41 : decode cX5_nameIndex 41 = .ok (.ireturn, 1) := by decide +kernel
end
section
theorem cd_X5_register : Cond.code yX5_register cX5_register 2 (some .int) ∈ pWW := pw3 (List.mem_of_getElem? (i := 112) rfl) rfl
abbrev m_X5_register : MT := (yX5_register, cX5_register, 2, (some .int))
theorem ok_X5_register : pOk m_X5_register := ⟨⟨cd_X5_register, ini_5⟩, by decide +kernel, ⟨by decide +kernel, by decide +kernel⟩, Nat.le_of_ble_eq_true rfl⟩
theorem np_X5_register : (parseMethodDescriptor yX5_register.desc).map (fun d => d.parameters.length) = some 0 := by decide +kernel
theorem im_X5_register : Cond.instanceMethod yX5_register ∈ pWW := pw3 (List.mem_of_getElem? (i := 111) rfl) rfl
theorem se_X5_register : Cond.selects RX5 yX5_register yX5_register ∈ pWW := pws (List.mem_map.mpr ⟨_, lw_pin 13 rfl, rfl⟩) rfl
theorem fl5_96 : Cond.fieldLink RX5 96 (TX9 5).1 (TX9 5).2.1 (TX9 5).2.2.1 ∈ pWW := pw1 (List.mem_of_getElem? (i := 51) rfl) rfl
theorem ml5_173 : Cond.methodLink RX5 173 yX5_nameIndex ∈ pWW := pw3 (List.mem_of_getElem? (i := 105) rfl) rfl
theorem nl5_129 : (RX5, 129, yX11_put, "LineKeeper") ∈ nst_M := List.mem_of_getElem? (i := 9) rfl
theorem ml5_113 : Cond.methodLink RX5 113 yX5_note ∈ pWW := pw3 (List.mem_of_getElem? (i := 80) rfl) rfl
theorem dX5_register_0 : decode cX5_register 0 = .ok (.aload_n 0, 1) := by decide +kernel
theorem dX5_register_1 : decode cX5_register 1 = .ok (.aload_n 0, 1) := by decide +kernel
theorem dX5_register_2 : decode cX5_register 2 = .ok (.getfield 12, 3) := by decide +kernel
theorem dX5_register_5 : decode cX5_register 5 = .ok (.getfield 96, 3) := by decide +kernel
theorem dX5_register_8 : decode cX5_register 8 = .ok (.invokevirtual 173, 3) := by decide +kernel
theorem dX5_register_11 : decode cX5_register 11 = .ok (.istore_n 1, 1) := by decide +kernel
theorem dX5_register_12 : decode cX5_register 12 = .ok (.iload_n 1, 1) := by decide +kernel
theorem dX5_register_13 : decode cX5_register 13 = .ok (.iconst (-1), 1) := by decide +kernel
theorem dX5_register_14 : decode cX5_register 14 = .ok (.if_icmp .eq 5, 3) := by decide +kernel
theorem dX5_register_19 : decode cX5_register 19 = .ok (.aload_n 0, 1) := by decide +kernel
theorem dX5_register_20 : decode cX5_register 20 = .ok (.getfield 47, 3) := by decide +kernel
theorem dX5_register_23 : decode cX5_register 23 = .ok (.getfield 152, 3) := by decide +kernel
theorem dX5_register_26 : decode cX5_register 26 = .ok (.bipush 12, 2) := by decide +kernel
theorem dX5_register_28 : decode cX5_register 28 = .ok (.if_icmp .lt 17, 3) := by decide +kernel
theorem dX5_register_45 : decode cX5_register 45 = .ok (.aload_n 0, 1) := by decide +kernel
theorem dX5_register_46 : decode cX5_register 46 = .ok (.getfield 40, 3) := by decide +kernel
theorem dX5_register_49 : decode cX5_register 49 = .ok (.aload_n 0, 1) := by decide +kernel
theorem dX5_register_50 : decode cX5_register 50 = .ok (.getfield 47, 3) := by decide +kernel
theorem dX5_register_53 : decode cX5_register 53 = .ok (.getfield 152, 3) := by decide +kernel
theorem dX5_register_56 : decode cX5_register 56 = .ok (.aload_n 0, 1) := by decide +kernel
theorem dX5_register_57 : decode cX5_register 57 = .ok (.getfield 12, 3) := by decide +kernel
theorem dX5_register_60 : decode cX5_register 60 = .ok (.getfield 96, 3) := by decide +kernel
theorem dX5_register_63 : decode cX5_register 63 = .ok (.invokestatic 129, 3) := by decide +kernel
theorem dX5_register_66 : decode cX5_register 66 = .ok (.aload_n 0, 1) := by decide +kernel
theorem dX5_register_67 : decode cX5_register 67 = .ok (.getfield 47, 3) := by decide +kernel
theorem dX5_register_70 : decode cX5_register 70 = .ok (.dup, 1) := by decide +kernel
theorem dX5_register_71 : decode cX5_register 71 = .ok (.getfield 152, 3) := by decide +kernel
theorem dX5_register_74 : decode cX5_register 74 = .ok (.iconst 1, 1) := by decide +kernel
theorem dX5_register_75 : decode cX5_register 75 = .ok (.iadd, 1) := by decide +kernel
theorem dX5_register_76 : decode cX5_register 76 = .ok (.putfield 152, 3) := by decide +kernel
theorem dX5_register_79 : decode cX5_register 79 = .ok (.aload_n 0, 1) := by decide +kernel
theorem dX5_register_80 : decode cX5_register 80 = .ok (.getfield 47, 3) := by decide +kernel
theorem dX5_register_83 : decode cX5_register 83 = .ok (.getfield 152, 3) := by decide +kernel
theorem dX5_register_86 : decode cX5_register 86 = .ok (.iconst 1, 1) := by decide +kernel
theorem dX5_register_87 : decode cX5_register 87 = .ok (.isub, 1) := by decide +kernel
theorem dX5_register_88 : decode cX5_register 88 = .ok (.ireturn, 1) := by decide +kernel
theorem dX5_register_31 : decode cX5_register 31 = .ok (.aload_n 0, 1) := by decide +kernel
theorem dX5_register_32 : decode cX5_register 32 = .ok (.iconst 5, 1) := by decide +kernel
theorem dX5_register_33 : decode cX5_register 33 = .ok (.aload_n 0, 1) := by decide +kernel
theorem dX5_register_34 : decode cX5_register 34 = .ok (.getfield 12, 3) := by decide +kernel
theorem dX5_register_37 : decode cX5_register 37 = .ok (.getfield 74, 3) := by decide +kernel
theorem dX5_register_40 : decode cX5_register 40 = .ok (.invokevirtual 113, 3) := by decide +kernel
theorem dX5_register_43 : decode cX5_register 43 = .ok (.iconst 0, 1) := by decide +kernel
theorem dX5_register_44 : decode cX5_register 44 = .ok (.ireturn, 1) := by decide +kernel
theorem dX5_register_17 : decode cX5_register 17 = .ok (.iload_n 1, 1) := by decide +kernel
theorem dX5_register_18 : decode cX5_register 18 = .ok (.ireturn, 1) := by decide +kernel
end
