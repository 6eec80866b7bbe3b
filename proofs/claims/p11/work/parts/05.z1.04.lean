section
theorem cd_X1_copyFrom : Cond.code yX1_copyFrom cX1_copyFrom 2 none ∈ pWW := pw4 (List.mem_of_getElem? (i := 35) rfl) rfl
abbrev m_X1_copyFrom : MT := (yX1_copyFrom, cX1_copyFrom, 2, none)
theorem ok_X1_copyFrom : pOk m_X1_copyFrom := ⟨⟨cd_X1_copyFrom, ini_1⟩, by decide +kernel, ⟨by decide +kernel, by decide +kernel⟩, Nat.le_of_ble_eq_true rfl⟩
theorem np_X1_copyFrom : (parseMethodDescriptor yX1_copyFrom.desc).map (fun d => d.parameters.length) = some 1 := by decide +kernel
theorem im_X1_copyFrom : Cond.instanceMethod yX1_copyFrom ∈ pWW := pw4 (List.mem_of_getElem? (i := 33) rfl) rfl
theorem se_X1_copyFrom : Cond.selects RX1 yX1_copyFrom yX1_copyFrom ∈ pWW := pw4 (List.mem_of_getElem? (i := 34) rfl) rfl
theorem dX1_copyFrom_0 : decode cX1_copyFrom 0 = .ok (.aload_n 0, 1) := by decide +kernel
theorem dX1_copyFrom_1 : decode cX1_copyFrom 1 = .ok (.aload_n 1, 1) := by decide +kernel
theorem dX1_copyFrom_2 : decode cX1_copyFrom 2 = .ok (.getfield 33, 3) := by decide +kernel
theorem dX1_copyFrom_5 : decode cX1_copyFrom 5 = .ok (.invokevirtual 76, 3) := by decide +kernel
theorem dX1_copyFrom_8 : decode cX1_copyFrom 8 = .ok (.ifCond .ne 4, 3) := by decide +kernel
theorem dX1_copyFrom_12 : decode cX1_copyFrom 12 = .ok (.aload_n 0, 1) := by decide +kernel
theorem dX1_copyFrom_13 : decode cX1_copyFrom 13 = .ok (.aload_n 1, 1) := by decide +kernel
theorem dX1_copyFrom_14 : decode cX1_copyFrom 14 = .ok (.getfield 33, 3) := by decide +kernel
theorem dX1_copyFrom_17 : decode cX1_copyFrom 17 = .ok (.putfield 33, 3) := by decide +kernel
theorem dX1_copyFrom_20 : decode cX1_copyFrom 20 = .ok (.aload_n 0, 1) := by decide +kernel
theorem dX1_copyFrom_21 : decode cX1_copyFrom 21 = .ok (.aload_n 1, 1) := by decide +kernel
theorem dX1_copyFrom_22 : decode cX1_copyFrom 22 = .ok (.getfield 37, 3) := by decide +kernel
theorem dX1_copyFrom_25 : decode cX1_copyFrom 25 = .ok (.putfield 37, 3) := by decide +kernel
theorem dX1_copyFrom_28 : decode cX1_copyFrom 28 = .ok (.aload_n 0, 1) := by decide +kernel
theorem dX1_copyFrom_29 : decode cX1_copyFrom 29 = .ok (.aload_n 1, 1) := by decide +kernel
theorem dX1_copyFrom_30 : decode cX1_copyFrom 30 = .ok (.getfield 40, 3) := by decide +kernel
theorem dX1_copyFrom_33 : decode cX1_copyFrom 33 = .ok (.putfield 40, 3) := by decide +kernel
theorem dX1_copyFrom_36 : decode cX1_copyFrom 36 = .ok (.aload_n 0, 1) := by decide +kernel
theorem dX1_copyFrom_37 : decode cX1_copyFrom 37 = .ok (.aload_n 1, 1) := by decide +kernel
theorem dX1_copyFrom_38 : decode cX1_copyFrom 38 = .ok (.getfield 43, 3) := by decide +kernel
theorem dX1_copyFrom_41 : decode cX1_copyFrom 41 = .ok (.putfield 43, 3) := by decide +kernel
theorem dX1_copyFrom_44 : decode cX1_copyFrom 44 = .ok (.aload_n 0, 1) := by decide +kernel
theorem dX1_copyFrom_45 : decode cX1_copyFrom 45 = .ok (.aload_n 1, 1) := by decide +kernel
theorem dX1_copyFrom_46 : decode cX1_copyFrom 46 = .ok (.getfield 46, 3) := by decide +kernel
theorem dX1_copyFrom_49 : decode cX1_copyFrom 49 = .ok (.putfield 46, 3) := by decide +kernel
theorem dX1_copyFrom_52 : decode cX1_copyFrom 52 = .ok (.aload_n 1, 1) := by decide +kernel
theorem dX1_copyFrom_53 : decode cX1_copyFrom 53 = .ok (.getfield 9, 3) := by decide +kernel
theorem dX1_copyFrom_56 : decode cX1_copyFrom 56 = .ok (.iconst 0, 1) := by decide +kernel
theorem dX1_copyFrom_57 : decode cX1_copyFrom 57 = .ok (.aload_n 0, 1) := by decide +kernel
theorem dX1_copyFrom_58 : decode cX1_copyFrom 58 = .ok (.getfield 9, 3) := by decide +kernel
theorem dX1_copyFrom_61 : decode cX1_copyFrom 61 = .ok (.iconst 0, 1) := by decide +kernel
theorem dX1_copyFrom_62 : decode cX1_copyFrom 62 = .ok (.aload_n 0, 1) := by decide +kernel
theorem dX1_copyFrom_63 : decode cX1_copyFrom 63 = .ok (.getfield 33, 3) := by decide +kernel
theorem dX1_copyFrom_66 : decode cX1_copyFrom 66 = .ok (.bipush 13, 2) := by decide +kernel
theorem dX1_copyFrom_68 : decode cX1_copyFrom 68 = .ok (.imul, 1) := by decide +kernel
theorem dX1_copyFrom_69 : decode cX1_copyFrom 69 = .ok (.invokestatic 80, 3) := by decide +kernel
theorem dX1_copyFrom_72 : decode cX1_copyFrom 72 = .ok (.aload_n 1, 1) := by decide +kernel
theorem dX1_copyFrom_73 : decode cX1_copyFrom 73 = .ok (.getfield 15, 3) := by decide +kernel
theorem dX1_copyFrom_76 : decode cX1_copyFrom 76 = .ok (.iconst 0, 1) := by decide +kernel
theorem dX1_copyFrom_77 : decode cX1_copyFrom 77 = .ok (.aload_n 0, 1) := by decide +kernel
theorem dX1_copyFrom_78 : decode cX1_copyFrom 78 = .ok (.getfield 15, 3) := by decide +kernel
theorem dX1_copyFrom_81 : decode cX1_copyFrom 81 = .ok (.iconst 0, 1) := by decide +kernel
theorem dX1_copyFrom_82 : decode cX1_copyFrom 82 = .ok (.bipush 12, 2) := by decide +kernel
theorem dX1_copyFrom_84 : decode cX1_copyFrom 84 = .ok (.invokestatic 80, 3) := by decide +kernel
theorem dX1_copyFrom_87 : decode cX1_copyFrom 87 = .ok (.aload_n 1, 1) := by decide +kernel
theorem dX1_copyFrom_88 : decode cX1_copyFrom 88 = .ok (.getfield 18, 3) := by decide +kernel
theorem dX1_copyFrom_91 : decode cX1_copyFrom 91 = .ok (.iconst 0, 1) := by decide +kernel
theorem dX1_copyFrom_92 : decode cX1_copyFrom 92 = .ok (.aload_n 0, 1) := by decide +kernel
theorem dX1_copyFrom_93 : decode cX1_copyFrom 93 = .ok (.getfield 18, 3) := by decide +kernel
theorem dX1_copyFrom_96 : decode cX1_copyFrom 96 = .ok (.iconst 0, 1) := by decide +kernel
theorem dX1_copyFrom_97 : decode cX1_copyFrom 97 = .ok (.bipush 12, 2) := by decide +kernel
theorem dX1_copyFrom_99 : decode cX1_copyFrom 99 = .ok (.invokestatic 80, 3) := by decide +kernel
theorem dX1_copyFrom_102 : decode cX1_copyFrom 102 = .ok (.aload_n 1, 1) := by decide +kernel
theorem dX1_copyFrom_103 : decode cX1_copyFrom 103 = .ok (.getfield 21, 3) := by decide +kernel
theorem dX1_copyFrom_106 : decode cX1_copyFrom 106 = .ok (.iconst 0, 1) := by decide +kernel
theorem dX1_copyFrom_107 : decode cX1_copyFrom 107 = .ok (.aload_n 0, 1) := by decide +kernel
theorem dX1_copyFrom_108 : decode cX1_copyFrom 108 = .ok (.getfield 21, 3) := by decide +kernel
theorem dX1_copyFrom_111 : decode cX1_copyFrom 111 = .ok (.iconst 0, 1) := by decide +kernel
theorem dX1_copyFrom_112 : decode cX1_copyFrom 112 = .ok (.bipush 12, 2) := by decide +kernel
theorem dX1_copyFrom_114 : decode cX1_copyFrom 114 = .ok (.invokestatic 80, 3) := by decide +kernel
theorem dX1_copyFrom_117 : decode cX1_copyFrom 117 = .ok (.aload_n 1, 1) := by decide +kernel
theorem dX1_copyFrom_118 : decode cX1_copyFrom 118 = .ok (.getfield 24, 3) := by decide +kernel
theorem dX1_copyFrom_121 : decode cX1_copyFrom 121 = .ok (.iconst 0, 1) := by decide +kernel
theorem dX1_copyFrom_122 : decode cX1_copyFrom 122 = .ok (.aload_n 0, 1) := by decide +kernel
theorem dX1_copyFrom_123 : decode cX1_copyFrom 123 = .ok (.getfield 24, 3) := by decide +kernel
theorem dX1_copyFrom_126 : decode cX1_copyFrom 126 = .ok (.iconst 0, 1) := by decide +kernel
theorem dX1_copyFrom_127 : decode cX1_copyFrom 127 = .ok (.bipush 12, 2) := by decide +kernel
theorem dX1_copyFrom_129 : decode cX1_copyFrom 129 = .ok (.invokestatic 80, 3) := by decide +kernel
theorem dX1_copyFrom_132 : decode cX1_copyFrom 132 = .ok (.aload_n 1, 1) := by decide +kernel
theorem dX1_copyFrom_133 : decode cX1_copyFrom 133 = .ok (.getfield 27, 3) := by decide +kernel
theorem dX1_copyFrom_136 : decode cX1_copyFrom 136 = .ok (.iconst 0, 1) := by decide +kernel
theorem dX1_copyFrom_137 : decode cX1_copyFrom 137 = .ok (.aload_n 0, 1) := by decide +kernel
theorem dX1_copyFrom_138 : decode cX1_copyFrom 138 = .ok (.getfield 27, 3) := by decide +kernel
theorem dX1_copyFrom_141 : decode cX1_copyFrom 141 = .ok (.iconst 0, 1) := by decide +kernel
theorem dX1_copyFrom_142 : decode cX1_copyFrom 142 = .ok (.sipush 144, 3) := by decide +kernel
theorem dX1_copyFrom_145 : decode cX1_copyFrom 145 = .ok (.invokestatic 80, 3) := by decide +kernel
theorem dX1_copyFrom_148 : decode cX1_copyFrom 148 = .ok (.return_, 1) := by decide +kernel
theorem dX1_copyFrom_11 : decode cX1_copyFrom 11 = .ok (.return_, 1) := by decide +kernel
set_option maxRecDepth 20000 in
theorem k_X1_copyFrom (d : Nat) {T : CT} {σ : MS} {a : Nat} {p1 : Nat} (ha : OB T a 1) (hta : (T a).1 = 50) (h_p1 : OB T p1 1) (t_p1 : (T p1).1 = 31) (hw : WT T σ) : Tn (d + 3) m_X1_copyFrom 0 T σ [(0, .ref a), (1, .ref p1)] [] (fun ro T2 σ2 => ro = none ∧ WT T2 σ2 ∧ FrC T [5, 6, 7, 8, 9, 10] σ σ2) := by
  refine tn_aload_n dX1_copyFrom_0 rfl 0 rfl ?_
  refine tn_aload_n dX1_copyFrom_1 rfl 1 rfl ?_
  refine tn_getI (ci := 1) (i := 1) (n := 6) (t := σ.2.1 6 p1) dX1_copyFrom_2 rfl lay_1 (by decide) fl1_33 h_p1 rfl rfl (rfl) ?_
  have g1 : ((0 : Int) ≤ σ.2.1 6 p1 ∧ σ.2.1 6 p1 ≤ 5000) ∧ ((T p1).1 = 50 → σ.2.1 6 p1 ≤ 200) := wf_6 hw h_p1
  have g1x := g1.2
  replace g1 := g1.1
  clear g1x
  refine tn_callV (M := m_X1_copyFrom) (pc := 5) (ix := 76) (ci := 1) (M' := m_X1_holdRows) (As := [.int (iI (σ.2.1 6 p1))]) (rest := []) dX1_copyFrom_5 ok_X1_holdRows im_X1_holdRows se_X1_holdRows ml1_76 np_X1_holdRows rfl rfl ha rfl (Nat.le_of_ble_eq_true rfl) (Nat.le_of_ble_eq_true rfl) rfl (k_X1_holdRows (d) (T := T) (σ := σ) (a := a) (n := σ.2.1 6 p1) ha hta (by omega) hw ) (fun r2 T4 σ3 gt5 hp => ?_)
  obtain ⟨v8, rfl, w9, F10, f6, f7⟩ := hp
  replace ha : OB T4 a 1 := gt5.ob ha
  replace hta : (T4 a).1 = 50 := gt5.kk hta (by decide) (by decide)
  replace t_p1 : (T4 p1).1 = 31 := gt5.kk t_p1 (by decide) (by decide)
  replace h_p1 : OB T4 p1 1 := gt5.ob h_p1
  have q11 : σ3.2.1 6 a = σ.2.1 6 a := rc_F F10 (Or.inl (by decide)) (by decide) (rfl)
  have q12 : σ3.2.1 6 p1 = σ.2.1 6 p1 := rc_F F10 (Or.inl (by decide)) (by decide) (rfl)
  show Tn _ _ 8 T4 σ3 [(0, .ref a), (1, .ref p1)] [.int (iI v8)] _
  refine tn_if_ne (tgt := 12) dX1_copyFrom_8 (by decide) ⟨by omega, by omega⟩ (fun h13 => ?_) (fun h13 => ?_)
  · obtain ⟨q14, q14h⟩ := f7 (by omega)
    obtain ⟨x15, hx16, hl18, hk17a, hk17b⟩ := wf_5 w9 ha
    have hk17 : (T4 x15).1 = 1 := hk17a (by omega)
    clear hk17a hk17b
    have hk17i : IA T4 x15 := by unfold IA; omega
    have q14x := q14h x15 (hx16)
    refine tn_aload_n dX1_copyFrom_12 rfl 0 rfl ?_
    refine tn_aload_n dX1_copyFrom_13 rfl 1 rfl ?_
    refine tn_getI (ci := 1) (i := 1) (n := 6) (t := σ3.2.1 6 p1) dX1_copyFrom_14 rfl lay_1 (by decide) fl1_33 h_p1 rfl rfl (rfl) ?_
    have g19 : ((0 : Int) ≤ σ3.2.1 6 p1 ∧ σ3.2.1 6 p1 ≤ 5000) ∧ ((T4 p1).1 = 50 → σ3.2.1 6 p1 ≤ 200) := wf_6 w9 h_p1
    have g19x := g19.2
    replace g19 := g19.1
    clear g19x
    refine tn_putV (ci := 1) (i := 1) (n := 6) (r := false) (v := σ3.2.1 6 p1) tyX1 tyX1_ok nmX1 dX1_copyFrom_17 rfl lay_1 (by decide) fl1_33 rfl (tyX1_ok 1 (by decide)) rfl rfl rfl ha rfl rfl ?_
    refine tn_aload_n dX1_copyFrom_20 rfl 0 rfl ?_
    refine tn_aload_n dX1_copyFrom_21 rfl 1 rfl ?_
    refine tn_getI (ci := 1) (i := 2) (n := 7) (t := σ3.2.1 7 p1) dX1_copyFrom_22 rfl lay_1 (by decide) fl1_37 h_p1 rfl rfl (rc_o (by decide) (rfl)) ?_
    have g20 : ((0 : Int) ≤ σ3.2.1 7 p1 ∧ σ3.2.1 7 p1 ≤ 12) := wf_7 w9 h_p1
    refine tn_putV (ci := 1) (i := 2) (n := 7) (r := false) (v := σ3.2.1 7 p1) tyX1 tyX1_ok nmX1 dX1_copyFrom_25 rfl lay_1 (by decide) fl1_37 rfl (tyX1_ok 2 (by decide)) rfl rfl rfl ha rfl rfl ?_
    refine tn_aload_n dX1_copyFrom_28 rfl 0 rfl ?_
    refine tn_aload_n dX1_copyFrom_29 rfl 1 rfl ?_
    refine tn_getI (ci := 1) (i := 3) (n := 8) (t := σ3.2.1 8 p1) dX1_copyFrom_30 rfl lay_1 (by decide) fl1_40 h_p1 rfl rfl (rc_o (by decide) (rc_o (by decide) (rfl))) ?_
    have g21 : ((0 : Int) ≤ σ3.2.1 8 p1 ∧ σ3.2.1 8 p1 ≤ 4) := wf_8 w9 h_p1
    refine tn_putV (ci := 1) (i := 3) (n := 8) (r := false) (v := σ3.2.1 8 p1) tyX1 tyX1_ok nmX1 dX1_copyFrom_33 rfl lay_1 (by decide) fl1_40 rfl (tyX1_ok 3 (by decide)) rfl rfl rfl ha rfl rfl ?_
    refine tn_aload_n dX1_copyFrom_36 rfl 0 rfl ?_
    refine tn_aload_n dX1_copyFrom_37 rfl 1 rfl ?_
    refine tn_getI (ci := 1) (i := 4) (n := 9) (t := σ3.2.1 9 p1) dX1_copyFrom_38 rfl lay_1 (by decide) fl1_43 h_p1 rfl rfl (rc_o (by decide) (rc_o (by decide) (rc_o (by decide) (rfl)))) ?_
    have g22 : ((-2147483648 : Int) ≤ σ3.2.1 9 p1 ∧ σ3.2.1 9 p1 ≤ 2147483647) := wf_9 w9 h_p1
    refine tn_putV (ci := 1) (i := 4) (n := 9) (r := false) (v := σ3.2.1 9 p1) tyX1 tyX1_ok nmX1 dX1_copyFrom_41 rfl lay_1 (by decide) fl1_43 rfl (tyX1_ok 4 (by decide)) rfl rfl rfl ha rfl rfl ?_
    refine tn_aload_n dX1_copyFrom_44 rfl 0 rfl ?_
    refine tn_aload_n dX1_copyFrom_45 rfl 1 rfl ?_
    refine tn_getI (ci := 1) (i := 5) (n := 10) (t := σ3.2.1 10 p1) dX1_copyFrom_46 rfl lay_1 (by decide) fl1_46 h_p1 rfl rfl (rc_o (by decide) (rc_o (by decide) (rc_o (by decide) (rc_o (by decide) (rfl))))) ?_
    have g23 : ((0 : Int) ≤ σ3.2.1 10 p1 ∧ σ3.2.1 10 p1 ≤ 12) := wf_10 w9 h_p1
    refine tn_putV (ci := 1) (i := 5) (n := 10) (r := false) (v := σ3.2.1 10 p1) tyX1 tyX1_ok nmX1 dX1_copyFrom_49 rfl lay_1 (by decide) fl1_46 rfl (tyX1_ok 5 (by decide)) rfl rfl rfl ha rfl rfl ?_
    obtain ⟨x24, hx25, hl27, hk26a, hk26b⟩ := wf_5 w9 h_p1
    have hk26 : (T4 x24).1 = 13 := hk26b (by omega)
    clear hk26a hk26b
    have hk26i : IA T4 x24 := by unfold IA; omega
    have g28 : 13 * σ3.2.1 6 p1 ≤ ((T4 x24).2 : Int) ∨ 2600 ≤ (T4 x24).2 := w9.2.1 p1 x24 h_p1 hx25
    refine tn_aload_n dX1_copyFrom_52 rfl 1 rfl ?_
    refine tn_getR (ci := 1) (i := 0) (n := 5) (x := x24) dX1_copyFrom_53 rfl lay_1 (by decide) fl1_9 h_p1 rfl rfl (rc_o (by decide) (rc_o (by decide) (rc_o (by decide) (rc_o (by decide) (rc_o (by decide) (hx25)))))) ?_
    refine tn_iconst dX1_copyFrom_56 ?_
    refine tn_aload_n dX1_copyFrom_57 rfl 0 rfl ?_
    refine tn_getR (ci := 1) (i := 0) (n := 5) (x := x15) dX1_copyFrom_58 rfl lay_1 (by decide) fl1_9 ha rfl rfl (rc_o (by decide) (rc_o (by decide) (rc_o (by decide) (rc_o (by decide) (rc_o (by decide) (hx16)))))) ?_
    refine tn_iconst dX1_copyFrom_61 ?_
    refine tn_aload_n dX1_copyFrom_62 rfl 0 rfl ?_
    refine tn_getI (ci := 1) (i := 1) (n := 6) (t := σ3.2.1 6 p1) dX1_copyFrom_63 rfl lay_1 (by decide) fl1_33 ha rfl rfl (rc_o (by decide) (rc_o (by decide) (rc_o (by decide) (rc_o (by decide) (ra_eq))))) ?_
    refine tn_bipush dX1_copyFrom_66 (by decide) ?_
    refine tn_imul dX1_copyFrom_68 ?_
    refine tn_acopyI (a := x24) (b := x15) (sp := 0) (dp := 0) (n := (σ3.2.1 6 p1) * 13) dX1_copyFrom_69 mla1_80 acNat acSt acIni hk26i hk17i ⟨by omega, by omega⟩ (by omega) (by omega) (by omega) (by omega) (by omega) (by omega) (Nat.le_of_ble_eq_true rfl) ?_
    refine tn_aload_n dX1_copyFrom_72 rfl 1 rfl ?_
    obtain ⟨x29, hx30, hk31, hl32⟩ : ∃ x : Nat, σ3.2.1 11 p1 = (x : Int) ∧ AR T4 x 1 12 12 := wf_11 w9 h_p1
    have hk31i : IA T4 x29 := by unfold IA; omega
    refine tn_getR (ci := 1) (i := 6) (n := 11) (x := x29) dX1_copyFrom_73 rfl lay_1 (by decide) fl1_15 h_p1 rfl rfl (rc_r (Or.inl (by decide)) (rc_o (by decide) (rc_o (by decide) (rc_o (by decide) (rc_o (by decide) (rc_o (by decide) (hx30))))))) ?_
    refine tn_iconst dX1_copyFrom_76 ?_
    refine tn_aload_n dX1_copyFrom_77 rfl 0 rfl ?_
    obtain ⟨x33, hx34, hk35, hl36⟩ : ∃ x : Nat, σ3.2.1 11 a = (x : Int) ∧ AR T4 x 1 12 12 := wf_11 w9 ha
    have hk35i : IA T4 x33 := by unfold IA; omega
    refine tn_getR (ci := 1) (i := 6) (n := 11) (x := x33) dX1_copyFrom_78 rfl lay_1 (by decide) fl1_15 ha rfl rfl (rc_r (Or.inl (by decide)) (rc_o (by decide) (rc_o (by decide) (rc_o (by decide) (rc_o (by decide) (rc_o (by decide) (hx34))))))) ?_
    refine tn_iconst dX1_copyFrom_81 ?_
    refine tn_bipush dX1_copyFrom_82 (by decide) ?_
    refine tn_acopyI (a := x29) (b := x33) (sp := 0) (dp := 0) (n := 12) dX1_copyFrom_84 mla1_80 acNat acSt acIni hk31i hk35i ⟨by omega, by omega⟩ (by omega) (by omega) (by omega) (by omega) (by omega) (by omega) (Nat.le_of_ble_eq_true rfl) ?_
    refine tn_aload_n dX1_copyFrom_87 rfl 1 rfl ?_
    obtain ⟨x37, hx38, hk39, hl40⟩ : ∃ x : Nat, σ3.2.1 12 p1 = (x : Int) ∧ AR T4 x 1 12 12 := wf_12 w9 h_p1
    have hk39i : IA T4 x37 := by unfold IA; omega
    refine tn_getR (ci := 1) (i := 7) (n := 12) (x := x37) dX1_copyFrom_88 rfl lay_1 (by decide) fl1_18 h_p1 rfl rfl (rc_r (Or.inl (by decide)) (rc_r (Or.inl (by decide)) (rc_o (by decide) (rc_o (by decide) (rc_o (by decide) (rc_o (by decide) (rc_o (by decide) (hx38)))))))) ?_
    refine tn_iconst dX1_copyFrom_91 ?_
    refine tn_aload_n dX1_copyFrom_92 rfl 0 rfl ?_
    obtain ⟨x41, hx42, hk43, hl44⟩ : ∃ x : Nat, σ3.2.1 12 a = (x : Int) ∧ AR T4 x 1 12 12 := wf_12 w9 ha
    have hk43i : IA T4 x41 := by unfold IA; omega
    refine tn_getR (ci := 1) (i := 7) (n := 12) (x := x41) dX1_copyFrom_93 rfl lay_1 (by decide) fl1_18 ha rfl rfl (rc_r (Or.inl (by decide)) (rc_r (Or.inl (by decide)) (rc_o (by decide) (rc_o (by decide) (rc_o (by decide) (rc_o (by decide) (rc_o (by decide) (hx42)))))))) ?_
    refine tn_iconst dX1_copyFrom_96 ?_
    refine tn_bipush dX1_copyFrom_97 (by decide) ?_
    refine tn_acopyI (a := x37) (b := x41) (sp := 0) (dp := 0) (n := 12) dX1_copyFrom_99 mla1_80 acNat acSt acIni hk39i hk43i ⟨by omega, by omega⟩ (by omega) (by omega) (by omega) (by omega) (by omega) (by omega) (Nat.le_of_ble_eq_true rfl) ?_
    refine tn_aload_n dX1_copyFrom_102 rfl 1 rfl ?_
    obtain ⟨x45, hx46, hk47, hl48⟩ : ∃ x : Nat, σ3.2.1 13 p1 = (x : Int) ∧ AR T4 x 1 12 12 := wf_13 w9 h_p1
    have hk47i : IA T4 x45 := by unfold IA; omega
    refine tn_getR (ci := 1) (i := 8) (n := 13) (x := x45) dX1_copyFrom_103 rfl lay_1 (by decide) fl1_21 h_p1 rfl rfl (rc_r (Or.inl (by decide)) (rc_r (Or.inl (by decide)) (rc_r (Or.inl (by decide)) (rc_o (by decide) (rc_o (by decide) (rc_o (by decide) (rc_o (by decide) (rc_o (by decide) (hx46))))))))) ?_
    refine tn_iconst dX1_copyFrom_106 ?_
    refine tn_aload_n dX1_copyFrom_107 rfl 0 rfl ?_
    obtain ⟨x49, hx50, hk51, hl52⟩ : ∃ x : Nat, σ3.2.1 13 a = (x : Int) ∧ AR T4 x 1 12 12 := wf_13 w9 ha
    have hk51i : IA T4 x49 := by unfold IA; omega
    refine tn_getR (ci := 1) (i := 8) (n := 13) (x := x49) dX1_copyFrom_108 rfl lay_1 (by decide) fl1_21 ha rfl rfl (rc_r (Or.inl (by decide)) (rc_r (Or.inl (by decide)) (rc_r (Or.inl (by decide)) (rc_o (by decide) (rc_o (by decide) (rc_o (by decide) (rc_o (by decide) (rc_o (by decide) (hx50))))))))) ?_
    refine tn_iconst dX1_copyFrom_111 ?_
    refine tn_bipush dX1_copyFrom_112 (by decide) ?_
    refine tn_acopyI (a := x45) (b := x49) (sp := 0) (dp := 0) (n := 12) dX1_copyFrom_114 mla1_80 acNat acSt acIni hk47i hk51i ⟨by omega, by omega⟩ (by omega) (by omega) (by omega) (by omega) (by omega) (by omega) (Nat.le_of_ble_eq_true rfl) ?_
    refine tn_aload_n dX1_copyFrom_117 rfl 1 rfl ?_
    obtain ⟨x53, hx54, hk55, hl56⟩ : ∃ x : Nat, σ3.2.1 14 p1 = (x : Int) ∧ AR T4 x 11 12 12 := wf_14 w9 h_p1
    have hk55i : IA T4 x53 := by unfold IA; omega
    refine tn_getR (ci := 1) (i := 9) (n := 14) (x := x53) dX1_copyFrom_118 rfl lay_1 (by decide) fl1_24 h_p1 rfl rfl (rc_r (Or.inl (by decide)) (rc_r (Or.inl (by decide)) (rc_r (Or.inl (by decide)) (rc_r (Or.inl (by decide)) (rc_o (by decide) (rc_o (by decide) (rc_o (by decide) (rc_o (by decide) (rc_o (by decide) (hx54)))))))))) ?_
    refine tn_iconst dX1_copyFrom_121 ?_
    refine tn_aload_n dX1_copyFrom_122 rfl 0 rfl ?_
    obtain ⟨x57, hx58, hk59, hl60⟩ : ∃ x : Nat, σ3.2.1 14 a = (x : Int) ∧ AR T4 x 11 12 12 := wf_14 w9 ha
    have hk59i : IA T4 x57 := by unfold IA; omega
    refine tn_getR (ci := 1) (i := 9) (n := 14) (x := x57) dX1_copyFrom_123 rfl lay_1 (by decide) fl1_24 ha rfl rfl (rc_r (Or.inl (by decide)) (rc_r (Or.inl (by decide)) (rc_r (Or.inl (by decide)) (rc_r (Or.inl (by decide)) (rc_o (by decide) (rc_o (by decide) (rc_o (by decide) (rc_o (by decide) (rc_o (by decide) (hx58)))))))))) ?_
    refine tn_iconst dX1_copyFrom_126 ?_
    refine tn_bipush dX1_copyFrom_127 (by decide) ?_
    refine tn_acopyI (a := x53) (b := x57) (sp := 0) (dp := 0) (n := 12) dX1_copyFrom_129 mla1_80 acNat acSt acIni hk55i hk59i ⟨by omega, by omega⟩ (by omega) (by omega) (by omega) (by omega) (by omega) (by omega) (Nat.le_of_ble_eq_true rfl) ?_
    refine tn_aload_n dX1_copyFrom_132 rfl 1 rfl ?_
    obtain ⟨x61, hx62, hk63, hl64⟩ : ∃ x : Nat, σ3.2.1 15 p1 = (x : Int) ∧ AR T4 x 1 144 144 := wf_15 w9 h_p1
    have hk63i : IA T4 x61 := by unfold IA; omega
    refine tn_getR (ci := 1) (i := 10) (n := 15) (x := x61) dX1_copyFrom_133 rfl lay_1 (by decide) fl1_27 h_p1 rfl rfl (rc_r (Or.inl (by decide)) (rc_r (Or.inl (by decide)) (rc_r (Or.inl (by decide)) (rc_r (Or.inl (by decide)) (rc_r (Or.inl (by decide)) (rc_o (by decide) (rc_o (by decide) (rc_o (by decide) (rc_o (by decide) (rc_o (by decide) (hx62))))))))))) ?_
    refine tn_iconst dX1_copyFrom_136 ?_
    refine tn_aload_n dX1_copyFrom_137 rfl 0 rfl ?_
    obtain ⟨x65, hx66, hk67, hl68⟩ : ∃ x : Nat, σ3.2.1 15 a = (x : Int) ∧ AR T4 x 1 144 144 := wf_15 w9 ha
    have hk67i : IA T4 x65 := by unfold IA; omega
    refine tn_getR (ci := 1) (i := 10) (n := 15) (x := x65) dX1_copyFrom_138 rfl lay_1 (by decide) fl1_27 ha rfl rfl (rc_r (Or.inl (by decide)) (rc_r (Or.inl (by decide)) (rc_r (Or.inl (by decide)) (rc_r (Or.inl (by decide)) (rc_r (Or.inl (by decide)) (rc_o (by decide) (rc_o (by decide) (rc_o (by decide) (rc_o (by decide) (rc_o (by decide) (hx66))))))))))) ?_
    refine tn_iconst dX1_copyFrom_141 ?_
    refine tn_sipush dX1_copyFrom_142 (by decide) ?_
    refine tn_acopyI (a := x61) (b := x65) (sp := 0) (dp := 0) (n := 144) dX1_copyFrom_145 mla1_80 acNat acSt acIni hk63i hk67i ⟨by omega, by omega⟩ (by omega) (by omega) (by omega) (by omega) (by omega) (by omega) (Nat.le_of_ble_eq_true rfl) ?_
    exact tn_vret rfl dX1_copyFrom_148 ⟨rfl, (((((((((((w9.put6 (hx16) (fo_6 ⟨by omega, by omega⟩) (by omega)).put (by decide) (by decide) (fo_7 (by omega))).put (by decide) (by decide) (fo_8 (by omega))).put (by decide) (by decide) (fo_9 (by omega))).put (by decide) (by decide) (fo_10 (by omega))).row (Or.inl hk17i) (vok_cp1 (((((w9.put6 (hx16) (fo_6 ⟨by omega, by omega⟩) (by omega)).put (by decide) (by decide) (fo_7 (by omega))).put (by decide) (by decide) (fo_8 (by omega))).put (by decide) (by decide) (fo_9 (by omega))).put (by decide) (by decide) (fo_10 (by omega))) hk26i hk17i (by have q9 := hk17; omega))).row (Or.inl hk35i) (vok_cp1 ((((((w9.put6 (hx16) (fo_6 ⟨by omega, by omega⟩) (by omega)).put (by decide) (by decide) (fo_7 (by omega))).put (by decide) (by decide) (fo_8 (by omega))).put (by decide) (by decide) (fo_9 (by omega))).put (by decide) (by decide) (fo_10 (by omega))).row (Or.inl hk17i) (vok_cp1 (((((w9.put6 (hx16) (fo_6 ⟨by omega, by omega⟩) (by omega)).put (by decide) (by decide) (fo_7 (by omega))).put (by decide) (by decide) (fo_8 (by omega))).put (by decide) (by decide) (fo_9 (by omega))).put (by decide) (by decide) (fo_10 (by omega))) hk26i hk17i (by have q9 := hk17; omega))) hk31i hk35i (by have q9 := hk35; omega))).row (Or.inl hk43i) (vok_cp1 (((((((w9.put6 (hx16) (fo_6 ⟨by omega, by omega⟩) (by omega)).put (by decide) (by decide) (fo_7 (by omega))).put (by decide) (by decide) (fo_8 (by omega))).put (by decide) (by decide) (fo_9 (by omega))).put (by decide) (by decide) (fo_10 (by omega))).row (Or.inl hk17i) (vok_cp1 (((((w9.put6 (hx16) (fo_6 ⟨by omega, by omega⟩) (by omega)).put (by decide) (by decide) (fo_7 (by omega))).put (by decide) (by decide) (fo_8 (by omega))).put (by decide) (by decide) (fo_9 (by omega))).put (by decide) (by decide) (fo_10 (by omega))) hk26i hk17i (by have q9 := hk17; omega))).row (Or.inl hk35i) (vok_cp1 ((((((w9.put6 (hx16) (fo_6 ⟨by omega, by omega⟩) (by omega)).put (by decide) (by decide) (fo_7 (by omega))).put (by decide) (by decide) (fo_8 (by omega))).put (by decide) (by decide) (fo_9 (by omega))).put (by decide) (by decide) (fo_10 (by omega))).row (Or.inl hk17i) (vok_cp1 (((((w9.put6 (hx16) (fo_6 ⟨by omega, by omega⟩) (by omega)).put (by decide) (by decide) (fo_7 (by omega))).put (by decide) (by decide) (fo_8 (by omega))).put (by decide) (by decide) (fo_9 (by omega))).put (by decide) (by decide) (fo_10 (by omega))) hk26i hk17i (by have q9 := hk17; omega))) hk31i hk35i (by have q9 := hk35; omega))) hk39i hk43i (by have q9 := hk43; omega))).row (Or.inl hk51i) (vok_cp1 ((((((((w9.put6 (hx16) (fo_6 ⟨by omega, by omega⟩) (by omega)).put (by decide) (by decide) (fo_7 (by omega))).put (by decide) (by decide) (fo_8 (by omega))).put (by decide) (by decide) (fo_9 (by omega))).put (by decide) (by decide) (fo_10 (by omega))).row (Or.inl hk17i) (vok_cp1 (((((w9.put6 (hx16) (fo_6 ⟨by omega, by omega⟩) (by omega)).put (by decide) (by decide) (fo_7 (by omega))).put (by decide) (by decide) (fo_8 (by omega))).put (by decide) (by decide) (fo_9 (by omega))).put (by decide) (by decide) (fo_10 (by omega))) hk26i hk17i (by have q9 := hk17; omega))).row (Or.inl hk35i) (vok_cp1 ((((((w9.put6 (hx16) (fo_6 ⟨by omega, by omega⟩) (by omega)).put (by decide) (by decide) (fo_7 (by omega))).put (by decide) (by decide) (fo_8 (by omega))).put (by decide) (by decide) (fo_9 (by omega))).put (by decide) (by decide) (fo_10 (by omega))).row (Or.inl hk17i) (vok_cp1 (((((w9.put6 (hx16) (fo_6 ⟨by omega, by omega⟩) (by omega)).put (by decide) (by decide) (fo_7 (by omega))).put (by decide) (by decide) (fo_8 (by omega))).put (by decide) (by decide) (fo_9 (by omega))).put (by decide) (by decide) (fo_10 (by omega))) hk26i hk17i (by have q9 := hk17; omega))) hk31i hk35i (by have q9 := hk35; omega))).row (Or.inl hk43i) (vok_cp1 (((((((w9.put6 (hx16) (fo_6 ⟨by omega, by omega⟩) (by omega)).put (by decide) (by decide) (fo_7 (by omega))).put (by decide) (by decide) (fo_8 (by omega))).put (by decide) (by decide) (fo_9 (by omega))).put (by decide) (by decide) (fo_10 (by omega))).row (Or.inl hk17i) (vok_cp1 (((((w9.put6 (hx16) (fo_6 ⟨by omega, by omega⟩) (by omega)).put (by decide) (by decide) (fo_7 (by omega))).put (by decide) (by decide) (fo_8 (by omega))).put (by decide) (by decide) (fo_9 (by omega))).put (by decide) (by decide) (fo_10 (by omega))) hk26i hk17i (by have q9 := hk17; omega))).row (Or.inl hk35i) (vok_cp1 ((((((w9.put6 (hx16) (fo_6 ⟨by omega, by omega⟩) (by omega)).put (by decide) (by decide) (fo_7 (by omega))).put (by decide) (by decide) (fo_8 (by omega))).put (by decide) (by decide) (fo_9 (by omega))).put (by decide) (by decide) (fo_10 (by omega))).row (Or.inl hk17i) (vok_cp1 (((((w9.put6 (hx16) (fo_6 ⟨by omega, by omega⟩) (by omega)).put (by decide) (by decide) (fo_7 (by omega))).put (by decide) (by decide) (fo_8 (by omega))).put (by decide) (by decide) (fo_9 (by omega))).put (by decide) (by decide) (fo_10 (by omega))) hk26i hk17i (by have q9 := hk17; omega))) hk31i hk35i (by have q9 := hk35; omega))) hk39i hk43i (by have q9 := hk43; omega))) hk47i hk51i (by have q9 := hk51; omega))).row (Or.inl hk59i) (vok_cp11 (((((((((w9.put6 (hx16) (fo_6 ⟨by omega, by omega⟩) (by omega)).put (by decide) (by decide) (fo_7 (by omega))).put (by decide) (by decide) (fo_8 (by omega))).put (by decide) (by decide) (fo_9 (by omega))).put (by decide) (by decide) (fo_10 (by omega))).row (Or.inl hk17i) (vok_cp1 (((((w9.put6 (hx16) (fo_6 ⟨by omega, by omega⟩) (by omega)).put (by decide) (by decide) (fo_7 (by omega))).put (by decide) (by decide) (fo_8 (by omega))).put (by decide) (by decide) (fo_9 (by omega))).put (by decide) (by decide) (fo_10 (by omega))) hk26i hk17i (by have q9 := hk17; omega))).row (Or.inl hk35i) (vok_cp1 ((((((w9.put6 (hx16) (fo_6 ⟨by omega, by omega⟩) (by omega)).put (by decide) (by decide) (fo_7 (by omega))).put (by decide) (by decide) (fo_8 (by omega))).put (by decide) (by decide) (fo_9 (by omega))).put (by decide) (by decide) (fo_10 (by omega))).row (Or.inl hk17i) (vok_cp1 (((((w9.put6 (hx16) (fo_6 ⟨by omega, by omega⟩) (by omega)).put (by decide) (by decide) (fo_7 (by omega))).put (by decide) (by decide) (fo_8 (by omega))).put (by decide) (by decide) (fo_9 (by omega))).put (by decide) (by decide) (fo_10 (by omega))) hk26i hk17i (by have q9 := hk17; omega))) hk31i hk35i (by have q9 := hk35; omega))).row (Or.inl hk43i) (vok_cp1 (((((((w9.put6 (hx16) (fo_6 ⟨by omega, by omega⟩) (by omega)).put (by decide) (by decide) (fo_7 (by omega))).put (by decide) (by decide) (fo_8 (by omega))).put (by decide) (by decide) (fo_9 (by omega))).put (by decide) (by decide) (fo_10 (by omega))).row (Or.inl hk17i) (vok_cp1 (((((w9.put6 (hx16) (fo_6 ⟨by omega, by omega⟩) (by omega)).put (by decide) (by decide) (fo_7 (by omega))).put (by decide) (by decide) (fo_8 (by omega))).put (by decide) (by decide) (fo_9 (by omega))).put (by decide) (by decide) (fo_10 (by omega))) hk26i hk17i (by have q9 := hk17; omega))).row (Or.inl hk35i) (vok_cp1 ((((((w9.put6 (hx16) (fo_6 ⟨by omega, by omega⟩) (by omega)).put (by decide) (by decide) (fo_7 (by omega))).put (by decide) (by decide) (fo_8 (by omega))).put (by decide) (by decide) (fo_9 (by omega))).put (by decide) (by decide) (fo_10 (by omega))).row (Or.inl hk17i) (vok_cp1 (((((w9.put6 (hx16) (fo_6 ⟨by omega, by omega⟩) (by omega)).put (by decide) (by decide) (fo_7 (by omega))).put (by decide) (by decide) (fo_8 (by omega))).put (by decide) (by decide) (fo_9 (by omega))).put (by decide) (by decide) (fo_10 (by omega))) hk26i hk17i (by have q9 := hk17; omega))) hk31i hk35i (by have q9 := hk35; omega))) hk39i hk43i (by have q9 := hk43; omega))).row (Or.inl hk51i) (vok_cp1 ((((((((w9.put6 (hx16) (fo_6 ⟨by omega, by omega⟩) (by omega)).put (by decide) (by decide) (fo_7 (by omega))).put (by decide) (by decide) (fo_8 (by omega))).put (by decide) (by decide) (fo_9 (by omega))).put (by decide) (by decide) (fo_10 (by omega))).row (Or.inl hk17i) (vok_cp1 (((((w9.put6 (hx16) (fo_6 ⟨by omega, by omega⟩) (by omega)).put (by decide) (by decide) (fo_7 (by omega))).put (by decide) (by decide) (fo_8 (by omega))).put (by decide) (by decide) (fo_9 (by omega))).put (by decide) (by decide) (fo_10 (by omega))) hk26i hk17i (by have q9 := hk17; omega))).row (Or.inl hk35i) (vok_cp1 ((((((w9.put6 (hx16) (fo_6 ⟨by omega, by omega⟩) (by omega)).put (by decide) (by decide) (fo_7 (by omega))).put (by decide) (by decide) (fo_8 (by omega))).put (by decide) (by decide) (fo_9 (by omega))).put (by decide) (by decide) (fo_10 (by omega))).row (Or.inl hk17i) (vok_cp1 (((((w9.put6 (hx16) (fo_6 ⟨by omega, by omega⟩) (by omega)).put (by decide) (by decide) (fo_7 (by omega))).put (by decide) (by decide) (fo_8 (by omega))).put (by decide) (by decide) (fo_9 (by omega))).put (by decide) (by decide) (fo_10 (by omega))) hk26i hk17i (by have q9 := hk17; omega))) hk31i hk35i (by have q9 := hk35; omega))).row (Or.inl hk43i) (vok_cp1 (((((((w9.put6 (hx16) (fo_6 ⟨by omega, by omega⟩) (by omega)).put (by decide) (by decide) (fo_7 (by omega))).put (by decide) (by decide) (fo_8 (by omega))).put (by decide) (by decide) (fo_9 (by omega))).put (by decide) (by decide) (fo_10 (by omega))).row (Or.inl hk17i) (vok_cp1 (((((w9.put6 (hx16) (fo_6 ⟨by omega, by omega⟩) (by omega)).put (by decide) (by decide) (fo_7 (by omega))).put (by decide) (by decide) (fo_8 (by omega))).put (by decide) (by decide) (fo_9 (by omega))).put (by decide) (by decide) (fo_10 (by omega))) hk26i hk17i (by have q9 := hk17; omega))).row (Or.inl hk35i) (vok_cp1 ((((((w9.put6 (hx16) (fo_6 ⟨by omega, by omega⟩) (by omega)).put (by decide) (by decide) (fo_7 (by omega))).put (by decide) (by decide) (fo_8 (by omega))).put (by decide) (by decide) (fo_9 (by omega))).put (by decide) (by decide) (fo_10 (by omega))).row (Or.inl hk17i) (vok_cp1 (((((w9.put6 (hx16) (fo_6 ⟨by omega, by omega⟩) (by omega)).put (by decide) (by decide) (fo_7 (by omega))).put (by decide) (by decide) (fo_8 (by omega))).put (by decide) (by decide) (fo_9 (by omega))).put (by decide) (by decide) (fo_10 (by omega))) hk26i hk17i (by have q9 := hk17; omega))) hk31i hk35i (by have q9 := hk35; omega))) hk39i hk43i (by have q9 := hk43; omega))) hk47i hk51i (by have q9 := hk51; omega))) hk55 hk59)).row (Or.inl hk67i) (vok_cp1 ((((((((((w9.put6 (hx16) (fo_6 ⟨by omega, by omega⟩) (by omega)).put (by decide) (by decide) (fo_7 (by omega))).put (by decide) (by decide) (fo_8 (by omega))).put (by decide) (by decide) (fo_9 (by omega))).put (by decide) (by decide) (fo_10 (by omega))).row (Or.inl hk17i) (vok_cp1 (((((w9.put6 (hx16) (fo_6 ⟨by omega, by omega⟩) (by omega)).put (by decide) (by decide) (fo_7 (by omega))).put (by decide) (by decide) (fo_8 (by omega))).put (by decide) (by decide) (fo_9 (by omega))).put (by decide) (by decide) (fo_10 (by omega))) hk26i hk17i (by have q9 := hk17; omega))).row (Or.inl hk35i) (vok_cp1 ((((((w9.put6 (hx16) (fo_6 ⟨by omega, by omega⟩) (by omega)).put (by decide) (by decide) (fo_7 (by omega))).put (by decide) (by decide) (fo_8 (by omega))).put (by decide) (by decide) (fo_9 (by omega))).put (by decide) (by decide) (fo_10 (by omega))).row (Or.inl hk17i) (vok_cp1 (((((w9.put6 (hx16) (fo_6 ⟨by omega, by omega⟩) (by omega)).put (by decide) (by decide) (fo_7 (by omega))).put (by decide) (by decide) (fo_8 (by omega))).put (by decide) (by decide) (fo_9 (by omega))).put (by decide) (by decide) (fo_10 (by omega))) hk26i hk17i (by have q9 := hk17; omega))) hk31i hk35i (by have q9 := hk35; omega))).row (Or.inl hk43i) (vok_cp1 (((((((w9.put6 (hx16) (fo_6 ⟨by omega, by omega⟩) (by omega)).put (by decide) (by decide) (fo_7 (by omega))).put (by decide) (by decide) (fo_8 (by omega))).put (by decide) (by decide) (fo_9 (by omega))).put (by decide) (by decide) (fo_10 (by omega))).row (Or.inl hk17i) (vok_cp1 (((((w9.put6 (hx16) (fo_6 ⟨by omega, by omega⟩) (by omega)).put (by decide) (by decide) (fo_7 (by omega))).put (by decide) (by decide) (fo_8 (by omega))).put (by decide) (by decide) (fo_9 (by omega))).put (by decide) (by decide) (fo_10 (by omega))) hk26i hk17i (by have q9 := hk17; omega))).row (Or.inl hk35i) (vok_cp1 ((((((w9.put6 (hx16) (fo_6 ⟨by omega, by omega⟩) (by omega)).put (by decide) (by decide) (fo_7 (by omega))).put (by decide) (by decide) (fo_8 (by omega))).put (by decide) (by decide) (fo_9 (by omega))).put (by decide) (by decide) (fo_10 (by omega))).row (Or.inl hk17i) (vok_cp1 (((((w9.put6 (hx16) (fo_6 ⟨by omega, by omega⟩) (by omega)).put (by decide) (by decide) (fo_7 (by omega))).put (by decide) (by decide) (fo_8 (by omega))).put (by decide) (by decide) (fo_9 (by omega))).put (by decide) (by decide) (fo_10 (by omega))) hk26i hk17i (by have q9 := hk17; omega))) hk31i hk35i (by have q9 := hk35; omega))) hk39i hk43i (by have q9 := hk43; omega))).row (Or.inl hk51i) (vok_cp1 ((((((((w9.put6 (hx16) (fo_6 ⟨by omega, by omega⟩) (by omega)).put (by decide) (by decide) (fo_7 (by omega))).put (by decide) (by decide) (fo_8 (by omega))).put (by decide) (by decide) (fo_9 (by omega))).put (by decide) (by decide) (fo_10 (by omega))).row (Or.inl hk17i) (vok_cp1 (((((w9.put6 (hx16) (fo_6 ⟨by omega, by omega⟩) (by omega)).put (by decide) (by decide) (fo_7 (by omega))).put (by decide) (by decide) (fo_8 (by omega))).put (by decide) (by decide) (fo_9 (by omega))).put (by decide) (by decide) (fo_10 (by omega))) hk26i hk17i (by have q9 := hk17; omega))).row (Or.inl hk35i) (vok_cp1 ((((((w9.put6 (hx16) (fo_6 ⟨by omega, by omega⟩) (by omega)).put (by decide) (by decide) (fo_7 (by omega))).put (by decide) (by decide) (fo_8 (by omega))).put (by decide) (by decide) (fo_9 (by omega))).put (by decide) (by decide) (fo_10 (by omega))).row (Or.inl hk17i) (vok_cp1 (((((w9.put6 (hx16) (fo_6 ⟨by omega, by omega⟩) (by omega)).put (by decide) (by decide) (fo_7 (by omega))).put (by decide) (by decide) (fo_8 (by omega))).put (by decide) (by decide) (fo_9 (by omega))).put (by decide) (by decide) (fo_10 (by omega))) hk26i hk17i (by have q9 := hk17; omega))) hk31i hk35i (by have q9 := hk35; omega))).row (Or.inl hk43i) (vok_cp1 (((((((w9.put6 (hx16) (fo_6 ⟨by omega, by omega⟩) (by omega)).put (by decide) (by decide) (fo_7 (by omega))).put (by decide) (by decide) (fo_8 (by omega))).put (by decide) (by decide) (fo_9 (by omega))).put (by decide) (by decide) (fo_10 (by omega))).row (Or.inl hk17i) (vok_cp1 (((((w9.put6 (hx16) (fo_6 ⟨by omega, by omega⟩) (by omega)).put (by decide) (by decide) (fo_7 (by omega))).put (by decide) (by decide) (fo_8 (by omega))).put (by decide) (by decide) (fo_9 (by omega))).put (by decide) (by decide) (fo_10 (by omega))) hk26i hk17i (by have q9 := hk17; omega))).row (Or.inl hk35i) (vok_cp1 ((((((w9.put6 (hx16) (fo_6 ⟨by omega, by omega⟩) (by omega)).put (by decide) (by decide) (fo_7 (by omega))).put (by decide) (by decide) (fo_8 (by omega))).put (by decide) (by decide) (fo_9 (by omega))).put (by decide) (by decide) (fo_10 (by omega))).row (Or.inl hk17i) (vok_cp1 (((((w9.put6 (hx16) (fo_6 ⟨by omega, by omega⟩) (by omega)).put (by decide) (by decide) (fo_7 (by omega))).put (by decide) (by decide) (fo_8 (by omega))).put (by decide) (by decide) (fo_9 (by omega))).put (by decide) (by decide) (fo_10 (by omega))) hk26i hk17i (by have q9 := hk17; omega))) hk31i hk35i (by have q9 := hk35; omega))) hk39i hk43i (by have q9 := hk43; omega))) hk47i hk51i (by have q9 := hk51; omega))).row (Or.inl hk59i) (vok_cp11 (((((((((w9.put6 (hx16) (fo_6 ⟨by omega, by omega⟩) (by omega)).put (by decide) (by decide) (fo_7 (by omega))).put (by decide) (by decide) (fo_8 (by omega))).put (by decide) (by decide) (fo_9 (by omega))).put (by decide) (by decide) (fo_10 (by omega))).row (Or.inl hk17i) (vok_cp1 (((((w9.put6 (hx16) (fo_6 ⟨by omega, by omega⟩) (by omega)).put (by decide) (by decide) (fo_7 (by omega))).put (by decide) (by decide) (fo_8 (by omega))).put (by decide) (by decide) (fo_9 (by omega))).put (by decide) (by decide) (fo_10 (by omega))) hk26i hk17i (by have q9 := hk17; omega))).row (Or.inl hk35i) (vok_cp1 ((((((w9.put6 (hx16) (fo_6 ⟨by omega, by omega⟩) (by omega)).put (by decide) (by decide) (fo_7 (by omega))).put (by decide) (by decide) (fo_8 (by omega))).put (by decide) (by decide) (fo_9 (by omega))).put (by decide) (by decide) (fo_10 (by omega))).row (Or.inl hk17i) (vok_cp1 (((((w9.put6 (hx16) (fo_6 ⟨by omega, by omega⟩) (by omega)).put (by decide) (by decide) (fo_7 (by omega))).put (by decide) (by decide) (fo_8 (by omega))).put (by decide) (by decide) (fo_9 (by omega))).put (by decide) (by decide) (fo_10 (by omega))) hk26i hk17i (by have q9 := hk17; omega))) hk31i hk35i (by have q9 := hk35; omega))).row (Or.inl hk43i) (vok_cp1 (((((((w9.put6 (hx16) (fo_6 ⟨by omega, by omega⟩) (by omega)).put (by decide) (by decide) (fo_7 (by omega))).put (by decide) (by decide) (fo_8 (by omega))).put (by decide) (by decide) (fo_9 (by omega))).put (by decide) (by decide) (fo_10 (by omega))).row (Or.inl hk17i) (vok_cp1 (((((w9.put6 (hx16) (fo_6 ⟨by omega, by omega⟩) (by omega)).put (by decide) (by decide) (fo_7 (by omega))).put (by decide) (by decide) (fo_8 (by omega))).put (by decide) (by decide) (fo_9 (by omega))).put (by decide) (by decide) (fo_10 (by omega))) hk26i hk17i (by have q9 := hk17; omega))).row (Or.inl hk35i) (vok_cp1 ((((((w9.put6 (hx16) (fo_6 ⟨by omega, by omega⟩) (by omega)).put (by decide) (by decide) (fo_7 (by omega))).put (by decide) (by decide) (fo_8 (by omega))).put (by decide) (by decide) (fo_9 (by omega))).put (by decide) (by decide) (fo_10 (by omega))).row (Or.inl hk17i) (vok_cp1 (((((w9.put6 (hx16) (fo_6 ⟨by omega, by omega⟩) (by omega)).put (by decide) (by decide) (fo_7 (by omega))).put (by decide) (by decide) (fo_8 (by omega))).put (by decide) (by decide) (fo_9 (by omega))).put (by decide) (by decide) (fo_10 (by omega))) hk26i hk17i (by have q9 := hk17; omega))) hk31i hk35i (by have q9 := hk35; omega))) hk39i hk43i (by have q9 := hk43; omega))).row (Or.inl hk51i) (vok_cp1 ((((((((w9.put6 (hx16) (fo_6 ⟨by omega, by omega⟩) (by omega)).put (by decide) (by decide) (fo_7 (by omega))).put (by decide) (by decide) (fo_8 (by omega))).put (by decide) (by decide) (fo_9 (by omega))).put (by decide) (by decide) (fo_10 (by omega))).row (Or.inl hk17i) (vok_cp1 (((((w9.put6 (hx16) (fo_6 ⟨by omega, by omega⟩) (by omega)).put (by decide) (by decide) (fo_7 (by omega))).put (by decide) (by decide) (fo_8 (by omega))).put (by decide) (by decide) (fo_9 (by omega))).put (by decide) (by decide) (fo_10 (by omega))) hk26i hk17i (by have q9 := hk17; omega))).row (Or.inl hk35i) (vok_cp1 ((((((w9.put6 (hx16) (fo_6 ⟨by omega, by omega⟩) (by omega)).put (by decide) (by decide) (fo_7 (by omega))).put (by decide) (by decide) (fo_8 (by omega))).put (by decide) (by decide) (fo_9 (by omega))).put (by decide) (by decide) (fo_10 (by omega))).row (Or.inl hk17i) (vok_cp1 (((((w9.put6 (hx16) (fo_6 ⟨by omega, by omega⟩) (by omega)).put (by decide) (by decide) (fo_7 (by omega))).put (by decide) (by decide) (fo_8 (by omega))).put (by decide) (by decide) (fo_9 (by omega))).put (by decide) (by decide) (fo_10 (by omega))) hk26i hk17i (by have q9 := hk17; omega))) hk31i hk35i (by have q9 := hk35; omega))).row (Or.inl hk43i) (vok_cp1 (((((((w9.put6 (hx16) (fo_6 ⟨by omega, by omega⟩) (by omega)).put (by decide) (by decide) (fo_7 (by omega))).put (by decide) (by decide) (fo_8 (by omega))).put (by decide) (by decide) (fo_9 (by omega))).put (by decide) (by decide) (fo_10 (by omega))).row (Or.inl hk17i) (vok_cp1 (((((w9.put6 (hx16) (fo_6 ⟨by omega, by omega⟩) (by omega)).put (by decide) (by decide) (fo_7 (by omega))).put (by decide) (by decide) (fo_8 (by omega))).put (by decide) (by decide) (fo_9 (by omega))).put (by decide) (by decide) (fo_10 (by omega))) hk26i hk17i (by have q9 := hk17; omega))).row (Or.inl hk35i) (vok_cp1 ((((((w9.put6 (hx16) (fo_6 ⟨by omega, by omega⟩) (by omega)).put (by decide) (by decide) (fo_7 (by omega))).put (by decide) (by decide) (fo_8 (by omega))).put (by decide) (by decide) (fo_9 (by omega))).put (by decide) (by decide) (fo_10 (by omega))).row (Or.inl hk17i) (vok_cp1 (((((w9.put6 (hx16) (fo_6 ⟨by omega, by omega⟩) (by omega)).put (by decide) (by decide) (fo_7 (by omega))).put (by decide) (by decide) (fo_8 (by omega))).put (by decide) (by decide) (fo_9 (by omega))).put (by decide) (by decide) (fo_10 (by omega))) hk26i hk17i (by have q9 := hk17; omega))) hk31i hk35i (by have q9 := hk35; omega))) hk39i hk43i (by have q9 := hk43; omega))) hk47i hk51i (by have q9 := hk51; omega))) hk55 hk59)) hk63i hk67i (by have q9 := hk67; omega))), ((((((((((((FrC.rfl.trans (FrC.sub F10 (by decide))).put (by decide) (by decide)).put (by decide) (by decide)).put (by decide) (by decide)).put (by decide) (by decide)).put (by decide) (by decide)).row (hk_no (GT.nh gt5 (nh_k hk17 (by unfold HT; omega))))).row (hk_no (GT.nh gt5 (nh_k hk35 (by unfold HT; omega))))).row (hk_no (GT.nh gt5 (nh_k hk43 (by unfold HT; omega))))).row (hk_no (GT.nh gt5 (nh_k hk51 (by unfold HT; omega))))).row (hk_no (GT.nh gt5 (nh_k hk59 (by unfold HT; omega))))).row (hk_no (GT.nh gt5 (nh_k hk67 (by unfold HT; omega)))))⟩
  · exact tn_vret rfl dX1_copyFrom_11 ⟨rfl, w9, (FrC.rfl.trans (FrC.sub F10 (by decide)))⟩
end
section
theorem cd_X4_isSmall : Cond.code yX4_isSmall cX4_isSmall 2 (some .boolean) ∈ pWW := pw5 (List.mem_of_getElem? (i := 139) rfl) rfl
theorem ini_4 : Cond.initialized RX4 ∈ pWW := pw1 (List.mem_of_getElem? (i := 9) rfl) rfl
abbrev m_X4_isSmall : MT := (yX4_isSmall, cX4_isSmall, 2, (some .boolean))
theorem ok_X4_isSmall : pOk m_X4_isSmall := ⟨⟨cd_X4_isSmall, ini_4⟩, by decide +kernel, ⟨by decide +kernel, by decide +kernel⟩, Nat.le_of_ble_eq_true rfl⟩
theorem np_X4_isSmall : (parseMethodDescriptor yX4_isSmall.desc).map (fun d => d.parameters.length) = some 0 := by decide +kernel
theorem im_X4_isSmall : Cond.instanceMethod yX4_isSmall ∈ pWW := pw5 (List.mem_of_getElem? (i := 138) rfl) rfl
theorem se_X4_isSmall : Cond.selects RX4 yX4_isSmall yX4_isSmall ∈ pWW := pws (List.mem_map.mpr ⟨_, lw_pin 64 rfl, rfl⟩) rfl
theorem fl4_33 : Cond.fieldLink RX4 33 (TX4 3).1 (TX4 3).2.1 (TX4 3).2.2.1 ∈ pWW := pw2 (List.mem_of_getElem? (i := 64) rfl) rfl
theorem fl4_23 : Cond.fieldLink RX4 23 (TX1 1).1 (TX1 1).2.1 (TX1 1).2.2.1 ∈ pWW := pw1 (List.mem_of_getElem? (i := 80) rfl) rfl
theorem ml4_29 : Cond.methodLink RX4 29 yX1_get ∈ pWW := pw5 (List.mem_of_getElem? (i := 135) rfl) rfl
theorem dX4_isSmall_0 : decode cX4_isSmall 0 = .ok (.iconst 0, 1) := by decide +kernel
theorem dX4_isSmall_1 : decode cX4_isSmall 1 = .ok (.istore_n 1, 1) := by decide +kernel
theorem dX4_isSmall_2 : decode cX4_isSmall 2 = .ok (.iload_n 1, 1) := by decide +kernel
theorem dX4_isSmall_3 : decode cX4_isSmall 3 = .ok (.aload_n 0, 1) := by decide +kernel
theorem dX4_isSmall_4 : decode cX4_isSmall 4 = .ok (.getfield 33, 3) := by decide +kernel
theorem dX4_isSmall_7 : decode cX4_isSmall 7 = .ok (.getfield 23, 3) := by decide +kernel
theorem dX4_isSmall_10 : decode cX4_isSmall 10 = .ok (.if_icmp .ge 25, 3) := by decide +kernel
theorem dX4_isSmall_13 : decode cX4_isSmall 13 = .ok (.aload_n 0, 1) := by decide +kernel
theorem dX4_isSmall_14 : decode cX4_isSmall 14 = .ok (.getfield 33, 3) := by decide +kernel
theorem dX4_isSmall_17 : decode cX4_isSmall 17 = .ok (.iload_n 1, 1) := by decide +kernel
theorem dX4_isSmall_18 : decode cX4_isSmall 18 = .ok (.iconst 0, 1) := by decide +kernel
theorem dX4_isSmall_19 : decode cX4_isSmall 19 = .ok (.invokevirtual 29, 3) := by decide +kernel
theorem dX4_isSmall_22 : decode cX4_isSmall 22 = .ok (.bipush 10, 2) := by decide +kernel
theorem dX4_isSmall_24 : decode cX4_isSmall 24 = .ok (.if_icmp .ne 5, 3) := by decide +kernel
theorem dX4_isSmall_29 : decode cX4_isSmall 29 = .ok (.iinc 1 1, 3) := by decide +kernel
theorem dX4_isSmall_32 : decode cX4_isSmall 32 = .ok (.goto (-30), 3) := by decide +kernel
set_option maxRecDepth 20000 in
theorem l_X4_isSmall_2 (d : Nat) {T : CT} {σ : MS} {a : Nat} {post : Option Value → CT → MS → Prop} (h_a : OB T a 4) (hw : WT T σ) (hg : 0 ≤ σ.2.1 26 a) (hx_27 : ∀ (i1 : Int) , (0 ≤ i1 ∧ i1 ≤ 2147483647) → Tn (d + 3) m_X4_isSmall 27 T σ [(0, .ref a), (1, .int (iI i1))] [] post) (hx_35 : ∀ (i1 : Int) , (0 ≤ i1 ∧ i1 ≤ 2147483647) → Tn (d + 3) m_X4_isSmall 35 T σ [(0, .ref a), (1, .int (iI i1))] [] post) : ∀ (n : Nat) (i1 : Int) , (0 ≤ i1 ∧ i1 ≤ 2147483647) → (2147483700 - i1).toNat = n → Tn (d + 3) m_X4_isSmall 2 T σ [(0, .ref a), (1, .int (iI i1))] [] post := by
  intro n
  induction n using Nat.strongRecOn with
  | _ n ih =>
    intro i1 r_i1 hm
    refine tn_iload_n dX4_isSmall_2 rfl 1 rfl ?_
    refine tn_aload_n dX4_isSmall_3 rfl 0 rfl ?_
    have nn8 : 0 ≤ σ.2.1 26 a := (by omega)
    obtain ⟨x5, hx6, hk7⟩ := (wf_26 hw h_a).resolve_left (by omega)
    have hk7o : OB T x5 1 := ⟨by omega, by rw [hk7]; rfl, by omega⟩
    refine tn_getR (ci := 4) (i := 3) (n := 26) (x := x5) dX4_isSmall_4 rfl lay_4 (by decide) fl4_33 h_a rfl rfl (hx6) ?_
    refine tn_getI (ci := 1) (i := 1) (n := 6) (t := σ.2.1 6 x5) dX4_isSmall_7 rfl lay_1 (by decide) fl4_23 hk7o rfl rfl (rfl) ?_
    have g9 : ((0 : Int) ≤ σ.2.1 6 x5 ∧ σ.2.1 6 x5 ≤ 5000) ∧ ((T x5).1 = 50 → σ.2.1 6 x5 ≤ 200) := wf_6 hw hk7o
    have g9x := g9.2
    replace g9 := g9.1
    have g9x := g9x hk7
    refine tn_icmp_ge (tgt := 35) dX4_isSmall_10 (by decide) ⟨by omega, by omega⟩ ⟨by omega, by omega⟩ (fun h10 => ?_) (fun h10 => ?_)
    · exact tn_sub [0, 1] rfl (hx_35 (i1) (by omega))
    · refine tn_aload_n dX4_isSmall_13 rfl 0 rfl ?_
      refine tn_getR (ci := 4) (i := 3) (n := 26) (x := x5) dX4_isSmall_14 rfl lay_4 (by decide) fl4_33 h_a rfl rfl (hx6) ?_
      refine tn_iload_n dX4_isSmall_17 rfl 1 rfl ?_
      refine tn_iconst dX4_isSmall_18 ?_
      refine tn_callV (M := m_X4_isSmall) (pc := 19) (ix := 29) (ci := 1) (M' := m_X1_get) (As := [.int (iI i1), .int (iI 0)]) (rest := []) dX4_isSmall_19 ok_X1_get im_X1_get se_X1_get ml4_29 np_X1_get rfl rfl hk7o rfl (Nat.le_of_ble_eq_true rfl) (Nat.le_of_ble_eq_true rfl) rfl (k_X1_get (d + 1) (T := T) (σ := σ) (a := x5) (k := i1) (c := 0) hk7o (by omega) (by decide) hw (by omega)) (fun r11 T13 σ12 gt14 hp => ?_)
      obtain ⟨v16, rfl, rfl, rfl, f15⟩ := hp
      clear gt14
      show Tn _ _ 22 T σ [(0, .ref a), (1, .int (iI i1))] [.int (iI v16)] _
      refine tn_bipush dX4_isSmall_22 (by decide) ?_
      refine tn_icmp_ne (tgt := 29) dX4_isSmall_24 (by decide) ⟨by omega, by omega⟩ ⟨by decide, by decide⟩ (fun h17 => ?_) (fun h17 => ?_)
      · refine tn_iinc (q0 := 1) (L' := [(1, .int (iI (i1 + 1))), (0, .ref a)]) dX4_isSmall_29 rfl (by decide) rfl ?_
        refine tn_goto (tgt := 2) dX4_isSmall_32 (by decide) ?_
        exact tn_sub [1, 0] rfl (ih _ (by omega) (i1 + 1) (by omega) rfl)
      · exact tn_sub [0, 1] rfl (hx_27 (i1) (by omega))
theorem ml4_44 : Cond.methodLink RX4 44 yX1_acts ∈ pWW := pw5 (List.mem_of_getElem? (i := 140) rfl) rfl
theorem dX4_isSmall_27 : decode cX4_isSmall 27 = .ok (.iconst 0, 1) := by decide +kernel
theorem dX4_isSmall_28 : decode cX4_isSmall 28 = .ok (.ireturn, 1) := by decide +kernel
theorem dX4_isSmall_35 : decode cX4_isSmall 35 = .ok (.aload_n 0, 1) := by decide +kernel
theorem dX4_isSmall_36 : decode cX4_isSmall 36 = .ok (.getfield 33, 3) := by decide +kernel
theorem dX4_isSmall_39 : decode cX4_isSmall 39 = .ok (.invokevirtual 44, 3) := by decide +kernel
theorem dX4_isSmall_42 : decode cX4_isSmall 42 = .ok (.bipush 20, 2) := by decide +kernel
theorem dX4_isSmall_44 : decode cX4_isSmall 44 = .ok (.if_icmp .gt 7, 3) := by decide +kernel
theorem dX4_isSmall_51 : decode cX4_isSmall 51 = .ok (.iconst 0, 1) := by decide +kernel
theorem dX4_isSmall_52 : decode cX4_isSmall 52 = .ok (.ireturn, 1) := by decide +kernel
theorem dX4_isSmall_47 : decode cX4_isSmall 47 = .ok (.iconst 1, 1) := by decide +kernel
theorem dX4_isSmall_48 : decode cX4_isSmall 48 = .ok (.goto 4, 3) := by decide +kernel
set_option maxRecDepth 20000 in
theorem k_X4_isSmall (d : Nat) {T : CT} {σ : MS} {a : Nat} (ha : OB T a 4) (hw : WT T σ) (hg : 0 ≤ σ.2.1 26 a) : Tn (d + 3) m_X4_isSmall 0 T σ [(0, .ref a)] [] (fun ro T2 σ2 => ∃ v : Int, ro = some (.int (iI v)) ∧ T = T2 ∧ σ = σ2 ∧ (v = 0 ∨ v = 1)) := by
  refine tn_iconst dX4_isSmall_0 ?_
  refine tn_istore_n (L' := [(1, .int (iI 0)), (0, .ref a)]) dX4_isSmall_1 rfl (by decide) rfl ?_
  refine tn_sub [1, 0] rfl (l_X4_isSmall_2 (d) (T := T) (σ := σ) (a := a) ha hw (by omega) (fun i11 r7 => ?_) (fun i18 r14 => ?_) _ (0) (by omega) rfl)
  · show Tn _ _ 27 T σ [(0, .ref a), (1, .int (iI i11))] [] _
    refine tn_iconst dX4_isSmall_27 ?_
    exact tn_zret (v := 0) rfl (by decide) dX4_isSmall_28 ⟨_, rfl, rfl, rfl, by omega⟩
  · show Tn _ _ 35 T σ [(0, .ref a), (1, .int (iI i18))] [] _
    refine tn_aload_n dX4_isSmall_35 rfl 0 rfl ?_
    have nn22 : 0 ≤ σ.2.1 26 a := (by omega)
    obtain ⟨x19, hx20, hk21⟩ := (wf_26 hw ha).resolve_left (by omega)
    have hk21o : OB T x19 1 := ⟨by omega, by rw [hk21]; rfl, by omega⟩
    refine tn_getR (ci := 4) (i := 3) (n := 26) (x := x19) dX4_isSmall_36 rfl lay_4 (by decide) fl4_33 ha rfl rfl (hx20) ?_
    refine tn_callV (M := m_X4_isSmall) (pc := 39) (ix := 44) (ci := 1) (M' := m_X1_acts) (As := []) (rest := []) dX4_isSmall_39 ok_X1_acts im_X1_acts se_X1_acts ml4_44 np_X1_acts rfl rfl hk21o rfl (Nat.le_of_ble_eq_true rfl) (Nat.le_of_ble_eq_true rfl) rfl (k_X1_acts (d) (T := T) (σ := σ) (a := x19) hk21o hw ) (fun r23 T25 σ24 gt26 hp => ?_)
    obtain ⟨v28, rfl, rfl, rfl, f27⟩ := hp
    clear gt26
    show Tn _ _ 42 T σ [(0, .ref a), (1, .int (iI i18))] [.int (iI v28)] _
    refine tn_bipush dX4_isSmall_42 (by decide) ?_
    refine tn_icmp_gt (tgt := 51) dX4_isSmall_44 (by decide) ⟨by omega, by omega⟩ ⟨by decide, by decide⟩ (fun h29 => ?_) (fun h29 => ?_)
    · refine tn_iconst dX4_isSmall_51 ?_
      exact tn_zret (v := 0) rfl (by decide) dX4_isSmall_52 ⟨_, rfl, rfl, rfl, by omega⟩
    · refine tn_iconst dX4_isSmall_47 ?_
      refine tn_goto (tgt := 52) dX4_isSmall_48 (by decide) ?_
      exact tn_zret (v := 1) rfl (by decide) dX4_isSmall_52 ⟨_, rfl, rfl, rfl, by omega⟩
end
section
theorem cd_X4_needsNought : Cond.code yX4_needsNought cX4_needsNought 3 (some .boolean) ∈ pWW := pw5 (List.mem_of_getElem? (i := 158) rfl) rfl
abbrev m_X4_needsNought : MT := (yX4_needsNought, cX4_needsNought, 3, (some .boolean))
theorem ok_X4_needsNought : pOk m_X4_needsNought := ⟨⟨cd_X4_needsNought, ini_4⟩, by decide +kernel, ⟨by decide +kernel, by decide +kernel⟩, Nat.le_of_ble_eq_true rfl⟩
theorem np_X4_needsNought : (parseMethodDescriptor yX4_needsNought.desc).map (fun d => d.parameters.length) = some 1 := by decide +kernel
theorem im_X4_needsNought : Cond.instanceMethod yX4_needsNought ∈ pWW := pw5 (List.mem_of_getElem? (i := 157) rfl) rfl
theorem se_X4_needsNought : Cond.selects RX4 yX4_needsNought yX4_needsNought ∈ pWW := pws (List.mem_map.mpr ⟨_, lw_pin 67 rfl, rfl⟩) rfl
theorem fl4_15 : Cond.fieldLink RX4 15 (TX4 0).1 (TX4 0).2.1 (TX4 0).2.2.1 ∈ pWW := pw2 (List.mem_of_getElem? (i := 61) rfl) rfl
theorem fl4_114 : Cond.fieldLink RX4 114 (TX3 0).1 (TX3 0).2.1 (TX3 0).2.2.1 ∈ pWW := pw1 (List.mem_of_getElem? (i := 222) rfl) rfl
theorem nl4_118 : (RX4, 118, yX11_has, "LineKeeper") ∈ nst_M := List.mem_of_getElem? (i := 36) rfl
theorem fl4_108 : Cond.fieldLink RX4 108 (TX1 3).1 (TX1 3).2.1 (TX1 3).2.2.1 ∈ pWW := pw1 (List.mem_of_getElem? (i := 94) rfl) rfl
theorem ml4_122 : Cond.methodLink RX4 122 yX1_homeOf ∈ pWW := pw5 (List.mem_of_getElem? (i := 160) rfl) rfl
theorem dX4_needsNought_0 : decode cX4_needsNought 0 = .ok (.aload_n 0, 1) := by decide +kernel
theorem dX4_needsNought_1 : decode cX4_needsNought 1 = .ok (.getfield 15, 3) := by decide +kernel
theorem dX4_needsNought_4 : decode cX4_needsNought 4 = .ok (.getfield 114, 3) := by decide +kernel
theorem dX4_needsNought_7 : decode cX4_needsNought 7 = .ok (.iconst 0, 1) := by decide +kernel
theorem dX4_needsNought_8 : decode cX4_needsNought 8 = .ok (.iload_n 1, 1) := by decide +kernel
theorem dX4_needsNought_9 : decode cX4_needsNought 9 = .ok (.invokestatic 118, 3) := by decide +kernel
theorem dX4_needsNought_12 : decode cX4_needsNought 12 = .ok (.ifCond .ne 5, 3) := by decide +kernel
theorem dX4_needsNought_17 : decode cX4_needsNought 17 = .ok (.iconst 0, 1) := by decide +kernel
theorem dX4_needsNought_18 : decode cX4_needsNought 18 = .ok (.istore_n 2, 1) := by decide +kernel
theorem dX4_needsNought_19 : decode cX4_needsNought 19 = .ok (.iload_n 2, 1) := by decide +kernel
theorem dX4_needsNought_20 : decode cX4_needsNought 20 = .ok (.aload_n 0, 1) := by decide +kernel
theorem dX4_needsNought_21 : decode cX4_needsNought 21 = .ok (.getfield 33, 3) := by decide +kernel
theorem dX4_needsNought_24 : decode cX4_needsNought 24 = .ok (.getfield 108, 3) := by decide +kernel
theorem dX4_needsNought_27 : decode cX4_needsNought 27 = .ok (.if_icmp .ge 24, 3) := by decide +kernel
theorem dX4_needsNought_30 : decode cX4_needsNought 30 = .ok (.aload_n 0, 1) := by decide +kernel
theorem dX4_needsNought_31 : decode cX4_needsNought 31 = .ok (.getfield 33, 3) := by decide +kernel
theorem dX4_needsNought_34 : decode cX4_needsNought 34 = .ok (.iconst 0, 1) := by decide +kernel
theorem dX4_needsNought_35 : decode cX4_needsNought 35 = .ok (.iload_n 2, 1) := by decide +kernel
theorem dX4_needsNought_36 : decode cX4_needsNought 36 = .ok (.invokevirtual 122, 3) := by decide +kernel
theorem dX4_needsNought_39 : decode cX4_needsNought 39 = .ok (.iload_n 1, 1) := by decide +kernel
theorem dX4_needsNought_40 : decode cX4_needsNought 40 = .ok (.if_icmp .ne 5, 3) := by decide +kernel
theorem dX4_needsNought_45 : decode cX4_needsNought 45 = .ok (.iinc 2 1, 3) := by decide +kernel
theorem dX4_needsNought_48 : decode cX4_needsNought 48 = .ok (.goto (-29), 3) := by decide +kernel
set_option maxRecDepth 20000 in
theorem l_X4_needsNought_19 (d : Nat) {T : CT} {σ : MS} {a : Nat} {c1 : Int} {post : Option Value → CT → MS → Prop} (h_a : OB T a 4) (r_c1 : -2147483648 ≤ c1 ∧ c1 ≤ 2147483647) (hw : WT T σ) (hg : 0 ≤ σ.2.1 26 a) (hx_43 : ∀ (i2 : Int) , (0 ≤ i2 ∧ i2 ≤ 2147483647) → Tn (d + 3) m_X4_needsNought 43 T σ [(0, .ref a), (1, .int (iI c1)), (2, .int (iI i2))] [] post) (hx_51 : ∀ (i2 : Int) , (0 ≤ i2 ∧ i2 ≤ 2147483647) → Tn (d + 3) m_X4_needsNought 51 T σ [(0, .ref a), (1, .int (iI c1)), (2, .int (iI i2))] [] post) : ∀ (n : Nat) (i2 : Int) , (0 ≤ i2 ∧ i2 ≤ 2147483647) → (2147483700 - i2).toNat = n → Tn (d + 3) m_X4_needsNought 19 T σ [(0, .ref a), (1, .int (iI c1)), (2, .int (iI i2))] [] post := by
  intro n
  induction n using Nat.strongRecOn with
  | _ n ih =>
    intro i2 r_i2 hm
    refine tn_iload_n dX4_needsNought_19 rfl 2 rfl ?_
    refine tn_aload_n dX4_needsNought_20 rfl 0 rfl ?_
    have nn8 : 0 ≤ σ.2.1 26 a := (by omega)
    obtain ⟨x5, hx6, hk7⟩ := (wf_26 hw h_a).resolve_left (by omega)
    have hk7o : OB T x5 1 := ⟨by omega, by rw [hk7]; rfl, by omega⟩
    refine tn_getR (ci := 4) (i := 3) (n := 26) (x := x5) dX4_needsNought_21 rfl lay_4 (by decide) fl4_33 h_a rfl rfl (hx6) ?_
    refine tn_getI (ci := 1) (i := 3) (n := 8) (t := σ.2.1 8 x5) dX4_needsNought_24 rfl lay_1 (by decide) fl4_108 hk7o rfl rfl (rfl) ?_
    have g9 : ((0 : Int) ≤ σ.2.1 8 x5 ∧ σ.2.1 8 x5 ≤ 4) := wf_8 hw hk7o
    refine tn_icmp_ge (tgt := 51) dX4_needsNought_27 (by decide) ⟨by omega, by omega⟩ ⟨by omega, by omega⟩ (fun h10 => ?_) (fun h10 => ?_)
    · exact tn_sub [0, 1, 2] rfl (hx_51 (i2) (by omega))
    · refine tn_aload_n dX4_needsNought_30 rfl 0 rfl ?_
      refine tn_getR (ci := 4) (i := 3) (n := 26) (x := x5) dX4_needsNought_31 rfl lay_4 (by decide) fl4_33 h_a rfl rfl (hx6) ?_
      refine tn_iconst dX4_needsNought_34 ?_
      refine tn_iload_n dX4_needsNought_35 rfl 2 rfl ?_
      refine tn_callV (M := m_X4_needsNought) (pc := 36) (ix := 122) (ci := 1) (M' := m_X1_homeOf) (As := [.int (iI 0), .int (iI i2)]) (rest := []) dX4_needsNought_36 ok_X1_homeOf im_X1_homeOf se_X1_homeOf ml4_122 np_X1_homeOf rfl rfl hk7o rfl (Nat.le_of_ble_eq_true rfl) (Nat.le_of_ble_eq_true rfl) rfl (k_X1_homeOf (d) (T := T) (σ := σ) (a := x5) (f := 0) (m := i2) hk7o (by decide) (by omega) hw ) (fun r11 T13 σ12 gt14 hp => ?_)
      obtain ⟨v16, rfl, rfl, rfl, f15⟩ := hp
      clear gt14
      show Tn _ _ 39 T σ [(0, .ref a), (1, .int (iI c1)), (2, .int (iI i2))] [.int (iI v16)] _
      refine tn_iload_n dX4_needsNought_39 rfl 1 rfl ?_
      refine tn_icmp_ne (tgt := 45) dX4_needsNought_40 (by decide) ⟨by omega, by omega⟩ ⟨by omega, by omega⟩ (fun h17 => ?_) (fun h17 => ?_)
      · refine tn_iinc (q0 := 2) (L' := [(2, .int (iI (i2 + 1))), (0, .ref a), (1, .int (iI c1))]) dX4_needsNought_45 rfl (by decide) rfl ?_
        refine tn_goto (tgt := 19) dX4_needsNought_48 (by decide) ?_
        exact tn_sub [1, 2, 0] rfl (ih _ (by omega) (i2 + 1) (by omega) rfl)
      · exact tn_sub [0, 1, 2] rfl (hx_43 (i2) (by omega))
theorem dX4_needsNought_43 : decode cX4_needsNought 43 = .ok (.iconst 0, 1) := by decide +kernel
theorem dX4_needsNought_44 : decode cX4_needsNought 44 = .ok (.ireturn, 1) := by decide +kernel
theorem dX4_needsNought_51 : decode cX4_needsNought 51 = .ok (.iconst 1, 1) := by decide +kernel
theorem dX4_needsNought_52 : decode cX4_needsNought 52 = .ok (.ireturn, 1) := by decide +kernel
theorem dX4_needsNought_15 : decode cX4_needsNought 15 = .ok (.iconst 0, 1) := by decide +kernel
theorem dX4_needsNought_16 : decode cX4_needsNought 16 = .ok (.ireturn, 1) := by decide +kernel
set_option maxRecDepth 20000 in
theorem k_X4_needsNought (d : Nat) {T : CT} {σ : MS} {a : Nat} {p1 : Int} (ha : OB T a 4) (h_p1 : -2147483648 ≤ p1 ∧ p1 ≤ 2147483647) (hw : WT T σ) (hg : 0 ≤ σ.2.1 26 a) : Tn (d + 3) m_X4_needsNought 0 T σ [(0, .ref a), (1, .int (iI p1))] [] (fun ro T2 σ2 => ∃ v : Int, ro = some (.int (iI v)) ∧ T = T2 ∧ σ = σ2 ∧ (v = 0 ∨ v = 1)) := by
  refine tn_aload_n dX4_needsNought_0 rfl 0 rfl ?_
  obtain ⟨x1, hx2, hk3⟩ : ∃ x : Nat, σ.2.1 23 a = (x : Int) ∧ (T x).1 = 33 := wf_23 hw ha
  have hk3o : OB T x1 3 := ⟨by omega, by rw [hk3]; rfl, by omega⟩
  refine tn_getR (ci := 4) (i := 0) (n := 23) (x := x1) dX4_needsNought_1 rfl lay_4 (by decide) fl4_15 ha rfl rfl (hx2) ?_
  obtain ⟨x5, hx6, hk7, hl8⟩ : ∃ x : Nat, σ.2.1 18 x1 = (x : Int) ∧ AR T x 3 603 603 := wf_18 hw hk3o
  refine tn_getR (ci := 3) (i := 0) (n := 18) (x := x5) dX4_needsNought_4 rfl lay_3 (by decide) fl4_114 hk3o rfl rfl (hx6) ?_
  refine tn_iconst dX4_needsNought_7 ?_
  refine tn_iload_n dX4_needsNought_8 rfl 1 rfl ?_
  refine tn_callSN (M := m_X4_needsNought) (pc := 9) (ix := 118) (M' := m_X11_has) (As := [.ref x5, .int (iI 0), .int (iI p1)]) (rest := []) dX4_needsNought_9 ok_X11_has stt_X11_has nl4_118 np_X11_has rfl (Nat.le_of_ble_eq_true rfl) (Nat.le_of_ble_eq_true rfl) rfl (k_X11_has (d) (T := T) (σ := σ) (x := x5) (k := 0) (r := p1) hk7 (by omega) (by decide) (by omega) hw ) (fun r9 T11 σ10 gt12 hp => ?_)
  obtain ⟨v14, rfl, rfl, rfl, f13⟩ := hp
  clear gt12
  show Tn _ _ 12 T σ [(0, .ref a), (1, .int (iI p1))] [.int (iI v14)] _
  refine tn_if_ne (tgt := 17) dX4_needsNought_12 (by decide) ⟨by omega, by omega⟩ (fun h15 => ?_) (fun h15 => ?_)
  · refine tn_iconst dX4_needsNought_17 ?_
    refine tn_istore_n (L' := [(2, .int (iI 0)), (0, .ref a), (1, .int (iI p1))]) dX4_needsNought_18 rfl (by decide) rfl ?_
    refine tn_sub [1, 2, 0] rfl (l_X4_needsNought_19 (d) (T := T) (σ := σ) (a := a) (c1 := p1) ha (by omega) hw (by omega) (fun i216 r22 => ?_) (fun i223 r29 => ?_) _ (0) (by omega) rfl)
    · show Tn _ _ 43 T σ [(0, .ref a), (1, .int (iI p1)), (2, .int (iI i216))] [] _
      refine tn_iconst dX4_needsNought_43 ?_
      exact tn_zret (v := 0) rfl (by decide) dX4_needsNought_44 ⟨_, rfl, rfl, rfl, by omega⟩
    · show Tn _ _ 51 T σ [(0, .ref a), (1, .int (iI p1)), (2, .int (iI i223))] [] _
      refine tn_iconst dX4_needsNought_51 ?_
      exact tn_zret (v := 1) rfl (by decide) dX4_needsNought_52 ⟨_, rfl, rfl, rfl, by omega⟩
  · refine tn_iconst dX4_needsNought_15 ?_
    exact tn_zret (v := 0) rfl (by decide) dX4_needsNought_16 ⟨_, rfl, rfl, rfl, by omega⟩
end
section
theorem cd_X4_rowsNeeded : Cond.code yX4_rowsNeeded cX4_rowsNeeded 3 (some .int) ∈ pWW := pw5 (List.mem_of_getElem? (i := 154) rfl) rfl
abbrev m_X4_rowsNeeded : MT := (yX4_rowsNeeded, cX4_rowsNeeded, 3, (some .int))
theorem ok_X4_rowsNeeded : pOk m_X4_rowsNeeded := ⟨⟨cd_X4_rowsNeeded, ini_4⟩, by decide +kernel, ⟨by decide +kernel, by decide +kernel⟩, Nat.le_of_ble_eq_true rfl⟩
theorem np_X4_rowsNeeded : (parseMethodDescriptor yX4_rowsNeeded.desc).map (fun d => d.parameters.length) = some 0 := by decide +kernel
theorem im_X4_rowsNeeded : Cond.instanceMethod yX4_rowsNeeded ∈ pWW := pw5 (List.mem_of_getElem? (i := 153) rfl) rfl
theorem se_X4_rowsNeeded : Cond.selects RX4 yX4_rowsNeeded yX4_rowsNeeded ∈ pWW := pws (List.mem_map.mpr ⟨_, lw_pin 66 rfl, rfl⟩) rfl
theorem fl4_105 : Cond.fieldLink RX4 105 (TX1 2).1 (TX1 2).2.1 (TX1 2).2.2.1 ∈ pWW := pw1 (List.mem_of_getElem? (i := 88) rfl) rfl
theorem dX4_rowsNeeded_0 : decode cX4_rowsNeeded 0 = .ok (.iconst 3, 1) := by decide +kernel
theorem dX4_rowsNeeded_1 : decode cX4_rowsNeeded 1 = .ok (.aload_n 0, 1) := by decide +kernel
theorem dX4_rowsNeeded_2 : decode cX4_rowsNeeded 2 = .ok (.getfield 33, 3) := by decide +kernel
theorem dX4_rowsNeeded_5 : decode cX4_rowsNeeded 5 = .ok (.getfield 23, 3) := by decide +kernel
theorem dX4_rowsNeeded_8 : decode cX4_rowsNeeded 8 = .ok (.iadd, 1) := by decide +kernel
theorem dX4_rowsNeeded_9 : decode cX4_rowsNeeded 9 = .ok (.aload_n 0, 1) := by decide +kernel
theorem dX4_rowsNeeded_10 : decode cX4_rowsNeeded 10 = .ok (.getfield 33, 3) := by decide +kernel
theorem dX4_rowsNeeded_13 : decode cX4_rowsNeeded 13 = .ok (.getfield 105, 3) := by decide +kernel
theorem dX4_rowsNeeded_16 : decode cX4_rowsNeeded 16 = .ok (.iadd, 1) := by decide +kernel
theorem dX4_rowsNeeded_17 : decode cX4_rowsNeeded 17 = .ok (.aload_n 0, 1) := by decide +kernel
theorem dX4_rowsNeeded_18 : decode cX4_rowsNeeded 18 = .ok (.getfield 33, 3) := by decide +kernel
theorem dX4_rowsNeeded_21 : decode cX4_rowsNeeded 21 = .ok (.getfield 108, 3) := by decide +kernel
theorem dX4_rowsNeeded_24 : decode cX4_rowsNeeded 24 = .ok (.iadd, 1) := by decide +kernel
theorem dX4_rowsNeeded_25 : decode cX4_rowsNeeded 25 = .ok (.istore_n 1, 1) := by decide +kernel
theorem dX4_rowsNeeded_26 : decode cX4_rowsNeeded 26 = .ok (.iconst 0, 1) := by decide +kernel
theorem dX4_rowsNeeded_27 : decode cX4_rowsNeeded 27 = .ok (.istore_n 2, 1) := by decide +kernel
theorem dX4_rowsNeeded_28 : decode cX4_rowsNeeded 28 = .ok (.iload_n 2, 1) := by decide +kernel
theorem dX4_rowsNeeded_29 : decode cX4_rowsNeeded 29 = .ok (.aload_n 0, 1) := by decide +kernel
theorem dX4_rowsNeeded_30 : decode cX4_rowsNeeded 30 = .ok (.getfield 33, 3) := by decide +kernel
theorem dX4_rowsNeeded_33 : decode cX4_rowsNeeded 33 = .ok (.getfield 23, 3) := by decide +kernel
theorem dX4_rowsNeeded_36 : decode cX4_rowsNeeded 36 = .ok (.if_icmp .ge 31, 3) := by decide +kernel
theorem dX4_rowsNeeded_39 : decode cX4_rowsNeeded 39 = .ok (.iload_n 1, 1) := by decide +kernel
theorem dX4_rowsNeeded_40 : decode cX4_rowsNeeded 40 = .ok (.aload_n 0, 1) := by decide +kernel
theorem dX4_rowsNeeded_41 : decode cX4_rowsNeeded 41 = .ok (.getfield 33, 3) := by decide +kernel
theorem dX4_rowsNeeded_44 : decode cX4_rowsNeeded 44 = .ok (.iload_n 2, 1) := by decide +kernel
theorem dX4_rowsNeeded_45 : decode cX4_rowsNeeded 45 = .ok (.iconst 0, 1) := by decide +kernel
theorem dX4_rowsNeeded_46 : decode cX4_rowsNeeded 46 = .ok (.invokevirtual 29, 3) := by decide +kernel
theorem dX4_rowsNeeded_49 : decode cX4_rowsNeeded 49 = .ok (.bipush 7, 2) := by decide +kernel
theorem dX4_rowsNeeded_51 : decode cX4_rowsNeeded 51 = .ok (.if_icmp .ne 7, 3) := by decide +kernel
theorem dX4_rowsNeeded_58 : decode cX4_rowsNeeded 58 = .ok (.iconst 0, 1) := by decide +kernel
theorem dX4_rowsNeeded_59 : decode cX4_rowsNeeded 59 = .ok (.iadd, 1) := by decide +kernel
theorem dX4_rowsNeeded_60 : decode cX4_rowsNeeded 60 = .ok (.istore_n 1, 1) := by decide +kernel
theorem dX4_rowsNeeded_61 : decode cX4_rowsNeeded 61 = .ok (.iinc 2 1, 3) := by decide +kernel
theorem dX4_rowsNeeded_64 : decode cX4_rowsNeeded 64 = .ok (.goto (-36), 3) := by decide +kernel
theorem dX4_rowsNeeded_54 : decode cX4_rowsNeeded 54 = .ok (.iconst 1, 1) := by decide +kernel
theorem dX4_rowsNeeded_55 : decode cX4_rowsNeeded 55 = .ok (.goto 4, 3) := by decide +kernel
set_option maxRecDepth 20000 in
theorem l_X4_rowsNeeded_28 (d : Nat) {T : CT} {σ : MS} {a : Nat} {post : Option Value → CT → MS → Prop} (h_a : OB T a 4) (hw : WT T σ) (hg : 0 ≤ σ.2.1 26 a) (hx_67 : ∀ (i1 : Int) (i2 : Int) , (0 ≤ i1 ∧ i1 ≤ 419) → (0 ≤ i2 ∧ i2 ≤ 200) → (i1 ≤ 219 + i2) → Tn (d + 4) m_X4_rowsNeeded 67 T σ [(0, .ref a), (1, .int (iI i1)), (2, .int (iI i2))] [] post) : ∀ (n : Nat) (i1 : Int) (i2 : Int) , (0 ≤ i1 ∧ i1 ≤ 419) → (0 ≤ i2 ∧ i2 ≤ 200) → (i1 ≤ 219 + i2) → (2147483700 - i2).toNat = n → Tn (d + 4) m_X4_rowsNeeded 28 T σ [(0, .ref a), (1, .int (iI i1)), (2, .int (iI i2))] [] post := by
  intro n
  induction n using Nat.strongRecOn with
  | _ n ih =>
    intro i1 i2 r_i1 r_i2 h0 hm
    refine tn_iload_n dX4_rowsNeeded_28 rfl 2 rfl ?_
    refine tn_aload_n dX4_rowsNeeded_29 rfl 0 rfl ?_
    have nn8 : 0 ≤ σ.2.1 26 a := (by omega)
    obtain ⟨x5, hx6, hk7⟩ := (wf_26 hw h_a).resolve_left (by omega)
    have hk7o : OB T x5 1 := ⟨by omega, by rw [hk7]; rfl, by omega⟩
    refine tn_getR (ci := 4) (i := 3) (n := 26) (x := x5) dX4_rowsNeeded_30 rfl lay_4 (by decide) fl4_33 h_a rfl rfl (hx6) ?_
    refine tn_getI (ci := 1) (i := 1) (n := 6) (t := σ.2.1 6 x5) dX4_rowsNeeded_33 rfl lay_1 (by decide) fl4_23 hk7o rfl rfl (rfl) ?_
    have g9 : ((0 : Int) ≤ σ.2.1 6 x5 ∧ σ.2.1 6 x5 ≤ 5000) ∧ ((T x5).1 = 50 → σ.2.1 6 x5 ≤ 200) := wf_6 hw hk7o
    have g9x := g9.2
    replace g9 := g9.1
    have g9x := g9x hk7
    refine tn_icmp_ge (tgt := 67) dX4_rowsNeeded_36 (by decide) ⟨by omega, by omega⟩ ⟨by omega, by omega⟩ (fun h10 => ?_) (fun h10 => ?_)
    · exact tn_sub [0, 1, 2] rfl (hx_67 (i1) (i2) (by omega) (by omega) (by omega))
    · refine tn_iload_n dX4_rowsNeeded_39 rfl 1 rfl ?_
      refine tn_aload_n dX4_rowsNeeded_40 rfl 0 rfl ?_
      refine tn_getR (ci := 4) (i := 3) (n := 26) (x := x5) dX4_rowsNeeded_41 rfl lay_4 (by decide) fl4_33 h_a rfl rfl (hx6) ?_
      refine tn_iload_n dX4_rowsNeeded_44 rfl 2 rfl ?_
      refine tn_iconst dX4_rowsNeeded_45 ?_
      refine tn_callV (M := m_X4_rowsNeeded) (pc := 46) (ix := 29) (ci := 1) (M' := m_X1_get) (As := [.int (iI i2), .int (iI 0)]) (rest := [.int (iI i1)]) dX4_rowsNeeded_46 ok_X1_get im_X1_get se_X1_get ml4_29 np_X1_get rfl rfl hk7o rfl (Nat.le_of_ble_eq_true rfl) (Nat.le_of_ble_eq_true rfl) rfl (k_X1_get (d + 2) (T := T) (σ := σ) (a := x5) (k := i2) (c := 0) hk7o (by omega) (by decide) hw (by omega)) (fun r11 T13 σ12 gt14 hp => ?_)
      obtain ⟨v16, rfl, rfl, rfl, f15⟩ := hp
      clear gt14
      show Tn _ _ 49 T σ [(0, .ref a), (1, .int (iI i1)), (2, .int (iI i2))] [.int (iI v16), .int (iI i1)] _
      refine tn_bipush dX4_rowsNeeded_49 (by decide) ?_
      refine tn_icmp_ne (tgt := 58) dX4_rowsNeeded_51 (by decide) ⟨by omega, by omega⟩ ⟨by decide, by decide⟩ (fun h17 => ?_) (fun h17 => ?_)
      · refine tn_iconst dX4_rowsNeeded_58 ?_
        refine tn_iadd dX4_rowsNeeded_59 ?_
        refine tn_istore_n (L' := [(1, .int (iI (i1 + 0))), (0, .ref a), (2, .int (iI i2))]) dX4_rowsNeeded_60 rfl (by decide) rfl ?_
        refine tn_iinc (q0 := 2) (L' := [(2, .int (iI (i2 + 1))), (1, .int (iI (i1 + 0))), (0, .ref a)]) dX4_rowsNeeded_61 rfl (by decide) rfl ?_
        refine tn_goto (tgt := 28) dX4_rowsNeeded_64 (by decide) ?_
        exact tn_sub [2, 1, 0] rfl (ih _ (by omega) (i1 + 0) (i2 + 1) (by omega) (by omega) (by omega) rfl)
      · refine tn_iconst dX4_rowsNeeded_54 ?_
        refine tn_goto (tgt := 59) dX4_rowsNeeded_55 (by decide) ?_
        refine tn_iadd dX4_rowsNeeded_59 ?_
        refine tn_istore_n (L' := [(1, .int (iI (i1 + 1))), (0, .ref a), (2, .int (iI i2))]) dX4_rowsNeeded_60 rfl (by decide) rfl ?_
        refine tn_iinc (q0 := 2) (L' := [(2, .int (iI (i2 + 1))), (1, .int (iI (i1 + 1))), (0, .ref a)]) dX4_rowsNeeded_61 rfl (by decide) rfl ?_
        refine tn_goto (tgt := 28) dX4_rowsNeeded_64 (by decide) ?_
        exact tn_sub [2, 1, 0] rfl (ih _ (by omega) (i1 + 1) (i2 + 1) (by omega) (by omega) (by omega) rfl)
theorem ml4_111 : Cond.methodLink RX4 111 yX4_needsNought ∈ pWW := pw5 (List.mem_of_getElem? (i := 155) rfl) rfl
theorem dX4_rowsNeeded_67 : decode cX4_rowsNeeded 67 = .ok (.iconst 0, 1) := by decide +kernel
theorem dX4_rowsNeeded_68 : decode cX4_rowsNeeded 68 = .ok (.istore_n 2, 1) := by decide +kernel
theorem dX4_rowsNeeded_69 : decode cX4_rowsNeeded 69 = .ok (.iload_n 2, 1) := by decide +kernel
theorem dX4_rowsNeeded_70 : decode cX4_rowsNeeded 70 = .ok (.sipush 192, 3) := by decide +kernel
theorem dX4_rowsNeeded_73 : decode cX4_rowsNeeded 73 = .ok (.if_icmp .ge 25, 3) := by decide +kernel
theorem dX4_rowsNeeded_76 : decode cX4_rowsNeeded 76 = .ok (.iload_n 1, 1) := by decide +kernel
theorem dX4_rowsNeeded_77 : decode cX4_rowsNeeded 77 = .ok (.aload_n 0, 1) := by decide +kernel
theorem dX4_rowsNeeded_78 : decode cX4_rowsNeeded 78 = .ok (.iload_n 2, 1) := by decide +kernel
theorem dX4_rowsNeeded_79 : decode cX4_rowsNeeded 79 = .ok (.invokevirtual 111, 3) := by decide +kernel
theorem dX4_rowsNeeded_82 : decode cX4_rowsNeeded 82 = .ok (.ifCond .eq 7, 3) := by decide +kernel
theorem dX4_rowsNeeded_89 : decode cX4_rowsNeeded 89 = .ok (.iconst 0, 1) := by decide +kernel
theorem dX4_rowsNeeded_90 : decode cX4_rowsNeeded 90 = .ok (.iadd, 1) := by decide +kernel
theorem dX4_rowsNeeded_91 : decode cX4_rowsNeeded 91 = .ok (.istore_n 1, 1) := by decide +kernel
theorem dX4_rowsNeeded_92 : decode cX4_rowsNeeded 92 = .ok (.iinc 2 1, 3) := by decide +kernel
theorem dX4_rowsNeeded_95 : decode cX4_rowsNeeded 95 = .ok (.goto (-26), 3) := by decide +kernel
theorem dX4_rowsNeeded_85 : decode cX4_rowsNeeded 85 = .ok (.iconst 1, 1) := by decide +kernel
theorem dX4_rowsNeeded_86 : decode cX4_rowsNeeded 86 = .ok (.goto 4, 3) := by decide +kernel
set_option maxRecDepth 20000 in
theorem l_X4_rowsNeeded_69 (d : Nat) {T : CT} {σ : MS} {a : Nat} {post : Option Value → CT → MS → Prop} (h_a : OB T a 4) (hw : WT T σ) (hg : 0 ≤ σ.2.1 26 a) (hx_98 : ∀ (i1 : Int) (i2 : Int) , (0 ≤ i1 ∧ i1 ≤ 611) → (0 ≤ i2 ∧ i2 ≤ 192) → (i1 ≤ 419 + i2) → Tn (d + 4) m_X4_rowsNeeded 98 T σ [(0, .ref a), (1, .int (iI i1)), (2, .int (iI i2))] [] post) : ∀ (n : Nat) (i1 : Int) (i2 : Int) , (0 ≤ i1 ∧ i1 ≤ 611) → (0 ≤ i2 ∧ i2 ≤ 192) → (i1 ≤ 419 + i2) → (2147483700 - i2).toNat = n → Tn (d + 4) m_X4_rowsNeeded 69 T σ [(0, .ref a), (1, .int (iI i1)), (2, .int (iI i2))] [] post := by
  intro n
  induction n using Nat.strongRecOn with
  | _ n ih =>
    intro i1 i2 r_i1 r_i2 h0 hm
    refine tn_iload_n dX4_rowsNeeded_69 rfl 2 rfl ?_
    refine tn_sipush dX4_rowsNeeded_70 (by decide) ?_
    refine tn_icmp_ge (tgt := 98) dX4_rowsNeeded_73 (by decide) ⟨by omega, by omega⟩ ⟨by decide, by decide⟩ (fun h1 => ?_) (fun h1 => ?_)
    · exact tn_sub [0, 1, 2] rfl (hx_98 (i1) (i2) (by omega) (by omega) (by omega))
    · refine tn_iload_n dX4_rowsNeeded_76 rfl 1 rfl ?_
      refine tn_aload_n dX4_rowsNeeded_77 rfl 0 rfl ?_
      refine tn_iload_n dX4_rowsNeeded_78 rfl 2 rfl ?_
      refine tn_callV (M := m_X4_rowsNeeded) (pc := 79) (ix := 111) (ci := 4) (M' := m_X4_needsNought) (As := [.int (iI i2)]) (rest := [.int (iI i1)]) dX4_rowsNeeded_79 ok_X4_needsNought im_X4_needsNought se_X4_needsNought ml4_111 np_X4_needsNought rfl rfl h_a rfl (Nat.le_of_ble_eq_true rfl) (Nat.le_of_ble_eq_true rfl) rfl (k_X4_needsNought (d) (T := T) (σ := σ) (a := a) (p1 := i2) h_a (by omega) hw (by omega)) (fun r2 T4 σ3 gt5 hp => ?_)
      obtain ⟨v7, rfl, rfl, rfl, f6⟩ := hp
      clear gt5
      show Tn _ _ 82 T σ [(0, .ref a), (1, .int (iI i1)), (2, .int (iI i2))] [.int (iI v7), .int (iI i1)] _
      refine tn_if_eq (tgt := 89) dX4_rowsNeeded_82 (by decide) ⟨by omega, by omega⟩ (fun h8 => ?_) (fun h8 => ?_)
      · refine tn_iconst dX4_rowsNeeded_89 ?_
        refine tn_iadd dX4_rowsNeeded_90 ?_
        refine tn_istore_n (L' := [(1, .int (iI (i1 + 0))), (0, .ref a), (2, .int (iI i2))]) dX4_rowsNeeded_91 rfl (by decide) rfl ?_
        refine tn_iinc (q0 := 2) (L' := [(2, .int (iI (i2 + 1))), (1, .int (iI (i1 + 0))), (0, .ref a)]) dX4_rowsNeeded_92 rfl (by decide) rfl ?_
        refine tn_goto (tgt := 69) dX4_rowsNeeded_95 (by decide) ?_
        exact tn_sub [2, 1, 0] rfl (ih _ (by omega) (i1 + 0) (i2 + 1) (by omega) (by omega) (by omega) rfl)
      · refine tn_iconst dX4_rowsNeeded_85 ?_
        refine tn_goto (tgt := 90) dX4_rowsNeeded_86 (by decide) ?_
        refine tn_iadd dX4_rowsNeeded_90 ?_
        refine tn_istore_n (L' := [(1, .int (iI (i1 + 1))), (0, .ref a), (2, .int (iI i2))]) dX4_rowsNeeded_91 rfl (by decide) rfl ?_
        refine tn_iinc (q0 := 2) (L' := [(2, .int (iI (i2 + 1))), (1, .int (iI (i1 + 1))), (0, .ref a)]) dX4_rowsNeeded_92 rfl (by decide) rfl ?_
        refine tn_goto (tgt := 69) dX4_rowsNeeded_95 (by decide) ?_
        exact tn_sub [2, 1, 0] rfl (ih _ (by omega) (i1 + 1) (i2 + 1) (by omega) (by omega) (by omega) rfl)
theorem dX4_rowsNeeded_98 : decode cX4_rowsNeeded 98 = .ok (.iload_n 1, 1) := by decide +kernel
theorem dX4_rowsNeeded_99 : decode cX4_rowsNeeded 99 = .ok (.ireturn, 1) := by decide +kernel
set_option maxRecDepth 20000 in
theorem k_X4_rowsNeeded (d : Nat) {T : CT} {σ : MS} {a : Nat} (ha : OB T a 4) (hw : WT T σ) (hg : 0 ≤ σ.2.1 26 a) : Tn (d + 4) m_X4_rowsNeeded 0 T σ [(0, .ref a)] [] (fun ro T2 σ2 => ∃ v : Int, ro = some (.int (iI v)) ∧ T = T2 ∧ σ = σ2 ∧ (0 ≤ v ∧ v ≤ 1000)) := by
  refine tn_iconst dX4_rowsNeeded_0 ?_
  refine tn_aload_n dX4_rowsNeeded_1 rfl 0 rfl ?_
  have nn8 : 0 ≤ σ.2.1 26 a := (by omega)
  obtain ⟨x5, hx6, hk7⟩ := (wf_26 hw ha).resolve_left (by omega)
  have hk7o : OB T x5 1 := ⟨by omega, by rw [hk7]; rfl, by omega⟩
  refine tn_getR (ci := 4) (i := 3) (n := 26) (x := x5) dX4_rowsNeeded_2 rfl lay_4 (by decide) fl4_33 ha rfl rfl (hx6) ?_
  refine tn_getI (ci := 1) (i := 1) (n := 6) (t := σ.2.1 6 x5) dX4_rowsNeeded_5 rfl lay_1 (by decide) fl4_23 hk7o rfl rfl (rfl) ?_
  have g9 : ((0 : Int) ≤ σ.2.1 6 x5 ∧ σ.2.1 6 x5 ≤ 5000) ∧ ((T x5).1 = 50 → σ.2.1 6 x5 ≤ 200) := wf_6 hw hk7o
  have g9x := g9.2
  replace g9 := g9.1
  have g9x := g9x hk7
  refine tn_iadd dX4_rowsNeeded_8 ?_
  refine tn_aload_n dX4_rowsNeeded_9 rfl 0 rfl ?_
  refine tn_getR (ci := 4) (i := 3) (n := 26) (x := x5) dX4_rowsNeeded_10 rfl lay_4 (by decide) fl4_33 ha rfl rfl (hx6) ?_
  refine tn_getI (ci := 1) (i := 2) (n := 7) (t := σ.2.1 7 x5) dX4_rowsNeeded_13 rfl lay_1 (by decide) fl4_105 hk7o rfl rfl (rfl) ?_
  have g10 : ((0 : Int) ≤ σ.2.1 7 x5 ∧ σ.2.1 7 x5 ≤ 12) := wf_7 hw hk7o
  refine tn_iadd dX4_rowsNeeded_16 ?_
  refine tn_aload_n dX4_rowsNeeded_17 rfl 0 rfl ?_
  refine tn_getR (ci := 4) (i := 3) (n := 26) (x := x5) dX4_rowsNeeded_18 rfl lay_4 (by decide) fl4_33 ha rfl rfl (hx6) ?_
  refine tn_getI (ci := 1) (i := 3) (n := 8) (t := σ.2.1 8 x5) dX4_rowsNeeded_21 rfl lay_1 (by decide) fl4_108 hk7o rfl rfl (rfl) ?_
  have g11 : ((0 : Int) ≤ σ.2.1 8 x5 ∧ σ.2.1 8 x5 ≤ 4) := wf_8 hw hk7o
  refine tn_iadd dX4_rowsNeeded_24 ?_
  refine tn_istore_n (L' := [(1, .int (iI (((3 + (σ.2.1 6 x5)) + (σ.2.1 7 x5)) + (σ.2.1 8 x5)))), (0, .ref a)]) dX4_rowsNeeded_25 rfl (by decide) rfl ?_
  refine tn_iconst dX4_rowsNeeded_26 ?_
  refine tn_istore_n (L' := [(2, .int (iI 0)), (1, .int (iI (((3 + (σ.2.1 6 x5)) + (σ.2.1 7 x5)) + (σ.2.1 8 x5)))), (0, .ref a)]) dX4_rowsNeeded_27 rfl (by decide) rfl ?_
  refine tn_sub [2, 1, 0] rfl (l_X4_rowsNeeded_28 (d) (T := T) (σ := σ) (a := a) ha hw (by omega) (fun i112 i213 r19 r20 f21 => ?_) _ (((3 + (σ.2.1 6 x5)) + (σ.2.1 7 x5)) + (σ.2.1 8 x5)) (0) (by omega) (by omega) (by omega) rfl)
  show Tn _ _ 67 T σ [(0, .ref a), (1, .int (iI i112)), (2, .int (iI i213))] [] _
  refine tn_iconst dX4_rowsNeeded_67 ?_
  refine tn_istore_n (L' := [(2, .int (iI 0)), (0, .ref a), (1, .int (iI i112))]) dX4_rowsNeeded_68 rfl (by decide) rfl ?_
  refine tn_sub [1, 2, 0] rfl (l_X4_rowsNeeded_69 (d) (T := T) (σ := σ) (a := a) ha hw (by omega) (fun i122 i223 r29 r30 f31 => ?_) _ (i112) (0) (by omega) (by omega) (by omega) rfl)
  show Tn _ _ 98 T σ [(0, .ref a), (1, .int (iI i122)), (2, .int (iI i223))] [] _
  refine tn_iload_n dX4_rowsNeeded_98 rfl 1 rfl ?_
  exact tn_iret rfl dX4_rowsNeeded_99 ⟨_, rfl, rfl, rfl, by omega⟩
end
section
theorem cd_X4_shiftOf : Cond.code yX4_shiftOf cX4_shiftOf 2 (some .int) ∈ pWW := pw5 (List.mem_of_getElem? (i := 197) rfl) rfl
abbrev m_X4_shiftOf : MT := (yX4_shiftOf, cX4_shiftOf, 2, (some .int))
theorem ok_X4_shiftOf : pOk m_X4_shiftOf := ⟨⟨cd_X4_shiftOf, ini_4⟩, by decide +kernel, ⟨by decide +kernel, by decide +kernel⟩, Nat.le_of_ble_eq_true rfl⟩
theorem np_X4_shiftOf : (parseMethodDescriptor yX4_shiftOf.desc).map (fun d => d.parameters.length) = some 1 := by decide +kernel
theorem im_X4_shiftOf : Cond.instanceMethod yX4_shiftOf ∈ pWW := pw5 (List.mem_of_getElem? (i := 196) rfl) rfl
theorem se_X4_shiftOf : Cond.selects RX4 yX4_shiftOf yX4_shiftOf ∈ pWW := pws (List.mem_map.mpr ⟨_, lw_pin 74 rfl, rfl⟩) rfl
theorem nl4_164 : (RX4, 164, yX11_isPure, "LineKeeper") ∈ nst_M := List.mem_of_getElem? (i := 39) rfl
theorem fl4_63 : Cond.fieldLink RX4 63 (TX4 5).1 (TX4 5).2.1 (TX4 5).2.2.1 ∈ pWW := pw2 (List.mem_of_getElem? (i := 66) rfl) rfl
theorem fl4_69 : Cond.fieldLink RX4 69 (TX4 6).1 (TX4 6).2.1 (TX4 6).2.2.1 ∈ pWW := pw2 (List.mem_of_getElem? (i := 67) rfl) rfl
theorem fl4_57 : Cond.fieldLink RX4 57 (TX4 4).1 (TX4 4).2.1 (TX4 4).2.2.1 ∈ pWW := pw2 (List.mem_of_getElem? (i := 65) rfl) rfl
theorem dX4_shiftOf_0 : decode cX4_shiftOf 0 = .ok (.iload_n 1, 1) := by decide +kernel
theorem dX4_shiftOf_1 : decode cX4_shiftOf 1 = .ok (.invokestatic 164, 3) := by decide +kernel
theorem dX4_shiftOf_4 : decode cX4_shiftOf 4 = .ok (.ifCond .eq 8, 3) := by decide +kernel
theorem dX4_shiftOf_12 : decode cX4_shiftOf 12 = .ok (.iload_n 1, 1) := by decide +kernel
theorem dX4_shiftOf_13 : decode cX4_shiftOf 13 = .ok (.bipush 8, 2) := by decide +kernel
theorem dX4_shiftOf_15 : decode cX4_shiftOf 15 = .ok (.if_icmp .eq 15, 3) := by decide +kernel
theorem dX4_shiftOf_30 : decode cX4_shiftOf 30 = .ok (.aload_n 0, 1) := by decide +kernel
theorem dX4_shiftOf_31 : decode cX4_shiftOf 31 = .ok (.getfield 63, 3) := by decide +kernel
theorem dX4_shiftOf_34 : decode cX4_shiftOf 34 = .ok (.ireturn, 1) := by decide +kernel
theorem dX4_shiftOf_18 : decode cX4_shiftOf 18 = .ok (.iload_n 1, 1) := by decide +kernel
theorem dX4_shiftOf_19 : decode cX4_shiftOf 19 = .ok (.bipush 9, 2) := by decide +kernel
theorem dX4_shiftOf_21 : decode cX4_shiftOf 21 = .ok (.if_icmp .eq 9, 3) := by decide +kernel
theorem dX4_shiftOf_24 : decode cX4_shiftOf 24 = .ok (.iload_n 1, 1) := by decide +kernel
theorem dX4_shiftOf_25 : decode cX4_shiftOf 25 = .ok (.bipush 13, 2) := by decide +kernel
theorem dX4_shiftOf_27 : decode cX4_shiftOf 27 = .ok (.if_icmp .ne 8, 3) := by decide +kernel
theorem dX4_shiftOf_35 : decode cX4_shiftOf 35 = .ok (.iload_n 1, 1) := by decide +kernel
theorem dX4_shiftOf_36 : decode cX4_shiftOf 36 = .ok (.bipush 14, 2) := by decide +kernel
theorem dX4_shiftOf_38 : decode cX4_shiftOf 38 = .ok (.if_icmp .eq 9, 3) := by decide +kernel
theorem dX4_shiftOf_47 : decode cX4_shiftOf 47 = .ok (.aload_n 0, 1) := by decide +kernel
theorem dX4_shiftOf_48 : decode cX4_shiftOf 48 = .ok (.getfield 69, 3) := by decide +kernel
theorem dX4_shiftOf_51 : decode cX4_shiftOf 51 = .ok (.goto 4, 3) := by decide +kernel
theorem dX4_shiftOf_55 : decode cX4_shiftOf 55 = .ok (.ireturn, 1) := by decide +kernel
theorem dX4_shiftOf_41 : decode cX4_shiftOf 41 = .ok (.iload_n 1, 1) := by decide +kernel
theorem dX4_shiftOf_42 : decode cX4_shiftOf 42 = .ok (.bipush 15, 2) := by decide +kernel
theorem dX4_shiftOf_44 : decode cX4_shiftOf 44 = .ok (.if_icmp .ne 10, 3) := by decide +kernel
theorem dX4_shiftOf_54 : decode cX4_shiftOf 54 = .ok (.iconst 0, 1) := by decide +kernel
theorem dX4_shiftOf_7 : decode cX4_shiftOf 7 = .ok (.aload_n 0, 1) := by decide +kernel
theorem dX4_shiftOf_8 : decode cX4_shiftOf 8 = .ok (.getfield 57, 3) := by decide +kernel
theorem dX4_shiftOf_11 : decode cX4_shiftOf 11 = .ok (.ireturn, 1) := by decide +kernel
set_option maxRecDepth 20000 in
theorem k_X4_shiftOf (d : Nat) {T : CT} {σ : MS} {a : Nat} {p1 : Int} (ha : OB T a 4) (h_p1 : -2147483648 ≤ p1 ∧ p1 ≤ 2147483647) (hw : WT T σ) : Tn (d + 2) m_X4_shiftOf 0 T σ [(0, .ref a), (1, .int (iI p1))] [] (fun ro T2 σ2 => ∃ v : Int, ro = some (.int (iI v)) ∧ T = T2 ∧ σ = σ2 ∧ (-2147483648 ≤ v ∧ v ≤ 2147483647)) := by
  refine tn_iload_n dX4_shiftOf_0 rfl 1 rfl ?_
  refine tn_callSN (M := m_X4_shiftOf) (pc := 1) (ix := 164) (M' := m_X11_isPure) (As := [.int (iI p1)]) (rest := []) dX4_shiftOf_1 ok_X11_isPure stt_X11_isPure nl4_164 np_X11_isPure rfl (Nat.le_of_ble_eq_true rfl) (Nat.le_of_ble_eq_true rfl) rfl (k_X11_isPure (d) (T := T) (σ := σ) (k := p1) (by omega) hw ) (fun r1 T3 σ2 gt4 hp => ?_)
  obtain ⟨v6, rfl, rfl, rfl, f5⟩ := hp
  clear gt4
  show Tn _ _ 4 T σ [(0, .ref a), (1, .int (iI p1))] [.int (iI v6)] _
  refine tn_if_eq (tgt := 12) dX4_shiftOf_4 (by decide) ⟨by omega, by omega⟩ (fun h7 => ?_) (fun h7 => ?_)
  · refine tn_iload_n dX4_shiftOf_12 rfl 1 rfl ?_
    refine tn_bipush dX4_shiftOf_13 (by decide) ?_
    refine tn_icmp_eq (tgt := 30) dX4_shiftOf_15 (by decide) ⟨by omega, by omega⟩ ⟨by decide, by decide⟩ (fun h8 => ?_) (fun h8 => ?_)
    · refine tn_aload_n dX4_shiftOf_30 rfl 0 rfl ?_
      refine tn_getI (ci := 4) (i := 5) (n := 28) (t := σ.2.1 28 a) dX4_shiftOf_31 rfl lay_4 (by decide) fl4_63 ha rfl rfl (rfl) ?_
      have g9 : ((-2147483648 : Int) ≤ σ.2.1 28 a ∧ σ.2.1 28 a ≤ 2147483647) := wf_28 hw ha
      exact tn_iret rfl dX4_shiftOf_34 ⟨_, rfl, rfl, rfl, by omega⟩
    · refine tn_iload_n dX4_shiftOf_18 rfl 1 rfl ?_
      refine tn_bipush dX4_shiftOf_19 (by decide) ?_
      refine tn_icmp_eq (tgt := 30) dX4_shiftOf_21 (by decide) ⟨by omega, by omega⟩ ⟨by decide, by decide⟩ (fun h10 => ?_) (fun h10 => ?_)
      · refine tn_aload_n dX4_shiftOf_30 rfl 0 rfl ?_
        refine tn_getI (ci := 4) (i := 5) (n := 28) (t := σ.2.1 28 a) dX4_shiftOf_31 rfl lay_4 (by decide) fl4_63 ha rfl rfl (rfl) ?_
        have g11 : ((-2147483648 : Int) ≤ σ.2.1 28 a ∧ σ.2.1 28 a ≤ 2147483647) := wf_28 hw ha
        exact tn_iret rfl dX4_shiftOf_34 ⟨_, rfl, rfl, rfl, by omega⟩
      · refine tn_iload_n dX4_shiftOf_24 rfl 1 rfl ?_
        refine tn_bipush dX4_shiftOf_25 (by decide) ?_
        refine tn_icmp_ne (tgt := 35) dX4_shiftOf_27 (by decide) ⟨by omega, by omega⟩ ⟨by decide, by decide⟩ (fun h12 => ?_) (fun h12 => ?_)
        · refine tn_iload_n dX4_shiftOf_35 rfl 1 rfl ?_
          refine tn_bipush dX4_shiftOf_36 (by decide) ?_
          refine tn_icmp_eq (tgt := 47) dX4_shiftOf_38 (by decide) ⟨by omega, by omega⟩ ⟨by decide, by decide⟩ (fun h13 => ?_) (fun h13 => ?_)
          · refine tn_aload_n dX4_shiftOf_47 rfl 0 rfl ?_
            refine tn_getI (ci := 4) (i := 6) (n := 29) (t := σ.2.1 29 a) dX4_shiftOf_48 rfl lay_4 (by decide) fl4_69 ha rfl rfl (rfl) ?_
            have g14 : ((-2147483648 : Int) ≤ σ.2.1 29 a ∧ σ.2.1 29 a ≤ 2147483647) := wf_29 hw ha
            refine tn_goto (tgt := 55) dX4_shiftOf_51 (by decide) ?_
            exact tn_iret rfl dX4_shiftOf_55 ⟨_, rfl, rfl, rfl, by omega⟩
          · refine tn_iload_n dX4_shiftOf_41 rfl 1 rfl ?_
            refine tn_bipush dX4_shiftOf_42 (by decide) ?_
            refine tn_icmp_ne (tgt := 54) dX4_shiftOf_44 (by decide) ⟨by omega, by omega⟩ ⟨by decide, by decide⟩ (fun h15 => ?_) (fun h15 => ?_)
            · refine tn_iconst dX4_shiftOf_54 ?_
              exact tn_iret rfl dX4_shiftOf_55 ⟨_, rfl, rfl, rfl, by omega⟩
            · refine tn_aload_n dX4_shiftOf_47 rfl 0 rfl ?_
              refine tn_getI (ci := 4) (i := 6) (n := 29) (t := σ.2.1 29 a) dX4_shiftOf_48 rfl lay_4 (by decide) fl4_69 ha rfl rfl (rfl) ?_
              have g16 : ((-2147483648 : Int) ≤ σ.2.1 29 a ∧ σ.2.1 29 a ≤ 2147483647) := wf_29 hw ha
              refine tn_goto (tgt := 55) dX4_shiftOf_51 (by decide) ?_
              exact tn_iret rfl dX4_shiftOf_55 ⟨_, rfl, rfl, rfl, by omega⟩
        · refine tn_aload_n dX4_shiftOf_30 rfl 0 rfl ?_
          refine tn_getI (ci := 4) (i := 5) (n := 28) (t := σ.2.1 28 a) dX4_shiftOf_31 rfl lay_4 (by decide) fl4_63 ha rfl rfl (rfl) ?_
          have g17 : ((-2147483648 : Int) ≤ σ.2.1 28 a ∧ σ.2.1 28 a ≤ 2147483647) := wf_28 hw ha
          exact tn_iret rfl dX4_shiftOf_34 ⟨_, rfl, rfl, rfl, by omega⟩
  · refine tn_aload_n dX4_shiftOf_7 rfl 0 rfl ?_
    refine tn_getI (ci := 4) (i := 4) (n := 27) (t := σ.2.1 27 a) dX4_shiftOf_8 rfl lay_4 (by decide) fl4_57 ha rfl rfl (rfl) ?_
    have g18 : ((-2147483648 : Int) ≤ σ.2.1 27 a ∧ σ.2.1 27 a ≤ 2147483647) := wf_27 hw ha
    exact tn_iret rfl dX4_shiftOf_11 ⟨_, rfl, rfl, rfl, by omega⟩
end
section
theorem cd_X4_addRow : Cond.code yX4_addRow cX4_addRow 4 none ∈ pWW := pw5 (List.mem_of_getElem? (i := 179) rfl) rfl
abbrev m_X4_addRow : MT := (yX4_addRow, cX4_addRow, 4, none)
theorem ok_X4_addRow : pOk m_X4_addRow := ⟨⟨cd_X4_addRow, ini_4⟩, by decide +kernel, ⟨by decide +kernel, by decide +kernel⟩, Nat.le_of_ble_eq_true rfl⟩
theorem np_X4_addRow : (parseMethodDescriptor yX4_addRow.desc).map (fun d => d.parameters.length) = some 3 := by decide +kernel
theorem im_X4_addRow : Cond.instanceMethod yX4_addRow ∈ pWW := pw5 (List.mem_of_getElem? (i := 178) rfl) rfl
theorem se_X4_addRow : Cond.selects RX4 yX4_addRow yX4_addRow ∈ pWW := pws (List.mem_map.mpr ⟨_, lw_pin 70 rfl, rfl⟩) rfl
theorem fl4_19 : Cond.fieldLink RX4 19 (TX4 2).1 (TX4 2).2.1 (TX4 2).2.2.1 ∈ pWW := pw2 (List.mem_of_getElem? (i := 63) rfl) rfl
theorem fl4_96 : Cond.fieldLink RX4 96 (TX4 9).1 (TX4 9).2.1 (TX4 9).2.2.1 ∈ pWW := pw2 (List.mem_of_getElem? (i := 70) rfl) rfl
theorem ml4_144 : Cond.methodLink RX4 144 yX1_set ∈ pWW := pw5 (List.mem_of_getElem? (i := 180) rfl) rfl
theorem dX4_addRow_0 : decode cX4_addRow 0 = .ok (.aload_n 0, 1) := by decide +kernel
theorem dX4_addRow_1 : decode cX4_addRow 1 = .ok (.getfield 19, 3) := by decide +kernel
theorem dX4_addRow_4 : decode cX4_addRow 4 = .ok (.aload_n 0, 1) := by decide +kernel
theorem dX4_addRow_5 : decode cX4_addRow 5 = .ok (.getfield 96, 3) := by decide +kernel
theorem dX4_addRow_8 : decode cX4_addRow 8 = .ok (.iconst 0, 1) := by decide +kernel
theorem dX4_addRow_9 : decode cX4_addRow 9 = .ok (.iload_n 1, 1) := by decide +kernel
theorem dX4_addRow_10 : decode cX4_addRow 10 = .ok (.invokevirtual 144, 3) := by decide +kernel
theorem dX4_addRow_13 : decode cX4_addRow 13 = .ok (.aload_n 0, 1) := by decide +kernel
theorem dX4_addRow_14 : decode cX4_addRow 14 = .ok (.getfield 19, 3) := by decide +kernel
theorem dX4_addRow_17 : decode cX4_addRow 17 = .ok (.aload_n 0, 1) := by decide +kernel
theorem dX4_addRow_18 : decode cX4_addRow 18 = .ok (.getfield 96, 3) := by decide +kernel
theorem dX4_addRow_21 : decode cX4_addRow 21 = .ok (.iconst 1, 1) := by decide +kernel
theorem dX4_addRow_22 : decode cX4_addRow 22 = .ok (.iload_n 2, 1) := by decide +kernel
theorem dX4_addRow_23 : decode cX4_addRow 23 = .ok (.invokevirtual 144, 3) := by decide +kernel
theorem dX4_addRow_26 : decode cX4_addRow 26 = .ok (.aload_n 0, 1) := by decide +kernel
theorem dX4_addRow_27 : decode cX4_addRow 27 = .ok (.getfield 19, 3) := by decide +kernel
theorem dX4_addRow_30 : decode cX4_addRow 30 = .ok (.aload_n 0, 1) := by decide +kernel
theorem dX4_addRow_31 : decode cX4_addRow 31 = .ok (.getfield 96, 3) := by decide +kernel
theorem dX4_addRow_34 : decode cX4_addRow 34 = .ok (.iconst 2, 1) := by decide +kernel
theorem dX4_addRow_35 : decode cX4_addRow 35 = .ok (.iload_n 3, 1) := by decide +kernel
theorem dX4_addRow_36 : decode cX4_addRow 36 = .ok (.invokevirtual 144, 3) := by decide +kernel
theorem dX4_addRow_39 : decode cX4_addRow 39 = .ok (.aload_n 0, 1) := by decide +kernel
theorem dX4_addRow_40 : decode cX4_addRow 40 = .ok (.dup, 1) := by decide +kernel
theorem dX4_addRow_41 : decode cX4_addRow 41 = .ok (.getfield 96, 3) := by decide +kernel
theorem dX4_addRow_44 : decode cX4_addRow 44 = .ok (.iconst 1, 1) := by decide +kernel
theorem dX4_addRow_45 : decode cX4_addRow 45 = .ok (.iadd, 1) := by decide +kernel
theorem dX4_addRow_46 : decode cX4_addRow 46 = .ok (.putfield 96, 3) := by decide +kernel
theorem dX4_addRow_49 : decode cX4_addRow 49 = .ok (.return_, 1) := by decide +kernel
set_option maxRecDepth 20000 in
theorem k_X4_addRow (d : Nat) {T : CT} {σ : MS} {a : Nat} {p1 : Int} {p2 : Int} {p3 : Int} (ha : OB T a 4) (h_p1 : -2147483648 ≤ p1 ∧ p1 ≤ 2147483647) (h_p2 : -2147483648 ≤ p2 ∧ p2 ≤ 2147483647) (h_p3 : -2147483648 ≤ p3 ∧ p3 ≤ 2147483647) (hw : WT T σ) (hh : 0 ≤ σ.2.1 25 a) : Tn (d + 2) m_X4_addRow 0 T σ [(0, .ref a), (1, .int (iI p1)), (2, .int (iI p2)), (3, .int (iI p3))] [] (fun ro T2 σ2 => ro = none ∧ T = T2 ∧ WT T2 σ2 ∧ FrC T [32] σ σ2) := by
  refine tn_aload_n dX4_addRow_0 rfl 0 rfl ?_
  have nn8 : 0 ≤ σ.2.1 25 a := (by omega)
  obtain ⟨x5, hx6, hk7⟩ := (wf_25 hw ha).resolve_left (by omega)
  have hk7o : OB T x5 1 := ⟨by omega, by rw [hk7]; rfl, by omega⟩
  refine tn_getR (ci := 4) (i := 2) (n := 25) (x := x5) dX4_addRow_1 rfl lay_4 (by decide) fl4_19 ha rfl rfl (hx6) ?_
  refine tn_aload_n dX4_addRow_4 rfl 0 rfl ?_
  refine tn_getI (ci := 4) (i := 9) (n := 32) (t := σ.2.1 32 a) dX4_addRow_5 rfl lay_4 (by decide) fl4_96 ha rfl rfl (rfl) ?_
  have g9 : ((-2147483648 : Int) ≤ σ.2.1 32 a ∧ σ.2.1 32 a ≤ 2147483647) := wf_32 hw ha
  refine tn_iconst dX4_addRow_8 ?_
  refine tn_iload_n dX4_addRow_9 rfl 1 rfl ?_
  refine tn_callV (M := m_X4_addRow) (pc := 10) (ix := 144) (ci := 1) (M' := m_X1_set) (As := [.int (iI (σ.2.1 32 a)), .int (iI 0), .int (iI p1)]) (rest := []) dX4_addRow_10 ok_X1_set im_X1_set se_X1_set ml4_144 np_X1_set rfl rfl hk7o rfl (Nat.le_of_ble_eq_true rfl) (Nat.le_of_ble_eq_true rfl) rfl (k_X1_set (d) (T := T) (σ := σ) (a := x5) (k := σ.2.1 32 a) (c := 0) (y := p1) hk7o (by omega) (by decide) (by omega) hw (by omega) (by omega)) (fun r10 T12 σ11 gt13 hp => ?_)
  obtain ⟨rfl, rfl, w15, F16⟩ := hp
  clear gt13
  show Tn _ _ 13 T σ11 [(0, .ref a), (1, .int (iI p1)), (2, .int (iI p2)), (3, .int (iI p3))] [] _
  refine tn_aload_n dX4_addRow_13 rfl 0 rfl ?_
  refine tn_getR (ci := 4) (i := 2) (n := 25) (x := x5) dX4_addRow_14 rfl lay_4 (by decide) fl4_19 ha rfl rfl (rc_F F16 (Or.inl (by decide)) (by decide) (hx6)) ?_
  refine tn_aload_n dX4_addRow_17 rfl 0 rfl ?_
  refine tn_getI (ci := 4) (i := 9) (n := 32) (t := σ.2.1 32 a) dX4_addRow_18 rfl lay_4 (by decide) fl4_96 ha rfl rfl (rc_F F16 (Or.inl (by decide)) (by decide) (rfl)) ?_
  refine tn_iconst dX4_addRow_21 ?_
  refine tn_iload_n dX4_addRow_22 rfl 2 rfl ?_
  refine tn_callV (M := m_X4_addRow) (pc := 23) (ix := 144) (ci := 1) (M' := m_X1_set) (As := [.int (iI (σ.2.1 32 a)), .int (iI 1), .int (iI p2)]) (rest := []) dX4_addRow_23 ok_X1_set im_X1_set se_X1_set ml4_144 np_X1_set rfl rfl hk7o rfl (Nat.le_of_ble_eq_true rfl) (Nat.le_of_ble_eq_true rfl) rfl (k_X1_set (d) (T := T) (σ := σ11) (a := x5) (k := σ.2.1 32 a) (c := 1) (y := p2) hk7o (by omega) (by decide) (by omega) w15 (by omega) (by omega)) (fun r17 T19 σ18 gt20 hp => ?_)
  obtain ⟨rfl, rfl, w22, F23⟩ := hp
  clear gt20
  show Tn _ _ 26 T σ18 [(0, .ref a), (1, .int (iI p1)), (2, .int (iI p2)), (3, .int (iI p3))] [] _
  refine tn_aload_n dX4_addRow_26 rfl 0 rfl ?_
  refine tn_getR (ci := 4) (i := 2) (n := 25) (x := x5) dX4_addRow_27 rfl lay_4 (by decide) fl4_19 ha rfl rfl (rc_F F23 (Or.inl (by decide)) (by decide) (rc_F F16 (Or.inl (by decide)) (by decide) (hx6))) ?_
  refine tn_aload_n dX4_addRow_30 rfl 0 rfl ?_
  refine tn_getI (ci := 4) (i := 9) (n := 32) (t := σ.2.1 32 a) dX4_addRow_31 rfl lay_4 (by decide) fl4_96 ha rfl rfl (rc_F F23 (Or.inl (by decide)) (by decide) (rc_F F16 (Or.inl (by decide)) (by decide) (rfl))) ?_
  refine tn_iconst dX4_addRow_34 ?_
  refine tn_iload_n dX4_addRow_35 rfl 3 rfl ?_
  refine tn_callV (M := m_X4_addRow) (pc := 36) (ix := 144) (ci := 1) (M' := m_X1_set) (As := [.int (iI (σ.2.1 32 a)), .int (iI 2), .int (iI p3)]) (rest := []) dX4_addRow_36 ok_X1_set im_X1_set se_X1_set ml4_144 np_X1_set rfl rfl hk7o rfl (Nat.le_of_ble_eq_true rfl) (Nat.le_of_ble_eq_true rfl) rfl (k_X1_set (d) (T := T) (σ := σ18) (a := x5) (k := σ.2.1 32 a) (c := 2) (y := p3) hk7o (by omega) (by decide) (by omega) w22 (by omega) (by omega)) (fun r24 T26 σ25 gt27 hp => ?_)
  obtain ⟨rfl, rfl, w29, F30⟩ := hp
  clear gt27
  show Tn _ _ 39 T σ25 [(0, .ref a), (1, .int (iI p1)), (2, .int (iI p2)), (3, .int (iI p3))] [] _
  refine tn_aload_n dX4_addRow_39 rfl 0 rfl ?_
  refine tn_dup dX4_addRow_40 rfl ?_
  refine tn_getI (ci := 4) (i := 9) (n := 32) (t := σ.2.1 32 a) dX4_addRow_41 rfl lay_4 (by decide) fl4_96 ha rfl rfl (rc_F F30 (Or.inl (by decide)) (by decide) (rc_F F23 (Or.inl (by decide)) (by decide) (rc_F F16 (Or.inl (by decide)) (by decide) (rfl)))) ?_
  refine tn_iconst dX4_addRow_44 ?_
  refine tn_iadd dX4_addRow_45 ?_
  refine tn_any (fun z31 g32 => ?_)
  have g32r : -2147483648 ≤ z31 ∧ z31 ≤ 2147483647 := g32
  refine tn_putV (ci := 4) (i := 9) (n := 32) (r := false) (v := z31) tyX4 tyX4_ok nmX4 dX4_addRow_46 rfl lay_4 (by decide) fl4_96 rfl (tyX4_ok 9 (by decide)) rfl rfl rfl ha rfl rfl ?_
  exact tn_vret rfl dX4_addRow_49 ⟨rfl, rfl, (w29.put (by decide) (by decide) (fo_32 (by omega))), ((((FrC.rfl.trans (FrC.sub F16 (by decide))).trans (FrC.sub F23 (by decide))).trans (FrC.sub F30 (by decide))).put (by decide) (by decide))⟩
end
section
theorem cd_X4_addCopy : Cond.code yX4_addCopy cX4_addCopy 4 none ∈ pWW := pw5 (List.mem_of_getElem? (i := 184) rfl) rfl
abbrev m_X4_addCopy : MT := (yX4_addCopy, cX4_addCopy, 4, none)
theorem ok_X4_addCopy : pOk m_X4_addCopy := ⟨⟨cd_X4_addCopy, ini_4⟩, by decide +kernel, ⟨by decide +kernel, by decide +kernel⟩, Nat.le_of_ble_eq_true rfl⟩
theorem np_X4_addCopy : (parseMethodDescriptor yX4_addCopy.desc).map (fun d => d.parameters.length) = some 3 := by decide +kernel
theorem im_X4_addCopy : Cond.instanceMethod yX4_addCopy ∈ pWW := pw5 (List.mem_of_getElem? (i := 183) rfl) rfl
theorem se_X4_addCopy : Cond.selects RX4 yX4_addCopy yX4_addCopy ∈ pWW := pws (List.mem_map.mpr ⟨_, lw_pin 71 rfl, rfl⟩) rfl
theorem ml4_148 : Cond.methodLink RX4 148 yX4_addRow ∈ pWW := pw5 (List.mem_of_getElem? (i := 176) rfl) rfl
theorem dX4_addCopy_0 : decode cX4_addCopy 0 = .ok (.aload_n 0, 1) := by decide +kernel
theorem dX4_addCopy_1 : decode cX4_addCopy 1 = .ok (.getfield 19, 3) := by decide +kernel
theorem dX4_addCopy_4 : decode cX4_addCopy 4 = .ok (.aload_n 0, 1) := by decide +kernel
theorem dX4_addCopy_5 : decode cX4_addCopy 5 = .ok (.getfield 96, 3) := by decide +kernel
theorem dX4_addCopy_8 : decode cX4_addCopy 8 = .ok (.iconst 3, 1) := by decide +kernel
theorem dX4_addCopy_9 : decode cX4_addCopy 9 = .ok (.iload_n 2, 1) := by decide +kernel
theorem dX4_addCopy_10 : decode cX4_addCopy 10 = .ok (.invokevirtual 144, 3) := by decide +kernel
theorem dX4_addCopy_13 : decode cX4_addCopy 13 = .ok (.aload_n 0, 1) := by decide +kernel
theorem dX4_addCopy_14 : decode cX4_addCopy 14 = .ok (.getfield 19, 3) := by decide +kernel
theorem dX4_addCopy_17 : decode cX4_addCopy 17 = .ok (.aload_n 0, 1) := by decide +kernel
theorem dX4_addCopy_18 : decode cX4_addCopy 18 = .ok (.getfield 96, 3) := by decide +kernel
theorem dX4_addCopy_21 : decode cX4_addCopy 21 = .ok (.iconst 4, 1) := by decide +kernel
theorem dX4_addCopy_22 : decode cX4_addCopy 22 = .ok (.iload_n 3, 1) := by decide +kernel
theorem dX4_addCopy_23 : decode cX4_addCopy 23 = .ok (.invokevirtual 144, 3) := by decide +kernel
theorem dX4_addCopy_26 : decode cX4_addCopy 26 = .ok (.aload_n 0, 1) := by decide +kernel
theorem dX4_addCopy_27 : decode cX4_addCopy 27 = .ok (.iconst 0, 1) := by decide +kernel
theorem dX4_addCopy_28 : decode cX4_addCopy 28 = .ok (.iload_n 1, 1) := by decide +kernel
theorem dX4_addCopy_29 : decode cX4_addCopy 29 = .ok (.iconst 0, 1) := by decide +kernel
theorem dX4_addCopy_30 : decode cX4_addCopy 30 = .ok (.invokevirtual 148, 3) := by decide +kernel
theorem dX4_addCopy_33 : decode cX4_addCopy 33 = .ok (.return_, 1) := by decide +kernel
set_option maxRecDepth 20000 in
theorem k_X4_addCopy (d : Nat) {T : CT} {σ : MS} {a : Nat} {p1 : Int} {p2 : Int} {p3 : Int} (ha : OB T a 4) (h_p1 : -2147483648 ≤ p1 ∧ p1 ≤ 2147483647) (h_p2 : -2147483648 ≤ p2 ∧ p2 ≤ 2147483647) (h_p3 : -2147483648 ≤ p3 ∧ p3 ≤ 2147483647) (hw : WT T σ) (hh : 0 ≤ σ.2.1 25 a) : Tn (d + 3) m_X4_addCopy 0 T σ [(0, .ref a), (1, .int (iI p1)), (2, .int (iI p2)), (3, .int (iI p3))] [] (fun ro T2 σ2 => ro = none ∧ T = T2 ∧ WT T2 σ2 ∧ FrC T [32] σ σ2) := by
  refine tn_aload_n dX4_addCopy_0 rfl 0 rfl ?_
  have nn8 : 0 ≤ σ.2.1 25 a := (by omega)
  obtain ⟨x5, hx6, hk7⟩ := (wf_25 hw ha).resolve_left (by omega)
  have hk7o : OB T x5 1 := ⟨by omega, by rw [hk7]; rfl, by omega⟩
  refine tn_getR (ci := 4) (i := 2) (n := 25) (x := x5) dX4_addCopy_1 rfl lay_4 (by decide) fl4_19 ha rfl rfl (hx6) ?_
  refine tn_aload_n dX4_addCopy_4 rfl 0 rfl ?_
  refine tn_getI (ci := 4) (i := 9) (n := 32) (t := σ.2.1 32 a) dX4_addCopy_5 rfl lay_4 (by decide) fl4_96 ha rfl rfl (rfl) ?_
  have g9 : ((-2147483648 : Int) ≤ σ.2.1 32 a ∧ σ.2.1 32 a ≤ 2147483647) := wf_32 hw ha
  refine tn_iconst dX4_addCopy_8 ?_
  refine tn_iload_n dX4_addCopy_9 rfl 2 rfl ?_
  refine tn_callV (M := m_X4_addCopy) (pc := 10) (ix := 144) (ci := 1) (M' := m_X1_set) (As := [.int (iI (σ.2.1 32 a)), .int (iI 3), .int (iI p2)]) (rest := []) dX4_addCopy_10 ok_X1_set im_X1_set se_X1_set ml4_144 np_X1_set rfl rfl hk7o rfl (Nat.le_of_ble_eq_true rfl) (Nat.le_of_ble_eq_true rfl) rfl (k_X1_set (d + 1) (T := T) (σ := σ) (a := x5) (k := σ.2.1 32 a) (c := 3) (y := p2) hk7o (by omega) (by decide) (by omega) hw (by omega) (by omega)) (fun r10 T12 σ11 gt13 hp => ?_)
  obtain ⟨rfl, rfl, w15, F16⟩ := hp
  clear gt13
  show Tn _ _ 13 T σ11 [(0, .ref a), (1, .int (iI p1)), (2, .int (iI p2)), (3, .int (iI p3))] [] _
  refine tn_aload_n dX4_addCopy_13 rfl 0 rfl ?_
  refine tn_getR (ci := 4) (i := 2) (n := 25) (x := x5) dX4_addCopy_14 rfl lay_4 (by decide) fl4_19 ha rfl rfl (rc_F F16 (Or.inl (by decide)) (by decide) (hx6)) ?_
  refine tn_aload_n dX4_addCopy_17 rfl 0 rfl ?_
  refine tn_getI (ci := 4) (i := 9) (n := 32) (t := σ.2.1 32 a) dX4_addCopy_18 rfl lay_4 (by decide) fl4_96 ha rfl rfl (rc_F F16 (Or.inl (by decide)) (by decide) (rfl)) ?_
  refine tn_iconst dX4_addCopy_21 ?_
  refine tn_iload_n dX4_addCopy_22 rfl 3 rfl ?_
  refine tn_callV (M := m_X4_addCopy) (pc := 23) (ix := 144) (ci := 1) (M' := m_X1_set) (As := [.int (iI (σ.2.1 32 a)), .int (iI 4), .int (iI p3)]) (rest := []) dX4_addCopy_23 ok_X1_set im_X1_set se_X1_set ml4_144 np_X1_set rfl rfl hk7o rfl (Nat.le_of_ble_eq_true rfl) (Nat.le_of_ble_eq_true rfl) rfl (k_X1_set (d + 1) (T := T) (σ := σ11) (a := x5) (k := σ.2.1 32 a) (c := 4) (y := p3) hk7o (by omega) (by decide) (by omega) w15 (by omega) (by omega)) (fun r17 T19 σ18 gt20 hp => ?_)
  obtain ⟨rfl, rfl, w22, F23⟩ := hp
  clear gt20
  show Tn _ _ 26 T σ18 [(0, .ref a), (1, .int (iI p1)), (2, .int (iI p2)), (3, .int (iI p3))] [] _
  refine tn_aload_n dX4_addCopy_26 rfl 0 rfl ?_
  refine tn_iconst dX4_addCopy_27 ?_
  refine tn_iload_n dX4_addCopy_28 rfl 1 rfl ?_
  refine tn_iconst dX4_addCopy_29 ?_
  refine tn_callV (M := m_X4_addCopy) (pc := 30) (ix := 148) (ci := 4) (M' := m_X4_addRow) (As := [.int (iI 0), .int (iI p1), .int (iI 0)]) (rest := []) dX4_addCopy_30 ok_X4_addRow im_X4_addRow se_X4_addRow ml4_148 np_X4_addRow rfl rfl ha rfl (Nat.le_of_ble_eq_true rfl) (Nat.le_of_ble_eq_true rfl) rfl (k_X4_addRow (d) (T := T) (σ := σ18) (a := a) (p1 := 0) (p2 := p1) (p3 := 0) ha (by decide) (by omega) (by decide) w22 (by rw [show σ18.2.1 25 a = σ.2.1 25 a from rc_F F23 (Or.inl (by decide)) (by decide) (rc_F F16 (Or.inl (by decide)) (by decide) (rfl))]; omega)) (fun r24 T26 σ25 gt27 hp => ?_)
  obtain ⟨rfl, rfl, w29, F30⟩ := hp
  clear gt27
  show Tn _ _ 33 T σ25 [(0, .ref a), (1, .int (iI p1)), (2, .int (iI p2)), (3, .int (iI p3))] [] _
  exact tn_vret rfl dX4_addCopy_33 ⟨rfl, rfl, w29, (((FrC.rfl.trans (FrC.sub F16 (by decide))).trans (FrC.sub F23 (by decide))).trans (FrC.sub F30 (by decide)))⟩
end
section
theorem cd_X4_addItem : Cond.code yX4_addItem cX4_addItem 6 none ∈ pWW := pw5 (List.mem_of_getElem? (i := 193) rfl) rfl
abbrev m_X4_addItem : MT := (yX4_addItem, cX4_addItem, 6, none)
theorem ok_X4_addItem : pOk m_X4_addItem := ⟨⟨cd_X4_addItem, ini_4⟩, by decide +kernel, ⟨by decide +kernel, by decide +kernel⟩, Nat.le_of_ble_eq_true rfl⟩
theorem np_X4_addItem : (parseMethodDescriptor yX4_addItem.desc).map (fun d => d.parameters.length) = some 1 := by decide +kernel
theorem im_X4_addItem : Cond.instanceMethod yX4_addItem ∈ pWW := pw5 (List.mem_of_getElem? (i := 192) rfl) rfl
theorem se_X4_addItem : Cond.selects RX4 yX4_addItem yX4_addItem ∈ pWW := pws (List.mem_map.mpr ⟨_, lw_pin 73 rfl, rfl⟩) rfl
theorem dX4_addItem_0 : decode cX4_addItem 0 = .ok (.aload_n 0, 1) := by decide +kernel
theorem dX4_addItem_1 : decode cX4_addItem 1 = .ok (.getfield 33, 3) := by decide +kernel
theorem dX4_addItem_4 : decode cX4_addItem 4 = .ok (.iload_n 1, 1) := by decide +kernel
theorem dX4_addItem_5 : decode cX4_addItem 5 = .ok (.iconst 0, 1) := by decide +kernel
theorem dX4_addItem_6 : decode cX4_addItem 6 = .ok (.invokevirtual 29, 3) := by decide +kernel
theorem dX4_addItem_9 : decode cX4_addItem 9 = .ok (.istore_n 2, 1) := by decide +kernel
theorem dX4_addItem_10 : decode cX4_addItem 10 = .ok (.aload_n 0, 1) := by decide +kernel
theorem dX4_addItem_11 : decode cX4_addItem 11 = .ok (.getfield 33, 3) := by decide +kernel
theorem dX4_addItem_14 : decode cX4_addItem 14 = .ok (.iload_n 1, 1) := by decide +kernel
theorem dX4_addItem_15 : decode cX4_addItem 15 = .ok (.bipush 11, 2) := by decide +kernel
theorem dX4_addItem_17 : decode cX4_addItem 17 = .ok (.invokevirtual 29, 3) := by decide +kernel
theorem dX4_addItem_20 : decode cX4_addItem 20 = .ok (.istore_n 3, 1) := by decide +kernel
theorem dX4_addItem_21 : decode cX4_addItem 21 = .ok (.iconst 3, 1) := by decide +kernel
theorem dX4_addItem_22 : decode cX4_addItem 22 = .ok (.istore 4, 2) := by decide +kernel
theorem dX4_addItem_24 : decode cX4_addItem 24 = .ok (.iload 4, 2) := by decide +kernel
theorem dX4_addItem_26 : decode cX4_addItem 26 = .ok (.bipush 11, 2) := by decide +kernel
theorem dX4_addItem_28 : decode cX4_addItem 28 = .ok (.if_icmp .ge 111, 3) := by decide +kernel
theorem dX4_addItem_31 : decode cX4_addItem 31 = .ok (.aload_n 0, 1) := by decide +kernel
theorem dX4_addItem_32 : decode cX4_addItem 32 = .ok (.getfield 33, 3) := by decide +kernel
theorem dX4_addItem_35 : decode cX4_addItem 35 = .ok (.iload_n 1, 1) := by decide +kernel
theorem dX4_addItem_36 : decode cX4_addItem 36 = .ok (.iload 4, 2) := by decide +kernel
theorem dX4_addItem_38 : decode cX4_addItem 38 = .ok (.invokevirtual 29, 3) := by decide +kernel
theorem dX4_addItem_41 : decode cX4_addItem 41 = .ok (.iconst 2, 1) := by decide +kernel
theorem dX4_addItem_42 : decode cX4_addItem 42 = .ok (.if_icmp .eq 20, 3) := by decide +kernel
theorem dX4_addItem_62 : decode cX4_addItem 62 = .ok (.iconst 1, 1) := by decide +kernel
theorem dX4_addItem_63 : decode cX4_addItem 63 = .ok (.goto 4, 3) := by decide +kernel
theorem dX4_addItem_67 : decode cX4_addItem 67 = .ok (.istore 5, 2) := by decide +kernel
theorem dX4_addItem_69 : decode cX4_addItem 69 = .ok (.aload_n 0, 1) := by decide +kernel
theorem dX4_addItem_70 : decode cX4_addItem 70 = .ok (.getfield 19, 3) := by decide +kernel
theorem dX4_addItem_73 : decode cX4_addItem 73 = .ok (.aload_n 0, 1) := by decide +kernel
theorem dX4_addItem_74 : decode cX4_addItem 74 = .ok (.getfield 96, 3) := by decide +kernel
theorem dX4_addItem_77 : decode cX4_addItem 77 = .ok (.iload 4, 2) := by decide +kernel
theorem dX4_addItem_79 : decode cX4_addItem 79 = .ok (.aload_n 0, 1) := by decide +kernel
theorem dX4_addItem_80 : decode cX4_addItem 80 = .ok (.getfield 33, 3) := by decide +kernel
theorem dX4_addItem_83 : decode cX4_addItem 83 = .ok (.iload_n 1, 1) := by decide +kernel
theorem dX4_addItem_84 : decode cX4_addItem 84 = .ok (.iload 4, 2) := by decide +kernel
theorem dX4_addItem_86 : decode cX4_addItem 86 = .ok (.invokevirtual 29, 3) := by decide +kernel
theorem dX4_addItem_89 : decode cX4_addItem 89 = .ok (.invokevirtual 144, 3) := by decide +kernel
theorem dX4_addItem_92 : decode cX4_addItem 92 = .ok (.aload_n 0, 1) := by decide +kernel
theorem dX4_addItem_93 : decode cX4_addItem 93 = .ok (.getfield 19, 3) := by decide +kernel
theorem dX4_addItem_96 : decode cX4_addItem 96 = .ok (.aload_n 0, 1) := by decide +kernel
theorem dX4_addItem_97 : decode cX4_addItem 97 = .ok (.getfield 96, 3) := by decide +kernel
theorem dX4_addItem_100 : decode cX4_addItem 100 = .ok (.iload 4, 2) := by decide +kernel
theorem dX4_addItem_102 : decode cX4_addItem 102 = .ok (.iconst 1, 1) := by decide +kernel
theorem dX4_addItem_103 : decode cX4_addItem 103 = .ok (.iadd, 1) := by decide +kernel
theorem dX4_addItem_104 : decode cX4_addItem 104 = .ok (.aload_n 0, 1) := by decide +kernel
theorem dX4_addItem_105 : decode cX4_addItem 105 = .ok (.getfield 33, 3) := by decide +kernel
theorem dX4_addItem_108 : decode cX4_addItem 108 = .ok (.iload_n 1, 1) := by decide +kernel
theorem dX4_addItem_109 : decode cX4_addItem 109 = .ok (.iload 4, 2) := by decide +kernel
theorem dX4_addItem_111 : decode cX4_addItem 111 = .ok (.iconst 1, 1) := by decide +kernel
theorem dX4_addItem_112 : decode cX4_addItem 112 = .ok (.iadd, 1) := by decide +kernel
theorem dX4_addItem_113 : decode cX4_addItem 113 = .ok (.invokevirtual 29, 3) := by decide +kernel
theorem dX4_addItem_116 : decode cX4_addItem 116 = .ok (.iload 5, 2) := by decide +kernel
theorem dX4_addItem_118 : decode cX4_addItem 118 = .ok (.ifCond .eq 10, 3) := by decide +kernel
theorem dX4_addItem_121 : decode cX4_addItem 121 = .ok (.aload_n 0, 1) := by decide +kernel
theorem dX4_addItem_122 : decode cX4_addItem 122 = .ok (.getfield 57, 3) := by decide +kernel
theorem dX4_addItem_125 : decode cX4_addItem 125 = .ok (.goto 4, 3) := by decide +kernel
theorem dX4_addItem_129 : decode cX4_addItem 129 = .ok (.iadd, 1) := by decide +kernel
theorem dX4_addItem_130 : decode cX4_addItem 130 = .ok (.invokevirtual 144, 3) := by decide +kernel
theorem dX4_addItem_133 : decode cX4_addItem 133 = .ok (.iinc 4 2, 3) := by decide +kernel
theorem dX4_addItem_136 : decode cX4_addItem 136 = .ok (.goto (-112), 3) := by decide +kernel
theorem dX4_addItem_45 : decode cX4_addItem 45 = .ok (.iload 4, 2) := by decide +kernel
theorem dX4_addItem_47 : decode cX4_addItem 47 = .ok (.iconst 3, 1) := by decide +kernel
theorem dX4_addItem_48 : decode cX4_addItem 48 = .ok (.if_icmp .ne 18, 3) := by decide +kernel
theorem dX4_addItem_66 : decode cX4_addItem 66 = .ok (.iconst 0, 1) := by decide +kernel
theorem dX4_addItem_128 : decode cX4_addItem 128 = .ok (.iconst 0, 1) := by decide +kernel
theorem dX4_addItem_51 : decode cX4_addItem 51 = .ok (.iload_n 2, 1) := by decide +kernel
theorem dX4_addItem_52 : decode cX4_addItem 52 = .ok (.bipush 12, 2) := by decide +kernel
theorem dX4_addItem_54 : decode cX4_addItem 54 = .ok (.if_icmp .ne 12, 3) := by decide +kernel
theorem dX4_addItem_57 : decode cX4_addItem 57 = .ok (.iload_n 3, 1) := by decide +kernel
theorem dX4_addItem_58 : decode cX4_addItem 58 = .ok (.iconst 2, 1) := by decide +kernel
theorem dX4_addItem_59 : decode cX4_addItem 59 = .ok (.if_icmp .ne 7, 3) := by decide +kernel
set_option maxRecDepth 20000 in
theorem l_X4_addItem_24 (d : Nat) {T : CT} {σ0 : MS} {a : Nat} {c1 : Int} {c2 : Int} {c3 : Int} {post : Option Value → CT → MS → Prop} (h_a : OB T a 4) (r_c1 : -2147483648 ≤ c1 ∧ c1 ≤ 2147483647) (r_c2 : -2147483648 ≤ c2 ∧ c2 ≤ 2147483647) (r_c3 : -2147483648 ≤ c3 ∧ c3 ≤ 2147483647) (hw0 : WT T σ0) (hh : 0 ≤ σ0.2.1 25 a) (hg : 0 ≤ σ0.2.1 26 a) (hx_139 : ∀ (i4 : Int) (σ : MS) , (WT T σ) → (FrC T [] σ0 σ) → (3 ≤ i4 ∧ i4 ≤ 2147483647) → Tn (d + 3) m_X4_addItem 139 T σ [(0, .ref a), (1, .int (iI c1)), (2, .int (iI c2)), (3, .int (iI c3)), (4, .int (iI i4))] [] post) : ∀ (n : Nat) (i4 : Int) (σ : MS) , (WT T σ) → (FrC T [] σ0 σ) → (3 ≤ i4 ∧ i4 ≤ 2147483647) → (2147483700 - i4).toNat = n → Tn (d + 3) m_X4_addItem 24 T σ [(0, .ref a), (1, .int (iI c1)), (2, .int (iI c2)), (3, .int (iI c3)), (4, .int (iI i4))] [] post := by
  intro n
  induction n using Nat.strongRecOn with
  | _ n ih =>
    intro i4 σ hw hF r_i4 hm
    refine tn_iload dX4_addItem_24 4 rfl ?_
    refine tn_bipush dX4_addItem_26 (by decide) ?_
    refine tn_icmp_ge (tgt := 139) dX4_addItem_28 (by decide) ⟨by omega, by omega⟩ ⟨by decide, by decide⟩ (fun h1 => ?_) (fun h1 => ?_)
    · exact tn_sub [0, 1, 2, 3, 4] rfl (hx_139 (i4) σ hw (FrC.rfl.trans (FrC.sub hF (by decide))) (by omega))
    · refine tn_aload_n dX4_addItem_31 rfl 0 rfl ?_
      have nn9 : 0 ≤ σ0.2.1 26 a := (by omega)
      obtain ⟨x6, hx7, hk8⟩ := (wf_26 hw0 h_a).resolve_left (by omega)
      have hk8o : OB T x6 1 := ⟨by omega, by rw [hk8]; rfl, by omega⟩
      refine tn_getR (ci := 4) (i := 3) (n := 26) (x := x6) dX4_addItem_32 rfl lay_4 (by decide) fl4_33 h_a rfl rfl (rc_F hF (Or.inl (by decide)) (by decide) (hx7)) ?_
      refine tn_iload_n dX4_addItem_35 rfl 1 rfl ?_
      refine tn_iload dX4_addItem_36 4 rfl ?_
      refine tn_callV (M := m_X4_addItem) (pc := 38) (ix := 29) (ci := 1) (M' := m_X1_get) (As := [.int (iI c1), .int (iI i4)]) (rest := []) dX4_addItem_38 ok_X1_get im_X1_get se_X1_get ml4_29 np_X1_get rfl rfl hk8o rfl (Nat.le_of_ble_eq_true rfl) (Nat.le_of_ble_eq_true rfl) rfl (k_X1_get (d + 1) (T := T) (σ := σ) (a := x6) (k := c1) (c := i4) hk8o (by omega) (by omega) hw (by omega)) (fun r10 T12 σ11 gt13 hp => ?_)
      obtain ⟨v15, rfl, rfl, rfl, f14⟩ := hp
      clear gt13
      show Tn _ _ 41 T σ [(0, .ref a), (1, .int (iI c1)), (2, .int (iI c2)), (3, .int (iI c3)), (4, .int (iI i4))] [.int (iI v15)] _
      refine tn_iconst dX4_addItem_41 ?_
      refine tn_icmp_eq (tgt := 62) dX4_addItem_42 (by decide) ⟨by omega, by omega⟩ ⟨by decide, by decide⟩ (fun h16 => ?_) (fun h16 => ?_)
      · refine tn_iconst dX4_addItem_62 ?_
        refine tn_goto (tgt := 67) dX4_addItem_63 (by decide) ?_
        refine tn_istore (L' := [(5, .int (iI 1)), (0, .ref a), (1, .int (iI c1)), (2, .int (iI c2)), (3, .int (iI c3)), (4, .int (iI i4))]) dX4_addItem_67 (by decide) rfl ?_
        refine tn_aload_n dX4_addItem_69 rfl 1 rfl ?_
        have nn24 : 0 ≤ σ0.2.1 25 a := (by omega)
        obtain ⟨x21, hx22, hk23⟩ := (wf_25 hw0 h_a).resolve_left (by omega)
        have hk23o : OB T x21 1 := ⟨by omega, by rw [hk23]; rfl, by omega⟩
        refine tn_getR (ci := 4) (i := 2) (n := 25) (x := x21) dX4_addItem_70 rfl lay_4 (by decide) fl4_19 h_a rfl rfl (rc_F hF (Or.inl (by decide)) (by decide) (hx22)) ?_
        refine tn_aload_n dX4_addItem_73 rfl 1 rfl ?_
        refine tn_getI (ci := 4) (i := 9) (n := 32) (t := σ0.2.1 32 a) dX4_addItem_74 rfl lay_4 (by decide) fl4_96 h_a rfl rfl (rc_F hF (Or.inl (by decide)) (by decide) (rfl)) ?_
        have g25 : ((-2147483648 : Int) ≤ σ0.2.1 32 a ∧ σ0.2.1 32 a ≤ 2147483647) := wf_32 hw0 h_a
        refine tn_iload dX4_addItem_77 5 rfl ?_
        refine tn_aload_n dX4_addItem_79 rfl 1 rfl ?_
        refine tn_getR (ci := 4) (i := 3) (n := 26) (x := x6) dX4_addItem_80 rfl lay_4 (by decide) fl4_33 h_a rfl rfl (rc_F hF (Or.inl (by decide)) (by decide) (hx7)) ?_
        refine tn_iload_n dX4_addItem_83 rfl 2 rfl ?_
        refine tn_iload dX4_addItem_84 5 rfl ?_
        refine tn_callV (M := m_X4_addItem) (pc := 86) (ix := 29) (ci := 1) (M' := m_X1_get) (As := [.int (iI c1), .int (iI i4)]) (rest := [.int (iI i4), .int (iI (σ0.2.1 32 a)), .ref x21]) dX4_addItem_86 ok_X1_get im_X1_get se_X1_get ml4_29 np_X1_get rfl rfl hk8o rfl (Nat.le_of_ble_eq_true rfl) (Nat.le_of_ble_eq_true rfl) rfl (k_X1_get (d + 1) (T := T) (σ := σ) (a := x6) (k := c1) (c := i4) hk8o (by omega) (by omega) hw (by omega)) (fun r26 T28 σ27 gt29 hp => ?_)
        obtain ⟨v31, rfl, rfl, rfl, f30⟩ := hp
        clear gt29
        show Tn _ _ 89 T σ [(5, .int (iI 1)), (0, .ref a), (1, .int (iI c1)), (2, .int (iI c2)), (3, .int (iI c3)), (4, .int (iI i4))] [.int (iI v31), .int (iI i4), .int (iI (σ0.2.1 32 a)), .ref x21] _
        refine tn_callV (M := m_X4_addItem) (pc := 89) (ix := 144) (ci := 1) (M' := m_X1_set) (As := [.int (iI (σ0.2.1 32 a)), .int (iI i4), .int (iI v31)]) (rest := []) dX4_addItem_89 ok_X1_set im_X1_set se_X1_set ml4_144 np_X1_set rfl rfl hk23o rfl (Nat.le_of_ble_eq_true rfl) (Nat.le_of_ble_eq_true rfl) rfl (k_X1_set (d + 1) (T := T) (σ := σ) (a := x21) (k := σ0.2.1 32 a) (c := i4) (y := v31) hk23o (by omega) (by omega) (by omega) hw (by omega) (by omega)) (fun r32 T34 σ33 gt35 hp => ?_)
        obtain ⟨rfl, rfl, w37, F38⟩ := hp
        clear gt35
        show Tn _ _ 92 T σ33 [(5, .int (iI 1)), (0, .ref a), (1, .int (iI c1)), (2, .int (iI c2)), (3, .int (iI c3)), (4, .int (iI i4))] [] _
        refine tn_aload_n dX4_addItem_92 rfl 1 rfl ?_
        refine tn_getR (ci := 4) (i := 2) (n := 25) (x := x21) dX4_addItem_93 rfl lay_4 (by decide) fl4_19 h_a rfl rfl (rc_F F38 (Or.inl (by decide)) (by decide) (rc_F hF (Or.inl (by decide)) (by decide) (hx22))) ?_
        refine tn_aload_n dX4_addItem_96 rfl 1 rfl ?_
        refine tn_getI (ci := 4) (i := 9) (n := 32) (t := σ0.2.1 32 a) dX4_addItem_97 rfl lay_4 (by decide) fl4_96 h_a rfl rfl (rc_F F38 (Or.inl (by decide)) (by decide) (rc_F hF (Or.inl (by decide)) (by decide) (rfl))) ?_
        refine tn_iload dX4_addItem_100 5 rfl ?_
        refine tn_iconst dX4_addItem_102 ?_
        refine tn_iadd dX4_addItem_103 ?_
        refine tn_aload_n dX4_addItem_104 rfl 1 rfl ?_
        refine tn_getR (ci := 4) (i := 3) (n := 26) (x := x6) dX4_addItem_105 rfl lay_4 (by decide) fl4_33 h_a rfl rfl (rc_F F38 (Or.inl (by decide)) (by decide) (rc_F hF (Or.inl (by decide)) (by decide) (hx7))) ?_
        refine tn_iload_n dX4_addItem_108 rfl 2 rfl ?_
        refine tn_iload dX4_addItem_109 5 rfl ?_
        refine tn_iconst dX4_addItem_111 ?_
        refine tn_iadd dX4_addItem_112 ?_
        refine tn_callV (M := m_X4_addItem) (pc := 113) (ix := 29) (ci := 1) (M' := m_X1_get) (As := [.int (iI c1), .int (iI (i4 + 1))]) (rest := [.int (iI (i4 + 1)), .int (iI (σ0.2.1 32 a)), .ref x21]) dX4_addItem_113 ok_X1_get im_X1_get se_X1_get ml4_29 np_X1_get rfl rfl hk8o rfl (Nat.le_of_ble_eq_true rfl) (Nat.le_of_ble_eq_true rfl) rfl (k_X1_get (d + 1) (T := T) (σ := σ33) (a := x6) (k := c1) (c := i4 + 1) hk8o (by omega) (by omega) w37 (by omega)) (fun r39 T41 σ40 gt42 hp => ?_)
        obtain ⟨v44, rfl, rfl, rfl, f43⟩ := hp
        clear gt42
        show Tn _ _ 116 T σ33 [(5, .int (iI 1)), (0, .ref a), (1, .int (iI c1)), (2, .int (iI c2)), (3, .int (iI c3)), (4, .int (iI i4))] [.int (iI v44), .int (iI (i4 + 1)), .int (iI (σ0.2.1 32 a)), .ref x21] _
        refine tn_iload dX4_addItem_116 0 rfl ?_
        refine tn_if_eq (tgt := 128) dX4_addItem_118 (by decide) ⟨by decide, by decide⟩ (fun h => absurd h (by decide)) (fun _ => ?_)
        refine tn_aload_n dX4_addItem_121 rfl 1 rfl ?_
        refine tn_getI (ci := 4) (i := 4) (n := 27) (t := σ0.2.1 27 a) dX4_addItem_122 rfl lay_4 (by decide) fl4_57 h_a rfl rfl (rc_F F38 (Or.inl (by decide)) (by decide) (rc_F hF (Or.inl (by decide)) (by decide) (rfl))) ?_
        have g46 : ((-2147483648 : Int) ≤ σ0.2.1 27 a ∧ σ0.2.1 27 a ≤ 2147483647) := wf_27 hw0 h_a
        refine tn_goto (tgt := 129) dX4_addItem_125 (by decide) ?_
        refine tn_iadd dX4_addItem_129 ?_
        refine tn_any (fun z47 g48 => ?_)
        have g48r : -2147483648 ≤ z47 ∧ z47 ≤ 2147483647 := g48
        refine tn_callV (M := m_X4_addItem) (pc := 130) (ix := 144) (ci := 1) (M' := m_X1_set) (As := [.int (iI (σ0.2.1 32 a)), .int (iI (i4 + 1)), .int (iI z47)]) (rest := []) dX4_addItem_130 ok_X1_set im_X1_set se_X1_set ml4_144 np_X1_set rfl rfl hk23o rfl (Nat.le_of_ble_eq_true rfl) (Nat.le_of_ble_eq_true rfl) rfl (k_X1_set (d + 1) (T := T) (σ := σ33) (a := x21) (k := σ0.2.1 32 a) (c := i4 + 1) (y := z47) hk23o (by omega) (by omega) (by omega) w37 (by omega) (by omega)) (fun r49 T51 σ50 gt52 hp => ?_)
        obtain ⟨rfl, rfl, w54, F55⟩ := hp
        clear gt52
        show Tn _ _ 133 T σ50 [(5, .int (iI 1)), (0, .ref a), (1, .int (iI c1)), (2, .int (iI c2)), (3, .int (iI c3)), (4, .int (iI i4))] [] _
        refine tn_iinc (q0 := 5) (L' := [(4, .int (iI (i4 + 2))), (5, .int (iI 1)), (0, .ref a), (1, .int (iI c1)), (2, .int (iI c2)), (3, .int (iI c3))]) dX4_addItem_133 rfl (by decide) rfl ?_
        refine tn_goto (tgt := 24) dX4_addItem_136 (by decide) ?_
        exact tn_sub [2, 3, 4, 5, 0] rfl (ih _ (by omega) (i4 + 2) σ50 w54 (((FrC.rfl.trans (FrC.sub hF (by decide))).trans (FrC.sub F38 (by decide))).trans (FrC.sub F55 (by decide))) (by omega) rfl)
      · refine tn_iload dX4_addItem_45 4 rfl ?_
        refine tn_iconst dX4_addItem_47 ?_
        refine tn_icmp_ne (tgt := 66) dX4_addItem_48 (by decide) ⟨by omega, by omega⟩ ⟨by decide, by decide⟩ (fun h56 => ?_) (fun h56 => ?_)
        · refine tn_iconst dX4_addItem_66 ?_
          refine tn_istore (L' := [(5, .int (iI 0)), (0, .ref a), (1, .int (iI c1)), (2, .int (iI c2)), (3, .int (iI c3)), (4, .int (iI i4))]) dX4_addItem_67 (by decide) rfl ?_
          refine tn_aload_n dX4_addItem_69 rfl 1 rfl ?_
          have nn64 : 0 ≤ σ0.2.1 25 a := (by omega)
          obtain ⟨x61, hx62, hk63⟩ := (wf_25 hw0 h_a).resolve_left (by omega)
          have hk63o : OB T x61 1 := ⟨by omega, by rw [hk63]; rfl, by omega⟩
          refine tn_getR (ci := 4) (i := 2) (n := 25) (x := x61) dX4_addItem_70 rfl lay_4 (by decide) fl4_19 h_a rfl rfl (rc_F hF (Or.inl (by decide)) (by decide) (hx62)) ?_
          refine tn_aload_n dX4_addItem_73 rfl 1 rfl ?_
          refine tn_getI (ci := 4) (i := 9) (n := 32) (t := σ0.2.1 32 a) dX4_addItem_74 rfl lay_4 (by decide) fl4_96 h_a rfl rfl (rc_F hF (Or.inl (by decide)) (by decide) (rfl)) ?_
          have g65 : ((-2147483648 : Int) ≤ σ0.2.1 32 a ∧ σ0.2.1 32 a ≤ 2147483647) := wf_32 hw0 h_a
          refine tn_iload dX4_addItem_77 5 rfl ?_
          refine tn_aload_n dX4_addItem_79 rfl 1 rfl ?_
          refine tn_getR (ci := 4) (i := 3) (n := 26) (x := x6) dX4_addItem_80 rfl lay_4 (by decide) fl4_33 h_a rfl rfl (rc_F hF (Or.inl (by decide)) (by decide) (hx7)) ?_
          refine tn_iload_n dX4_addItem_83 rfl 2 rfl ?_
          refine tn_iload dX4_addItem_84 5 rfl ?_
          refine tn_callV (M := m_X4_addItem) (pc := 86) (ix := 29) (ci := 1) (M' := m_X1_get) (As := [.int (iI c1), .int (iI i4)]) (rest := [.int (iI i4), .int (iI (σ0.2.1 32 a)), .ref x61]) dX4_addItem_86 ok_X1_get im_X1_get se_X1_get ml4_29 np_X1_get rfl rfl hk8o rfl (Nat.le_of_ble_eq_true rfl) (Nat.le_of_ble_eq_true rfl) rfl (k_X1_get (d + 1) (T := T) (σ := σ) (a := x6) (k := c1) (c := i4) hk8o (by omega) (by omega) hw (by omega)) (fun r66 T68 σ67 gt69 hp => ?_)
          obtain ⟨v71, rfl, rfl, rfl, f70⟩ := hp
          clear gt69
          show Tn _ _ 89 T σ [(5, .int (iI 0)), (0, .ref a), (1, .int (iI c1)), (2, .int (iI c2)), (3, .int (iI c3)), (4, .int (iI i4))] [.int (iI v71), .int (iI i4), .int (iI (σ0.2.1 32 a)), .ref x61] _
          refine tn_callV (M := m_X4_addItem) (pc := 89) (ix := 144) (ci := 1) (M' := m_X1_set) (As := [.int (iI (σ0.2.1 32 a)), .int (iI i4), .int (iI v71)]) (rest := []) dX4_addItem_89 ok_X1_set im_X1_set se_X1_set ml4_144 np_X1_set rfl rfl hk63o rfl (Nat.le_of_ble_eq_true rfl) (Nat.le_of_ble_eq_true rfl) rfl (k_X1_set (d + 1) (T := T) (σ := σ) (a := x61) (k := σ0.2.1 32 a) (c := i4) (y := v71) hk63o (by omega) (by omega) (by omega) hw (by omega) (by omega)) (fun r72 T74 σ73 gt75 hp => ?_)
          obtain ⟨rfl, rfl, w77, F78⟩ := hp
          clear gt75
          show Tn _ _ 92 T σ73 [(5, .int (iI 0)), (0, .ref a), (1, .int (iI c1)), (2, .int (iI c2)), (3, .int (iI c3)), (4, .int (iI i4))] [] _
          refine tn_aload_n dX4_addItem_92 rfl 1 rfl ?_
          refine tn_getR (ci := 4) (i := 2) (n := 25) (x := x61) dX4_addItem_93 rfl lay_4 (by decide) fl4_19 h_a rfl rfl (rc_F F78 (Or.inl (by decide)) (by decide) (rc_F hF (Or.inl (by decide)) (by decide) (hx62))) ?_
          refine tn_aload_n dX4_addItem_96 rfl 1 rfl ?_
          refine tn_getI (ci := 4) (i := 9) (n := 32) (t := σ0.2.1 32 a) dX4_addItem_97 rfl lay_4 (by decide) fl4_96 h_a rfl rfl (rc_F F78 (Or.inl (by decide)) (by decide) (rc_F hF (Or.inl (by decide)) (by decide) (rfl))) ?_
          refine tn_iload dX4_addItem_100 5 rfl ?_
          refine tn_iconst dX4_addItem_102 ?_
          refine tn_iadd dX4_addItem_103 ?_
          refine tn_aload_n dX4_addItem_104 rfl 1 rfl ?_
          refine tn_getR (ci := 4) (i := 3) (n := 26) (x := x6) dX4_addItem_105 rfl lay_4 (by decide) fl4_33 h_a rfl rfl (rc_F F78 (Or.inl (by decide)) (by decide) (rc_F hF (Or.inl (by decide)) (by decide) (hx7))) ?_
          refine tn_iload_n dX4_addItem_108 rfl 2 rfl ?_
          refine tn_iload dX4_addItem_109 5 rfl ?_
          refine tn_iconst dX4_addItem_111 ?_
          refine tn_iadd dX4_addItem_112 ?_
          refine tn_callV (M := m_X4_addItem) (pc := 113) (ix := 29) (ci := 1) (M' := m_X1_get) (As := [.int (iI c1), .int (iI (i4 + 1))]) (rest := [.int (iI (i4 + 1)), .int (iI (σ0.2.1 32 a)), .ref x61]) dX4_addItem_113 ok_X1_get im_X1_get se_X1_get ml4_29 np_X1_get rfl rfl hk8o rfl (Nat.le_of_ble_eq_true rfl) (Nat.le_of_ble_eq_true rfl) rfl (k_X1_get (d + 1) (T := T) (σ := σ73) (a := x6) (k := c1) (c := i4 + 1) hk8o (by omega) (by omega) w77 (by omega)) (fun r79 T81 σ80 gt82 hp => ?_)
          obtain ⟨v84, rfl, rfl, rfl, f83⟩ := hp
          clear gt82
          show Tn _ _ 116 T σ73 [(5, .int (iI 0)), (0, .ref a), (1, .int (iI c1)), (2, .int (iI c2)), (3, .int (iI c3)), (4, .int (iI i4))] [.int (iI v84), .int (iI (i4 + 1)), .int (iI (σ0.2.1 32 a)), .ref x61] _
          refine tn_iload dX4_addItem_116 0 rfl ?_
          refine tn_if_eq (tgt := 128) dX4_addItem_118 (by decide) ⟨by decide, by decide⟩ (fun _ => ?_) (fun h => absurd h (by decide))
          refine tn_iconst dX4_addItem_128 ?_
          refine tn_iadd dX4_addItem_129 ?_
          refine tn_callV (M := m_X4_addItem) (pc := 130) (ix := 144) (ci := 1) (M' := m_X1_set) (As := [.int (iI (σ0.2.1 32 a)), .int (iI (i4 + 1)), .int (iI (v84 + 0))]) (rest := []) dX4_addItem_130 ok_X1_set im_X1_set se_X1_set ml4_144 np_X1_set rfl rfl hk63o rfl (Nat.le_of_ble_eq_true rfl) (Nat.le_of_ble_eq_true rfl) rfl (k_X1_set (d + 1) (T := T) (σ := σ73) (a := x61) (k := σ0.2.1 32 a) (c := i4 + 1) (y := v84 + 0) hk63o (by omega) (by omega) (by omega) w77 (by omega) (by omega)) (fun r86 T88 σ87 gt89 hp => ?_)
          obtain ⟨rfl, rfl, w91, F92⟩ := hp
          clear gt89
          show Tn _ _ 133 T σ87 [(5, .int (iI 0)), (0, .ref a), (1, .int (iI c1)), (2, .int (iI c2)), (3, .int (iI c3)), (4, .int (iI i4))] [] _
          refine tn_iinc (q0 := 5) (L' := [(4, .int (iI (i4 + 2))), (5, .int (iI 0)), (0, .ref a), (1, .int (iI c1)), (2, .int (iI c2)), (3, .int (iI c3))]) dX4_addItem_133 rfl (by decide) rfl ?_
          refine tn_goto (tgt := 24) dX4_addItem_136 (by decide) ?_
          exact tn_sub [2, 3, 4, 5, 0] rfl (ih _ (by omega) (i4 + 2) σ87 w91 (((FrC.rfl.trans (FrC.sub hF (by decide))).trans (FrC.sub F78 (by decide))).trans (FrC.sub F92 (by decide))) (by omega) rfl)
        · refine tn_iload_n dX4_addItem_51 rfl 2 rfl ?_
          refine tn_bipush dX4_addItem_52 (by decide) ?_
          refine tn_icmp_ne (tgt := 66) dX4_addItem_54 (by decide) ⟨by omega, by omega⟩ ⟨by decide, by decide⟩ (fun h93 => ?_) (fun h93 => ?_)
          · refine tn_iconst dX4_addItem_66 ?_
            refine tn_istore (L' := [(5, .int (iI 0)), (0, .ref a), (1, .int (iI c1)), (2, .int (iI c2)), (3, .int (iI c3)), (4, .int (iI i4))]) dX4_addItem_67 (by decide) rfl ?_
            refine tn_aload_n dX4_addItem_69 rfl 1 rfl ?_
            have nn101 : 0 ≤ σ0.2.1 25 a := (by omega)
            obtain ⟨x98, hx99, hk100⟩ := (wf_25 hw0 h_a).resolve_left (by omega)
            have hk100o : OB T x98 1 := ⟨by omega, by rw [hk100]; rfl, by omega⟩
            refine tn_getR (ci := 4) (i := 2) (n := 25) (x := x98) dX4_addItem_70 rfl lay_4 (by decide) fl4_19 h_a rfl rfl (rc_F hF (Or.inl (by decide)) (by decide) (hx99)) ?_
            refine tn_aload_n dX4_addItem_73 rfl 1 rfl ?_
            refine tn_getI (ci := 4) (i := 9) (n := 32) (t := σ0.2.1 32 a) dX4_addItem_74 rfl lay_4 (by decide) fl4_96 h_a rfl rfl (rc_F hF (Or.inl (by decide)) (by decide) (rfl)) ?_
            have g102 : ((-2147483648 : Int) ≤ σ0.2.1 32 a ∧ σ0.2.1 32 a ≤ 2147483647) := wf_32 hw0 h_a
            refine tn_iload dX4_addItem_77 5 rfl ?_
            refine tn_aload_n dX4_addItem_79 rfl 1 rfl ?_
            refine tn_getR (ci := 4) (i := 3) (n := 26) (x := x6) dX4_addItem_80 rfl lay_4 (by decide) fl4_33 h_a rfl rfl (rc_F hF (Or.inl (by decide)) (by decide) (hx7)) ?_
            refine tn_iload_n dX4_addItem_83 rfl 2 rfl ?_
            refine tn_iload dX4_addItem_84 5 rfl ?_
            refine tn_callV (M := m_X4_addItem) (pc := 86) (ix := 29) (ci := 1) (M' := m_X1_get) (As := [.int (iI c1), .int (iI i4)]) (rest := [.int (iI i4), .int (iI (σ0.2.1 32 a)), .ref x98]) dX4_addItem_86 ok_X1_get im_X1_get se_X1_get ml4_29 np_X1_get rfl rfl hk8o rfl (Nat.le_of_ble_eq_true rfl) (Nat.le_of_ble_eq_true rfl) rfl (k_X1_get (d + 1) (T := T) (σ := σ) (a := x6) (k := c1) (c := i4) hk8o (by omega) (by omega) hw (by omega)) (fun r103 T105 σ104 gt106 hp => ?_)
            obtain ⟨v108, rfl, rfl, rfl, f107⟩ := hp
            clear gt106
            show Tn _ _ 89 T σ [(5, .int (iI 0)), (0, .ref a), (1, .int (iI c1)), (2, .int (iI c2)), (3, .int (iI c3)), (4, .int (iI i4))] [.int (iI v108), .int (iI i4), .int (iI (σ0.2.1 32 a)), .ref x98] _
            refine tn_callV (M := m_X4_addItem) (pc := 89) (ix := 144) (ci := 1) (M' := m_X1_set) (As := [.int (iI (σ0.2.1 32 a)), .int (iI i4), .int (iI v108)]) (rest := []) dX4_addItem_89 ok_X1_set im_X1_set se_X1_set ml4_144 np_X1_set rfl rfl hk100o rfl (Nat.le_of_ble_eq_true rfl) (Nat.le_of_ble_eq_true rfl) rfl (k_X1_set (d + 1) (T := T) (σ := σ) (a := x98) (k := σ0.2.1 32 a) (c := i4) (y := v108) hk100o (by omega) (by omega) (by omega) hw (by omega) (by omega)) (fun r109 T111 σ110 gt112 hp => ?_)
            obtain ⟨rfl, rfl, w114, F115⟩ := hp
            clear gt112
            show Tn _ _ 92 T σ110 [(5, .int (iI 0)), (0, .ref a), (1, .int (iI c1)), (2, .int (iI c2)), (3, .int (iI c3)), (4, .int (iI i4))] [] _
            refine tn_aload_n dX4_addItem_92 rfl 1 rfl ?_
            refine tn_getR (ci := 4) (i := 2) (n := 25) (x := x98) dX4_addItem_93 rfl lay_4 (by decide) fl4_19 h_a rfl rfl (rc_F F115 (Or.inl (by decide)) (by decide) (rc_F hF (Or.inl (by decide)) (by decide) (hx99))) ?_
            refine tn_aload_n dX4_addItem_96 rfl 1 rfl ?_
            refine tn_getI (ci := 4) (i := 9) (n := 32) (t := σ0.2.1 32 a) dX4_addItem_97 rfl lay_4 (by decide) fl4_96 h_a rfl rfl (rc_F F115 (Or.inl (by decide)) (by decide) (rc_F hF (Or.inl (by decide)) (by decide) (rfl))) ?_
            refine tn_iload dX4_addItem_100 5 rfl ?_
            refine tn_iconst dX4_addItem_102 ?_
            refine tn_iadd dX4_addItem_103 ?_
            refine tn_aload_n dX4_addItem_104 rfl 1 rfl ?_
            refine tn_getR (ci := 4) (i := 3) (n := 26) (x := x6) dX4_addItem_105 rfl lay_4 (by decide) fl4_33 h_a rfl rfl (rc_F F115 (Or.inl (by decide)) (by decide) (rc_F hF (Or.inl (by decide)) (by decide) (hx7))) ?_
            refine tn_iload_n dX4_addItem_108 rfl 2 rfl ?_
            refine tn_iload dX4_addItem_109 5 rfl ?_
            refine tn_iconst dX4_addItem_111 ?_
            refine tn_iadd dX4_addItem_112 ?_
            refine tn_callV (M := m_X4_addItem) (pc := 113) (ix := 29) (ci := 1) (M' := m_X1_get) (As := [.int (iI c1), .int (iI (i4 + 1))]) (rest := [.int (iI (i4 + 1)), .int (iI (σ0.2.1 32 a)), .ref x98]) dX4_addItem_113 ok_X1_get im_X1_get se_X1_get ml4_29 np_X1_get rfl rfl hk8o rfl (Nat.le_of_ble_eq_true rfl) (Nat.le_of_ble_eq_true rfl) rfl (k_X1_get (d + 1) (T := T) (σ := σ110) (a := x6) (k := c1) (c := i4 + 1) hk8o (by omega) (by omega) w114 (by omega)) (fun r116 T118 σ117 gt119 hp => ?_)
            obtain ⟨v121, rfl, rfl, rfl, f120⟩ := hp
            clear gt119
            show Tn _ _ 116 T σ110 [(5, .int (iI 0)), (0, .ref a), (1, .int (iI c1)), (2, .int (iI c2)), (3, .int (iI c3)), (4, .int (iI i4))] [.int (iI v121), .int (iI (i4 + 1)), .int (iI (σ0.2.1 32 a)), .ref x98] _
            refine tn_iload dX4_addItem_116 0 rfl ?_
            refine tn_if_eq (tgt := 128) dX4_addItem_118 (by decide) ⟨by decide, by decide⟩ (fun _ => ?_) (fun h => absurd h (by decide))
            refine tn_iconst dX4_addItem_128 ?_
            refine tn_iadd dX4_addItem_129 ?_
            refine tn_callV (M := m_X4_addItem) (pc := 130) (ix := 144) (ci := 1) (M' := m_X1_set) (As := [.int (iI (σ0.2.1 32 a)), .int (iI (i4 + 1)), .int (iI (v121 + 0))]) (rest := []) dX4_addItem_130 ok_X1_set im_X1_set se_X1_set ml4_144 np_X1_set rfl rfl hk100o rfl (Nat.le_of_ble_eq_true rfl) (Nat.le_of_ble_eq_true rfl) rfl (k_X1_set (d + 1) (T := T) (σ := σ110) (a := x98) (k := σ0.2.1 32 a) (c := i4 + 1) (y := v121 + 0) hk100o (by omega) (by omega) (by omega) w114 (by omega) (by omega)) (fun r123 T125 σ124 gt126 hp => ?_)
            obtain ⟨rfl, rfl, w128, F129⟩ := hp
            clear gt126
            show Tn _ _ 133 T σ124 [(5, .int (iI 0)), (0, .ref a), (1, .int (iI c1)), (2, .int (iI c2)), (3, .int (iI c3)), (4, .int (iI i4))] [] _
            refine tn_iinc (q0 := 5) (L' := [(4, .int (iI (i4 + 2))), (5, .int (iI 0)), (0, .ref a), (1, .int (iI c1)), (2, .int (iI c2)), (3, .int (iI c3))]) dX4_addItem_133 rfl (by decide) rfl ?_
            refine tn_goto (tgt := 24) dX4_addItem_136 (by decide) ?_
            exact tn_sub [2, 3, 4, 5, 0] rfl (ih _ (by omega) (i4 + 2) σ124 w128 (((FrC.rfl.trans (FrC.sub hF (by decide))).trans (FrC.sub F115 (by decide))).trans (FrC.sub F129 (by decide))) (by omega) rfl)
          · refine tn_iload_n dX4_addItem_57 rfl 3 rfl ?_
            refine tn_iconst dX4_addItem_58 ?_
            refine tn_icmp_ne (tgt := 66) dX4_addItem_59 (by decide) ⟨by omega, by omega⟩ ⟨by decide, by decide⟩ (fun h130 => ?_) (fun h130 => ?_)
            · refine tn_iconst dX4_addItem_66 ?_
              refine tn_istore (L' := [(5, .int (iI 0)), (0, .ref a), (1, .int (iI c1)), (2, .int (iI c2)), (3, .int (iI c3)), (4, .int (iI i4))]) dX4_addItem_67 (by decide) rfl ?_
              refine tn_aload_n dX4_addItem_69 rfl 1 rfl ?_
              have nn138 : 0 ≤ σ0.2.1 25 a := (by omega)
              obtain ⟨x135, hx136, hk137⟩ := (wf_25 hw0 h_a).resolve_left (by omega)
              have hk137o : OB T x135 1 := ⟨by omega, by rw [hk137]; rfl, by omega⟩
              refine tn_getR (ci := 4) (i := 2) (n := 25) (x := x135) dX4_addItem_70 rfl lay_4 (by decide) fl4_19 h_a rfl rfl (rc_F hF (Or.inl (by decide)) (by decide) (hx136)) ?_
              refine tn_aload_n dX4_addItem_73 rfl 1 rfl ?_
              refine tn_getI (ci := 4) (i := 9) (n := 32) (t := σ0.2.1 32 a) dX4_addItem_74 rfl lay_4 (by decide) fl4_96 h_a rfl rfl (rc_F hF (Or.inl (by decide)) (by decide) (rfl)) ?_
              have g139 : ((-2147483648 : Int) ≤ σ0.2.1 32 a ∧ σ0.2.1 32 a ≤ 2147483647) := wf_32 hw0 h_a
              refine tn_iload dX4_addItem_77 5 rfl ?_
              refine tn_aload_n dX4_addItem_79 rfl 1 rfl ?_
              refine tn_getR (ci := 4) (i := 3) (n := 26) (x := x6) dX4_addItem_80 rfl lay_4 (by decide) fl4_33 h_a rfl rfl (rc_F hF (Or.inl (by decide)) (by decide) (hx7)) ?_
              refine tn_iload_n dX4_addItem_83 rfl 2 rfl ?_
              refine tn_iload dX4_addItem_84 5 rfl ?_
              refine tn_callV (M := m_X4_addItem) (pc := 86) (ix := 29) (ci := 1) (M' := m_X1_get) (As := [.int (iI c1), .int (iI i4)]) (rest := [.int (iI i4), .int (iI (σ0.2.1 32 a)), .ref x135]) dX4_addItem_86 ok_X1_get im_X1_get se_X1_get ml4_29 np_X1_get rfl rfl hk8o rfl (Nat.le_of_ble_eq_true rfl) (Nat.le_of_ble_eq_true rfl) rfl (k_X1_get (d + 1) (T := T) (σ := σ) (a := x6) (k := c1) (c := i4) hk8o (by omega) (by omega) hw (by omega)) (fun r140 T142 σ141 gt143 hp => ?_)
              obtain ⟨v145, rfl, rfl, rfl, f144⟩ := hp
              clear gt143
              show Tn _ _ 89 T σ [(5, .int (iI 0)), (0, .ref a), (1, .int (iI c1)), (2, .int (iI c2)), (3, .int (iI c3)), (4, .int (iI i4))] [.int (iI v145), .int (iI i4), .int (iI (σ0.2.1 32 a)), .ref x135] _
              refine tn_callV (M := m_X4_addItem) (pc := 89) (ix := 144) (ci := 1) (M' := m_X1_set) (As := [.int (iI (σ0.2.1 32 a)), .int (iI i4), .int (iI v145)]) (rest := []) dX4_addItem_89 ok_X1_set im_X1_set se_X1_set ml4_144 np_X1_set rfl rfl hk137o rfl (Nat.le_of_ble_eq_true rfl) (Nat.le_of_ble_eq_true rfl) rfl (k_X1_set (d + 1) (T := T) (σ := σ) (a := x135) (k := σ0.2.1 32 a) (c := i4) (y := v145) hk137o (by omega) (by omega) (by omega) hw (by omega) (by omega)) (fun r146 T148 σ147 gt149 hp => ?_)
              obtain ⟨rfl, rfl, w151, F152⟩ := hp
              clear gt149
              show Tn _ _ 92 T σ147 [(5, .int (iI 0)), (0, .ref a), (1, .int (iI c1)), (2, .int (iI c2)), (3, .int (iI c3)), (4, .int (iI i4))] [] _
              refine tn_aload_n dX4_addItem_92 rfl 1 rfl ?_
              refine tn_getR (ci := 4) (i := 2) (n := 25) (x := x135) dX4_addItem_93 rfl lay_4 (by decide) fl4_19 h_a rfl rfl (rc_F F152 (Or.inl (by decide)) (by decide) (rc_F hF (Or.inl (by decide)) (by decide) (hx136))) ?_
              refine tn_aload_n dX4_addItem_96 rfl 1 rfl ?_
              refine tn_getI (ci := 4) (i := 9) (n := 32) (t := σ0.2.1 32 a) dX4_addItem_97 rfl lay_4 (by decide) fl4_96 h_a rfl rfl (rc_F F152 (Or.inl (by decide)) (by decide) (rc_F hF (Or.inl (by decide)) (by decide) (rfl))) ?_
              refine tn_iload dX4_addItem_100 5 rfl ?_
              refine tn_iconst dX4_addItem_102 ?_
              refine tn_iadd dX4_addItem_103 ?_
              refine tn_aload_n dX4_addItem_104 rfl 1 rfl ?_
              refine tn_getR (ci := 4) (i := 3) (n := 26) (x := x6) dX4_addItem_105 rfl lay_4 (by decide) fl4_33 h_a rfl rfl (rc_F F152 (Or.inl (by decide)) (by decide) (rc_F hF (Or.inl (by decide)) (by decide) (hx7))) ?_
              refine tn_iload_n dX4_addItem_108 rfl 2 rfl ?_
              refine tn_iload dX4_addItem_109 5 rfl ?_
              refine tn_iconst dX4_addItem_111 ?_
              refine tn_iadd dX4_addItem_112 ?_
              refine tn_callV (M := m_X4_addItem) (pc := 113) (ix := 29) (ci := 1) (M' := m_X1_get) (As := [.int (iI c1), .int (iI (i4 + 1))]) (rest := [.int (iI (i4 + 1)), .int (iI (σ0.2.1 32 a)), .ref x135]) dX4_addItem_113 ok_X1_get im_X1_get se_X1_get ml4_29 np_X1_get rfl rfl hk8o rfl (Nat.le_of_ble_eq_true rfl) (Nat.le_of_ble_eq_true rfl) rfl (k_X1_get (d + 1) (T := T) (σ := σ147) (a := x6) (k := c1) (c := i4 + 1) hk8o (by omega) (by omega) w151 (by omega)) (fun r153 T155 σ154 gt156 hp => ?_)
              obtain ⟨v158, rfl, rfl, rfl, f157⟩ := hp
              clear gt156
              show Tn _ _ 116 T σ147 [(5, .int (iI 0)), (0, .ref a), (1, .int (iI c1)), (2, .int (iI c2)), (3, .int (iI c3)), (4, .int (iI i4))] [.int (iI v158), .int (iI (i4 + 1)), .int (iI (σ0.2.1 32 a)), .ref x135] _
              refine tn_iload dX4_addItem_116 0 rfl ?_
              refine tn_if_eq (tgt := 128) dX4_addItem_118 (by decide) ⟨by decide, by decide⟩ (fun _ => ?_) (fun h => absurd h (by decide))
              refine tn_iconst dX4_addItem_128 ?_
              refine tn_iadd dX4_addItem_129 ?_
              refine tn_callV (M := m_X4_addItem) (pc := 130) (ix := 144) (ci := 1) (M' := m_X1_set) (As := [.int (iI (σ0.2.1 32 a)), .int (iI (i4 + 1)), .int (iI (v158 + 0))]) (rest := []) dX4_addItem_130 ok_X1_set im_X1_set se_X1_set ml4_144 np_X1_set rfl rfl hk137o rfl (Nat.le_of_ble_eq_true rfl) (Nat.le_of_ble_eq_true rfl) rfl (k_X1_set (d + 1) (T := T) (σ := σ147) (a := x135) (k := σ0.2.1 32 a) (c := i4 + 1) (y := v158 + 0) hk137o (by omega) (by omega) (by omega) w151 (by omega) (by omega)) (fun r160 T162 σ161 gt163 hp => ?_)
              obtain ⟨rfl, rfl, w165, F166⟩ := hp
              clear gt163
              show Tn _ _ 133 T σ161 [(5, .int (iI 0)), (0, .ref a), (1, .int (iI c1)), (2, .int (iI c2)), (3, .int (iI c3)), (4, .int (iI i4))] [] _
              refine tn_iinc (q0 := 5) (L' := [(4, .int (iI (i4 + 2))), (5, .int (iI 0)), (0, .ref a), (1, .int (iI c1)), (2, .int (iI c2)), (3, .int (iI c3))]) dX4_addItem_133 rfl (by decide) rfl ?_
              refine tn_goto (tgt := 24) dX4_addItem_136 (by decide) ?_
              exact tn_sub [2, 3, 4, 5, 0] rfl (ih _ (by omega) (i4 + 2) σ161 w165 (((FrC.rfl.trans (FrC.sub hF (by decide))).trans (FrC.sub F152 (by decide))).trans (FrC.sub F166 (by decide))) (by omega) rfl)
            · refine tn_iconst dX4_addItem_62 ?_
              refine tn_goto (tgt := 67) dX4_addItem_63 (by decide) ?_
              refine tn_istore (L' := [(5, .int (iI 1)), (0, .ref a), (1, .int (iI c1)), (2, .int (iI c2)), (3, .int (iI c3)), (4, .int (iI i4))]) dX4_addItem_67 (by decide) rfl ?_
              refine tn_aload_n dX4_addItem_69 rfl 1 rfl ?_
              have nn174 : 0 ≤ σ0.2.1 25 a := (by omega)
              obtain ⟨x171, hx172, hk173⟩ := (wf_25 hw0 h_a).resolve_left (by omega)
              have hk173o : OB T x171 1 := ⟨by omega, by rw [hk173]; rfl, by omega⟩
              refine tn_getR (ci := 4) (i := 2) (n := 25) (x := x171) dX4_addItem_70 rfl lay_4 (by decide) fl4_19 h_a rfl rfl (rc_F hF (Or.inl (by decide)) (by decide) (hx172)) ?_
              refine tn_aload_n dX4_addItem_73 rfl 1 rfl ?_
              refine tn_getI (ci := 4) (i := 9) (n := 32) (t := σ0.2.1 32 a) dX4_addItem_74 rfl lay_4 (by decide) fl4_96 h_a rfl rfl (rc_F hF (Or.inl (by decide)) (by decide) (rfl)) ?_
              have g175 : ((-2147483648 : Int) ≤ σ0.2.1 32 a ∧ σ0.2.1 32 a ≤ 2147483647) := wf_32 hw0 h_a
              refine tn_iload dX4_addItem_77 5 rfl ?_
              refine tn_aload_n dX4_addItem_79 rfl 1 rfl ?_
              refine tn_getR (ci := 4) (i := 3) (n := 26) (x := x6) dX4_addItem_80 rfl lay_4 (by decide) fl4_33 h_a rfl rfl (rc_F hF (Or.inl (by decide)) (by decide) (hx7)) ?_
              refine tn_iload_n dX4_addItem_83 rfl 2 rfl ?_
              refine tn_iload dX4_addItem_84 5 rfl ?_
              refine tn_callV (M := m_X4_addItem) (pc := 86) (ix := 29) (ci := 1) (M' := m_X1_get) (As := [.int (iI c1), .int (iI i4)]) (rest := [.int (iI i4), .int (iI (σ0.2.1 32 a)), .ref x171]) dX4_addItem_86 ok_X1_get im_X1_get se_X1_get ml4_29 np_X1_get rfl rfl hk8o rfl (Nat.le_of_ble_eq_true rfl) (Nat.le_of_ble_eq_true rfl) rfl (k_X1_get (d + 1) (T := T) (σ := σ) (a := x6) (k := c1) (c := i4) hk8o (by omega) (by omega) hw (by omega)) (fun r176 T178 σ177 gt179 hp => ?_)
              obtain ⟨v181, rfl, rfl, rfl, f180⟩ := hp
              clear gt179
              show Tn _ _ 89 T σ [(5, .int (iI 1)), (0, .ref a), (1, .int (iI c1)), (2, .int (iI c2)), (3, .int (iI c3)), (4, .int (iI i4))] [.int (iI v181), .int (iI i4), .int (iI (σ0.2.1 32 a)), .ref x171] _
              refine tn_callV (M := m_X4_addItem) (pc := 89) (ix := 144) (ci := 1) (M' := m_X1_set) (As := [.int (iI (σ0.2.1 32 a)), .int (iI i4), .int (iI v181)]) (rest := []) dX4_addItem_89 ok_X1_set im_X1_set se_X1_set ml4_144 np_X1_set rfl rfl hk173o rfl (Nat.le_of_ble_eq_true rfl) (Nat.le_of_ble_eq_true rfl) rfl (k_X1_set (d + 1) (T := T) (σ := σ) (a := x171) (k := σ0.2.1 32 a) (c := i4) (y := v181) hk173o (by omega) (by omega) (by omega) hw (by omega) (by omega)) (fun r182 T184 σ183 gt185 hp => ?_)
              obtain ⟨rfl, rfl, w187, F188⟩ := hp
              clear gt185
              show Tn _ _ 92 T σ183 [(5, .int (iI 1)), (0, .ref a), (1, .int (iI c1)), (2, .int (iI c2)), (3, .int (iI c3)), (4, .int (iI i4))] [] _
              refine tn_aload_n dX4_addItem_92 rfl 1 rfl ?_
              refine tn_getR (ci := 4) (i := 2) (n := 25) (x := x171) dX4_addItem_93 rfl lay_4 (by decide) fl4_19 h_a rfl rfl (rc_F F188 (Or.inl (by decide)) (by decide) (rc_F hF (Or.inl (by decide)) (by decide) (hx172))) ?_
              refine tn_aload_n dX4_addItem_96 rfl 1 rfl ?_
              refine tn_getI (ci := 4) (i := 9) (n := 32) (t := σ0.2.1 32 a) dX4_addItem_97 rfl lay_4 (by decide) fl4_96 h_a rfl rfl (rc_F F188 (Or.inl (by decide)) (by decide) (rc_F hF (Or.inl (by decide)) (by decide) (rfl))) ?_
              refine tn_iload dX4_addItem_100 5 rfl ?_
              refine tn_iconst dX4_addItem_102 ?_
              refine tn_iadd dX4_addItem_103 ?_
              refine tn_aload_n dX4_addItem_104 rfl 1 rfl ?_
              refine tn_getR (ci := 4) (i := 3) (n := 26) (x := x6) dX4_addItem_105 rfl lay_4 (by decide) fl4_33 h_a rfl rfl (rc_F F188 (Or.inl (by decide)) (by decide) (rc_F hF (Or.inl (by decide)) (by decide) (hx7))) ?_
              refine tn_iload_n dX4_addItem_108 rfl 2 rfl ?_
              refine tn_iload dX4_addItem_109 5 rfl ?_
              refine tn_iconst dX4_addItem_111 ?_
              refine tn_iadd dX4_addItem_112 ?_
              refine tn_callV (M := m_X4_addItem) (pc := 113) (ix := 29) (ci := 1) (M' := m_X1_get) (As := [.int (iI c1), .int (iI (i4 + 1))]) (rest := [.int (iI (i4 + 1)), .int (iI (σ0.2.1 32 a)), .ref x171]) dX4_addItem_113 ok_X1_get im_X1_get se_X1_get ml4_29 np_X1_get rfl rfl hk8o rfl (Nat.le_of_ble_eq_true rfl) (Nat.le_of_ble_eq_true rfl) rfl (k_X1_get (d + 1) (T := T) (σ := σ183) (a := x6) (k := c1) (c := i4 + 1) hk8o (by omega) (by omega) w187 (by omega)) (fun r189 T191 σ190 gt192 hp => ?_)
              obtain ⟨v194, rfl, rfl, rfl, f193⟩ := hp
              clear gt192
              show Tn _ _ 116 T σ183 [(5, .int (iI 1)), (0, .ref a), (1, .int (iI c1)), (2, .int (iI c2)), (3, .int (iI c3)), (4, .int (iI i4))] [.int (iI v194), .int (iI (i4 + 1)), .int (iI (σ0.2.1 32 a)), .ref x171] _
              refine tn_iload dX4_addItem_116 0 rfl ?_
              refine tn_if_eq (tgt := 128) dX4_addItem_118 (by decide) ⟨by decide, by decide⟩ (fun h => absurd h (by decide)) (fun _ => ?_)
              refine tn_aload_n dX4_addItem_121 rfl 1 rfl ?_
              refine tn_getI (ci := 4) (i := 4) (n := 27) (t := σ0.2.1 27 a) dX4_addItem_122 rfl lay_4 (by decide) fl4_57 h_a rfl rfl (rc_F F188 (Or.inl (by decide)) (by decide) (rc_F hF (Or.inl (by decide)) (by decide) (rfl))) ?_
              have g196 : ((-2147483648 : Int) ≤ σ0.2.1 27 a ∧ σ0.2.1 27 a ≤ 2147483647) := wf_27 hw0 h_a
              refine tn_goto (tgt := 129) dX4_addItem_125 (by decide) ?_
              refine tn_iadd dX4_addItem_129 ?_
              refine tn_any (fun z197 g198 => ?_)
              have g198r : -2147483648 ≤ z197 ∧ z197 ≤ 2147483647 := g198
              refine tn_callV (M := m_X4_addItem) (pc := 130) (ix := 144) (ci := 1) (M' := m_X1_set) (As := [.int (iI (σ0.2.1 32 a)), .int (iI (i4 + 1)), .int (iI z197)]) (rest := []) dX4_addItem_130 ok_X1_set im_X1_set se_X1_set ml4_144 np_X1_set rfl rfl hk173o rfl (Nat.le_of_ble_eq_true rfl) (Nat.le_of_ble_eq_true rfl) rfl (k_X1_set (d + 1) (T := T) (σ := σ183) (a := x171) (k := σ0.2.1 32 a) (c := i4 + 1) (y := z197) hk173o (by omega) (by omega) (by omega) w187 (by omega) (by omega)) (fun r199 T201 σ200 gt202 hp => ?_)
              obtain ⟨rfl, rfl, w204, F205⟩ := hp
              clear gt202
              show Tn _ _ 133 T σ200 [(5, .int (iI 1)), (0, .ref a), (1, .int (iI c1)), (2, .int (iI c2)), (3, .int (iI c3)), (4, .int (iI i4))] [] _
              refine tn_iinc (q0 := 5) (L' := [(4, .int (iI (i4 + 2))), (5, .int (iI 1)), (0, .ref a), (1, .int (iI c1)), (2, .int (iI c2)), (3, .int (iI c3))]) dX4_addItem_133 rfl (by decide) rfl ?_
              refine tn_goto (tgt := 24) dX4_addItem_136 (by decide) ?_
              exact tn_sub [2, 3, 4, 5, 0] rfl (ih _ (by omega) (i4 + 2) σ200 w204 (((FrC.rfl.trans (FrC.sub hF (by decide))).trans (FrC.sub F188 (by decide))).trans (FrC.sub F205 (by decide))) (by omega) rfl)
theorem ml4_160 : Cond.methodLink RX4 160 yX4_shiftOf ∈ pWW := pw5 (List.mem_of_getElem? (i := 194) rfl) rfl
theorem dX4_addItem_139 : decode cX4_addItem 139 = .ok (.aload_n 0, 1) := by decide +kernel
theorem dX4_addItem_140 : decode cX4_addItem 140 = .ok (.getfield 19, 3) := by decide +kernel
theorem dX4_addItem_143 : decode cX4_addItem 143 = .ok (.aload_n 0, 1) := by decide +kernel
theorem dX4_addItem_144 : decode cX4_addItem 144 = .ok (.getfield 96, 3) := by decide +kernel
theorem dX4_addItem_147 : decode cX4_addItem 147 = .ok (.bipush 11, 2) := by decide +kernel
theorem dX4_addItem_149 : decode cX4_addItem 149 = .ok (.iload_n 3, 1) := by decide +kernel
theorem dX4_addItem_150 : decode cX4_addItem 150 = .ok (.invokevirtual 144, 3) := by decide +kernel
theorem dX4_addItem_153 : decode cX4_addItem 153 = .ok (.iload_n 2, 1) := by decide +kernel
theorem dX4_addItem_154 : decode cX4_addItem 154 = .ok (.bipush 11, 2) := by decide +kernel
theorem dX4_addItem_156 : decode cX4_addItem 156 = .ok (.if_icmp .eq 9, 3) := by decide +kernel
theorem dX4_addItem_165 : decode cX4_addItem 165 = .ok (.iconst 1, 1) := by decide +kernel
theorem dX4_addItem_166 : decode cX4_addItem 166 = .ok (.goto 4, 3) := by decide +kernel
theorem dX4_addItem_170 : decode cX4_addItem 170 = .ok (.istore 4, 2) := by decide +kernel
theorem dX4_addItem_172 : decode cX4_addItem 172 = .ok (.aload_n 0, 1) := by decide +kernel
theorem dX4_addItem_173 : decode cX4_addItem 173 = .ok (.iload_n 2, 1) := by decide +kernel
theorem dX4_addItem_174 : decode cX4_addItem 174 = .ok (.aload_n 0, 1) := by decide +kernel
theorem dX4_addItem_175 : decode cX4_addItem 175 = .ok (.getfield 33, 3) := by decide +kernel
theorem dX4_addItem_178 : decode cX4_addItem 178 = .ok (.iload_n 1, 1) := by decide +kernel
theorem dX4_addItem_179 : decode cX4_addItem 179 = .ok (.iconst 1, 1) := by decide +kernel
theorem dX4_addItem_180 : decode cX4_addItem 180 = .ok (.invokevirtual 29, 3) := by decide +kernel
theorem dX4_addItem_183 : decode cX4_addItem 183 = .ok (.aload_n 0, 1) := by decide +kernel
theorem dX4_addItem_184 : decode cX4_addItem 184 = .ok (.iload_n 2, 1) := by decide +kernel
theorem dX4_addItem_185 : decode cX4_addItem 185 = .ok (.invokevirtual 160, 3) := by decide +kernel
theorem dX4_addItem_188 : decode cX4_addItem 188 = .ok (.iadd, 1) := by decide +kernel
theorem dX4_addItem_189 : decode cX4_addItem 189 = .ok (.aload_n 0, 1) := by decide +kernel
theorem dX4_addItem_190 : decode cX4_addItem 190 = .ok (.getfield 33, 3) := by decide +kernel
theorem dX4_addItem_193 : decode cX4_addItem 193 = .ok (.iload_n 1, 1) := by decide +kernel
theorem dX4_addItem_194 : decode cX4_addItem 194 = .ok (.iconst 2, 1) := by decide +kernel
theorem dX4_addItem_195 : decode cX4_addItem 195 = .ok (.invokevirtual 29, 3) := by decide +kernel
theorem dX4_addItem_198 : decode cX4_addItem 198 = .ok (.iload 4, 2) := by decide +kernel
theorem dX4_addItem_200 : decode cX4_addItem 200 = .ok (.ifCond .eq 10, 3) := by decide +kernel
theorem dX4_addItem_203 : decode cX4_addItem 203 = .ok (.aload_n 0, 1) := by decide +kernel
theorem dX4_addItem_204 : decode cX4_addItem 204 = .ok (.getfield 69, 3) := by decide +kernel
theorem dX4_addItem_207 : decode cX4_addItem 207 = .ok (.goto 4, 3) := by decide +kernel
theorem dX4_addItem_211 : decode cX4_addItem 211 = .ok (.iadd, 1) := by decide +kernel
theorem dX4_addItem_212 : decode cX4_addItem 212 = .ok (.invokevirtual 148, 3) := by decide +kernel
theorem dX4_addItem_215 : decode cX4_addItem 215 = .ok (.return_, 1) := by decide +kernel
theorem dX4_addItem_159 : decode cX4_addItem 159 = .ok (.iload_n 2, 1) := by decide +kernel
theorem dX4_addItem_160 : decode cX4_addItem 160 = .ok (.bipush 12, 2) := by decide +kernel
theorem dX4_addItem_162 : decode cX4_addItem 162 = .ok (.if_icmp .ne 7, 3) := by decide +kernel
theorem dX4_addItem_169 : decode cX4_addItem 169 = .ok (.iconst 0, 1) := by decide +kernel
theorem dX4_addItem_210 : decode cX4_addItem 210 = .ok (.iconst 0, 1) := by decide +kernel
set_option maxRecDepth 20000 in
theorem k_X4_addItem (d : Nat) {T : CT} {σ : MS} {a : Nat} {p1 : Int} (ha : OB T a 4) (h_p1 : -2147483648 ≤ p1 ∧ p1 ≤ 2147483647) (hw : WT T σ) (hh : 0 ≤ σ.2.1 25 a) (hg : 0 ≤ σ.2.1 26 a) : Tn (d + 3) m_X4_addItem 0 T σ [(0, .ref a), (1, .int (iI p1))] [] (fun ro T2 σ2 => ro = none ∧ T = T2 ∧ WT T2 σ2 ∧ FrC T [32] σ σ2) := by
  refine tn_aload_n dX4_addItem_0 rfl 0 rfl ?_
  have nn8 : 0 ≤ σ.2.1 26 a := (by omega)
  obtain ⟨x5, hx6, hk7⟩ := (wf_26 hw ha).resolve_left (by omega)
  have hk7o : OB T x5 1 := ⟨by omega, by rw [hk7]; rfl, by omega⟩
  refine tn_getR (ci := 4) (i := 3) (n := 26) (x := x5) dX4_addItem_1 rfl lay_4 (by decide) fl4_33 ha rfl rfl (hx6) ?_
  refine tn_iload_n dX4_addItem_4 rfl 1 rfl ?_
  refine tn_iconst dX4_addItem_5 ?_
  refine tn_callV (M := m_X4_addItem) (pc := 6) (ix := 29) (ci := 1) (M' := m_X1_get) (As := [.int (iI p1), .int (iI 0)]) (rest := []) dX4_addItem_6 ok_X1_get im_X1_get se_X1_get ml4_29 np_X1_get rfl rfl hk7o rfl (Nat.le_of_ble_eq_true rfl) (Nat.le_of_ble_eq_true rfl) rfl (k_X1_get (d + 1) (T := T) (σ := σ) (a := x5) (k := p1) (c := 0) hk7o (by omega) (by decide) hw (by omega)) (fun r9 T11 σ10 gt12 hp => ?_)
  obtain ⟨v14, rfl, rfl, rfl, f13⟩ := hp
  clear gt12
  show Tn _ _ 9 T σ [(0, .ref a), (1, .int (iI p1))] [.int (iI v14)] _
  refine tn_istore_n (L' := [(2, .int (iI v14)), (0, .ref a), (1, .int (iI p1))]) dX4_addItem_9 rfl (by decide) rfl ?_
  refine tn_aload_n dX4_addItem_10 rfl 1 rfl ?_
  refine tn_getR (ci := 4) (i := 3) (n := 26) (x := x5) dX4_addItem_11 rfl lay_4 (by decide) fl4_33 ha rfl rfl (hx6) ?_
  refine tn_iload_n dX4_addItem_14 rfl 2 rfl ?_
  refine tn_bipush dX4_addItem_15 (by decide) ?_
  refine tn_callV (M := m_X4_addItem) (pc := 17) (ix := 29) (ci := 1) (M' := m_X1_get) (As := [.int (iI p1), .int (iI 11)]) (rest := []) dX4_addItem_17 ok_X1_get im_X1_get se_X1_get ml4_29 np_X1_get rfl rfl hk7o rfl (Nat.le_of_ble_eq_true rfl) (Nat.le_of_ble_eq_true rfl) rfl (k_X1_get (d + 1) (T := T) (σ := σ) (a := x5) (k := p1) (c := 11) hk7o (by omega) (by decide) hw (by omega)) (fun r15 T17 σ16 gt18 hp => ?_)
  obtain ⟨v20, rfl, rfl, rfl, f19⟩ := hp
  clear gt18
  show Tn _ _ 20 T σ [(2, .int (iI v14)), (0, .ref a), (1, .int (iI p1))] [.int (iI v20)] _
  refine tn_istore_n (L' := [(3, .int (iI v20)), (2, .int (iI v14)), (0, .ref a), (1, .int (iI p1))]) dX4_addItem_20 rfl (by decide) rfl ?_
  refine tn_iconst dX4_addItem_21 ?_
  refine tn_istore (L' := [(4, .int (iI 3)), (3, .int (iI v20)), (2, .int (iI v14)), (0, .ref a), (1, .int (iI p1))]) dX4_addItem_22 (by decide) rfl ?_
  refine tn_sub [3, 4, 2, 1, 0] rfl (l_X4_addItem_24 (d) (T := T) (σ0 := σ) (a := a) (c1 := p1) (c2 := v14) (c3 := v20) ha (by omega) (by omega) (by omega) hw (by omega) (by omega) (fun i421 σ22 w25 F26 r27 => ?_) _ (3) σ hw FrC.rfl (by omega) rfl)
  show Tn _ _ 139 T σ22 [(0, .ref a), (1, .int (iI p1)), (2, .int (iI v14)), (3, .int (iI v20)), (4, .int (iI i421))] [] _
  refine tn_aload_n dX4_addItem_139 rfl 0 rfl ?_
  have nn35 : 0 ≤ σ.2.1 25 a := (by omega)
  obtain ⟨x32, hx33, hk34⟩ := (wf_25 hw ha).resolve_left (by omega)
  have hk34o : OB T x32 1 := ⟨by omega, by rw [hk34]; rfl, by omega⟩
  refine tn_getR (ci := 4) (i := 2) (n := 25) (x := x32) dX4_addItem_140 rfl lay_4 (by decide) fl4_19 ha rfl rfl (rc_F F26 (Or.inl (by decide)) (by decide) (hx33)) ?_
  refine tn_aload_n dX4_addItem_143 rfl 0 rfl ?_
  refine tn_getI (ci := 4) (i := 9) (n := 32) (t := σ.2.1 32 a) dX4_addItem_144 rfl lay_4 (by decide) fl4_96 ha rfl rfl (rc_F F26 (Or.inl (by decide)) (by decide) (rfl)) ?_
  have g36 : ((-2147483648 : Int) ≤ σ.2.1 32 a ∧ σ.2.1 32 a ≤ 2147483647) := wf_32 hw ha
  refine tn_bipush dX4_addItem_147 (by decide) ?_
  refine tn_iload_n dX4_addItem_149 rfl 3 rfl ?_
  refine tn_callV (M := m_X4_addItem) (pc := 150) (ix := 144) (ci := 1) (M' := m_X1_set) (As := [.int (iI (σ.2.1 32 a)), .int (iI 11), .int (iI v20)]) (rest := []) dX4_addItem_150 ok_X1_set im_X1_set se_X1_set ml4_144 np_X1_set rfl rfl hk34o rfl (Nat.le_of_ble_eq_true rfl) (Nat.le_of_ble_eq_true rfl) rfl (k_X1_set (d + 1) (T := T) (σ := σ22) (a := x32) (k := σ.2.1 32 a) (c := 11) (y := v20) hk34o (by omega) (by decide) (by omega) w25 (by omega) (by omega)) (fun r37 T39 σ38 gt40 hp => ?_)
  obtain ⟨rfl, rfl, w42, F43⟩ := hp
  clear gt40
  show Tn _ _ 153 T σ38 [(0, .ref a), (1, .int (iI p1)), (2, .int (iI v14)), (3, .int (iI v20)), (4, .int (iI i421))] [] _
  refine tn_iload_n dX4_addItem_153 rfl 2 rfl ?_
  refine tn_bipush dX4_addItem_154 (by decide) ?_
  refine tn_icmp_eq (tgt := 165) dX4_addItem_156 (by decide) ⟨by omega, by omega⟩ ⟨by decide, by decide⟩ (fun h44 => ?_) (fun h44 => ?_)
  · refine tn_iconst dX4_addItem_165 ?_
    refine tn_goto (tgt := 170) dX4_addItem_166 (by decide) ?_
    refine tn_istore (L' := [(4, .int (iI 1)), (0, .ref a), (1, .int (iI p1)), (2, .int (iI v14)), (3, .int (iI v20))]) dX4_addItem_170 (by decide) rfl ?_
    refine tn_aload_n dX4_addItem_172 rfl 1 rfl ?_
    refine tn_iload_n dX4_addItem_173 rfl 3 rfl ?_
    refine tn_aload_n dX4_addItem_174 rfl 1 rfl ?_
    refine tn_getR (ci := 4) (i := 3) (n := 26) (x := x5) dX4_addItem_175 rfl lay_4 (by decide) fl4_33 ha rfl rfl (rc_F F43 (Or.inl (by decide)) (by decide) (rc_F F26 (Or.inl (by decide)) (by decide) (hx6))) ?_
    refine tn_iload_n dX4_addItem_178 rfl 2 rfl ?_
    refine tn_iconst dX4_addItem_179 ?_
    refine tn_callV (M := m_X4_addItem) (pc := 180) (ix := 29) (ci := 1) (M' := m_X1_get) (As := [.int (iI p1), .int (iI 1)]) (rest := [.int (iI v14), .ref a]) dX4_addItem_180 ok_X1_get im_X1_get se_X1_get ml4_29 np_X1_get rfl rfl hk7o rfl (Nat.le_of_ble_eq_true rfl) (Nat.le_of_ble_eq_true rfl) rfl (k_X1_get (d + 1) (T := T) (σ := σ38) (a := x5) (k := p1) (c := 1) hk7o (by omega) (by decide) w42 (by omega)) (fun r45 T47 σ46 gt48 hp => ?_)
    obtain ⟨v50, rfl, rfl, rfl, f49⟩ := hp
    clear gt48
    show Tn _ _ 183 T σ38 [(4, .int (iI 1)), (0, .ref a), (1, .int (iI p1)), (2, .int (iI v14)), (3, .int (iI v20))] [.int (iI v50), .int (iI v14), .ref a] _
    refine tn_aload_n dX4_addItem_183 rfl 1 rfl ?_
    refine tn_iload_n dX4_addItem_184 rfl 3 rfl ?_
    refine tn_callV (M := m_X4_addItem) (pc := 185) (ix := 160) (ci := 4) (M' := m_X4_shiftOf) (As := [.int (iI v14)]) (rest := [.int (iI v50), .int (iI v14), .ref a]) dX4_addItem_185 ok_X4_shiftOf im_X4_shiftOf se_X4_shiftOf ml4_160 np_X4_shiftOf rfl rfl ha rfl (Nat.le_of_ble_eq_true rfl) (Nat.le_of_ble_eq_true rfl) rfl (k_X4_shiftOf (d) (T := T) (σ := σ38) (a := a) (p1 := v14) ha (by omega) w42 ) (fun r51 T53 σ52 gt54 hp => ?_)
    obtain ⟨v56, rfl, rfl, rfl, f55⟩ := hp
    clear gt54
    show Tn _ _ 188 T σ38 [(4, .int (iI 1)), (0, .ref a), (1, .int (iI p1)), (2, .int (iI v14)), (3, .int (iI v20))] [.int (iI v56), .int (iI v50), .int (iI v14), .ref a] _
    refine tn_iadd dX4_addItem_188 ?_
    refine tn_any (fun z57 g58 => ?_)
    have g58r : -2147483648 ≤ z57 ∧ z57 ≤ 2147483647 := g58
    refine tn_aload_n dX4_addItem_189 rfl 1 rfl ?_
    refine tn_getR (ci := 4) (i := 3) (n := 26) (x := x5) dX4_addItem_190 rfl lay_4 (by decide) fl4_33 ha rfl rfl (rc_F F43 (Or.inl (by decide)) (by decide) (rc_F F26 (Or.inl (by decide)) (by decide) (hx6))) ?_
    refine tn_iload_n dX4_addItem_193 rfl 2 rfl ?_
    refine tn_iconst dX4_addItem_194 ?_
    refine tn_callV (M := m_X4_addItem) (pc := 195) (ix := 29) (ci := 1) (M' := m_X1_get) (As := [.int (iI p1), .int (iI 2)]) (rest := [.int (iI z57), .int (iI v14), .ref a]) dX4_addItem_195 ok_X1_get im_X1_get se_X1_get ml4_29 np_X1_get rfl rfl hk7o rfl (Nat.le_of_ble_eq_true rfl) (Nat.le_of_ble_eq_true rfl) rfl (k_X1_get (d + 1) (T := T) (σ := σ38) (a := x5) (k := p1) (c := 2) hk7o (by omega) (by decide) w42 (by omega)) (fun r59 T61 σ60 gt62 hp => ?_)
    obtain ⟨v64, rfl, rfl, rfl, f63⟩ := hp
    clear gt62
    show Tn _ _ 198 T σ38 [(4, .int (iI 1)), (0, .ref a), (1, .int (iI p1)), (2, .int (iI v14)), (3, .int (iI v20))] [.int (iI v64), .int (iI z57), .int (iI v14), .ref a] _
    refine tn_iload dX4_addItem_198 0 rfl ?_
    refine tn_if_eq (tgt := 210) dX4_addItem_200 (by decide) ⟨by decide, by decide⟩ (fun h => absurd h (by decide)) (fun _ => ?_)
    refine tn_aload_n dX4_addItem_203 rfl 1 rfl ?_
    refine tn_getI (ci := 4) (i := 6) (n := 29) (t := σ.2.1 29 a) dX4_addItem_204 rfl lay_4 (by decide) fl4_69 ha rfl rfl (rc_F F43 (Or.inl (by decide)) (by decide) (rc_F F26 (Or.inl (by decide)) (by decide) (rfl))) ?_
    have g66 : ((-2147483648 : Int) ≤ σ.2.1 29 a ∧ σ.2.1 29 a ≤ 2147483647) := wf_29 hw ha
    refine tn_goto (tgt := 211) dX4_addItem_207 (by decide) ?_
    refine tn_iadd dX4_addItem_211 ?_
    refine tn_any (fun z67 g68 => ?_)
    have g68r : -2147483648 ≤ z67 ∧ z67 ≤ 2147483647 := g68
    refine tn_callV (M := m_X4_addItem) (pc := 212) (ix := 148) (ci := 4) (M' := m_X4_addRow) (As := [.int (iI v14), .int (iI z57), .int (iI z67)]) (rest := []) dX4_addItem_212 ok_X4_addRow im_X4_addRow se_X4_addRow ml4_148 np_X4_addRow rfl rfl ha rfl (Nat.le_of_ble_eq_true rfl) (Nat.le_of_ble_eq_true rfl) rfl (k_X4_addRow (d) (T := T) (σ := σ38) (a := a) (p1 := v14) (p2 := z57) (p3 := z67) ha (by omega) (by omega) (by omega) w42 (by rw [show σ38.2.1 25 a = σ.2.1 25 a from rc_F F43 (Or.inl (by decide)) (by decide) (rc_F F26 (Or.inl (by decide)) (by decide) (rfl))]; omega)) (fun r69 T71 σ70 gt72 hp => ?_)
    obtain ⟨rfl, rfl, w74, F75⟩ := hp
    clear gt72
    show Tn _ _ 215 T σ70 [(4, .int (iI 1)), (0, .ref a), (1, .int (iI p1)), (2, .int (iI v14)), (3, .int (iI v20))] [] _
    exact tn_vret rfl dX4_addItem_215 ⟨rfl, rfl, w74, (((FrC.rfl.trans (FrC.sub F26 (by decide))).trans (FrC.sub F43 (by decide))).trans (FrC.sub F75 (by decide)))⟩
  · refine tn_iload_n dX4_addItem_159 rfl 2 rfl ?_
    refine tn_bipush dX4_addItem_160 (by decide) ?_
    refine tn_icmp_ne (tgt := 169) dX4_addItem_162 (by decide) ⟨by omega, by omega⟩ ⟨by decide, by decide⟩ (fun h76 => ?_) (fun h76 => ?_)
    · refine tn_iconst dX4_addItem_169 ?_
      refine tn_istore (L' := [(4, .int (iI 0)), (0, .ref a), (1, .int (iI p1)), (2, .int (iI v14)), (3, .int (iI v20))]) dX4_addItem_170 (by decide) rfl ?_
      refine tn_aload_n dX4_addItem_172 rfl 1 rfl ?_
      refine tn_iload_n dX4_addItem_173 rfl 3 rfl ?_
      refine tn_aload_n dX4_addItem_174 rfl 1 rfl ?_
      refine tn_getR (ci := 4) (i := 3) (n := 26) (x := x5) dX4_addItem_175 rfl lay_4 (by decide) fl4_33 ha rfl rfl (rc_F F43 (Or.inl (by decide)) (by decide) (rc_F F26 (Or.inl (by decide)) (by decide) (hx6))) ?_
      refine tn_iload_n dX4_addItem_178 rfl 2 rfl ?_
      refine tn_iconst dX4_addItem_179 ?_
      refine tn_callV (M := m_X4_addItem) (pc := 180) (ix := 29) (ci := 1) (M' := m_X1_get) (As := [.int (iI p1), .int (iI 1)]) (rest := [.int (iI v14), .ref a]) dX4_addItem_180 ok_X1_get im_X1_get se_X1_get ml4_29 np_X1_get rfl rfl hk7o rfl (Nat.le_of_ble_eq_true rfl) (Nat.le_of_ble_eq_true rfl) rfl (k_X1_get (d + 1) (T := T) (σ := σ38) (a := x5) (k := p1) (c := 1) hk7o (by omega) (by decide) w42 (by omega)) (fun r77 T79 σ78 gt80 hp => ?_)
      obtain ⟨v82, rfl, rfl, rfl, f81⟩ := hp
      clear gt80
      show Tn _ _ 183 T σ38 [(4, .int (iI 0)), (0, .ref a), (1, .int (iI p1)), (2, .int (iI v14)), (3, .int (iI v20))] [.int (iI v82), .int (iI v14), .ref a] _
      refine tn_aload_n dX4_addItem_183 rfl 1 rfl ?_
      refine tn_iload_n dX4_addItem_184 rfl 3 rfl ?_
      refine tn_callV (M := m_X4_addItem) (pc := 185) (ix := 160) (ci := 4) (M' := m_X4_shiftOf) (As := [.int (iI v14)]) (rest := [.int (iI v82), .int (iI v14), .ref a]) dX4_addItem_185 ok_X4_shiftOf im_X4_shiftOf se_X4_shiftOf ml4_160 np_X4_shiftOf rfl rfl ha rfl (Nat.le_of_ble_eq_true rfl) (Nat.le_of_ble_eq_true rfl) rfl (k_X4_shiftOf (d) (T := T) (σ := σ38) (a := a) (p1 := v14) ha (by omega) w42 ) (fun r83 T85 σ84 gt86 hp => ?_)
      obtain ⟨v88, rfl, rfl, rfl, f87⟩ := hp
      clear gt86
      show Tn _ _ 188 T σ38 [(4, .int (iI 0)), (0, .ref a), (1, .int (iI p1)), (2, .int (iI v14)), (3, .int (iI v20))] [.int (iI v88), .int (iI v82), .int (iI v14), .ref a] _
      refine tn_iadd dX4_addItem_188 ?_
      refine tn_any (fun z89 g90 => ?_)
      have g90r : -2147483648 ≤ z89 ∧ z89 ≤ 2147483647 := g90
      refine tn_aload_n dX4_addItem_189 rfl 1 rfl ?_
      refine tn_getR (ci := 4) (i := 3) (n := 26) (x := x5) dX4_addItem_190 rfl lay_4 (by decide) fl4_33 ha rfl rfl (rc_F F43 (Or.inl (by decide)) (by decide) (rc_F F26 (Or.inl (by decide)) (by decide) (hx6))) ?_
      refine tn_iload_n dX4_addItem_193 rfl 2 rfl ?_
      refine tn_iconst dX4_addItem_194 ?_
      refine tn_callV (M := m_X4_addItem) (pc := 195) (ix := 29) (ci := 1) (M' := m_X1_get) (As := [.int (iI p1), .int (iI 2)]) (rest := [.int (iI z89), .int (iI v14), .ref a]) dX4_addItem_195 ok_X1_get im_X1_get se_X1_get ml4_29 np_X1_get rfl rfl hk7o rfl (Nat.le_of_ble_eq_true rfl) (Nat.le_of_ble_eq_true rfl) rfl (k_X1_get (d + 1) (T := T) (σ := σ38) (a := x5) (k := p1) (c := 2) hk7o (by omega) (by decide) w42 (by omega)) (fun r91 T93 σ92 gt94 hp => ?_)
      obtain ⟨v96, rfl, rfl, rfl, f95⟩ := hp
      clear gt94
      show Tn _ _ 198 T σ38 [(4, .int (iI 0)), (0, .ref a), (1, .int (iI p1)), (2, .int (iI v14)), (3, .int (iI v20))] [.int (iI v96), .int (iI z89), .int (iI v14), .ref a] _
      refine tn_iload dX4_addItem_198 0 rfl ?_
      refine tn_if_eq (tgt := 210) dX4_addItem_200 (by decide) ⟨by decide, by decide⟩ (fun _ => ?_) (fun h => absurd h (by decide))
      refine tn_iconst dX4_addItem_210 ?_
      refine tn_iadd dX4_addItem_211 ?_
      refine tn_callV (M := m_X4_addItem) (pc := 212) (ix := 148) (ci := 4) (M' := m_X4_addRow) (As := [.int (iI v14), .int (iI z89), .int (iI (v96 + 0))]) (rest := []) dX4_addItem_212 ok_X4_addRow im_X4_addRow se_X4_addRow ml4_148 np_X4_addRow rfl rfl ha rfl (Nat.le_of_ble_eq_true rfl) (Nat.le_of_ble_eq_true rfl) rfl (k_X4_addRow (d) (T := T) (σ := σ38) (a := a) (p1 := v14) (p2 := z89) (p3 := v96 + 0) ha (by omega) (by omega) (by omega) w42 (by rw [show σ38.2.1 25 a = σ.2.1 25 a from rc_F F43 (Or.inl (by decide)) (by decide) (rc_F F26 (Or.inl (by decide)) (by decide) (rfl))]; omega)) (fun r98 T100 σ99 gt101 hp => ?_)
      obtain ⟨rfl, rfl, w103, F104⟩ := hp
      clear gt101
      show Tn _ _ 215 T σ99 [(4, .int (iI 0)), (0, .ref a), (1, .int (iI p1)), (2, .int (iI v14)), (3, .int (iI v20))] [] _
      exact tn_vret rfl dX4_addItem_215 ⟨rfl, rfl, w103, (((FrC.rfl.trans (FrC.sub F26 (by decide))).trans (FrC.sub F43 (by decide))).trans (FrC.sub F104 (by decide)))⟩
    · refine tn_iconst dX4_addItem_165 ?_
      refine tn_goto (tgt := 170) dX4_addItem_166 (by decide) ?_
      refine tn_istore (L' := [(4, .int (iI 1)), (0, .ref a), (1, .int (iI p1)), (2, .int (iI v14)), (3, .int (iI v20))]) dX4_addItem_170 (by decide) rfl ?_
      refine tn_aload_n dX4_addItem_172 rfl 1 rfl ?_
      refine tn_iload_n dX4_addItem_173 rfl 3 rfl ?_
      refine tn_aload_n dX4_addItem_174 rfl 1 rfl ?_
      refine tn_getR (ci := 4) (i := 3) (n := 26) (x := x5) dX4_addItem_175 rfl lay_4 (by decide) fl4_33 ha rfl rfl (rc_F F43 (Or.inl (by decide)) (by decide) (rc_F F26 (Or.inl (by decide)) (by decide) (hx6))) ?_
      refine tn_iload_n dX4_addItem_178 rfl 2 rfl ?_
      refine tn_iconst dX4_addItem_179 ?_
      refine tn_callV (M := m_X4_addItem) (pc := 180) (ix := 29) (ci := 1) (M' := m_X1_get) (As := [.int (iI p1), .int (iI 1)]) (rest := [.int (iI v14), .ref a]) dX4_addItem_180 ok_X1_get im_X1_get se_X1_get ml4_29 np_X1_get rfl rfl hk7o rfl (Nat.le_of_ble_eq_true rfl) (Nat.le_of_ble_eq_true rfl) rfl (k_X1_get (d + 1) (T := T) (σ := σ38) (a := x5) (k := p1) (c := 1) hk7o (by omega) (by decide) w42 (by omega)) (fun r105 T107 σ106 gt108 hp => ?_)
      obtain ⟨v110, rfl, rfl, rfl, f109⟩ := hp
      clear gt108
      show Tn _ _ 183 T σ38 [(4, .int (iI 1)), (0, .ref a), (1, .int (iI p1)), (2, .int (iI v14)), (3, .int (iI v20))] [.int (iI v110), .int (iI v14), .ref a] _
      refine tn_aload_n dX4_addItem_183 rfl 1 rfl ?_
      refine tn_iload_n dX4_addItem_184 rfl 3 rfl ?_
      refine tn_callV (M := m_X4_addItem) (pc := 185) (ix := 160) (ci := 4) (M' := m_X4_shiftOf) (As := [.int (iI v14)]) (rest := [.int (iI v110), .int (iI v14), .ref a]) dX4_addItem_185 ok_X4_shiftOf im_X4_shiftOf se_X4_shiftOf ml4_160 np_X4_shiftOf rfl rfl ha rfl (Nat.le_of_ble_eq_true rfl) (Nat.le_of_ble_eq_true rfl) rfl (k_X4_shiftOf (d) (T := T) (σ := σ38) (a := a) (p1 := v14) ha (by omega) w42 ) (fun r111 T113 σ112 gt114 hp => ?_)
      obtain ⟨v116, rfl, rfl, rfl, f115⟩ := hp
      clear gt114
      show Tn _ _ 188 T σ38 [(4, .int (iI 1)), (0, .ref a), (1, .int (iI p1)), (2, .int (iI v14)), (3, .int (iI v20))] [.int (iI v116), .int (iI v110), .int (iI v14), .ref a] _
      refine tn_iadd dX4_addItem_188 ?_
      refine tn_any (fun z117 g118 => ?_)
      have g118r : -2147483648 ≤ z117 ∧ z117 ≤ 2147483647 := g118
      refine tn_aload_n dX4_addItem_189 rfl 1 rfl ?_
      refine tn_getR (ci := 4) (i := 3) (n := 26) (x := x5) dX4_addItem_190 rfl lay_4 (by decide) fl4_33 ha rfl rfl (rc_F F43 (Or.inl (by decide)) (by decide) (rc_F F26 (Or.inl (by decide)) (by decide) (hx6))) ?_
      refine tn_iload_n dX4_addItem_193 rfl 2 rfl ?_
      refine tn_iconst dX4_addItem_194 ?_
      refine tn_callV (M := m_X4_addItem) (pc := 195) (ix := 29) (ci := 1) (M' := m_X1_get) (As := [.int (iI p1), .int (iI 2)]) (rest := [.int (iI z117), .int (iI v14), .ref a]) dX4_addItem_195 ok_X1_get im_X1_get se_X1_get ml4_29 np_X1_get rfl rfl hk7o rfl (Nat.le_of_ble_eq_true rfl) (Nat.le_of_ble_eq_true rfl) rfl (k_X1_get (d + 1) (T := T) (σ := σ38) (a := x5) (k := p1) (c := 2) hk7o (by omega) (by decide) w42 (by omega)) (fun r119 T121 σ120 gt122 hp => ?_)
      obtain ⟨v124, rfl, rfl, rfl, f123⟩ := hp
      clear gt122
      show Tn _ _ 198 T σ38 [(4, .int (iI 1)), (0, .ref a), (1, .int (iI p1)), (2, .int (iI v14)), (3, .int (iI v20))] [.int (iI v124), .int (iI z117), .int (iI v14), .ref a] _
      refine tn_iload dX4_addItem_198 0 rfl ?_
      refine tn_if_eq (tgt := 210) dX4_addItem_200 (by decide) ⟨by decide, by decide⟩ (fun h => absurd h (by decide)) (fun _ => ?_)
      refine tn_aload_n dX4_addItem_203 rfl 1 rfl ?_
      refine tn_getI (ci := 4) (i := 6) (n := 29) (t := σ.2.1 29 a) dX4_addItem_204 rfl lay_4 (by decide) fl4_69 ha rfl rfl (rc_F F43 (Or.inl (by decide)) (by decide) (rc_F F26 (Or.inl (by decide)) (by decide) (rfl))) ?_
      have g126 : ((-2147483648 : Int) ≤ σ.2.1 29 a ∧ σ.2.1 29 a ≤ 2147483647) := wf_29 hw ha
      refine tn_goto (tgt := 211) dX4_addItem_207 (by decide) ?_
      refine tn_iadd dX4_addItem_211 ?_
      refine tn_any (fun z127 g128 => ?_)
      have g128r : -2147483648 ≤ z127 ∧ z127 ≤ 2147483647 := g128
      refine tn_callV (M := m_X4_addItem) (pc := 212) (ix := 148) (ci := 4) (M' := m_X4_addRow) (As := [.int (iI v14), .int (iI z117), .int (iI z127)]) (rest := []) dX4_addItem_212 ok_X4_addRow im_X4_addRow se_X4_addRow ml4_148 np_X4_addRow rfl rfl ha rfl (Nat.le_of_ble_eq_true rfl) (Nat.le_of_ble_eq_true rfl) rfl (k_X4_addRow (d) (T := T) (σ := σ38) (a := a) (p1 := v14) (p2 := z117) (p3 := z127) ha (by omega) (by omega) (by omega) w42 (by rw [show σ38.2.1 25 a = σ.2.1 25 a from rc_F F43 (Or.inl (by decide)) (by decide) (rc_F F26 (Or.inl (by decide)) (by decide) (rfl))]; omega)) (fun r129 T131 σ130 gt132 hp => ?_)
      obtain ⟨rfl, rfl, w134, F135⟩ := hp
      clear gt132
      show Tn _ _ 215 T σ130 [(4, .int (iI 1)), (0, .ref a), (1, .int (iI p1)), (2, .int (iI v14)), (3, .int (iI v20))] [] _
      exact tn_vret rfl dX4_addItem_215 ⟨rfl, rfl, w134, (((FrC.rfl.trans (FrC.sub F26 (by decide))).trans (FrC.sub F43 (by decide))).trans (FrC.sub F135 (by decide)))⟩
end
section
theorem cd_X4_addBody : Cond.code yX4_addBody cX4_addBody 3 none ∈ pWW := pw5 (List.mem_of_getElem? (i := 189) rfl) rfl
abbrev m_X4_addBody : MT := (yX4_addBody, cX4_addBody, 3, none)
theorem ok_X4_addBody : pOk m_X4_addBody := ⟨⟨cd_X4_addBody, ini_4⟩, by decide +kernel, ⟨by decide +kernel, by decide +kernel⟩, Nat.le_of_ble_eq_true rfl⟩
theorem np_X4_addBody : (parseMethodDescriptor yX4_addBody.desc).map (fun d => d.parameters.length) = some 0 := by decide +kernel
theorem im_X4_addBody : Cond.instanceMethod yX4_addBody ∈ pWW := pw5 (List.mem_of_getElem? (i := 188) rfl) rfl
theorem se_X4_addBody : Cond.selects RX4 yX4_addBody yX4_addBody ∈ pWW := pws (List.mem_map.mpr ⟨_, lw_pin 72 rfl, rfl⟩) rfl
theorem ml4_157 : Cond.methodLink RX4 157 yX4_addItem ∈ pWW := pw5 (List.mem_of_getElem? (i := 190) rfl) rfl
theorem fl4_78 : Cond.fieldLink RX4 78 (TX4 8).1 (TX4 8).2.1 (TX4 8).2.2.1 ∈ pWW := pw2 (List.mem_of_getElem? (i := 69) rfl) rfl
theorem ml4_151 : Cond.methodLink RX4 151 yX4_addCopy ∈ pWW := pw5 (List.mem_of_getElem? (i := 181) rfl) rfl
theorem fl4_72 : Cond.fieldLink RX4 72 (TX4 7).1 (TX4 7).2.1 (TX4 7).2.2.1 ∈ pWW := pw2 (List.mem_of_getElem? (i := 68) rfl) rfl
theorem dX4_addBody_0 : decode cX4_addBody 0 = .ok (.iconst 0, 1) := by decide +kernel
theorem dX4_addBody_1 : decode cX4_addBody 1 = .ok (.istore_n 1, 1) := by decide +kernel
theorem dX4_addBody_2 : decode cX4_addBody 2 = .ok (.iload_n 1, 1) := by decide +kernel
theorem dX4_addBody_3 : decode cX4_addBody 3 = .ok (.aload_n 0, 1) := by decide +kernel
theorem dX4_addBody_4 : decode cX4_addBody 4 = .ok (.getfield 33, 3) := by decide +kernel
theorem dX4_addBody_7 : decode cX4_addBody 7 = .ok (.getfield 23, 3) := by decide +kernel
theorem dX4_addBody_10 : decode cX4_addBody 10 = .ok (.if_icmp .ge 84, 3) := by decide +kernel
theorem dX4_addBody_13 : decode cX4_addBody 13 = .ok (.aload_n 0, 1) := by decide +kernel
theorem dX4_addBody_14 : decode cX4_addBody 14 = .ok (.getfield 33, 3) := by decide +kernel
theorem dX4_addBody_17 : decode cX4_addBody 17 = .ok (.iload_n 1, 1) := by decide +kernel
theorem dX4_addBody_18 : decode cX4_addBody 18 = .ok (.iconst 0, 1) := by decide +kernel
theorem dX4_addBody_19 : decode cX4_addBody 19 = .ok (.invokevirtual 29, 3) := by decide +kernel
theorem dX4_addBody_22 : decode cX4_addBody 22 = .ok (.bipush 7, 2) := by decide +kernel
theorem dX4_addBody_24 : decode cX4_addBody 24 = .ok (.if_icmp .ne 59, 3) := by decide +kernel
theorem dX4_addBody_83 : decode cX4_addBody 83 = .ok (.aload_n 0, 1) := by decide +kernel
theorem dX4_addBody_84 : decode cX4_addBody 84 = .ok (.iload_n 1, 1) := by decide +kernel
theorem dX4_addBody_85 : decode cX4_addBody 85 = .ok (.invokevirtual 157, 3) := by decide +kernel
theorem dX4_addBody_88 : decode cX4_addBody 88 = .ok (.iinc 1 1, 3) := by decide +kernel
theorem dX4_addBody_91 : decode cX4_addBody 91 = .ok (.goto (-89), 3) := by decide +kernel
theorem dX4_addBody_27 : decode cX4_addBody 27 = .ok (.aload_n 0, 1) := by decide +kernel
theorem dX4_addBody_28 : decode cX4_addBody 28 = .ok (.getfield 33, 3) := by decide +kernel
theorem dX4_addBody_31 : decode cX4_addBody 31 = .ok (.iload_n 1, 1) := by decide +kernel
theorem dX4_addBody_32 : decode cX4_addBody 32 = .ok (.iconst 3, 1) := by decide +kernel
theorem dX4_addBody_33 : decode cX4_addBody 33 = .ok (.invokevirtual 29, 3) := by decide +kernel
theorem dX4_addBody_36 : decode cX4_addBody 36 = .ok (.istore_n 2, 1) := by decide +kernel
theorem dX4_addBody_37 : decode cX4_addBody 37 = .ok (.aload_n 0, 1) := by decide +kernel
theorem dX4_addBody_38 : decode cX4_addBody 38 = .ok (.aload_n 0, 1) := by decide +kernel
theorem dX4_addBody_39 : decode cX4_addBody 39 = .ok (.getfield 78, 3) := by decide +kernel
theorem dX4_addBody_42 : decode cX4_addBody 42 = .ok (.iload_n 2, 1) := by decide +kernel
theorem dX4_addBody_43 : decode cX4_addBody 43 = .ok (.aload_n 0, 1) := by decide +kernel
theorem dX4_addBody_44 : decode cX4_addBody 44 = .ok (.getfield 33, 3) := by decide +kernel
theorem dX4_addBody_47 : decode cX4_addBody 47 = .ok (.iload_n 1, 1) := by decide +kernel
theorem dX4_addBody_48 : decode cX4_addBody 48 = .ok (.iconst 4, 1) := by decide +kernel
theorem dX4_addBody_49 : decode cX4_addBody 49 = .ok (.invokevirtual 29, 3) := by decide +kernel
theorem dX4_addBody_52 : decode cX4_addBody 52 = .ok (.iload_n 2, 1) := by decide +kernel
theorem dX4_addBody_53 : decode cX4_addBody 53 = .ok (.iconst 2, 1) := by decide +kernel
theorem dX4_addBody_54 : decode cX4_addBody 54 = .ok (.if_icmp .ne 10, 3) := by decide +kernel
theorem dX4_addBody_64 : decode cX4_addBody 64 = .ok (.iconst 0, 1) := by decide +kernel
theorem dX4_addBody_65 : decode cX4_addBody 65 = .ok (.iadd, 1) := by decide +kernel
theorem dX4_addBody_66 : decode cX4_addBody 66 = .ok (.invokevirtual 151, 3) := by decide +kernel
theorem dX4_addBody_69 : decode cX4_addBody 69 = .ok (.aload_n 0, 1) := by decide +kernel
theorem dX4_addBody_70 : decode cX4_addBody 70 = .ok (.bipush 8, 2) := by decide +kernel
theorem dX4_addBody_72 : decode cX4_addBody 72 = .ok (.aload_n 0, 1) := by decide +kernel
theorem dX4_addBody_73 : decode cX4_addBody 73 = .ok (.getfield 72, 3) := by decide +kernel
theorem dX4_addBody_76 : decode cX4_addBody 76 = .ok (.iconst 0, 1) := by decide +kernel
theorem dX4_addBody_77 : decode cX4_addBody 77 = .ok (.invokevirtual 148, 3) := by decide +kernel
theorem dX4_addBody_80 : decode cX4_addBody 80 = .ok (.goto 8, 3) := by decide +kernel
theorem dX4_addBody_57 : decode cX4_addBody 57 = .ok (.aload_n 0, 1) := by decide +kernel
theorem dX4_addBody_58 : decode cX4_addBody 58 = .ok (.getfield 57, 3) := by decide +kernel
theorem dX4_addBody_61 : decode cX4_addBody 61 = .ok (.goto 4, 3) := by decide +kernel
set_option maxRecDepth 20000 in
theorem l_X4_addBody_2 (d : Nat) {T : CT} {σ0 : MS} {a : Nat} {post : Option Value → CT → MS → Prop} (h_a : OB T a 4) (hw0 : WT T σ0) (hh : 0 ≤ σ0.2.1 25 a) (hg : 0 ≤ σ0.2.1 26 a) (hx_94 : ∀ (i1 : Int) (σ : MS) , (WT T σ) → (FrC T [32] σ0 σ) → (0 ≤ i1 ∧ i1 ≤ 2147483647) → Tn (d + 4) m_X4_addBody 94 T σ [(0, .ref a), (1, .int (iI i1))] [] post) : ∀ (n : Nat) (i1 : Int) (σ : MS) , (WT T σ) → (FrC T [32] σ0 σ) → (0 ≤ i1 ∧ i1 ≤ 2147483647) → (2147483700 - i1).toNat = n → Tn (d + 4) m_X4_addBody 2 T σ [(0, .ref a), (1, .int (iI i1))] [] post := by
  intro n
  induction n using Nat.strongRecOn with
  | _ n ih =>
    intro i1 σ hw hF r_i1 hm
    refine tn_iload_n dX4_addBody_2 rfl 1 rfl ?_
    refine tn_aload_n dX4_addBody_3 rfl 0 rfl ?_
    have nn8 : 0 ≤ σ0.2.1 26 a := (by omega)
    obtain ⟨x5, hx6, hk7⟩ := (wf_26 hw0 h_a).resolve_left (by omega)
    have hk7o : OB T x5 1 := ⟨by omega, by rw [hk7]; rfl, by omega⟩
    refine tn_getR (ci := 4) (i := 3) (n := 26) (x := x5) dX4_addBody_4 rfl lay_4 (by decide) fl4_33 h_a rfl rfl (rc_F hF (Or.inl (by decide)) (by decide) (hx6)) ?_
    refine tn_getI (ci := 1) (i := 1) (n := 6) (t := σ0.2.1 6 x5) dX4_addBody_7 rfl lay_1 (by decide) fl4_23 hk7o rfl rfl (rc_F hF (Or.inl (by decide)) (by decide) (rfl)) ?_
    have g9 : ((0 : Int) ≤ σ0.2.1 6 x5 ∧ σ0.2.1 6 x5 ≤ 5000) ∧ ((T x5).1 = 50 → σ0.2.1 6 x5 ≤ 200) := wf_6 hw0 hk7o
    have g9x := g9.2
    replace g9 := g9.1
    have g9x := g9x hk7
    refine tn_icmp_ge (tgt := 94) dX4_addBody_10 (by decide) ⟨by omega, by omega⟩ ⟨by omega, by omega⟩ (fun h10 => ?_) (fun h10 => ?_)
    · exact tn_sub [0, 1] rfl (hx_94 (i1) σ hw (FrC.rfl.trans (FrC.sub hF (by decide))) (by omega))
    · refine tn_aload_n dX4_addBody_13 rfl 0 rfl ?_
      refine tn_getR (ci := 4) (i := 3) (n := 26) (x := x5) dX4_addBody_14 rfl lay_4 (by decide) fl4_33 h_a rfl rfl (rc_F hF (Or.inl (by decide)) (by decide) (hx6)) ?_
      refine tn_iload_n dX4_addBody_17 rfl 1 rfl ?_
      refine tn_iconst dX4_addBody_18 ?_
      refine tn_callV (M := m_X4_addBody) (pc := 19) (ix := 29) (ci := 1) (M' := m_X1_get) (As := [.int (iI i1), .int (iI 0)]) (rest := []) dX4_addBody_19 ok_X1_get im_X1_get se_X1_get ml4_29 np_X1_get rfl rfl hk7o rfl (Nat.le_of_ble_eq_true rfl) (Nat.le_of_ble_eq_true rfl) rfl (k_X1_get (d + 2) (T := T) (σ := σ) (a := x5) (k := i1) (c := 0) hk7o (by omega) (by decide) hw (by omega)) (fun r11 T13 σ12 gt14 hp => ?_)
      obtain ⟨v16, rfl, rfl, rfl, f15⟩ := hp
      clear gt14
      show Tn _ _ 22 T σ [(0, .ref a), (1, .int (iI i1))] [.int (iI v16)] _
      refine tn_bipush dX4_addBody_22 (by decide) ?_
      refine tn_icmp_ne (tgt := 83) dX4_addBody_24 (by decide) ⟨by omega, by omega⟩ ⟨by decide, by decide⟩ (fun h17 => ?_) (fun h17 => ?_)
      · refine tn_aload_n dX4_addBody_83 rfl 0 rfl ?_
        refine tn_iload_n dX4_addBody_84 rfl 1 rfl ?_
        refine tn_callV (M := m_X4_addBody) (pc := 85) (ix := 157) (ci := 4) (M' := m_X4_addItem) (As := [.int (iI i1)]) (rest := []) dX4_addBody_85 ok_X4_addItem im_X4_addItem se_X4_addItem ml4_157 np_X4_addItem rfl rfl h_a rfl (Nat.le_of_ble_eq_true rfl) (Nat.le_of_ble_eq_true rfl) rfl (k_X4_addItem (d) (T := T) (σ := σ) (a := a) (p1 := i1) h_a (by omega) hw (by rw [show σ.2.1 25 a = σ0.2.1 25 a from rc_F hF (Or.inl (by decide)) (by decide) (rfl)]; omega) (by rw [show σ.2.1 26 a = σ0.2.1 26 a from rc_F hF (Or.inl (by decide)) (by decide) (rfl)]; omega)) (fun r18 T20 σ19 gt21 hp => ?_)
        obtain ⟨rfl, rfl, w23, F24⟩ := hp
        clear gt21
        show Tn _ _ 88 T σ19 [(0, .ref a), (1, .int (iI i1))] [] _
        refine tn_iinc (q0 := 1) (L' := [(1, .int (iI (i1 + 1))), (0, .ref a)]) dX4_addBody_88 rfl (by decide) rfl ?_
        refine tn_goto (tgt := 2) dX4_addBody_91 (by decide) ?_
        exact tn_sub [1, 0] rfl (ih _ (by omega) (i1 + 1) σ19 w23 ((FrC.rfl.trans (FrC.sub hF (by decide))).trans (FrC.sub F24 (by decide))) (by omega) rfl)
      · refine tn_aload_n dX4_addBody_27 rfl 0 rfl ?_
        refine tn_getR (ci := 4) (i := 3) (n := 26) (x := x5) dX4_addBody_28 rfl lay_4 (by decide) fl4_33 h_a rfl rfl (rc_F hF (Or.inl (by decide)) (by decide) (hx6)) ?_
        refine tn_iload_n dX4_addBody_31 rfl 1 rfl ?_
        refine tn_iconst dX4_addBody_32 ?_
        refine tn_callV (M := m_X4_addBody) (pc := 33) (ix := 29) (ci := 1) (M' := m_X1_get) (As := [.int (iI i1), .int (iI 3)]) (rest := []) dX4_addBody_33 ok_X1_get im_X1_get se_X1_get ml4_29 np_X1_get rfl rfl hk7o rfl (Nat.le_of_ble_eq_true rfl) (Nat.le_of_ble_eq_true rfl) rfl (k_X1_get (d + 2) (T := T) (σ := σ) (a := x5) (k := i1) (c := 3) hk7o (by omega) (by decide) hw (by omega)) (fun r25 T27 σ26 gt28 hp => ?_)
        obtain ⟨v30, rfl, rfl, rfl, f29⟩ := hp
        clear gt28
        show Tn _ _ 36 T σ [(0, .ref a), (1, .int (iI i1))] [.int (iI v30)] _
        refine tn_istore_n (L' := [(2, .int (iI v30)), (0, .ref a), (1, .int (iI i1))]) dX4_addBody_36 rfl (by decide) rfl ?_
        refine tn_aload_n dX4_addBody_37 rfl 1 rfl ?_
        refine tn_aload_n dX4_addBody_38 rfl 1 rfl ?_
        refine tn_getI (ci := 4) (i := 8) (n := 31) (t := σ0.2.1 31 a) dX4_addBody_39 rfl lay_4 (by decide) fl4_78 h_a rfl rfl (rc_F hF (Or.inl (by decide)) (by decide) (rfl)) ?_
        have g31 : ((-2147483648 : Int) ≤ σ0.2.1 31 a ∧ σ0.2.1 31 a ≤ 2147483647) := wf_31 hw0 h_a
        refine tn_iload_n dX4_addBody_42 rfl 0 rfl ?_
        refine tn_aload_n dX4_addBody_43 rfl 1 rfl ?_
        refine tn_getR (ci := 4) (i := 3) (n := 26) (x := x5) dX4_addBody_44 rfl lay_4 (by decide) fl4_33 h_a rfl rfl (rc_F hF (Or.inl (by decide)) (by decide) (hx6)) ?_
        refine tn_iload_n dX4_addBody_47 rfl 2 rfl ?_
        refine tn_iconst dX4_addBody_48 ?_
        refine tn_callV (M := m_X4_addBody) (pc := 49) (ix := 29) (ci := 1) (M' := m_X1_get) (As := [.int (iI i1), .int (iI 4)]) (rest := [.int (iI v30), .int (iI (σ0.2.1 31 a)), .ref a]) dX4_addBody_49 ok_X1_get im_X1_get se_X1_get ml4_29 np_X1_get rfl rfl hk7o rfl (Nat.le_of_ble_eq_true rfl) (Nat.le_of_ble_eq_true rfl) rfl (k_X1_get (d + 2) (T := T) (σ := σ) (a := x5) (k := i1) (c := 4) hk7o (by omega) (by decide) hw (by omega)) (fun r32 T34 σ33 gt35 hp => ?_)
        obtain ⟨v37, rfl, rfl, rfl, f36⟩ := hp
        clear gt35
        show Tn _ _ 52 T σ [(2, .int (iI v30)), (0, .ref a), (1, .int (iI i1))] [.int (iI v37), .int (iI v30), .int (iI (σ0.2.1 31 a)), .ref a] _
        refine tn_iload_n dX4_addBody_52 rfl 0 rfl ?_
        refine tn_iconst dX4_addBody_53 ?_
        refine tn_icmp_ne (tgt := 64) dX4_addBody_54 (by decide) ⟨by omega, by omega⟩ ⟨by decide, by decide⟩ (fun h38 => ?_) (fun h38 => ?_)
        · refine tn_iconst dX4_addBody_64 ?_
          refine tn_iadd dX4_addBody_65 ?_
          refine tn_callV (M := m_X4_addBody) (pc := 66) (ix := 151) (ci := 4) (M' := m_X4_addCopy) (As := [.int (iI (σ0.2.1 31 a)), .int (iI v30), .int (iI (v37 + 0))]) (rest := []) dX4_addBody_66 ok_X4_addCopy im_X4_addCopy se_X4_addCopy ml4_151 np_X4_addCopy rfl rfl h_a rfl (Nat.le_of_ble_eq_true rfl) (Nat.le_of_ble_eq_true rfl) rfl (k_X4_addCopy (d) (T := T) (σ := σ) (a := a) (p1 := σ0.2.1 31 a) (p2 := v30) (p3 := v37 + 0) h_a (by omega) (by omega) (by omega) hw (by rw [show σ.2.1 25 a = σ0.2.1 25 a from rc_F hF (Or.inl (by decide)) (by decide) (rfl)]; omega)) (fun r39 T41 σ40 gt42 hp => ?_)
          obtain ⟨rfl, rfl, w44, F45⟩ := hp
          clear gt42
          show Tn _ _ 69 T σ40 [(2, .int (iI v30)), (0, .ref a), (1, .int (iI i1))] [] _
          refine tn_aload_n dX4_addBody_69 rfl 1 rfl ?_
          refine tn_bipush dX4_addBody_70 (by decide) ?_
          refine tn_aload_n dX4_addBody_72 rfl 1 rfl ?_
          refine tn_getI (ci := 4) (i := 7) (n := 30) (t := σ0.2.1 30 a) dX4_addBody_73 rfl lay_4 (by decide) fl4_72 h_a rfl rfl (rc_F F45 (Or.inl (by decide)) (by decide) (rc_F hF (Or.inl (by decide)) (by decide) (rfl))) ?_
          have g46 : ((-2147483648 : Int) ≤ σ0.2.1 30 a ∧ σ0.2.1 30 a ≤ 2147483647) := wf_30 hw0 h_a
          refine tn_iconst dX4_addBody_76 ?_
          refine tn_callV (M := m_X4_addBody) (pc := 77) (ix := 148) (ci := 4) (M' := m_X4_addRow) (As := [.int (iI 8), .int (iI (σ0.2.1 30 a)), .int (iI 0)]) (rest := []) dX4_addBody_77 ok_X4_addRow im_X4_addRow se_X4_addRow ml4_148 np_X4_addRow rfl rfl h_a rfl (Nat.le_of_ble_eq_true rfl) (Nat.le_of_ble_eq_true rfl) rfl (k_X4_addRow (d + 1) (T := T) (σ := σ40) (a := a) (p1 := 8) (p2 := σ0.2.1 30 a) (p3 := 0) h_a (by decide) (by omega) (by decide) w44 (by rw [show σ40.2.1 25 a = σ0.2.1 25 a from rc_F F45 (Or.inl (by decide)) (by decide) (rc_F hF (Or.inl (by decide)) (by decide) (rfl))]; omega)) (fun r47 T49 σ48 gt50 hp => ?_)
          obtain ⟨rfl, rfl, w52, F53⟩ := hp
          clear gt50
          show Tn _ _ 80 T σ48 [(2, .int (iI v30)), (0, .ref a), (1, .int (iI i1))] [] _
          refine tn_goto (tgt := 88) dX4_addBody_80 (by decide) ?_
          refine tn_iinc (q0 := 2) (L' := [(1, .int (iI (i1 + 1))), (2, .int (iI v30)), (0, .ref a)]) dX4_addBody_88 rfl (by decide) rfl ?_
          refine tn_goto (tgt := 2) dX4_addBody_91 (by decide) ?_
          exact tn_sub [2, 0] rfl (ih _ (by omega) (i1 + 1) σ48 w52 (((FrC.rfl.trans (FrC.sub hF (by decide))).trans (FrC.sub F45 (by decide))).trans (FrC.sub F53 (by decide))) (by omega) rfl)
        · refine tn_aload_n dX4_addBody_57 rfl 1 rfl ?_
          refine tn_getI (ci := 4) (i := 4) (n := 27) (t := σ0.2.1 27 a) dX4_addBody_58 rfl lay_4 (by decide) fl4_57 h_a rfl rfl (rc_F hF (Or.inl (by decide)) (by decide) (rfl)) ?_
          have g54 : ((-2147483648 : Int) ≤ σ0.2.1 27 a ∧ σ0.2.1 27 a ≤ 2147483647) := wf_27 hw0 h_a
          refine tn_goto (tgt := 65) dX4_addBody_61 (by decide) ?_
          refine tn_iadd dX4_addBody_65 ?_
          refine tn_any (fun z55 g56 => ?_)
          have g56r : -2147483648 ≤ z55 ∧ z55 ≤ 2147483647 := g56
          refine tn_callV (M := m_X4_addBody) (pc := 66) (ix := 151) (ci := 4) (M' := m_X4_addCopy) (As := [.int (iI (σ0.2.1 31 a)), .int (iI v30), .int (iI z55)]) (rest := []) dX4_addBody_66 ok_X4_addCopy im_X4_addCopy se_X4_addCopy ml4_151 np_X4_addCopy rfl rfl h_a rfl (Nat.le_of_ble_eq_true rfl) (Nat.le_of_ble_eq_true rfl) rfl (k_X4_addCopy (d) (T := T) (σ := σ) (a := a) (p1 := σ0.2.1 31 a) (p2 := v30) (p3 := z55) h_a (by omega) (by omega) (by omega) hw (by rw [show σ.2.1 25 a = σ0.2.1 25 a from rc_F hF (Or.inl (by decide)) (by decide) (rfl)]; omega)) (fun r57 T59 σ58 gt60 hp => ?_)
          obtain ⟨rfl, rfl, w62, F63⟩ := hp
          clear gt60
          show Tn _ _ 69 T σ58 [(2, .int (iI v30)), (0, .ref a), (1, .int (iI i1))] [] _
          refine tn_aload_n dX4_addBody_69 rfl 1 rfl ?_
          refine tn_bipush dX4_addBody_70 (by decide) ?_
          refine tn_aload_n dX4_addBody_72 rfl 1 rfl ?_
          refine tn_getI (ci := 4) (i := 7) (n := 30) (t := σ0.2.1 30 a) dX4_addBody_73 rfl lay_4 (by decide) fl4_72 h_a rfl rfl (rc_F F63 (Or.inl (by decide)) (by decide) (rc_F hF (Or.inl (by decide)) (by decide) (rfl))) ?_
          have g64 : ((-2147483648 : Int) ≤ σ0.2.1 30 a ∧ σ0.2.1 30 a ≤ 2147483647) := wf_30 hw0 h_a
          refine tn_iconst dX4_addBody_76 ?_
          refine tn_callV (M := m_X4_addBody) (pc := 77) (ix := 148) (ci := 4) (M' := m_X4_addRow) (As := [.int (iI 8), .int (iI (σ0.2.1 30 a)), .int (iI 0)]) (rest := []) dX4_addBody_77 ok_X4_addRow im_X4_addRow se_X4_addRow ml4_148 np_X4_addRow rfl rfl h_a rfl (Nat.le_of_ble_eq_true rfl) (Nat.le_of_ble_eq_true rfl) rfl (k_X4_addRow (d + 1) (T := T) (σ := σ58) (a := a) (p1 := 8) (p2 := σ0.2.1 30 a) (p3 := 0) h_a (by decide) (by omega) (by decide) w62 (by rw [show σ58.2.1 25 a = σ0.2.1 25 a from rc_F F63 (Or.inl (by decide)) (by decide) (rc_F hF (Or.inl (by decide)) (by decide) (rfl))]; omega)) (fun r65 T67 σ66 gt68 hp => ?_)
          obtain ⟨rfl, rfl, w70, F71⟩ := hp
          clear gt68
          show Tn _ _ 80 T σ66 [(2, .int (iI v30)), (0, .ref a), (1, .int (iI i1))] [] _
          refine tn_goto (tgt := 88) dX4_addBody_80 (by decide) ?_
          refine tn_iinc (q0 := 2) (L' := [(1, .int (iI (i1 + 1))), (2, .int (iI v30)), (0, .ref a)]) dX4_addBody_88 rfl (by decide) rfl ?_
          refine tn_goto (tgt := 2) dX4_addBody_91 (by decide) ?_
          exact tn_sub [2, 0] rfl (ih _ (by omega) (i1 + 1) σ66 w70 (((FrC.rfl.trans (FrC.sub hF (by decide))).trans (FrC.sub F63 (by decide))).trans (FrC.sub F71 (by decide))) (by omega) rfl)
theorem dX4_addBody_94 : decode cX4_addBody 94 = .ok (.aload_n 0, 1) := by decide +kernel
theorem dX4_addBody_95 : decode cX4_addBody 95 = .ok (.bipush 13, 2) := by decide +kernel
theorem dX4_addBody_97 : decode cX4_addBody 97 = .ok (.aload_n 0, 1) := by decide +kernel
theorem dX4_addBody_98 : decode cX4_addBody 98 = .ok (.getfield 72, 3) := by decide +kernel
theorem dX4_addBody_101 : decode cX4_addBody 101 = .ok (.iconst 0, 1) := by decide +kernel
theorem dX4_addBody_102 : decode cX4_addBody 102 = .ok (.invokevirtual 148, 3) := by decide +kernel
theorem dX4_addBody_105 : decode cX4_addBody 105 = .ok (.aload_n 0, 1) := by decide +kernel
theorem dX4_addBody_106 : decode cX4_addBody 106 = .ok (.bipush 15, 2) := by decide +kernel
theorem dX4_addBody_108 : decode cX4_addBody 108 = .ok (.aload_n 0, 1) := by decide +kernel
theorem dX4_addBody_109 : decode cX4_addBody 109 = .ok (.getfield 69, 3) := by decide +kernel
theorem dX4_addBody_112 : decode cX4_addBody 112 = .ok (.iconst 0, 1) := by decide +kernel
theorem dX4_addBody_113 : decode cX4_addBody 113 = .ok (.invokevirtual 148, 3) := by decide +kernel
theorem dX4_addBody_116 : decode cX4_addBody 116 = .ok (.return_, 1) := by decide +kernel
set_option maxRecDepth 20000 in
theorem k_X4_addBody (d : Nat) {T : CT} {σ : MS} {a : Nat} (ha : OB T a 4) (hw : WT T σ) (hh : 0 ≤ σ.2.1 25 a) (hg : 0 ≤ σ.2.1 26 a) : Tn (d + 4) m_X4_addBody 0 T σ [(0, .ref a)] [] (fun ro T2 σ2 => ro = none ∧ T = T2 ∧ WT T2 σ2 ∧ FrC T [32] σ σ2) := by
  refine tn_iconst dX4_addBody_0 ?_
  refine tn_istore_n (L' := [(1, .int (iI 0)), (0, .ref a)]) dX4_addBody_1 rfl (by decide) rfl ?_
  refine tn_sub [1, 0] rfl (l_X4_addBody_2 (d) (T := T) (σ0 := σ) (a := a) ha hw (by omega) (by omega) (fun i11 σ2 w5 F6 r7 => ?_) _ (0) σ hw FrC.rfl (by omega) rfl)
  show Tn _ _ 94 T σ2 [(0, .ref a), (1, .int (iI i11))] [] _
  refine tn_aload_n dX4_addBody_94 rfl 0 rfl ?_
  refine tn_bipush dX4_addBody_95 (by decide) ?_
  refine tn_aload_n dX4_addBody_97 rfl 0 rfl ?_
  refine tn_getI (ci := 4) (i := 7) (n := 30) (t := σ.2.1 30 a) dX4_addBody_98 rfl lay_4 (by decide) fl4_72 ha rfl rfl (rc_F F6 (Or.inl (by decide)) (by decide) (rfl)) ?_
  have g8 : ((-2147483648 : Int) ≤ σ.2.1 30 a ∧ σ.2.1 30 a ≤ 2147483647) := wf_30 hw ha
  refine tn_iconst dX4_addBody_101 ?_
  refine tn_callV (M := m_X4_addBody) (pc := 102) (ix := 148) (ci := 4) (M' := m_X4_addRow) (As := [.int (iI 13), .int (iI (σ.2.1 30 a)), .int (iI 0)]) (rest := []) dX4_addBody_102 ok_X4_addRow im_X4_addRow se_X4_addRow ml4_148 np_X4_addRow rfl rfl ha rfl (Nat.le_of_ble_eq_true rfl) (Nat.le_of_ble_eq_true rfl) rfl (k_X4_addRow (d + 1) (T := T) (σ := σ2) (a := a) (p1 := 13) (p2 := σ.2.1 30 a) (p3 := 0) ha (by decide) (by omega) (by decide) w5 (by rw [show σ2.2.1 25 a = σ.2.1 25 a from rc_F F6 (Or.inl (by decide)) (by decide) (rfl)]; omega)) (fun r9 T11 σ10 gt12 hp => ?_)
  obtain ⟨rfl, rfl, w14, F15⟩ := hp
  clear gt12
  show Tn _ _ 105 T σ10 [(0, .ref a), (1, .int (iI i11))] [] _
  refine tn_aload_n dX4_addBody_105 rfl 0 rfl ?_
  refine tn_bipush dX4_addBody_106 (by decide) ?_
  refine tn_aload_n dX4_addBody_108 rfl 0 rfl ?_
  refine tn_getI (ci := 4) (i := 6) (n := 29) (t := σ.2.1 29 a) dX4_addBody_109 rfl lay_4 (by decide) fl4_69 ha rfl rfl (rc_F F15 (Or.inl (by decide)) (by decide) (rc_F F6 (Or.inl (by decide)) (by decide) (rfl))) ?_
  have g16 : ((-2147483648 : Int) ≤ σ.2.1 29 a ∧ σ.2.1 29 a ≤ 2147483647) := wf_29 hw ha
  refine tn_iconst dX4_addBody_112 ?_
  refine tn_callV (M := m_X4_addBody) (pc := 113) (ix := 148) (ci := 4) (M' := m_X4_addRow) (As := [.int (iI 15), .int (iI (σ.2.1 29 a)), .int (iI 0)]) (rest := []) dX4_addBody_113 ok_X4_addRow im_X4_addRow se_X4_addRow ml4_148 np_X4_addRow rfl rfl ha rfl (Nat.le_of_ble_eq_true rfl) (Nat.le_of_ble_eq_true rfl) rfl (k_X4_addRow (d + 1) (T := T) (σ := σ10) (a := a) (p1 := 15) (p2 := σ.2.1 29 a) (p3 := 0) ha (by decide) (by omega) (by decide) w14 (by rw [show σ10.2.1 25 a = σ.2.1 25 a from rc_F F15 (Or.inl (by decide)) (by decide) (rc_F F6 (Or.inl (by decide)) (by decide) (rfl))]; omega)) (fun r17 T19 σ18 gt20 hp => ?_)
  obtain ⟨rfl, rfl, w22, F23⟩ := hp
  clear gt20
  show Tn _ _ 116 T σ18 [(0, .ref a), (1, .int (iI i11))] [] _
  exact tn_vret rfl dX4_addBody_116 ⟨rfl, rfl, w22, (((FrC.rfl.trans (FrC.sub F6 (by decide))).trans (FrC.sub F15 (by decide))).trans (FrC.sub F23 (by decide)))⟩
end
section
theorem cd_X4_addEntry : Cond.code yX4_addEntry cX4_addEntry 4 none ∈ pWW := pw5 (List.mem_of_getElem? (i := 175) rfl) rfl
abbrev m_X4_addEntry : MT := (yX4_addEntry, cX4_addEntry, 4, none)
theorem ok_X4_addEntry : pOk m_X4_addEntry := ⟨⟨cd_X4_addEntry, ini_4⟩, by decide +kernel, ⟨by decide +kernel, by decide +kernel⟩, Nat.le_of_ble_eq_true rfl⟩
theorem np_X4_addEntry : (parseMethodDescriptor yX4_addEntry.desc).map (fun d => d.parameters.length) = some 0 := by decide +kernel
theorem im_X4_addEntry : Cond.instanceMethod yX4_addEntry ∈ pWW := pw5 (List.mem_of_getElem? (i := 174) rfl) rfl
theorem se_X4_addEntry : Cond.selects RX4 yX4_addEntry yX4_addEntry ∈ pWW := pws (List.mem_map.mpr ⟨_, lw_pin 69 rfl, rfl⟩) rfl
theorem ml4_154 : Cond.methodLink RX4 154 yX1_setWhere ∈ pWW := pw5 (List.mem_of_getElem? (i := 185) rfl) rfl
theorem fl4_9 : Cond.fieldLink RX4 9 (TX4 1).1 (TX4 1).2.1 (TX4 1).2.2.1 ∈ pWW := pw2 (List.mem_of_getElem? (i := 62) rfl) rfl
theorem nl4_128 : (RX4, 128, yX11_at, "LineKeeper") ∈ nst_M := List.mem_of_getElem? (i := 38) rfl
theorem dX4_addEntry_0 : decode cX4_addEntry 0 = .ok (.aload_n 0, 1) := by decide +kernel
theorem dX4_addEntry_1 : decode cX4_addEntry 1 = .ok (.bipush 14, 2) := by decide +kernel
theorem dX4_addEntry_3 : decode cX4_addEntry 3 = .ok (.aload_n 0, 1) := by decide +kernel
theorem dX4_addEntry_4 : decode cX4_addEntry 4 = .ok (.getfield 69, 3) := by decide +kernel
theorem dX4_addEntry_7 : decode cX4_addEntry 7 = .ok (.iconst 0, 1) := by decide +kernel
theorem dX4_addEntry_8 : decode cX4_addEntry 8 = .ok (.invokevirtual 148, 3) := by decide +kernel
theorem dX4_addEntry_11 : decode cX4_addEntry 11 = .ok (.iconst 0, 1) := by decide +kernel
theorem dX4_addEntry_12 : decode cX4_addEntry 12 = .ok (.istore_n 1, 1) := by decide +kernel
theorem dX4_addEntry_13 : decode cX4_addEntry 13 = .ok (.iload_n 1, 1) := by decide +kernel
theorem dX4_addEntry_14 : decode cX4_addEntry 14 = .ok (.aload_n 0, 1) := by decide +kernel
theorem dX4_addEntry_15 : decode cX4_addEntry 15 = .ok (.getfield 33, 3) := by decide +kernel
theorem dX4_addEntry_18 : decode cX4_addEntry 18 = .ok (.getfield 105, 3) := by decide +kernel
theorem dX4_addEntry_21 : decode cX4_addEntry 21 = .ok (.if_icmp .ge 112, 3) := by decide +kernel
theorem dX4_addEntry_24 : decode cX4_addEntry 24 = .ok (.aload_n 0, 1) := by decide +kernel
theorem dX4_addEntry_25 : decode cX4_addEntry 25 = .ok (.getfield 57, 3) := by decide +kernel
theorem dX4_addEntry_28 : decode cX4_addEntry 28 = .ok (.aload_n 0, 1) := by decide +kernel
theorem dX4_addEntry_29 : decode cX4_addEntry 29 = .ok (.getfield 33, 3) := by decide +kernel
theorem dX4_addEntry_32 : decode cX4_addEntry 32 = .ok (.iconst 0, 1) := by decide +kernel
theorem dX4_addEntry_33 : decode cX4_addEntry 33 = .ok (.iload_n 1, 1) := by decide +kernel
theorem dX4_addEntry_34 : decode cX4_addEntry 34 = .ok (.invokevirtual 122, 3) := by decide +kernel
theorem dX4_addEntry_37 : decode cX4_addEntry 37 = .ok (.iadd, 1) := by decide +kernel
theorem dX4_addEntry_38 : decode cX4_addEntry 38 = .ok (.istore_n 2, 1) := by decide +kernel
theorem dX4_addEntry_39 : decode cX4_addEntry 39 = .ok (.iload_n 1, 1) := by decide +kernel
theorem dX4_addEntry_40 : decode cX4_addEntry 40 = .ok (.aload_n 0, 1) := by decide +kernel
theorem dX4_addEntry_41 : decode cX4_addEntry 41 = .ok (.getfield 33, 3) := by decide +kernel
theorem dX4_addEntry_44 : decode cX4_addEntry 44 = .ok (.getfield 108, 3) := by decide +kernel
theorem dX4_addEntry_47 : decode cX4_addEntry 47 = .ok (.if_icmp .ge 7, 3) := by decide +kernel
theorem dX4_addEntry_54 : decode cX4_addEntry 54 = .ok (.iconst 0, 1) := by decide +kernel
theorem dX4_addEntry_55 : decode cX4_addEntry 55 = .ok (.istore_n 3, 1) := by decide +kernel
theorem dX4_addEntry_56 : decode cX4_addEntry 56 = .ok (.iload_n 3, 1) := by decide +kernel
theorem dX4_addEntry_57 : decode cX4_addEntry 57 = .ok (.ifCond .eq 30, 3) := by decide +kernel
theorem dX4_addEntry_87 : decode cX4_addEntry 87 = .ok (.aload_n 0, 1) := by decide +kernel
theorem dX4_addEntry_88 : decode cX4_addEntry 88 = .ok (.getfield 19, 3) := by decide +kernel
theorem dX4_addEntry_91 : decode cX4_addEntry 91 = .ok (.aload_n 0, 1) := by decide +kernel
theorem dX4_addEntry_92 : decode cX4_addEntry 92 = .ok (.getfield 96, 3) := by decide +kernel
theorem dX4_addEntry_95 : decode cX4_addEntry 95 = .ok (.iload_n 3, 1) := by decide +kernel
theorem dX4_addEntry_96 : decode cX4_addEntry 96 = .ok (.ifCond .eq 7, 3) := by decide +kernel
theorem dX4_addEntry_103 : decode cX4_addEntry 103 = .ok (.iconst 1, 1) := by decide +kernel
theorem dX4_addEntry_104 : decode cX4_addEntry 104 = .ok (.iload_n 3, 1) := by decide +kernel
theorem dX4_addEntry_105 : decode cX4_addEntry 105 = .ok (.ifCond .eq 7, 3) := by decide +kernel
theorem dX4_addEntry_112 : decode cX4_addEntry 112 = .ok (.iconst 0, 1) := by decide +kernel
theorem dX4_addEntry_113 : decode cX4_addEntry 113 = .ok (.invokevirtual 154, 3) := by decide +kernel
theorem dX4_addEntry_116 : decode cX4_addEntry 116 = .ok (.aload_n 0, 1) := by decide +kernel
theorem dX4_addEntry_117 : decode cX4_addEntry 117 = .ok (.bipush 12, 2) := by decide +kernel
theorem dX4_addEntry_119 : decode cX4_addEntry 119 = .ok (.iload_n 1, 1) := by decide +kernel
theorem dX4_addEntry_120 : decode cX4_addEntry 120 = .ok (.aload_n 0, 1) := by decide +kernel
theorem dX4_addEntry_121 : decode cX4_addEntry 121 = .ok (.getfield 69, 3) := by decide +kernel
theorem dX4_addEntry_124 : decode cX4_addEntry 124 = .ok (.invokevirtual 148, 3) := by decide +kernel
theorem dX4_addEntry_127 : decode cX4_addEntry 127 = .ok (.iinc 1 1, 3) := by decide +kernel
theorem dX4_addEntry_130 : decode cX4_addEntry 130 = .ok (.goto (-117), 3) := by decide +kernel
theorem dX4_addEntry_50 : decode cX4_addEntry 50 = .ok (.iconst 1, 1) := by decide +kernel
theorem dX4_addEntry_51 : decode cX4_addEntry 51 = .ok (.goto 4, 3) := by decide +kernel
theorem dX4_addEntry_60 : decode cX4_addEntry 60 = .ok (.aload_n 0, 1) := by decide +kernel
theorem dX4_addEntry_61 : decode cX4_addEntry 61 = .ok (.iload_n 2, 1) := by decide +kernel
theorem dX4_addEntry_62 : decode cX4_addEntry 62 = .ok (.aload_n 0, 1) := by decide +kernel
theorem dX4_addEntry_63 : decode cX4_addEntry 63 = .ok (.getfield 9, 3) := by decide +kernel
theorem dX4_addEntry_66 : decode cX4_addEntry 66 = .ok (.iconst 2, 1) := by decide +kernel
theorem dX4_addEntry_67 : decode cX4_addEntry 67 = .ok (.iload_n 1, 1) := by decide +kernel
theorem dX4_addEntry_68 : decode cX4_addEntry 68 = .ok (.imul, 1) := by decide +kernel
theorem dX4_addEntry_69 : decode cX4_addEntry 69 = .ok (.invokestatic 128, 3) := by decide +kernel
theorem dX4_addEntry_72 : decode cX4_addEntry 72 = .ok (.aload_n 0, 1) := by decide +kernel
theorem dX4_addEntry_73 : decode cX4_addEntry 73 = .ok (.getfield 9, 3) := by decide +kernel
theorem dX4_addEntry_76 : decode cX4_addEntry 76 = .ok (.iconst 2, 1) := by decide +kernel
theorem dX4_addEntry_77 : decode cX4_addEntry 77 = .ok (.iload_n 1, 1) := by decide +kernel
theorem dX4_addEntry_78 : decode cX4_addEntry 78 = .ok (.imul, 1) := by decide +kernel
theorem dX4_addEntry_79 : decode cX4_addEntry 79 = .ok (.iconst 1, 1) := by decide +kernel
theorem dX4_addEntry_80 : decode cX4_addEntry 80 = .ok (.iadd, 1) := by decide +kernel
theorem dX4_addEntry_81 : decode cX4_addEntry 81 = .ok (.invokestatic 128, 3) := by decide +kernel
theorem dX4_addEntry_84 : decode cX4_addEntry 84 = .ok (.invokevirtual 151, 3) := by decide +kernel
theorem dX4_addEntry_99 : decode cX4_addEntry 99 = .ok (.iconst 2, 1) := by decide +kernel
theorem dX4_addEntry_100 : decode cX4_addEntry 100 = .ok (.goto 4, 3) := by decide +kernel
theorem dX4_addEntry_108 : decode cX4_addEntry 108 = .ok (.iload_n 2, 1) := by decide +kernel
theorem dX4_addEntry_109 : decode cX4_addEntry 109 = .ok (.goto 4, 3) := by decide +kernel
set_option maxRecDepth 20000 in
theorem l_X4_addEntry_13 (d : Nat) {T : CT} {σ0 : MS} {a : Nat} {post : Option Value → CT → MS → Prop} (h_a : OB T a 4) (hw0 : WT T σ0) (hh : 0 ≤ σ0.2.1 25 a) (hg : 0 ≤ σ0.2.1 26 a) (hx_133 : ∀ (i1 : Int) (σ : MS) , (WT T σ) → (FrC T [32] σ0 σ) → (0 ≤ i1 ∧ i1 ≤ 2147483647) → Tn (d + 4) m_X4_addEntry 133 T σ [(0, .ref a), (1, .int (iI i1))] [] post) : ∀ (n : Nat) (i1 : Int) (σ : MS) , (WT T σ) → (FrC T [32] σ0 σ) → (0 ≤ i1 ∧ i1 ≤ 2147483647) → (2147483700 - i1).toNat = n → Tn (d + 4) m_X4_addEntry 13 T σ [(0, .ref a), (1, .int (iI i1))] [] post := by
  intro n
  induction n using Nat.strongRecOn with
  | _ n ih =>
    intro i1 σ hw hF r_i1 hm
    refine tn_iload_n dX4_addEntry_13 rfl 1 rfl ?_
    refine tn_aload_n dX4_addEntry_14 rfl 0 rfl ?_
    have nn8 : 0 ≤ σ0.2.1 26 a := (by omega)
    obtain ⟨x5, hx6, hk7⟩ := (wf_26 hw0 h_a).resolve_left (by omega)
    have hk7o : OB T x5 1 := ⟨by omega, by rw [hk7]; rfl, by omega⟩
    refine tn_getR (ci := 4) (i := 3) (n := 26) (x := x5) dX4_addEntry_15 rfl lay_4 (by decide) fl4_33 h_a rfl rfl (rc_F hF (Or.inl (by decide)) (by decide) (hx6)) ?_
    refine tn_getI (ci := 1) (i := 2) (n := 7) (t := σ0.2.1 7 x5) dX4_addEntry_18 rfl lay_1 (by decide) fl4_105 hk7o rfl rfl (rc_F hF (Or.inl (by decide)) (by decide) (rfl)) ?_
    have g9 : ((0 : Int) ≤ σ0.2.1 7 x5 ∧ σ0.2.1 7 x5 ≤ 12) := wf_7 hw0 hk7o
    refine tn_icmp_ge (tgt := 133) dX4_addEntry_21 (by decide) ⟨by omega, by omega⟩ ⟨by omega, by omega⟩ (fun h10 => ?_) (fun h10 => ?_)
    · exact tn_sub [0, 1] rfl (hx_133 (i1) σ hw (FrC.rfl.trans (FrC.sub hF (by decide))) (by omega))
    · refine tn_aload_n dX4_addEntry_24 rfl 0 rfl ?_
      refine tn_getI (ci := 4) (i := 4) (n := 27) (t := σ0.2.1 27 a) dX4_addEntry_25 rfl lay_4 (by decide) fl4_57 h_a rfl rfl (rc_F hF (Or.inl (by decide)) (by decide) (rfl)) ?_
      have g11 : ((-2147483648 : Int) ≤ σ0.2.1 27 a ∧ σ0.2.1 27 a ≤ 2147483647) := wf_27 hw0 h_a
      refine tn_aload_n dX4_addEntry_28 rfl 0 rfl ?_
      refine tn_getR (ci := 4) (i := 3) (n := 26) (x := x5) dX4_addEntry_29 rfl lay_4 (by decide) fl4_33 h_a rfl rfl (rc_F hF (Or.inl (by decide)) (by decide) (hx6)) ?_
      refine tn_iconst dX4_addEntry_32 ?_
      refine tn_iload_n dX4_addEntry_33 rfl 1 rfl ?_
      refine tn_callV (M := m_X4_addEntry) (pc := 34) (ix := 122) (ci := 1) (M' := m_X1_homeOf) (As := [.int (iI 0), .int (iI i1)]) (rest := [.int (iI (σ0.2.1 27 a))]) dX4_addEntry_34 ok_X1_homeOf im_X1_homeOf se_X1_homeOf ml4_122 np_X1_homeOf rfl rfl hk7o rfl (Nat.le_of_ble_eq_true rfl) (Nat.le_of_ble_eq_true rfl) rfl (k_X1_homeOf (d + 1) (T := T) (σ := σ) (a := x5) (f := 0) (m := i1) hk7o (by decide) (by omega) hw ) (fun r12 T14 σ13 gt15 hp => ?_)
      obtain ⟨v17, rfl, rfl, rfl, f16⟩ := hp
      clear gt15
      show Tn _ _ 37 T σ [(0, .ref a), (1, .int (iI i1))] [.int (iI v17), .int (iI (σ0.2.1 27 a))] _
      refine tn_iadd dX4_addEntry_37 ?_
      refine tn_any (fun z18 g19 => ?_)
      have g19r : -2147483648 ≤ z18 ∧ z18 ≤ 2147483647 := g19
      refine tn_istore_n (L' := [(2, .int (iI z18)), (0, .ref a), (1, .int (iI i1))]) dX4_addEntry_38 rfl (by decide) rfl ?_
      refine tn_iload_n dX4_addEntry_39 rfl 2 rfl ?_
      refine tn_aload_n dX4_addEntry_40 rfl 1 rfl ?_
      refine tn_getR (ci := 4) (i := 3) (n := 26) (x := x5) dX4_addEntry_41 rfl lay_4 (by decide) fl4_33 h_a rfl rfl (rc_F hF (Or.inl (by decide)) (by decide) (hx6)) ?_
      refine tn_getI (ci := 1) (i := 3) (n := 8) (t := σ0.2.1 8 x5) dX4_addEntry_44 rfl lay_1 (by decide) fl4_108 hk7o rfl rfl (rc_F hF (Or.inl (by decide)) (by decide) (rfl)) ?_
      have g20 : ((0 : Int) ≤ σ0.2.1 8 x5 ∧ σ0.2.1 8 x5 ≤ 4) := wf_8 hw0 hk7o
      refine tn_icmp_ge (tgt := 54) dX4_addEntry_47 (by decide) ⟨by omega, by omega⟩ ⟨by omega, by omega⟩ (fun h21 => ?_) (fun h21 => ?_)
      · refine tn_iconst dX4_addEntry_54 ?_
        refine tn_istore_n (L' := [(3, .int (iI 0)), (2, .int (iI z18)), (0, .ref a), (1, .int (iI i1))]) dX4_addEntry_55 rfl (by decide) rfl ?_
        refine tn_iload_n dX4_addEntry_56 rfl 0 rfl ?_
        refine tn_if_eq (tgt := 87) dX4_addEntry_57 (by decide) ⟨by decide, by decide⟩ (fun _ => ?_) (fun h => absurd h (by decide))
        refine tn_aload_n dX4_addEntry_87 rfl 2 rfl ?_
        have nn30 : 0 ≤ σ0.2.1 25 a := (by omega)
        obtain ⟨x27, hx28, hk29⟩ := (wf_25 hw0 h_a).resolve_left (by omega)
        have hk29o : OB T x27 1 := ⟨by omega, by rw [hk29]; rfl, by omega⟩
        refine tn_getR (ci := 4) (i := 2) (n := 25) (x := x27) dX4_addEntry_88 rfl lay_4 (by decide) fl4_19 h_a rfl rfl (rc_F hF (Or.inl (by decide)) (by decide) (hx28)) ?_
        refine tn_aload_n dX4_addEntry_91 rfl 2 rfl ?_
        refine tn_getI (ci := 4) (i := 9) (n := 32) (t := σ.2.1 32 a) dX4_addEntry_92 rfl lay_4 (by decide) fl4_96 h_a rfl rfl (rfl) ?_
        have g31 : ((-2147483648 : Int) ≤ σ.2.1 32 a ∧ σ.2.1 32 a ≤ 2147483647) := wf_32 hw h_a
        refine tn_iload_n dX4_addEntry_95 rfl 0 rfl ?_
        refine tn_if_eq (tgt := 103) dX4_addEntry_96 (by decide) ⟨by decide, by decide⟩ (fun _ => ?_) (fun h => absurd h (by decide))
        refine tn_iconst dX4_addEntry_103 ?_
        refine tn_iload_n dX4_addEntry_104 rfl 0 rfl ?_
        refine tn_if_eq (tgt := 112) dX4_addEntry_105 (by decide) ⟨by decide, by decide⟩ (fun _ => ?_) (fun h => absurd h (by decide))
        refine tn_iconst dX4_addEntry_112 ?_
        refine tn_callV (M := m_X4_addEntry) (pc := 113) (ix := 154) (ci := 1) (M' := m_X1_setWhere) (As := [.int (iI (σ.2.1 32 a)), .int (iI 1), .int (iI 0)]) (rest := []) dX4_addEntry_113 ok_X1_setWhere im_X1_setWhere se_X1_setWhere ml4_154 np_X1_setWhere rfl rfl hk29o rfl (Nat.le_of_ble_eq_true rfl) (Nat.le_of_ble_eq_true rfl) rfl (k_X1_setWhere (d + 1) (T := T) (σ := σ) (a := x27) (k := σ.2.1 32 a) (y := 1) (z := 0) hk29o (by omega) (by decide) (by decide) hw ) (fun r34 T36 σ35 gt37 hp => ?_)
        obtain ⟨rfl, rfl, w39, F40⟩ := hp
        clear gt37
        show Tn _ _ 116 T σ35 [(3, .int (iI 0)), (2, .int (iI z18)), (0, .ref a), (1, .int (iI i1))] [] _
        refine tn_aload_n dX4_addEntry_116 rfl 2 rfl ?_
        refine tn_bipush dX4_addEntry_117 (by decide) ?_
        refine tn_iload_n dX4_addEntry_119 rfl 3 rfl ?_
        refine tn_aload_n dX4_addEntry_120 rfl 2 rfl ?_
        refine tn_getI (ci := 4) (i := 6) (n := 29) (t := σ0.2.1 29 a) dX4_addEntry_121 rfl lay_4 (by decide) fl4_69 h_a rfl rfl (rc_F F40 (Or.inl (by decide)) (by decide) (rc_F hF (Or.inl (by decide)) (by decide) (rfl))) ?_
        have g41 : ((-2147483648 : Int) ≤ σ0.2.1 29 a ∧ σ0.2.1 29 a ≤ 2147483647) := wf_29 hw0 h_a
        refine tn_callV (M := m_X4_addEntry) (pc := 124) (ix := 148) (ci := 4) (M' := m_X4_addRow) (As := [.int (iI 12), .int (iI i1), .int (iI (σ0.2.1 29 a))]) (rest := []) dX4_addEntry_124 ok_X4_addRow im_X4_addRow se_X4_addRow ml4_148 np_X4_addRow rfl rfl h_a rfl (Nat.le_of_ble_eq_true rfl) (Nat.le_of_ble_eq_true rfl) rfl (k_X4_addRow (d + 1) (T := T) (σ := σ35) (a := a) (p1 := 12) (p2 := i1) (p3 := σ0.2.1 29 a) h_a (by decide) (by omega) (by omega) w39 (by rw [show σ35.2.1 25 a = σ0.2.1 25 a from rc_F F40 (Or.inl (by decide)) (by decide) (rc_F hF (Or.inl (by decide)) (by decide) (rfl))]; omega)) (fun r42 T44 σ43 gt45 hp => ?_)
        obtain ⟨rfl, rfl, w47, F48⟩ := hp
        clear gt45
        show Tn _ _ 127 T σ43 [(3, .int (iI 0)), (2, .int (iI z18)), (0, .ref a), (1, .int (iI i1))] [] _
        refine tn_iinc (q0 := 3) (L' := [(1, .int (iI (i1 + 1))), (3, .int (iI 0)), (2, .int (iI z18)), (0, .ref a)]) dX4_addEntry_127 rfl (by decide) rfl ?_
        refine tn_goto (tgt := 13) dX4_addEntry_130 (by decide) ?_
        exact tn_sub [3, 0] rfl (ih _ (by omega) (i1 + 1) σ43 w47 (((FrC.rfl.trans (FrC.sub hF (by decide))).trans (FrC.sub F40 (by decide))).trans (FrC.sub F48 (by decide))) (by omega) rfl)
      · refine tn_iconst dX4_addEntry_50 ?_
        refine tn_goto (tgt := 55) dX4_addEntry_51 (by decide) ?_
        refine tn_istore_n (L' := [(3, .int (iI 1)), (2, .int (iI z18)), (0, .ref a), (1, .int (iI i1))]) dX4_addEntry_55 rfl (by decide) rfl ?_
        refine tn_iload_n dX4_addEntry_56 rfl 0 rfl ?_
        refine tn_if_eq (tgt := 87) dX4_addEntry_57 (by decide) ⟨by decide, by decide⟩ (fun h => absurd h (by decide)) (fun _ => ?_)
        refine tn_aload_n dX4_addEntry_60 rfl 2 rfl ?_
        refine tn_iload_n dX4_addEntry_61 rfl 1 rfl ?_
        refine tn_aload_n dX4_addEntry_62 rfl 2 rfl ?_
        obtain ⟨x50, hx51, hk52, hl53⟩ : ∃ x : Nat, σ0.2.1 24 a = (x : Int) ∧ AR T x 1 8 8 := wf_24 hw0 h_a
        have hk52i : IA T x50 := by unfold IA; omega
        refine tn_getR (ci := 4) (i := 1) (n := 24) (x := x50) dX4_addEntry_63 rfl lay_4 (by decide) fl4_9 h_a rfl rfl (rc_F hF (Or.inl (by decide)) (by decide) (hx51)) ?_
        refine tn_iconst dX4_addEntry_66 ?_
        refine tn_iload_n dX4_addEntry_67 rfl 3 rfl ?_
        refine tn_imul dX4_addEntry_68 ?_
        refine tn_callSN (M := m_X4_addEntry) (pc := 69) (ix := 128) (M' := m_X11_at) (As := [.ref x50, .int (iI (2 * i1))]) (rest := [.int (iI z18), .ref a]) dX4_addEntry_69 ok_X11_at stt_X11_at nl4_128 np_X11_at rfl (Nat.le_of_ble_eq_true rfl) (Nat.le_of_ble_eq_true rfl) rfl (k_X11_at (d + 2) (T := T) (σ := σ) (x := x50) (i := 2 * i1) hk52i (by omega) (by omega) hw ) (fun r54 T56 σ55 gt57 hp => ?_)
        obtain ⟨v61, rfl, rfl, rfl, f58, f59, f60⟩ := hp
        clear gt57
        clear f59 f60
        show Tn _ _ 72 T σ [(3, .int (iI 1)), (2, .int (iI z18)), (0, .ref a), (1, .int (iI i1))] [.int (iI v61), .int (iI z18), .ref a] _
        refine tn_aload_n dX4_addEntry_72 rfl 2 rfl ?_
        refine tn_getR (ci := 4) (i := 1) (n := 24) (x := x50) dX4_addEntry_73 rfl lay_4 (by decide) fl4_9 h_a rfl rfl (rc_F hF (Or.inl (by decide)) (by decide) (hx51)) ?_
        refine tn_iconst dX4_addEntry_76 ?_
        refine tn_iload_n dX4_addEntry_77 rfl 3 rfl ?_
        refine tn_imul dX4_addEntry_78 ?_
        refine tn_iconst dX4_addEntry_79 ?_
        refine tn_iadd dX4_addEntry_80 ?_
        refine tn_callSN (M := m_X4_addEntry) (pc := 81) (ix := 128) (M' := m_X11_at) (As := [.ref x50, .int (iI ((2 * i1) + 1))]) (rest := [.int (iI v61), .int (iI z18), .ref a]) dX4_addEntry_81 ok_X11_at stt_X11_at nl4_128 np_X11_at rfl (Nat.le_of_ble_eq_true rfl) (Nat.le_of_ble_eq_true rfl) rfl (k_X11_at (d + 2) (T := T) (σ := σ) (x := x50) (i := (2 * i1) + 1) hk52i (by omega) (by omega) hw ) (fun r62 T64 σ63 gt65 hp => ?_)
        obtain ⟨v69, rfl, rfl, rfl, f66, f67, f68⟩ := hp
        clear gt65
        clear f67 f68
        show Tn _ _ 84 T σ [(3, .int (iI 1)), (2, .int (iI z18)), (0, .ref a), (1, .int (iI i1))] [.int (iI v69), .int (iI v61), .int (iI z18), .ref a] _
        refine tn_callV (M := m_X4_addEntry) (pc := 84) (ix := 151) (ci := 4) (M' := m_X4_addCopy) (As := [.int (iI z18), .int (iI v61), .int (iI v69)]) (rest := []) dX4_addEntry_84 ok_X4_addCopy im_X4_addCopy se_X4_addCopy ml4_151 np_X4_addCopy rfl rfl h_a rfl (Nat.le_of_ble_eq_true rfl) (Nat.le_of_ble_eq_true rfl) rfl (k_X4_addCopy (d) (T := T) (σ := σ) (a := a) (p1 := z18) (p2 := v61) (p3 := v69) h_a (by omega) (by omega) (by omega) hw (by rw [show σ.2.1 25 a = σ0.2.1 25 a from rc_F hF (Or.inl (by decide)) (by decide) (rfl)]; omega)) (fun r70 T72 σ71 gt73 hp => ?_)
        obtain ⟨rfl, rfl, w75, F76⟩ := hp
        clear gt73
        show Tn _ _ 87 T σ71 [(3, .int (iI 1)), (2, .int (iI z18)), (0, .ref a), (1, .int (iI i1))] [] _
        refine tn_aload_n dX4_addEntry_87 rfl 2 rfl ?_
        have nn84 : 0 ≤ σ0.2.1 25 a := (by omega)
        obtain ⟨x81, hx82, hk83⟩ := (wf_25 hw0 h_a).resolve_left (by omega)
        have hk83o : OB T x81 1 := ⟨by omega, by rw [hk83]; rfl, by omega⟩
        refine tn_getR (ci := 4) (i := 2) (n := 25) (x := x81) dX4_addEntry_88 rfl lay_4 (by decide) fl4_19 h_a rfl rfl (rc_F F76 (Or.inl (by decide)) (by decide) (rc_F hF (Or.inl (by decide)) (by decide) (hx82))) ?_
        refine tn_aload_n dX4_addEntry_91 rfl 2 rfl ?_
        refine tn_getI (ci := 4) (i := 9) (n := 32) (t := σ71.2.1 32 a) dX4_addEntry_92 rfl lay_4 (by decide) fl4_96 h_a rfl rfl (rfl) ?_
        have g85 : ((-2147483648 : Int) ≤ σ71.2.1 32 a ∧ σ71.2.1 32 a ≤ 2147483647) := wf_32 w75 h_a
        refine tn_iload_n dX4_addEntry_95 rfl 0 rfl ?_
        refine tn_if_eq (tgt := 103) dX4_addEntry_96 (by decide) ⟨by decide, by decide⟩ (fun h => absurd h (by decide)) (fun _ => ?_)
        refine tn_iconst dX4_addEntry_99 ?_
        refine tn_goto (tgt := 104) dX4_addEntry_100 (by decide) ?_
        refine tn_iload_n dX4_addEntry_104 rfl 0 rfl ?_
        refine tn_if_eq (tgt := 112) dX4_addEntry_105 (by decide) ⟨by decide, by decide⟩ (fun h => absurd h (by decide)) (fun _ => ?_)
        refine tn_iload_n dX4_addEntry_108 rfl 1 rfl ?_
        refine tn_goto (tgt := 113) dX4_addEntry_109 (by decide) ?_
        refine tn_callV (M := m_X4_addEntry) (pc := 113) (ix := 154) (ci := 1) (M' := m_X1_setWhere) (As := [.int (iI (σ71.2.1 32 a)), .int (iI 2), .int (iI z18)]) (rest := []) dX4_addEntry_113 ok_X1_setWhere im_X1_setWhere se_X1_setWhere ml4_154 np_X1_setWhere rfl rfl hk83o rfl (Nat.le_of_ble_eq_true rfl) (Nat.le_of_ble_eq_true rfl) rfl (k_X1_setWhere (d + 1) (T := T) (σ := σ71) (a := x81) (k := σ71.2.1 32 a) (y := 2) (z := z18) hk83o (by omega) (by decide) (by omega) w75 ) (fun r88 T90 σ89 gt91 hp => ?_)
        obtain ⟨rfl, rfl, w93, F94⟩ := hp
        clear gt91
        show Tn _ _ 116 T σ89 [(3, .int (iI 1)), (2, .int (iI z18)), (0, .ref a), (1, .int (iI i1))] [] _
        refine tn_aload_n dX4_addEntry_116 rfl 2 rfl ?_
        refine tn_bipush dX4_addEntry_117 (by decide) ?_
        refine tn_iload_n dX4_addEntry_119 rfl 3 rfl ?_
        refine tn_aload_n dX4_addEntry_120 rfl 2 rfl ?_
        refine tn_getI (ci := 4) (i := 6) (n := 29) (t := σ0.2.1 29 a) dX4_addEntry_121 rfl lay_4 (by decide) fl4_69 h_a rfl rfl (rc_F F94 (Or.inl (by decide)) (by decide) (rc_F F76 (Or.inl (by decide)) (by decide) (rc_F hF (Or.inl (by decide)) (by decide) (rfl)))) ?_
        have g95 : ((-2147483648 : Int) ≤ σ0.2.1 29 a ∧ σ0.2.1 29 a ≤ 2147483647) := wf_29 hw0 h_a
        refine tn_callV (M := m_X4_addEntry) (pc := 124) (ix := 148) (ci := 4) (M' := m_X4_addRow) (As := [.int (iI 12), .int (iI i1), .int (iI (σ0.2.1 29 a))]) (rest := []) dX4_addEntry_124 ok_X4_addRow im_X4_addRow se_X4_addRow ml4_148 np_X4_addRow rfl rfl h_a rfl (Nat.le_of_ble_eq_true rfl) (Nat.le_of_ble_eq_true rfl) rfl (k_X4_addRow (d + 1) (T := T) (σ := σ89) (a := a) (p1 := 12) (p2 := i1) (p3 := σ0.2.1 29 a) h_a (by decide) (by omega) (by omega) w93 (by rw [show σ89.2.1 25 a = σ0.2.1 25 a from rc_F F94 (Or.inl (by decide)) (by decide) (rc_F F76 (Or.inl (by decide)) (by decide) (rc_F hF (Or.inl (by decide)) (by decide) (rfl)))]; omega)) (fun r96 T98 σ97 gt99 hp => ?_)
        obtain ⟨rfl, rfl, w101, F102⟩ := hp
        clear gt99
        show Tn _ _ 127 T σ97 [(3, .int (iI 1)), (2, .int (iI z18)), (0, .ref a), (1, .int (iI i1))] [] _
        refine tn_iinc (q0 := 3) (L' := [(1, .int (iI (i1 + 1))), (3, .int (iI 1)), (2, .int (iI z18)), (0, .ref a)]) dX4_addEntry_127 rfl (by decide) rfl ?_
        refine tn_goto (tgt := 13) dX4_addEntry_130 (by decide) ?_
        exact tn_sub [3, 0] rfl (ih _ (by omega) (i1 + 1) σ97 w101 ((((FrC.rfl.trans (FrC.sub hF (by decide))).trans (FrC.sub F76 (by decide))).trans (FrC.sub F94 (by decide))).trans (FrC.sub F102 (by decide))) (by omega) rfl)
theorem dX4_addEntry_133 : decode cX4_addEntry 133 = .ok (.iconst 0, 1) := by decide +kernel
theorem dX4_addEntry_134 : decode cX4_addEntry 134 = .ok (.istore_n 1, 1) := by decide +kernel
theorem dX4_addEntry_135 : decode cX4_addEntry 135 = .ok (.iload_n 1, 1) := by decide +kernel
theorem dX4_addEntry_136 : decode cX4_addEntry 136 = .ok (.sipush 192, 3) := by decide +kernel
theorem dX4_addEntry_139 : decode cX4_addEntry 139 = .ok (.if_icmp .ge 29, 3) := by decide +kernel
theorem dX4_addEntry_142 : decode cX4_addEntry 142 = .ok (.aload_n 0, 1) := by decide +kernel
theorem dX4_addEntry_143 : decode cX4_addEntry 143 = .ok (.iload_n 1, 1) := by decide +kernel
theorem dX4_addEntry_144 : decode cX4_addEntry 144 = .ok (.invokevirtual 111, 3) := by decide +kernel
theorem dX4_addEntry_147 : decode cX4_addEntry 147 = .ok (.ifCond .eq 15, 3) := by decide +kernel
theorem dX4_addEntry_162 : decode cX4_addEntry 162 = .ok (.iinc 1 1, 3) := by decide +kernel
theorem dX4_addEntry_165 : decode cX4_addEntry 165 = .ok (.goto (-30), 3) := by decide +kernel
theorem dX4_addEntry_150 : decode cX4_addEntry 150 = .ok (.aload_n 0, 1) := by decide +kernel
theorem dX4_addEntry_151 : decode cX4_addEntry 151 = .ok (.aload_n 0, 1) := by decide +kernel
theorem dX4_addEntry_152 : decode cX4_addEntry 152 = .ok (.getfield 57, 3) := by decide +kernel
theorem dX4_addEntry_155 : decode cX4_addEntry 155 = .ok (.iload_n 1, 1) := by decide +kernel
theorem dX4_addEntry_156 : decode cX4_addEntry 156 = .ok (.iadd, 1) := by decide +kernel
theorem dX4_addEntry_157 : decode cX4_addEntry 157 = .ok (.iconst 1, 1) := by decide +kernel
theorem dX4_addEntry_158 : decode cX4_addEntry 158 = .ok (.iconst 0, 1) := by decide +kernel
theorem dX4_addEntry_159 : decode cX4_addEntry 159 = .ok (.invokevirtual 151, 3) := by decide +kernel
set_option maxRecDepth 20000 in
theorem l_X4_addEntry_135 (d : Nat) {T : CT} {σ0 : MS} {a : Nat} {post : Option Value → CT → MS → Prop} (h_a : OB T a 4) (hw0 : WT T σ0) (hh : 0 ≤ σ0.2.1 25 a) (hg : 0 ≤ σ0.2.1 26 a) (hx_168 : ∀ (i1 : Int) (σ : MS) , (WT T σ) → (FrC T [32] σ0 σ) → (0 ≤ i1 ∧ i1 ≤ 2147483647) → Tn (d + 4) m_X4_addEntry 168 T σ [(0, .ref a), (1, .int (iI i1))] [] post) : ∀ (n : Nat) (i1 : Int) (σ : MS) , (WT T σ) → (FrC T [32] σ0 σ) → (0 ≤ i1 ∧ i1 ≤ 2147483647) → (2147483700 - i1).toNat = n → Tn (d + 4) m_X4_addEntry 135 T σ [(0, .ref a), (1, .int (iI i1))] [] post := by
  intro n
  induction n using Nat.strongRecOn with
  | _ n ih =>
    intro i1 σ hw hF r_i1 hm
    refine tn_iload_n dX4_addEntry_135 rfl 1 rfl ?_
    refine tn_sipush dX4_addEntry_136 (by decide) ?_
    refine tn_icmp_ge (tgt := 168) dX4_addEntry_139 (by decide) ⟨by omega, by omega⟩ ⟨by decide, by decide⟩ (fun h1 => ?_) (fun h1 => ?_)
    · exact tn_sub [0, 1] rfl (hx_168 (i1) σ hw (FrC.rfl.trans (FrC.sub hF (by decide))) (by omega))
    · refine tn_aload_n dX4_addEntry_142 rfl 0 rfl ?_
      refine tn_iload_n dX4_addEntry_143 rfl 1 rfl ?_
      refine tn_callV (M := m_X4_addEntry) (pc := 144) (ix := 111) (ci := 4) (M' := m_X4_needsNought) (As := [.int (iI i1)]) (rest := []) dX4_addEntry_144 ok_X4_needsNought im_X4_needsNought se_X4_needsNought ml4_111 np_X4_needsNought rfl rfl h_a rfl (Nat.le_of_ble_eq_true rfl) (Nat.le_of_ble_eq_true rfl) rfl (k_X4_needsNought (d) (T := T) (σ := σ) (a := a) (p1 := i1) h_a (by omega) hw (by rw [show σ.2.1 26 a = σ0.2.1 26 a from rc_F hF (Or.inl (by decide)) (by decide) (rfl)]; omega)) (fun r2 T4 σ3 gt5 hp => ?_)
      obtain ⟨v7, rfl, rfl, rfl, f6⟩ := hp
      clear gt5
      show Tn _ _ 147 T σ [(0, .ref a), (1, .int (iI i1))] [.int (iI v7)] _
      refine tn_if_eq (tgt := 162) dX4_addEntry_147 (by decide) ⟨by omega, by omega⟩ (fun h8 => ?_) (fun h8 => ?_)
      · refine tn_iinc (q0 := 1) (L' := [(1, .int (iI (i1 + 1))), (0, .ref a)]) dX4_addEntry_162 rfl (by decide) rfl ?_
        refine tn_goto (tgt := 135) dX4_addEntry_165 (by decide) ?_
        exact tn_sub [1, 0] rfl (ih _ (by omega) (i1 + 1) σ hw (FrC.rfl.trans (FrC.sub hF (by decide))) (by omega) rfl)
      · refine tn_aload_n dX4_addEntry_150 rfl 0 rfl ?_
        refine tn_aload_n dX4_addEntry_151 rfl 0 rfl ?_
        refine tn_getI (ci := 4) (i := 4) (n := 27) (t := σ0.2.1 27 a) dX4_addEntry_152 rfl lay_4 (by decide) fl4_57 h_a rfl rfl (rc_F hF (Or.inl (by decide)) (by decide) (rfl)) ?_
        have g9 : ((-2147483648 : Int) ≤ σ0.2.1 27 a ∧ σ0.2.1 27 a ≤ 2147483647) := wf_27 hw0 h_a
        refine tn_iload_n dX4_addEntry_155 rfl 1 rfl ?_
        refine tn_iadd dX4_addEntry_156 ?_
        refine tn_any (fun z10 g11 => ?_)
        have g11r : -2147483648 ≤ z10 ∧ z10 ≤ 2147483647 := g11
        refine tn_iconst dX4_addEntry_157 ?_
        refine tn_iconst dX4_addEntry_158 ?_
        refine tn_callV (M := m_X4_addEntry) (pc := 159) (ix := 151) (ci := 4) (M' := m_X4_addCopy) (As := [.int (iI z10), .int (iI 1), .int (iI 0)]) (rest := []) dX4_addEntry_159 ok_X4_addCopy im_X4_addCopy se_X4_addCopy ml4_151 np_X4_addCopy rfl rfl h_a rfl (Nat.le_of_ble_eq_true rfl) (Nat.le_of_ble_eq_true rfl) rfl (k_X4_addCopy (d) (T := T) (σ := σ) (a := a) (p1 := z10) (p2 := 1) (p3 := 0) h_a (by omega) (by decide) (by decide) hw (by rw [show σ.2.1 25 a = σ0.2.1 25 a from rc_F hF (Or.inl (by decide)) (by decide) (rfl)]; omega)) (fun r12 T14 σ13 gt15 hp => ?_)
        obtain ⟨rfl, rfl, w17, F18⟩ := hp
        clear gt15
        show Tn _ _ 162 T σ13 [(0, .ref a), (1, .int (iI i1))] [] _
        refine tn_iinc (q0 := 1) (L' := [(1, .int (iI (i1 + 1))), (0, .ref a)]) dX4_addEntry_162 rfl (by decide) rfl ?_
        refine tn_goto (tgt := 135) dX4_addEntry_165 (by decide) ?_
        exact tn_sub [1, 0] rfl (ih _ (by omega) (i1 + 1) σ13 w17 ((FrC.rfl.trans (FrC.sub hF (by decide))).trans (FrC.sub F18 (by decide))) (by omega) rfl)
theorem dX4_addEntry_168 : decode cX4_addEntry 168 = .ok (.return_, 1) := by decide +kernel
set_option maxRecDepth 20000 in
theorem k_X4_addEntry (d : Nat) {T : CT} {σ : MS} {a : Nat} (ha : OB T a 4) (hw : WT T σ) (hh : 0 ≤ σ.2.1 25 a) (hg : 0 ≤ σ.2.1 26 a) : Tn (d + 4) m_X4_addEntry 0 T σ [(0, .ref a)] [] (fun ro T2 σ2 => ro = none ∧ T = T2 ∧ WT T2 σ2 ∧ FrC T [32] σ σ2) := by
  refine tn_aload_n dX4_addEntry_0 rfl 0 rfl ?_
  refine tn_bipush dX4_addEntry_1 (by decide) ?_
  refine tn_aload_n dX4_addEntry_3 rfl 0 rfl ?_
  refine tn_getI (ci := 4) (i := 6) (n := 29) (t := σ.2.1 29 a) dX4_addEntry_4 rfl lay_4 (by decide) fl4_69 ha rfl rfl (rfl) ?_
  have g1 : ((-2147483648 : Int) ≤ σ.2.1 29 a ∧ σ.2.1 29 a ≤ 2147483647) := wf_29 hw ha
  refine tn_iconst dX4_addEntry_7 ?_
  refine tn_callV (M := m_X4_addEntry) (pc := 8) (ix := 148) (ci := 4) (M' := m_X4_addRow) (As := [.int (iI 14), .int (iI (σ.2.1 29 a)), .int (iI 0)]) (rest := []) dX4_addEntry_8 ok_X4_addRow im_X4_addRow se_X4_addRow ml4_148 np_X4_addRow rfl rfl ha rfl (Nat.le_of_ble_eq_true rfl) (Nat.le_of_ble_eq_true rfl) rfl (k_X4_addRow (d + 1) (T := T) (σ := σ) (a := a) (p1 := 14) (p2 := σ.2.1 29 a) (p3 := 0) ha (by decide) (by omega) (by decide) hw (by omega)) (fun r2 T4 σ3 gt5 hp => ?_)
  obtain ⟨rfl, rfl, w7, F8⟩ := hp
  clear gt5
  show Tn _ _ 11 T σ3 [(0, .ref a)] [] _
  refine tn_iconst dX4_addEntry_11 ?_
  refine tn_istore_n (L' := [(1, .int (iI 0)), (0, .ref a)]) dX4_addEntry_12 rfl (by decide) rfl ?_
  refine tn_sub [1, 0] rfl (l_X4_addEntry_13 (d) (T := T) (σ0 := σ3) (a := a) ha w7 (by rw [show σ3.2.1 25 a = σ.2.1 25 a from rc_F F8 (Or.inl (by decide)) (by decide) (rfl)]; omega) (by rw [show σ3.2.1 26 a = σ.2.1 26 a from rc_F F8 (Or.inl (by decide)) (by decide) (rfl)]; omega) (fun i19 σ10 w13 F14 r15 => ?_) _ (0) σ3 w7 FrC.rfl (by omega) rfl)
  show Tn _ _ 133 T σ10 [(0, .ref a), (1, .int (iI i19))] [] _
  refine tn_iconst dX4_addEntry_133 ?_
  refine tn_istore_n (L' := [(1, .int (iI 0)), (0, .ref a)]) dX4_addEntry_134 rfl (by decide) rfl ?_
  refine tn_sub [1, 0] rfl (l_X4_addEntry_135 (d) (T := T) (σ0 := σ10) (a := a) ha w13 (by rw [show σ10.2.1 25 a = σ.2.1 25 a from rc_F F14 (Or.inl (by decide)) (by decide) (rc_F F8 (Or.inl (by decide)) (by decide) (rfl))]; omega) (by rw [show σ10.2.1 26 a = σ.2.1 26 a from rc_F F14 (Or.inl (by decide)) (by decide) (rc_F F8 (Or.inl (by decide)) (by decide) (rfl))]; omega) (fun i116 σ17 w20 F21 r22 => ?_) _ (0) σ10 w13 FrC.rfl (by omega) rfl)
  show Tn _ _ 168 T σ17 [(0, .ref a), (1, .int (iI i116))] [] _
  exact tn_vret rfl dX4_addEntry_168 ⟨rfl, rfl, w20, (((FrC.rfl.trans (FrC.sub F8 (by decide))).trans (FrC.sub F14 (by decide))).trans (FrC.sub F21 (by decide)))⟩
end
