theorem cd_X1_copyFrom : Cond.code yX1_copyFrom cX1_copyFrom 2 none ∈ pWW := pw4 (List.mem_of_getElem? (i := 35) rfl) rfl
abbrev m_X1_copyFrom : MT := (yX1_copyFrom, cX1_copyFrom, 2, none)
theorem ok_X1_copyFrom : pOk m_X1_copyFrom := ⟨⟨cd_X1_copyFrom, ini_1⟩, by decide +kernel, ⟨by decide +kernel, by decide +kernel⟩, Nat.le_of_ble_eq_true rfl⟩
theorem np_X1_copyFrom : (parseMethodDescriptor yX1_copyFrom.desc).map (fun d => d.parameters.length) = some 1 := by decide +kernel
theorem im_X1_copyFrom : Cond.instanceMethod yX1_copyFrom ∈ pWW := pw4 (List.mem_of_getElem? (i := 33) rfl) rfl
theorem se_X1_copyFrom : Cond.selects RX1 yX1_copyFrom yX1_copyFrom ∈ pWW := pw4 (List.mem_of_getElem? (i := 34) rfl) rfl
theorem dX1_copyFrom_0 : decode cX1_copyFrom 0 = .ok (.aload_n 0, 1) := by decide +kernel
theorem dX1_copyFrom_1 : decode cX1_copyFrom 1 = .ok (.aload_n 1, 1) := by decide +kernel
theorem dX1_copyFrom_2 : decode cX1_copyFrom 2 = .ok (.getfield 33, 3) := by decide +kernel
theorem dX1_copyFrom_5 : decode cX1_copyFrom 5 = .ok (.invokevirtual 76, 3) := by decide +kernel
theorem dX1_copyFrom_8 : decode cX1_copyFrom 8 = .ok (.ifCond .ne 4, 3) := by decide +kernel
theorem dX1_copyFrom_12 : decode cX1_copyFrom 12 = .ok (.aload_n 0, 1) := by decide +kernel
theorem dX1_copyFrom_13 : decode cX1_copyFrom 13 = .ok (.aload_n 1, 1) := by decide +kernel
theorem dX1_copyFrom_14 : decode cX1_copyFrom 14 = .ok (.getfield 33, 3) := by decide +kernel
theorem dX1_copyFrom_17 : decode cX1_copyFrom 17 = .ok (.putfield 33, 3) := by decide +kernel
theorem dX1_copyFrom_20 : decode cX1_copyFrom 20 = .ok (.aload_n 0, 1) := by decide +kernel
theorem dX1_copyFrom_21 : decode cX1_copyFrom 21 = .ok (.aload_n 1, 1) := by decide +kernel
theorem dX1_copyFrom_22 : decode cX1_copyFrom 22 = .ok (.getfield 37, 3) := by decide +kernel
theorem dX1_copyFrom_25 : decode cX1_copyFrom 25 = .ok (.putfield 37, 3) := by decide +kernel
theorem dX1_copyFrom_28 : decode cX1_copyFrom 28 = .ok (.aload_n 0, 1) := by decide +kernel
theorem dX1_copyFrom_29 : decode cX1_copyFrom 29 = .ok (.aload_n 1, 1) := by decide +kernel
theorem dX1_copyFrom_30 : decode cX1_copyFrom 30 = .ok (.getfield 40, 3) := by decide +kernel
theorem dX1_copyFrom_33 : decode cX1_copyFrom 33 = .ok (.putfield 40, 3) := by decide +kernel
theorem dX1_copyFrom_36 : decode cX1_copyFrom 36 = .ok (.aload_n 0, 1) := by decide +kernel
theorem dX1_copyFrom_37 : decode cX1_copyFrom 37 = .ok (.aload_n 1, 1) := by decide +kernel
theorem dX1_copyFrom_38 : decode cX1_copyFrom 38 = .ok (.getfield 43, 3) := by decide +kernel
theorem dX1_copyFrom_41 : decode cX1_copyFrom 41 = .ok (.putfield 43, 3) := by decide +kernel
theorem dX1_copyFrom_44 : decode cX1_copyFrom 44 = .ok (.aload_n 0, 1) := by decide +kernel
theorem dX1_copyFrom_45 : decode cX1_copyFrom 45 = .ok (.aload_n 1, 1) := by decide +kernel
theorem dX1_copyFrom_46 : decode cX1_copyFrom 46 = .ok (.getfield 46, 3) := by decide +kernel
theorem dX1_copyFrom_49 : decode cX1_copyFrom 49 = .ok (.putfield 46, 3) := by decide +kernel
theorem dX1_copyFrom_52 : decode cX1_copyFrom 52 = .ok (.aload_n 1, 1) := by decide +kernel
theorem dX1_copyFrom_53 : decode cX1_copyFrom 53 = .ok (.getfield 9, 3) := by decide +kernel
theorem dX1_copyFrom_56 : decode cX1_copyFrom 56 = .ok (.iconst 0, 1) := by decide +kernel
theorem dX1_copyFrom_57 : decode cX1_copyFrom 57 = .ok (.aload_n 0, 1) := by decide +kernel
theorem dX1_copyFrom_58 : decode cX1_copyFrom 58 = .ok (.getfield 9, 3) := by decide +kernel
theorem dX1_copyFrom_61 : decode cX1_copyFrom 61 = .ok (.iconst 0, 1) := by decide +kernel
theorem dX1_copyFrom_62 : decode cX1_copyFrom 62 = .ok (.aload_n 0, 1) := by decide +kernel
theorem dX1_copyFrom_63 : decode cX1_copyFrom 63 = .ok (.getfield 33, 3) := by decide +kernel
theorem dX1_copyFrom_66 : decode cX1_copyFrom 66 = .ok (.bipush 13, 2) := by decide +kernel
theorem dX1_copyFrom_68 : decode cX1_copyFrom 68 = .ok (.imul, 1) := by decide +kernel
theorem dX1_copyFrom_69 : decode cX1_copyFrom 69 = .ok (.invokestatic 80, 3) := by decide +kernel
theorem dX1_copyFrom_72 : decode cX1_copyFrom 72 = .ok (.aload_n 1, 1) := by decide +kernel
theorem dX1_copyFrom_73 : decode cX1_copyFrom 73 = .ok (.getfield 15, 3) := by decide +kernel
theorem dX1_copyFrom_76 : decode cX1_copyFrom 76 = .ok (.iconst 0, 1) := by decide +kernel
theorem dX1_copyFrom_77 : decode cX1_copyFrom 77 = .ok (.aload_n 0, 1) := by decide +kernel
theorem dX1_copyFrom_78 : decode cX1_copyFrom 78 = .ok (.getfield 15, 3) := by decide +kernel
theorem dX1_copyFrom_81 : decode cX1_copyFrom 81 = .ok (.iconst 0, 1) := by decide +kernel
theorem dX1_copyFrom_82 : decode cX1_copyFrom 82 = .ok (.bipush 12, 2) := by decide +kernel
theorem dX1_copyFrom_84 : decode cX1_copyFrom 84 = .ok (.invokestatic 80, 3) := by decide +kernel
theorem dX1_copyFrom_87 : decode cX1_copyFrom 87 = .ok (.aload_n 1, 1) := by decide +kernel
theorem dX1_copyFrom_88 : decode cX1_copyFrom 88 = .ok (.getfield 18, 3) := by decide +kernel
theorem dX1_copyFrom_91 : decode cX1_copyFrom 91 = .ok (.iconst 0, 1) := by decide +kernel
theorem dX1_copyFrom_92 : decode cX1_copyFrom 92 = .ok (.aload_n 0, 1) := by decide +kernel
theorem dX1_copyFrom_93 : decode cX1_copyFrom 93 = .ok (.getfield 18, 3) := by decide +kernel
theorem dX1_copyFrom_96 : decode cX1_copyFrom 96 = .ok (.iconst 0, 1) := by decide +kernel
theorem dX1_copyFrom_97 : decode cX1_copyFrom 97 = .ok (.bipush 12, 2) := by decide +kernel
theorem dX1_copyFrom_99 : decode cX1_copyFrom 99 = .ok (.invokestatic 80, 3) := by decide +kernel
theorem dX1_copyFrom_102 : decode cX1_copyFrom 102 = .ok (.aload_n 1, 1) := by decide +kernel
theorem dX1_copyFrom_103 : decode cX1_copyFrom 103 = .ok (.getfield 21, 3) := by decide +kernel
theorem dX1_copyFrom_106 : decode cX1_copyFrom 106 = .ok (.iconst 0, 1) := by decide +kernel
theorem dX1_copyFrom_107 : decode cX1_copyFrom 107 = .ok (.aload_n 0, 1) := by decide +kernel
theorem dX1_copyFrom_108 : decode cX1_copyFrom 108 = .ok (.getfield 21, 3) := by decide +kernel
theorem dX1_copyFrom_111 : decode cX1_copyFrom 111 = .ok (.iconst 0, 1) := by decide +kernel
theorem dX1_copyFrom_112 : decode cX1_copyFrom 112 = .ok (.bipush 12, 2) := by decide +kernel
theorem dX1_copyFrom_114 : decode cX1_copyFrom 114 = .ok (.invokestatic 80, 3) := by decide +kernel
theorem dX1_copyFrom_117 : decode cX1_copyFrom 117 = .ok (.aload_n 1, 1) := by decide +kernel
theorem dX1_copyFrom_118 : decode cX1_copyFrom 118 = .ok (.getfield 24, 3) := by decide +kernel
theorem dX1_copyFrom_121 : decode cX1_copyFrom 121 = .ok (.iconst 0, 1) := by decide +kernel
theorem dX1_copyFrom_122 : decode cX1_copyFrom 122 = .ok (.aload_n 0, 1) := by decide +kernel
theorem dX1_copyFrom_123 : decode cX1_copyFrom 123 = .ok (.getfield 24, 3) := by decide +kernel
theorem dX1_copyFrom_126 : decode cX1_copyFrom 126 = .ok (.iconst 0, 1) := by decide +kernel
theorem dX1_copyFrom_127 : decode cX1_copyFrom 127 = .ok (.bipush 12, 2) := by decide +kernel
theorem dX1_copyFrom_129 : decode cX1_copyFrom 129 = .ok (.invokestatic 80, 3) := by decide +kernel
theorem dX1_copyFrom_132 : decode cX1_copyFrom 132 = .ok (.aload_n 1, 1) := by decide +kernel
theorem dX1_copyFrom_133 : decode cX1_copyFrom 133 = .ok (.getfield 27, 3) := by decide +kernel
theorem dX1_copyFrom_136 : decode cX1_copyFrom 136 = .ok (.iconst 0, 1) := by decide +kernel
theorem dX1_copyFrom_137 : decode cX1_copyFrom 137 = .ok (.aload_n 0, 1) := by decide +kernel
theorem dX1_copyFrom_138 : decode cX1_copyFrom 138 = .ok (.getfield 27, 3) := by decide +kernel
theorem dX1_copyFrom_141 : decode cX1_copyFrom 141 = .ok (.iconst 0, 1) := by decide +kernel
theorem dX1_copyFrom_142 : decode cX1_copyFrom 142 = .ok (.sipush 144, 3) := by decide +kernel
theorem dX1_copyFrom_145 : decode cX1_copyFrom 145 = .ok (.invokestatic 80, 3) := by decide +kernel
theorem dX1_copyFrom_148 : decode cX1_copyFrom 148 = .ok (.return_, 1) := by decide +kernel
theorem dX1_copyFrom_11 : decode cX1_copyFrom 11 = .ok (.return_, 1) := by decide +kernel
set_option maxRecDepth 20000 in
theorem k_X1_copyFrom (d : Nat) {T : CT} {σ : MS} {a : Nat} {p1 : Nat} (ha : OB T a 1) (hta : (T a).1 = 50) (h_p1 : OB T p1 1) (t_p1 : (T p1).1 = 31) (hw : WT T σ) : Tn (d + 3) m_X1_copyFrom 0 T σ [(0, .ref a), (1, .ref p1)] [] (fun ro T2 σ2 => ro = none ∧ WT T2 σ2 ∧ FrC T [5, 6, 7, 8, 9, 10] σ σ2) := by
  refine tn_aload_n dX1_copyFrom_0 rfl 0 rfl ?_
  refine tn_aload_n dX1_copyFrom_1 rfl 1 rfl ?_
  refine tn_getI (ci := 1) (i := 1) (n := 6) (t := σ.2.1 6 p1) dX1_copyFrom_2 rfl lay_1 (by decide) fl1_33 h_p1 rfl rfl (rfl) ?_
  have g1 : ((0 : Int) ≤ σ.2.1 6 p1 ∧ σ.2.1 6 p1 ≤ 5000) ∧ ((T p1).1 = 50 → σ.2.1 6 p1 ≤ 200) := wf_6 hw h_p1
  have g1x := g1.2
  replace g1 := g1.1
  clear g1x
  refine tn_callV (M := m_X1_copyFrom) (pc := 5) (ix := 76) (ci := 1) (M' := m_X1_holdRows) (As := [.int (iI (σ.2.1 6 p1))]) (rest := []) dX1_copyFrom_5 ok_X1_holdRows im_X1_holdRows se_X1_holdRows ml1_76 np_X1_holdRows rfl rfl ha rfl (Nat.le_of_ble_eq_true rfl) (Nat.le_of_ble_eq_true rfl) rfl (k_X1_holdRows (d) (T := T) (σ := σ) (a := a) (n := σ.2.1 6 p1) ha hta (by omega) hw ) (fun r2 T4 σ3 gt5 hp => ?_)
  obtain ⟨v8, rfl, w9, F10, f6, f7⟩ := hp
  replace ha : OB T4 a 1 := gt5.ob ha
  replace hta : (T4 a).1 = 50 := gt5.kk hta (by decide) (by decide)
  replace t_p1 : (T4 p1).1 = 31 := gt5.kk t_p1 (by decide) (by decide)
  replace h_p1 : OB T4 p1 1 := gt5.ob h_p1
  have q11 : σ3.2.1 6 a = σ.2.1 6 a := rc_F F10 (Or.inl (by decide)) (by decide) (rfl)
  have q12 : σ3.2.1 6 p1 = σ.2.1 6 p1 := rc_F F10 (Or.inl (by decide)) (by decide) (rfl)
  show Tn _ _ 8 T4 σ3 [(0, .ref a), (1, .ref p1)] [.int (iI v8)] _
  refine tn_if_ne (tgt := 12) dX1_copyFrom_8 (by decide) ⟨by omega, by omega⟩ (fun h13 => ?_) (fun h13 => ?_)
  · obtain ⟨q14, q14h⟩ := f7 (by omega)
    obtain ⟨x15, hx16, hl18, hk17a, hk17b⟩ := wf_5 w9 ha
    have hk17 : (T4 x15).1 = 1 := hk17a (by omega)
    clear hk17a hk17b
    have hk17i : IA T4 x15 := by unfold IA; omega
    have q14x := q14h x15 (hx16)
    refine tn_aload_n dX1_copyFrom_12 rfl 0 rfl ?_
    refine tn_aload_n dX1_copyFrom_13 rfl 1 rfl ?_
    refine tn_getI (ci := 1) (i := 1) (n := 6) (t := σ3.2.1 6 p1) dX1_copyFrom_14 rfl lay_1 (by decide) fl1_33 h_p1 rfl rfl (rfl) ?_
    have g19 : ((0 : Int) ≤ σ3.2.1 6 p1 ∧ σ3.2.1 6 p1 ≤ 5000) ∧ ((T4 p1).1 = 50 → σ3.2.1 6 p1 ≤ 200) := wf_6 w9 h_p1
    have g19x := g19.2
    replace g19 := g19.1
    clear g19x
    refine tn_putV (ci := 1) (i := 1) (n := 6) (r := false) (v := σ3.2.1 6 p1) tyX1 tyX1_ok nmX1 dX1_copyFrom_17 rfl lay_1 (by decide) fl1_33 rfl (tyX1_ok 1 (by decide)) rfl rfl rfl ha rfl rfl ?_
    refine tn_aload_n dX1_copyFrom_20 rfl 0 rfl ?_
    refine tn_aload_n dX1_copyFrom_21 rfl 1 rfl ?_
    refine tn_getI (ci := 1) (i := 2) (n := 7) (t := σ3.2.1 7 p1) dX1_copyFrom_22 rfl lay_1 (by decide) fl1_37 h_p1 rfl rfl (rc_o (by decide) (rfl)) ?_
    have g20 : ((0 : Int) ≤ σ3.2.1 7 p1 ∧ σ3.2.1 7 p1 ≤ 12) := wf_7 w9 h_p1
    refine tn_putV (ci := 1) (i := 2) (n := 7) (r := false) (v := σ3.2.1 7 p1) tyX1 tyX1_ok nmX1 dX1_copyFrom_25 rfl lay_1 (by decide) fl1_37 rfl (tyX1_ok 2 (by decide)) rfl rfl rfl ha rfl rfl ?_
    refine tn_aload_n dX1_copyFrom_28 rfl 0 rfl ?_
    refine tn_aload_n dX1_copyFrom_29 rfl 1 rfl ?_
    refine tn_getI (ci := 1) (i := 3) (n := 8) (t := σ3.2.1 8 p1) dX1_copyFrom_30 rfl lay_1 (by decide) fl1_40 h_p1 rfl rfl (rc_o (by decide) (rc_o (by decide) (rfl))) ?_
    have g21 : ((0 : Int) ≤ σ3.2.1 8 p1 ∧ σ3.2.1 8 p1 ≤ 4) := wf_8 w9 h_p1
    refine tn_putV (ci := 1) (i := 3) (n := 8) (r := false) (v := σ3.2.1 8 p1) tyX1 tyX1_ok nmX1 dX1_copyFrom_33 rfl lay_1 (by decide) fl1_40 rfl (tyX1_ok 3 (by decide)) rfl rfl rfl ha rfl rfl ?_
    refine tn_aload_n dX1_copyFrom_36 rfl 0 rfl ?_
    refine tn_aload_n dX1_copyFrom_37 rfl 1 rfl ?_
    refine tn_getI (ci := 1) (i := 4) (n := 9) (t := σ3.2.1 9 p1) dX1_copyFrom_38 rfl lay_1 (by decide) fl1_43 h_p1 rfl rfl (rc_o (by decide) (rc_o (by decide) (rc_o (by decide) (rfl)))) ?_
    have g22 : ((-2147483648 : Int) ≤ σ3.2.1 9 p1 ∧ σ3.2.1 9 p1 ≤ 2147483647) := wf_9 w9 h_p1
    refine tn_putV (ci := 1) (i := 4) (n := 9) (r := false) (v := σ3.2.1 9 p1) tyX1 tyX1_ok nmX1 dX1_copyFrom_41 rfl lay_1 (by decide) fl1_43 rfl (tyX1_ok 4 (by decide)) rfl rfl rfl ha rfl rfl ?_
    refine tn_aload_n dX1_copyFrom_44 rfl 0 rfl ?_
    refine tn_aload_n dX1_copyFrom_45 rfl 1 rfl ?_
    refine tn_getI (ci := 1) (i := 5) (n := 10) (t := σ3.2.1 10 p1) dX1_copyFrom_46 rfl lay_1 (by decide) fl1_46 h_p1 rfl rfl (rc_o (by decide) (rc_o (by decide) (rc_o (by decide) (rc_o (by decide) (rfl))))) ?_
    have g23 : ((0 : Int) ≤ σ3.2.1 10 p1 ∧ σ3.2.1 10 p1 ≤ 12) := wf_10 w9 h_p1
    refine tn_putV (ci := 1) (i := 5) (n := 10) (r := false) (v := σ3.2.1 10 p1) tyX1 tyX1_ok nmX1 dX1_copyFrom_49 rfl lay_1 (by decide) fl1_46 rfl (tyX1_ok 5 (by decide)) rfl rfl rfl ha rfl rfl ?_
    obtain ⟨x24, hx25, hl27, hk26a, hk26b⟩ := wf_5 w9 h_p1
    have hk26 : (T4 x24).1 = 13 := hk26b (by omega)
    clear hk26a hk26b
    have hk26i : IA T4 x24 := by unfold IA; omega
    have g28 : 13 * σ3.2.1 6 p1 ≤ ((T4 x24).2 : Int) ∨ 2600 ≤ (T4 x24).2 := w9.2.1 p1 x24 h_p1 hx25
    refine tn_aload_n dX1_copyFrom_52 rfl 1 rfl ?_
    refine tn_getR (ci := 1) (i := 0) (n := 5) (x := x24) dX1_copyFrom_53 rfl lay_1 (by decide) fl1_9 h_p1 rfl rfl (rc_o (by decide) (rc_o (by decide) (rc_o (by decide) (rc_o (by decide) (rc_o (by decide) (hx25)))))) ?_
    refine tn_iconst dX1_copyFrom_56 ?_
    refine tn_aload_n dX1_copyFrom_57 rfl 0 rfl ?_
    refine tn_getR (ci := 1) (i := 0) (n := 5) (x := x15) dX1_copyFrom_58 rfl lay_1 (by decide) fl1_9 ha rfl rfl (rc_o (by decide) (rc_o (by decide) (rc_o (by decide) (rc_o (by decide) (rc_o (by decide) (hx16)))))) ?_
    refine tn_iconst dX1_copyFrom_61 ?_
    refine tn_aload_n dX1_copyFrom_62 rfl 0 rfl ?_
    refine tn_getI (ci := 1) (i := 1) (n := 6) (t := σ3.2.1 6 p1) dX1_copyFrom_63 rfl lay_1 (by decide) fl1_33 ha rfl rfl (rc_o (by decide) (rc_o (by decide) (rc_o (by decide) (rc_o (by decide) (ra_eq))))) ?_
    refine tn_bipush dX1_copyFrom_66 (by decide) ?_
    refine tn_imul dX1_copyFrom_68 ?_
    refine tn_acopyI (a := x24) (b := x15) (sp := 0) (dp := 0) (n := (σ3.2.1 6 p1) * 13) dX1_copyFrom_69 mla1_80 acNat acSt acIni hk26i hk17i ⟨by omega, by omega⟩ (by omega) (by omega) (by omega) (by omega) (by omega) (by omega) (Nat.le_of_ble_eq_true rfl) ?_
    refine tn_aload_n dX1_copyFrom_72 rfl 1 rfl ?_
    obtain ⟨x29, hx30, hk31, hl32⟩ : ∃ x : Nat, σ3.2.1 11 p1 = (x : Int) ∧ AR T4 x 1 12 12 := wf_11 w9 h_p1
    have hk31i : IA T4 x29 := by unfold IA; omega
    refine tn_getR (ci := 1) (i := 6) (n := 11) (x := x29) dX1_copyFrom_73 rfl lay_1 (by decide) fl1_15 h_p1 rfl rfl (rc_r (Or.inl (by decide)) (rc_o (by decide) (rc_o (by decide) (rc_o (by decide) (rc_o (by decide) (rc_o (by decide) (hx30))))))) ?_
    refine tn_iconst dX1_copyFrom_76 ?_
    refine tn_aload_n dX1_copyFrom_77 rfl 0 rfl ?_
    obtain ⟨x33, hx34, hk35, hl36⟩ : ∃ x : Nat, σ3.2.1 11 a = (x : Int) ∧ AR T4 x 1 12 12 := wf_11 w9 ha
    have hk35i : IA T4 x33 := by unfold IA; omega
    refine tn_getR (ci := 1) (i := 6) (n := 11) (x := x33) dX1_copyFrom_78 rfl lay_1 (by decide) fl1_15 ha rfl rfl (rc_r (Or.inl (by decide)) (rc_o (by decide) (rc_o (by decide) (rc_o (by decide) (rc_o (by decide) (rc_o (by decide) (hx34))))))) ?_
    refine tn_iconst dX1_copyFrom_81 ?_
    refine tn_bipush dX1_copyFrom_82 (by decide) ?_
    refine tn_acopyI (a := x29) (b := x33) (sp := 0) (dp := 0) (n := 12) dX1_copyFrom_84 mla1_80 acNat acSt acIni hk31i hk35i ⟨by omega, by omega⟩ (by omega) (by omega) (by omega) (by omega) (by omega) (by omega) (Nat.le_of_ble_eq_true rfl) ?_
    refine tn_aload_n dX1_copyFrom_87 rfl 1 rfl ?_
    obtain ⟨x37, hx38, hk39, hl40⟩ : ∃ x : Nat, σ3.2.1 12 p1 = (x : Int) ∧ AR T4 x 1 12 12 := wf_12 w9 h_p1
    have hk39i : IA T4 x37 := by unfold IA; omega
    refine tn_getR (ci := 1) (i := 7) (n := 12) (x := x37) dX1_copyFrom_88 rfl lay_1 (by decide) fl1_18 h_p1 rfl rfl (rc_r (Or.inl (by decide)) (rc_r (Or.inl (by decide)) (rc_o (by decide) (rc_o (by decide) (rc_o (by decide) (rc_o (by decide) (rc_o (by decide) (hx38)))))))) ?_
    refine tn_iconst dX1_copyFrom_91 ?_
    refine tn_aload_n dX1_copyFrom_92 rfl 0 rfl ?_
    obtain ⟨x41, hx42, hk43, hl44⟩ : ∃ x : Nat, σ3.2.1 12 a = (x : Int) ∧ AR T4 x 1 12 12 := wf_12 w9 ha
    have hk43i : IA T4 x41 := by unfold IA; omega
    refine tn_getR (ci := 1) (i := 7) (n := 12) (x := x41) dX1_copyFrom_93 rfl lay_1 (by decide) fl1_18 ha rfl rfl (rc_r (Or.inl (by decide)) (rc_r (Or.inl (by decide)) (rc_o (by decide) (rc_o (by decide) (rc_o (by decide) (rc_o (by decide) (rc_o (by decide) (hx42)))))))) ?_
    refine tn_iconst dX1_copyFrom_96 ?_
    refine tn_bipush dX1_copyFrom_97 (by decide) ?_
    refine tn_acopyI (a := x37) (b := x41) (sp := 0) (dp := 0) (n := 12) dX1_copyFrom_99 mla1_80 acNat acSt acIni hk39i hk43i ⟨by omega, by omega⟩ (by omega) (by omega) (by omega) (by omega) (by omega) (by omega) (Nat.le_of_ble_eq_true rfl) ?_
    refine tn_aload_n dX1_copyFrom_102 rfl 1 rfl ?_
    obtain ⟨x45, hx46, hk47, hl48⟩ : ∃ x : Nat, σ3.2.1 13 p1 = (x : Int) ∧ AR T4 x 1 12 12 := wf_13 w9 h_p1
    have hk47i : IA T4 x45 := by unfold IA; omega
    refine tn_getR (ci := 1) (i := 8) (n := 13) (x := x45) dX1_copyFrom_103 rfl lay_1 (by decide) fl1_21 h_p1 rfl rfl (rc_r (Or.inl (by decide)) (rc_r (Or.inl (by decide)) (rc_r (Or.inl (by decide)) (rc_o (by decide) (rc_o (by decide) (rc_o (by decide) (rc_o (by decide) (rc_o (by decide) (hx46))))))))) ?_
    refine tn_iconst dX1_copyFrom_106 ?_
    refine tn_aload_n dX1_copyFrom_107 rfl 0 rfl ?_
    obtain ⟨x49, hx50, hk51, hl52⟩ : ∃ x : Nat, σ3.2.1 13 a = (x : Int) ∧ AR T4 x 1 12 12 := wf_13 w9 ha
    have hk51i : IA T4 x49 := by unfold IA; omega
    refine tn_getR (ci := 1) (i := 8) (n := 13) (x := x49) dX1_copyFrom_108 rfl lay_1 (by decide) fl1_21 ha rfl rfl (rc_r (Or.inl (by decide)) (rc_r (Or.inl (by decide)) (rc_r (Or.inl (by decide)) (rc_o (by decide) (rc_o (by decide) (rc_o (by decide) (rc_o (by decide) (rc_o (by decide) (hx50))))))))) ?_
    refine tn_iconst dX1_copyFrom_111 ?_
    refine tn_bipush dX1_copyFrom_112 (by decide) ?_
    refine tn_acopyI (a := x45) (b := x49) (sp := 0) (dp := 0) (n := 12) dX1_copyFrom_114 mla1_80 acNat acSt acIni hk47i hk51i ⟨by omega, by omega⟩ (by omega) (by omega) (by omega) (by omega) (by omega) (by omega) (Nat.le_of_ble_eq_true rfl) ?_
    refine tn_aload_n dX1_copyFrom_117 rfl 1 rfl ?_
    obtain ⟨x53, hx54, hk55, hl56⟩ : ∃ x : Nat, σ3.2.1 14 p1 = (x : Int) ∧ AR T4 x 11 12 12 := wf_14 w9 h_p1
    have hk55i : IA T4 x53 := by unfold IA; omega
    refine tn_getR (ci := 1) (i := 9) (n := 14) (x := x53) dX1_copyFrom_118 rfl lay_1 (by decide) fl1_24 h_p1 rfl rfl (rc_r (Or.inl (by decide)) (rc_r (Or.inl (by decide)) (rc_r (Or.inl (by decide)) (rc_r (Or.inl (by decide)) (rc_o (by decide) (rc_o (by decide) (rc_o (by decide) (rc_o (by decide) (rc_o (by decide) (hx54)))))))))) ?_
    refine tn_iconst dX1_copyFrom_121 ?_
    refine tn_aload_n dX1_copyFrom_122 rfl 0 rfl ?_
    obtain ⟨x57, hx58, hk59, hl60⟩ : ∃ x : Nat, σ3.2.1 14 a = (x : Int) ∧ AR T4 x 11 12 12 := wf_14 w9 ha
    have hk59i : IA T4 x57 := by unfold IA; omega
    refine tn_getR (ci := 1) (i := 9) (n := 14) (x := x57) dX1_copyFrom_123 rfl lay_1 (by decide) fl1_24 ha rfl rfl (rc_r (Or.inl (by decide)) (rc_r (Or.inl (by decide)) (rc_r (Or.inl (by decide)) (rc_r (Or.inl (by decide)) (rc_o (by decide) (rc_o (by decide) (rc_o (by decide) (rc_o (by decide) (rc_o (by decide) (hx58)))))))))) ?_
    refine tn_iconst dX1_copyFrom_126 ?_
    refine tn_bipush dX1_copyFrom_127 (by decide) ?_
    refine tn_acopyI (a := x53) (b := x57) (sp := 0) (dp := 0) (n := 12) dX1_copyFrom_129 mla1_80 acNat acSt acIni hk55i hk59i ⟨by omega, by omega⟩ (by omega) (by omega) (by omega) (by omega) (by omega) (by omega) (Nat.le_of_ble_eq_true rfl) ?_
    refine tn_aload_n dX1_copyFrom_132 rfl 1 rfl ?_
    obtain ⟨x61, hx62, hk63, hl64⟩ : ∃ x : Nat, σ3.2.1 15 p1 = (x : Int) ∧ AR T4 x 1 144 144 := wf_15 w9 h_p1
    have hk63i : IA T4 x61 := by unfold IA; omega
    refine tn_getR (ci := 1) (i := 10) (n := 15) (x := x61) dX1_copyFrom_133 rfl lay_1 (by decide) fl1_27 h_p1 rfl rfl (rc_r (Or.inl (by decide)) (rc_r (Or.inl (by decide)) (rc_r (Or.inl (by decide)) (rc_r (Or.inl (by decide)) (rc_r (Or.inl (by decide)) (rc_o (by decide) (rc_o (by decide) (rc_o (by decide) (rc_o (by decide) (rc_o (by decide) (hx62))))))))))) ?_
    refine tn_iconst dX1_copyFrom_136 ?_
    refine tn_aload_n dX1_copyFrom_137 rfl 0 rfl ?_
    obtain ⟨x65, hx66, hk67, hl68⟩ : ∃ x : Nat, σ3.2.1 15 a = (x : Int) ∧ AR T4 x 1 144 144 := wf_15 w9 ha
    have hk67i : IA T4 x65 := by unfold IA; omega
    refine tn_getR (ci := 1) (i := 10) (n := 15) (x := x65) dX1_copyFrom_138 rfl lay_1 (by decide) fl1_27 ha rfl rfl (rc_r (Or.inl (by decide)) (rc_r (Or.inl (by decide)) (rc_r (Or.inl (by decide)) (rc_r (Or.inl (by decide)) (rc_r (Or.inl (by decide)) (rc_o (by decide) (rc_o (by decide) (rc_o (by decide) (rc_o (by decide) (rc_o (by decide) (hx66))))))))))) ?_
    refine tn_iconst dX1_copyFrom_141 ?_
    refine tn_sipush dX1_copyFrom_142 (by decide) ?_
    refine tn_acopyI (a := x61) (b := x65) (sp := 0) (dp := 0) (n := 144) dX1_copyFrom_145 mla1_80 acNat acSt acIni hk63i hk67i ⟨by omega, by omega⟩ (by omega) (by omega) (by omega) (by omega) (by omega) (by omega) (Nat.le_of_ble_eq_true rfl) ?_
    exact tn_vret rfl dX1_copyFrom_148 ⟨rfl, (((((((((((w9.put6 (hx16) (fo_6 ⟨by omega, by omega⟩) (by omega)).put (by decide) (by decide) (fo_7 (by omega))).put (by decide) (by decide) (fo_8 (by omega))).put (by decide) (by decide) (fo_9 (by omega))).put (by decide) (by decide) (fo_10 (by omega))).row (Or.inl hk17i) (vok_cp1 (((((w9.put6 (hx16) (fo_6 ⟨by omega, by omega⟩) (by omega)).put (by decide) (by decide) (fo_7 (by omega))).put (by decide) (by decide) (fo_8 (by omega))).put (by decide) (by decide) (fo_9 (by omega))).put (by decide) (by decide) (fo_10 (by omega))) hk26i hk17i (by have q9 := hk17; omega))).row (Or.inl hk35i) (vok_cp1 ((((((w9.put6 (hx16) (fo_6 ⟨by omega, by omega⟩) (by omega)).put (by decide) (by decide) (fo_7 (by omega))).put (by decide) (by decide) (fo_8 (by omega))).put (by decide) (by decide) (fo_9 (by omega))).put (by decide) (by decide) (fo_10 (by omega))).row (Or.inl hk17i) (vok_cp1 (((((w9.put6 (hx16) (fo_6 ⟨by omega, by omega⟩) (by omega)).put (by decide) (by decide) (fo_7 (by omega))).put (by decide) (by decide) (fo_8 (by omega))).put (by decide) (by decide) (fo_9 (by omega))).put (by decide) (by decide) (fo_10 (by omega))) hk26i hk17i (by have q9 := hk17; omega))) hk31i hk35i (by have q9 := hk35; omega))).row (Or.inl hk43i) (vok_cp1 (((((((w9.put6 (hx16) (fo_6 ⟨by omega, by omega⟩) (by omega)).put (by decide) (by decide) (fo_7 (by omega))).put (by decide) (by decide) (fo_8 (by omega))).put (by decide) (by decide) (fo_9 (by omega))).put (by decide) (by decide) (fo_10 (by omega))).row (Or.inl hk17i) (vok_cp1 (((((w9.put6 (hx16) (fo_6 ⟨by omega, by omega⟩) (by omega)).put (by decide) (by decide) (fo_7 (by omega))).put (by decide) (by decide) (fo_8 (by omega))).put (by decide) (by decide) (fo_9 (by omega))).put (by decide) (by decide) (fo_10 (by omega))) hk26i hk17i (by have q9 := hk17; omega))).row (Or.inl hk35i) (vok_cp1 ((((((w9.put6 (hx16) (fo_6 ⟨by omega, by omega⟩) (by omega)).put (by decide) (by decide) (fo_7 (by omega))).put (by decide) (by decide) (fo_8 (by omega))).put (by decide) (by decide) (fo_9 (by omega))).put (by decide) (by decide) (fo_10 (by omega))).row (Or.inl hk17i) (vok_cp1 (((((w9.put6 (hx16) (fo_6 ⟨by omega, by omega⟩) (by omega)).put (by decide) (by decide) (fo_7 (by omega))).put (by decide) (by decide) (fo_8 (by omega))).put (by decide) (by decide) (fo_9 (by omega))).put (by decide) (by decide) (fo_10 (by omega))) hk26i hk17i (by have q9 := hk17; omega))) hk31i hk35i (by have q9 := hk35; omega))) hk39i hk43i (by have q9 := hk43; omega))).row (Or.inl hk51i) (vok_cp1 ((((((((w9.put6 (hx16) (fo_6 ⟨by omega, by omega⟩) (by omega)).put (by decide) (by decide) (fo_7 (by omega))).put (by decide) (by decide) (fo_8 (by omega))).put (by decide) (by decide) (fo_9 (by omega))).put (by decide) (by decide) (fo_10 (by omega))).row (Or.inl hk17i) (vok_cp1 (((((w9.put6 (hx16) (fo_6 ⟨by omega, by omega⟩) (by omega)).put (by decide) (by decide) (fo_7 (by omega))).put (by decide) (by decide) (fo_8 (by omega))).put (by decide) (by decide) (fo_9 (by omega))).put (by decide) (by decide) (fo_10 (by omega))) hk26i hk17i (by have q9 := hk17; omega))).row (Or.inl hk35i) (vok_cp1 ((((((w9.put6 (hx16) (fo_6 ⟨by omega, by omega⟩) (by omega)).put (by decide) (by decide) (fo_7 (by omega))).put (by decide) (by decide) (fo_8 (by omega))).put (by decide) (by decide) (fo_9 (by omega))).put (by decide) (by decide) (fo_10 (by omega))).row (Or.inl hk17i) (vok_cp1 (((((w9.put6 (hx16) (fo_6 ⟨by omega, by omega⟩) (by omega)).put (by decide) (by decide) (fo_7 (by omega))).put (by decide) (by decide) (fo_8 (by omega))).put (by decide) (by decide) (fo_9 (by omega))).put (by decide) (by decide) (fo_10 (by omega))) hk26i hk17i (by have q9 := hk17; omega))) hk31i hk35i (by have q9 := hk35; omega))).row (Or.inl hk43i) (vok_cp1 (((((((w9.put6 (hx16) (fo_6 ⟨by omega, by omega⟩) (by omega)).put (by decide) (by decide) (fo_7 (by omega))).put (by decide) (by decide) (fo_8 (by omega))).put (by decide) (by decide) (fo_9 (by omega))).put (by decide) (by decide) (fo_10 (by omega))).row (Or.inl hk17i) (vok_cp1 (((((w9.put6 (hx16) (fo_6 ⟨by omega, by omega⟩) (by omega)).put (by decide) (by decide) (fo_7 (by omega))).put (by decide) (by decide) (fo_8 (by omega))).put (by decide) (by decide) (fo_9 (by omega))).put (by decide) (by decide) (fo_10 (by omega))) hk26i hk17i (by have q9 := hk17; omega))).row (Or.inl hk35i) (vok_cp1 ((((((w9.put6 (hx16) (fo_6 ⟨by omega, by omega⟩) (by omega)).put (by decide) (by decide) (fo_7 (by omega))).put (by decide) (by decide) (fo_8 (by omega))).put (by decide) (by decide) (fo_9 (by omega))).put (by decide) (by decide) (fo_10 (by omega))).row (Or.inl hk17i) (vok_cp1 (((((w9.put6 (hx16) (fo_6 ⟨by omega, by omega⟩) (by omega)).put (by decide) (by decide) (fo_7 (by omega))).put (by decide) (by decide) (fo_8 (by omega))).put (by decide) (by decide) (fo_9 (by omega))).put (by decide) (by decide) (fo_10 (by omega))) hk26i hk17i (by have q9 := hk17; omega))) hk31i hk35i (by have q9 := hk35; omega))) hk39i hk43i (by have q9 := hk43; omega))) hk47i hk51i (by have q9 := hk51; omega))).row (Or.inl hk59i) (vok_cp11 (((((((((w9.put6 (hx16) (fo_6 ⟨by omega, by omega⟩) (by omega)).put (by decide) (by decide) (fo_7 (by omega))).put (by decide) (by decide) (fo_8 (by omega))).put (by decide) (by decide) (fo_9 (by omega))).put (by decide) (by decide) (fo_10 (by omega))).row (Or.inl hk17i) (vok_cp1 (((((w9.put6 (hx16) (fo_6 ⟨by omega, by omega⟩) (by omega)).put (by decide) (by decide) (fo_7 (by omega))).put (by decide) (by decide) (fo_8 (by omega))).put (by decide) (by decide) (fo_9 (by omega))).put (by decide) (by decide) (fo_10 (by omega))) hk26i hk17i (by have q9 := hk17; omega))).row (Or.inl hk35i) (vok_cp1 ((((((w9.put6 (hx16) (fo_6 ⟨by omega, by omega⟩) (by omega)).put (by decide) (by decide) (fo_7 (by omega))).put (by decide) (by decide) (fo_8 (by omega))).put (by decide) (by decide) (fo_9 (by omega))).put (by decide) (by decide) (fo_10 (by omega))).row (Or.inl hk17i) (vok_cp1 (((((w9.put6 (hx16) (fo_6 ⟨by omega, by omega⟩) (by omega)).put (by decide) (by decide) (fo_7 (by omega))).put (by decide) (by decide) (fo_8 (by omega))).put (by decide) (by decide) (fo_9 (by omega))).put (by decide) (by decide) (fo_10 (by omega))) hk26i hk17i (by have q9 := hk17; omega))) hk31i hk35i (by have q9 := hk35; omega))).row (Or.inl hk43i) (vok_cp1 (((((((w9.put6 (hx16) (fo_6 ⟨by omega, by omega⟩) (by omega)).put (by decide) (by decide) (fo_7 (by omega))).put (by decide) (by decide) (fo_8 (by omega))).put (by decide) (by decide) (fo_9 (by omega))).put (by decide) (by decide) (fo_10 (by omega))).row (Or.inl hk17i) (vok_cp1 (((((w9.put6 (hx16) (fo_6 ⟨by omega, by omega⟩) (by omega)).put (by decide) (by decide) (fo_7 (by omega))).put (by decide) (by decide) (fo_8 (by omega))).put (by decide) (by decide) (fo_9 (by omega))).put (by decide) (by decide) (fo_10 (by omega))) hk26i hk17i (by have q9 := hk17; omega))).row (Or.inl hk35i) (vok_cp1 ((((((w9.put6 (hx16) (fo_6 ⟨by omega, by omega⟩) (by omega)).put (by decide) (by decide) (fo_7 (by omega))).put (by decide) (by decide) (fo_8 (by omega))).put (by decide) (by decide) (fo_9 (by omega))).put (by decide) (by decide) (fo_10 (by omega))).row (Or.inl hk17i) (vok_cp1 (((((w9.put6 (hx16) (fo_6 ⟨by omega, by omega⟩) (by omega)).put (by decide) (by decide) (fo_7 (by omega))).put (by decide) (by decide) (fo_8 (by omega))).put (by decide) (by decide) (fo_9 (by omega))).put (by decide) (by decide) (fo_10 (by omega))) hk26i hk17i (by have q9 := hk17; omega))) hk31i hk35i (by have q9 := hk35; omega))) hk39i hk43i (by have q9 := hk43; omega))).row (Or.inl hk51i) (vok_cp1 ((((((((w9.put6 (hx16) (fo_6 ⟨by omega, by omega⟩) (by omega)).put (by decide) (by decide) (fo_7 (by omega))).put (by decide) (by decide) (fo_8 (by omega))).put (by decide) (by decide) (fo_9 (by omega))).put (by decide) (by decide) (fo_10 (by omega))).row (Or.inl hk17i) (vok_cp1 (((((w9.put6 (hx16) (fo_6 ⟨by omega, by omega⟩) (by omega)).put (by decide) (by decide) (fo_7 (by omega))).put (by decide) (by decide) (fo_8 (by omega))).put (by decide) (by decide) (fo_9 (by omega))).put (by decide) (by decide) (fo_10 (by omega))) hk26i hk17i (by have q9 := hk17; omega))).row (Or.inl hk35i) (vok_cp1 ((((((w9.put6 (hx16) (fo_6 ⟨by omega, by omega⟩) (by omega)).put (by decide) (by decide) (fo_7 (by omega))).put (by decide) (by decide) (fo_8 (by omega))).put (by decide) (by decide) (fo_9 (by omega))).put (by decide) (by decide) (fo_10 (by omega))).row (Or.inl hk17i) (vok_cp1 (((((w9.put6 (hx16) (fo_6 ⟨by omega, by omega⟩) (by omega)).put (by decide) (by decide) (fo_7 (by omega))).put (by decide) (by decide) (fo_8 (by omega))).put (by decide) (by decide) (fo_9 (by omega))).put (by decide) (by decide) (fo_10 (by omega))) hk26i hk17i (by have q9 := hk17; omega))) hk31i hk35i (by have q9 := hk35; omega))).row (Or.inl hk43i) (vok_cp1 (((((((w9.put6 (hx16) (fo_6 ⟨by omega, by omega⟩) (by omega)).put (by decide) (by decide) (fo_7 (by omega))).put (by decide) (by decide) (fo_8 (by omega))).put (by decide) (by decide) (fo_9 (by omega))).put (by decide) (by decide) (fo_10 (by omega))).row (Or.inl hk17i) (vok_cp1 (((((w9.put6 (hx16) (fo_6 ⟨by omega, by omega⟩) (by omega)).put (by decide) (by decide) (fo_7 (by omega))).put (by decide) (by decide) (fo_8 (by omega))).put (by decide) (by decide) (fo_9 (by omega))).put (by decide) (by decide) (fo_10 (by omega))) hk26i hk17i (by have q9 := hk17; omega))).row (Or.inl hk35i) (vok_cp1 ((((((w9.put6 (hx16) (fo_6 ⟨by omega, by omega⟩) (by omega)).put (by decide) (by decide) (fo_7 (by omega))).put (by decide) (by decide) (fo_8 (by omega))).put (by decide) (by decide) (fo_9 (by omega))).put (by decide) (by decide) (fo_10 (by omega))).row (Or.inl hk17i) (vok_cp1 (((((w9.put6 (hx16) (fo_6 ⟨by omega, by omega⟩) (by omega)).put (by decide) (by decide) (fo_7 (by omega))).put (by decide) (by decide) (fo_8 (by omega))).put (by decide) (by decide) (fo_9 (by omega))).put (by decide) (by decide) (fo_10 (by omega))) hk26i hk17i (by have q9 := hk17; omega))) hk31i hk35i (by have q9 := hk35; omega))) hk39i hk43i (by have q9 := hk43; omega))) hk47i hk51i (by have q9 := hk51; omega))) hk55 hk59)).row (Or.inl hk67i) (vok_cp1 ((((((((((w9.put6 (hx16) (fo_6 ⟨by omega, by omega⟩) (by omega)).put (by decide) (by decide) (fo_7 (by omega))).put (by decide) (by decide) (fo_8 (by omega))).put (by decide) (by decide) (fo_9 (by omega))).put (by decide) (by decide) (fo_10 (by omega))).row (Or.inl hk17i) (vok_cp1 (((((w9.put6 (hx16) (fo_6 ⟨by omega, by omega⟩) (by omega)).put (by decide) (by decide) (fo_7 (by omega))).put (by decide) (by decide) (fo_8 (by omega))).put (by decide) (by decide) (fo_9 (by omega))).put (by decide) (by decide) (fo_10 (by omega))) hk26i hk17i (by have q9 := hk17; omega))).row (Or.inl hk35i) (vok_cp1 ((((((w9.put6 (hx16) (fo_6 ⟨by omega, by omega⟩) (by omega)).put (by decide) (by decide) (fo_7 (by omega))).put (by decide) (by decide) (fo_8 (by omega))).put (by decide) (by decide) (fo_9 (by omega))).put (by decide) (by decide) (fo_10 (by omega))).row (Or.inl hk17i) (vok_cp1 (((((w9.put6 (hx16) (fo_6 ⟨by omega, by omega⟩) (by omega)).put (by decide) (by decide) (fo_7 (by omega))).put (by decide) (by decide) (fo_8 (by omega))).put (by decide) (by decide) (fo_9 (by omega))).put (by decide) (by decide) (fo_10 (by omega))) hk26i hk17i (by have q9 := hk17; omega))) hk31i hk35i (by have q9 := hk35; omega))).row (Or.inl hk43i) (vok_cp1 (((((((w9.put6 (hx16) (fo_6 ⟨by omega, by omega⟩) (by omega)).put (by decide) (by decide) (fo_7 (by omega))).put (by decide) (by decide) (fo_8 (by omega))).put (by decide) (by decide) (fo_9 (by omega))).put (by decide) (by decide) (fo_10 (by omega))).row (Or.inl hk17i) (vok_cp1 (((((w9.put6 (hx16) (fo_6 ⟨by omega, by omega⟩) (by omega)).put (by decide) (by decide) (fo_7 (by omega))).put (by decide) (by decide) (fo_8 (by omega))).put (by decide) (by decide) (fo_9 (by omega))).put (by decide) (by decide) (fo_10 (by omega))) hk26i hk17i (by have q9 := hk17; omega))).row (Or.inl hk35i) (vok_cp1 ((((((w9.put6 (hx16) (fo_6 ⟨by omega, by omega⟩) (by omega)).put (by decide) (by decide) (fo_7 (by omega))).put (by decide) (by decide) (fo_8 (by omega))).put (by decide) (by decide) (fo_9 (by omega))).put (by decide) (by decide) (fo_10 (by omega))).row (Or.inl hk17i) (vok_cp1 (((((w9.put6 (hx16) (fo_6 ⟨by omega, by omega⟩) (by omega)).put (by decide) (by decide) (fo_7 (by omega))).put (by decide) (by decide) (fo_8 (by omega))).put (by decide) (by decide) (fo_9 (by omega))).put (by decide) (by decide) (fo_10 (by omega))) hk26i hk17i (by have q9 := hk17; omega))) hk31i hk35i (by have q9 := hk35; omega))) hk39i hk43i (by have q9 := hk43; omega))).row (Or.inl hk51i) (vok_cp1 ((((((((w9.put6 (hx16) (fo_6 ⟨by omega, by omega⟩) (by omega)).put (by decide) (by decide) (fo_7 (by omega))).put (by decide) (by decide) (fo_8 (by omega))).put (by decide) (by decide) (fo_9 (by omega))).put (by decide) (by decide) (fo_10 (by omega))).row (Or.inl hk17i) (vok_cp1 (((((w9.put6 (hx16) (fo_6 ⟨by omega, by omega⟩) (by omega)).put (by decide) (by decide) (fo_7 (by omega))).put (by decide) (by decide) (fo_8 (by omega))).put (by decide) (by decide) (fo_9 (by omega))).put (by decide) (by decide) (fo_10 (by omega))) hk26i hk17i (by have q9 := hk17; omega))).row (Or.inl hk35i) (vok_cp1 ((((((w9.put6 (hx16) (fo_6 ⟨by omega, by omega⟩) (by omega)).put (by decide) (by decide) (fo_7 (by omega))).put (by decide) (by decide) (fo_8 (by omega))).put (by decide) (by decide) (fo_9 (by omega))).put (by decide) (by decide) (fo_10 (by omega))).row (Or.inl hk17i) (vok_cp1 (((((w9.put6 (hx16) (fo_6 ⟨by omega, by omega⟩) (by omega)).put (by decide) (by decide) (fo_7 (by omega))).put (by decide) (by decide) (fo_8 (by omega))).put (by decide) (by decide) (fo_9 (by omega))).put (by decide) (by decide) (fo_10 (by omega))) hk26i hk17i (by have q9 := hk17; omega))) hk31i hk35i (by have q9 := hk35; omega))).row (Or.inl hk43i) (vok_cp1 (((((((w9.put6 (hx16) (fo_6 ⟨by omega, by omega⟩) (by omega)).put (by decide) (by decide) (fo_7 (by omega))).put (by decide) (by decide) (fo_8 (by omega))).put (by decide) (by decide) (fo_9 (by omega))).put (by decide) (by decide) (fo_10 (by omega))).row (Or.inl hk17i) (vok_cp1 (((((w9.put6 (hx16) (fo_6 ⟨by omega, by omega⟩) (by omega)).put (by decide) (by decide) (fo_7 (by omega))).put (by decide) (by decide) (fo_8 (by omega))).put (by decide) (by decide) (fo_9 (by omega))).put (by decide) (by decide) (fo_10 (by omega))) hk26i hk17i (by have q9 := hk17; omega))).row (Or.inl hk35i) (vok_cp1 ((((((w9.put6 (hx16) (fo_6 ⟨by omega, by omega⟩) (by omega)).put (by decide) (by decide) (fo_7 (by omega))).put (by decide) (by decide) (fo_8 (by omega))).put (by decide) (by decide) (fo_9 (by omega))).put (by decide) (by decide) (fo_10 (by omega))).row (Or.inl hk17i) (vok_cp1 (((((w9.put6 (hx16) (fo_6 ⟨by omega, by omega⟩) (by omega)).put (by decide) (by decide) (fo_7 (by omega))).put (by decide) (by decide) (fo_8 (by omega))).put (by decide) (by decide) (fo_9 (by omega))).put (by decide) (by decide) (fo_10 (by omega))) hk26i hk17i (by have q9 := hk17; omega))) hk31i hk35i (by have q9 := hk35; omega))) hk39i hk43i (by have q9 := hk43; omega))) hk47i hk51i (by have q9 := hk51; omega))).row (Or.inl hk59i) (vok_cp11 (((((((((w9.put6 (hx16) (fo_6 ⟨by omega, by omega⟩) (by omega)).put (by decide) (by decide) (fo_7 (by omega))).put (by decide) (by decide) (fo_8 (by omega))).put (by decide) (by decide) (fo_9 (by omega))).put (by decide) (by decide) (fo_10 (by omega))).row (Or.inl hk17i) (vok_cp1 (((((w9.put6 (hx16) (fo_6 ⟨by omega, by omega⟩) (by omega)).put (by decide) (by decide) (fo_7 (by omega))).put (by decide) (by decide) (fo_8 (by omega))).put (by decide) (by decide) (fo_9 (by omega))).put (by decide) (by decide) (fo_10 (by omega))) hk26i hk17i (by have q9 := hk17; omega))).row (Or.inl hk35i) (vok_cp1 ((((((w9.put6 (hx16) (fo_6 ⟨by omega, by omega⟩) (by omega)).put (by decide) (by decide) (fo_7 (by omega))).put (by decide) (by decide) (fo_8 (by omega))).put (by decide) (by decide) (fo_9 (by omega))).put (by decide) (by decide) (fo_10 (by omega))).row (Or.inl hk17i) (vok_cp1 (((((w9.put6 (hx16) (fo_6 ⟨by omega, by omega⟩) (by omega)).put (by decide) (by decide) (fo_7 (by omega))).put (by decide) (by decide) (fo_8 (by omega))).put (by decide) (by decide) (fo_9 (by omega))).put (by decide) (by decide) (fo_10 (by omega))) hk26i hk17i (by have q9 := hk17; omega))) hk31i hk35i (by have q9 := hk35; omega))).row (Or.inl hk43i) (vok_cp1 (((((((w9.put6 (hx16) (fo_6 ⟨by omega, by omega⟩) (by omega)).put (by decide) (by decide) (fo_7 (by omega))).put (by decide) (by decide) (fo_8 (by omega))).put (by decide) (by decide) (fo_9 (by omega))).put (by decide) (by decide) (fo_10 (by omega))).row (Or.inl hk17i) (vok_cp1 (((((w9.put6 (hx16) (fo_6 ⟨by omega, by omega⟩) (by omega)).put (by decide) (by decide) (fo_7 (by omega))).put (by decide) (by decide) (fo_8 (by omega))).put (by decide) (by decide) (fo_9 (by omega))).put (by decide) (by decide) (fo_10 (by omega))) hk26i hk17i (by have q9 := hk17; omega))).row (Or.inl hk35i) (vok_cp1 ((((((w9.put6 (hx16) (fo_6 ⟨by omega, by omega⟩) (by omega)).put (by decide) (by decide) (fo_7 (by omega))).put (by decide) (by decide) (fo_8 (by omega))).put (by decide) (by decide) (fo_9 (by omega))).put (by decide) (by decide) (fo_10 (by omega))).row (Or.inl hk17i) (vok_cp1 (((((w9.put6 (hx16) (fo_6 ⟨by omega, by omega⟩) (by omega)).put (by decide) (by decide) (fo_7 (by omega))).put (by decide) (by decide) (fo_8 (by omega))).put (by decide) (by decide) (fo_9 (by omega))).put (by decide) (by decide) (fo_10 (by omega))) hk26i hk17i (by have q9 := hk17; omega))) hk31i hk35i (by have q9 := hk35; omega))) hk39i hk43i (by have q9 := hk43; omega))).row (Or.inl hk51i) (vok_cp1 ((((((((w9.put6 (hx16) (fo_6 ⟨by omega, by omega⟩) (by omega)).put (by decide) (by decide) (fo_7 (by omega))).put (by decide) (by decide) (fo_8 (by omega))).put (by decide) (by decide) (fo_9 (by omega))).put (by decide) (by decide) (fo_10 (by omega))).row (Or.inl hk17i) (vok_cp1 (((((w9.put6 (hx16) (fo_6 ⟨by omega, by omega⟩) (by omega)).put (by decide) (by decide) (fo_7 (by omega))).put (by decide) (by decide) (fo_8 (by omega))).put (by decide) (by decide) (fo_9 (by omega))).put (by decide) (by decide) (fo_10 (by omega))) hk26i hk17i (by have q9 := hk17; omega))).row (Or.inl hk35i) (vok_cp1 ((((((w9.put6 (hx16) (fo_6 ⟨by omega, by omega⟩) (by omega)).put (by decide) (by decide) (fo_7 (by omega))).put (by decide) (by decide) (fo_8 (by omega))).put (by decide) (by decide) (fo_9 (by omega))).put (by decide) (by decide) (fo_10 (by omega))).row (Or.inl hk17i) (vok_cp1 (((((w9.put6 (hx16) (fo_6 ⟨by omega, by omega⟩) (by omega)).put (by decide) (by decide) (fo_7 (by omega))).put (by decide) (by decide) (fo_8 (by omega))).put (by decide) (by decide) (fo_9 (by omega))).put (by decide) (by decide) (fo_10 (by omega))) hk26i hk17i (by have q9 := hk17; omega))) hk31i hk35i (by have q9 := hk35; omega))).row (Or.inl hk43i) (vok_cp1 (((((((w9.put6 (hx16) (fo_6 ⟨by omega, by omega⟩) (by omega)).put (by decide) (by decide) (fo_7 (by omega))).put (by decide) (by decide) (fo_8 (by omega))).put (by decide) (by decide) (fo_9 (by omega))).put (by decide) (by decide) (fo_10 (by omega))).row (Or.inl hk17i) (vok_cp1 (((((w9.put6 (hx16) (fo_6 ⟨by omega, by omega⟩) (by omega)).put (by decide) (by decide) (fo_7 (by omega))).put (by decide) (by decide) (fo_8 (by omega))).put (by decide) (by decide) (fo_9 (by omega))).put (by decide) (by decide) (fo_10 (by omega))) hk26i hk17i (by have q9 := hk17; omega))).row (Or.inl hk35i) (vok_cp1 ((((((w9.put6 (hx16) (fo_6 ⟨by omega, by omega⟩) (by omega)).put (by decide) (by decide) (fo_7 (by omega))).put (by decide) (by decide) (fo_8 (by omega))).put (by decide) (by decide) (fo_9 (by omega))).put (by decide) (by decide) (fo_10 (by omega))).row (Or.inl hk17i) (vok_cp1 (((((w9.put6 (hx16) (fo_6 ⟨by omega, by omega⟩) (by omega)).put (by decide) (by decide) (fo_7 (by omega))).put (by decide) (by decide) (fo_8 (by omega))).put (by decide) (by decide) (fo_9 (by omega))).put (by decide) (by decide) (fo_10 (by omega))) hk26i hk17i (by have q9 := hk17; omega))) hk31i hk35i (by have q9 := hk35; omega))) hk39i hk43i (by have q9 := hk43; omega))) hk47i hk51i (by have q9 := hk51; omega))) hk55 hk59)) hk63i hk67i (by have q9 := hk67; omega))), ((((((((((((FrC.rfl.trans (FrC.sub F10 (by decide))).put (by decide) (by decide)).put (by decide) (by decide)).put (by decide) (by decide)).put (by decide) (by decide)).put (by decide) (by decide)).row (hk_no (GT.nh gt5 (nh_k hk17 (by unfold HT; omega))))).row (hk_no (GT.nh gt5 (nh_k hk35 (by unfold HT; omega))))).row (hk_no (GT.nh gt5 (nh_k hk43 (by unfold HT; omega))))).row (hk_no (GT.nh gt5 (nh_k hk51 (by unfold HT; omega))))).row (hk_no (GT.nh gt5 (nh_k hk59 (by unfold HT; omega))))).row (hk_no (GT.nh gt5 (nh_k hk67 (by unfold HT; omega)))))⟩
  · exact tn_vret rfl dX1_copyFrom_11 ⟨rfl, w9, (FrC.rfl.trans (FrC.sub F10 (by decide)))⟩
