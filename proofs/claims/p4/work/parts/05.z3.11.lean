theorem cd_X5_join : Cond.code yX5_join cX5_join 5 none ∈ pWW := pw3 (List.mem_of_getElem? (i := 185) rfl) rfl
abbrev m_X5_join : MT := (yX5_join, cX5_join, 5, none)
theorem ok_X5_join : pOk m_X5_join := ⟨⟨cd_X5_join, ini_5⟩, by decide +kernel, ⟨by decide +kernel, by decide +kernel⟩, Nat.le_of_ble_eq_true rfl⟩
theorem np_X5_join : (parseMethodDescriptor yX5_join.desc).map (fun d => d.parameters.length) = some 3 := by decide +kernel
theorem im_X5_join : Cond.instanceMethod yX5_join ∈ pWW := pw3 (List.mem_of_getElem? (i := 184) rfl) rfl
theorem se_X5_join : Cond.selects RX5 yX5_join yX5_join ∈ pWW := pws (List.mem_map.mpr ⟨_, lw_pin 23 rfl, rfl⟩) rfl
theorem fl5_136 : Cond.fieldLink RX5 136 (TX5 14).1 (TX5 14).2.1 (TX5 14).2.2.1 ∈ pWW := pw1 (List.mem_of_getElem? (i := 170) rfl) rfl
theorem dX5_join_0 : decode cX5_join 0 = .ok (.sipush 1000, 3) := by decide +kernel
theorem dX5_join_3 : decode cX5_join 3 = .ok (.aload_n 0, 1) := by decide +kernel
theorem dX5_join_4 : decode cX5_join 4 = .ok (.getfield 136, 3) := by decide +kernel
theorem dX5_join_7 : decode cX5_join 7 = .ok (.iadd, 1) := by decide +kernel
theorem dX5_join_8 : decode cX5_join 8 = .ok (.istore 4, 2) := by decide +kernel
theorem dX5_join_10 : decode cX5_join 10 = .ok (.aload_n 0, 1) := by decide +kernel
theorem dX5_join_11 : decode cX5_join 11 = .ok (.dup, 1) := by decide +kernel
theorem dX5_join_12 : decode cX5_join 12 = .ok (.getfield 136, 3) := by decide +kernel
theorem dX5_join_15 : decode cX5_join 15 = .ok (.iconst 1, 1) := by decide +kernel
theorem dX5_join_16 : decode cX5_join 16 = .ok (.iadd, 1) := by decide +kernel
theorem dX5_join_17 : decode cX5_join 17 = .ok (.putfield 136, 3) := by decide +kernel
theorem dX5_join_20 : decode cX5_join 20 = .ok (.aload_n 0, 1) := by decide +kernel
theorem dX5_join_21 : decode cX5_join 21 = .ok (.getfield 47, 3) := by decide +kernel
theorem dX5_join_24 : decode cX5_join 24 = .ok (.iload_n 1, 1) := by decide +kernel
theorem dX5_join_25 : decode cX5_join 25 = .ok (.iload 4, 2) := by decide +kernel
theorem dX5_join_27 : decode cX5_join 27 = .ok (.iconst 0, 1) := by decide +kernel
theorem dX5_join_28 : decode cX5_join 28 = .ok (.invokevirtual 139, 3) := by decide +kernel
theorem dX5_join_31 : decode cX5_join 31 = .ok (.aload_n 0, 1) := by decide +kernel
theorem dX5_join_32 : decode cX5_join 32 = .ok (.getfield 47, 3) := by decide +kernel
theorem dX5_join_35 : decode cX5_join 35 = .ok (.iconst 0, 1) := by decide +kernel
theorem dX5_join_36 : decode cX5_join 36 = .ok (.iload_n 2, 1) := by decide +kernel
theorem dX5_join_37 : decode cX5_join 37 = .ok (.iload_n 3, 1) := by decide +kernel
theorem dX5_join_38 : decode cX5_join 38 = .ok (.invokevirtual 143, 3) := by decide +kernel
theorem dX5_join_41 : decode cX5_join 41 = .ok (.aload_n 0, 1) := by decide +kernel
theorem dX5_join_42 : decode cX5_join 42 = .ok (.getfield 47, 3) := by decide +kernel
theorem dX5_join_45 : decode cX5_join 45 = .ok (.iconst 1, 1) := by decide +kernel
theorem dX5_join_46 : decode cX5_join 46 = .ok (.aload_n 0, 1) := by decide +kernel
theorem dX5_join_47 : decode cX5_join 47 = .ok (.getfield 216, 3) := by decide +kernel
theorem dX5_join_50 : decode cX5_join 50 = .ok (.aload_n 0, 1) := by decide +kernel
theorem dX5_join_51 : decode cX5_join 51 = .ok (.getfield 219, 3) := by decide +kernel
theorem dX5_join_54 : decode cX5_join 54 = .ok (.invokevirtual 143, 3) := by decide +kernel
theorem dX5_join_57 : decode cX5_join 57 = .ok (.aload_n 0, 1) := by decide +kernel
theorem dX5_join_58 : decode cX5_join 58 = .ok (.iconst 2, 1) := by decide +kernel
theorem dX5_join_59 : decode cX5_join 59 = .ok (.putfield 216, 3) := by decide +kernel
theorem dX5_join_62 : decode cX5_join 62 = .ok (.aload_n 0, 1) := by decide +kernel
theorem dX5_join_63 : decode cX5_join 63 = .ok (.iload 4, 2) := by decide +kernel
theorem dX5_join_65 : decode cX5_join 65 = .ok (.putfield 219, 3) := by decide +kernel
theorem dX5_join_68 : decode cX5_join 68 = .ok (.return_, 1) := by decide +kernel
set_option maxRecDepth 20000 in
theorem k_X5_join (d : Nat) {T : CT} {σ : MS} {a : Nat} {k : Int} {e : Int} {l : Int} {kp : Int} (ha : OB T a 5) (h_k : -2147483648 ≤ k ∧ k ≤ 2147483647) (h_e : -2147483648 ≤ e ∧ e ≤ 2147483647) (h_l : -2147483648 ≤ l ∧ l ≤ 2147483647) (hw : WT T σ) (hk : k ≠ 14 ∧ k ≠ 15) (hkp : kp ≤ 150) (hrp : RP σ a kp) : Tn (d + 4) m_X5_join 0 T σ [(0, .ref a), (1, .int (iI k)), (2, .int (iI e)), (3, .int (iI l))] [] (fun ro T2 σ2 => ro = none ∧ WT T2 σ2 ∧ FrC T [5, 6, 47, 50, 51] σ σ2 ∧ (RP σ2 a (kp + 1))) := by
  refine tn_sipush dX5_join_0 (by decide) ?_
  refine tn_aload_n dX5_join_3 rfl 0 rfl ?_
  refine tn_getI (ci := 5) (i := 14) (n := 47) (t := σ.2.1 47 a) dX5_join_4 rfl lay_5 (by decide) fl5_136 ha rfl rfl (rfl) ?_
  have g1 : ((-2147483648 : Int) ≤ σ.2.1 47 a ∧ σ.2.1 47 a ≤ 2147483647) := wf_47 hw ha
  refine tn_iadd dX5_join_7 ?_
  refine tn_any (fun z2 g3 => ?_)
  have g3r : -2147483648 ≤ z2 ∧ z2 ≤ 2147483647 := g3
  refine tn_istore (L' := [(4, .int (iI z2)), (0, .ref a), (1, .int (iI k)), (2, .int (iI e)), (3, .int (iI l))]) dX5_join_8 (by decide) rfl ?_
  refine tn_aload_n dX5_join_10 rfl 1 rfl ?_
  refine tn_dup dX5_join_11 rfl ?_
  refine tn_getI (ci := 5) (i := 14) (n := 47) (t := σ.2.1 47 a) dX5_join_12 rfl lay_5 (by decide) fl5_136 ha rfl rfl (rfl) ?_
  refine tn_iconst dX5_join_15 ?_
  refine tn_iadd dX5_join_16 ?_
  refine tn_any (fun z4 g5 => ?_)
  have g5r : -2147483648 ≤ z4 ∧ z4 ≤ 2147483647 := g5
  refine tn_putV (ci := 5) (i := 14) (n := 47) (r := false) (v := z4) tyX5 tyX5_ok nmX5 dX5_join_17 rfl lay_5 (by decide) fl5_136 rfl (tyX5_ok 14 (by decide)) rfl rfl rfl ha rfl rfl ?_
  refine tn_aload_n dX5_join_20 rfl 1 rfl ?_
  obtain ⟨x6, hx7, hk8⟩ : ∃ x : Nat, σ.2.1 35 a = (x : Int) ∧ (T x).1 = 31 := wf_35 hw ha
  have hk8o : OB T x6 1 := ⟨by omega, by rw [hk8]; rfl, by omega⟩
  refine tn_getR (ci := 5) (i := 2) (n := 35) (x := x6) dX5_join_21 rfl lay_5 (by decide) fl5_47 ha rfl rfl (rc_o (by decide) (hx7)) ?_
  refine tn_iload_n dX5_join_24 rfl 2 rfl ?_
  refine tn_iload dX5_join_25 0 rfl ?_
  refine tn_iconst dX5_join_27 ?_
  have q14 : (sA 47 a (z4) σ).2.1 6 x6 = σ.2.1 6 x6 := rc_o (by decide) (rfl)
  refine tn_callV (M := m_X5_join) (pc := 28) (ix := 139) (ci := 1) (M' := m_X1_append) (As := [.int (iI k), .int (iI z2), .int (iI 0)]) (rest := []) dX5_join_28 ok_X1_append im_X1_append se_X1_append ml5_139 np_X1_append rfl rfl hk8o rfl (Nat.le_of_ble_eq_true rfl) (Nat.le_of_ble_eq_true rfl) rfl (k_X1_append (d) (T := T) (σ := (sA 47 a (z4) σ)) (a := x6) (k := k) (x := z2) (y := 0) hk8o hk8 (by omega) (by omega) (by decide) (hw.put (by decide) (by decide) (fo_47 (by omega))) (RP.cnt (hrp.put (by decide)) (hw.put (by decide) (by decide) (fo_47 (by omega))) ha (rc_o (by decide) (hx7)) (by omega)) (by omega)) (fun r10 T12 σ11 gt13 hp => ?_)
  obtain ⟨rfl, w17, F18, f15⟩ := hp
  replace ha : OB T12 a 5 := gt13.ob ha
  have rp19 : RP σ11 a (kp + 1) := RP.app (hrp.put (by decide)) (rc_o (by decide) (hx7)) F18 (by decide) (by decide) (by decide) (by decide) f15
  show Tn _ _ 31 T12 σ11 [(4, .int (iI z2)), (0, .ref a), (1, .int (iI k)), (2, .int (iI e)), (3, .int (iI l))] [] _
  refine tn_aload_n dX5_join_31 rfl 1 rfl ?_
  obtain ⟨x20, hx21, hk22⟩ : ∃ x : Nat, σ11.2.1 35 a = (x : Int) ∧ (T12 x).1 = 31 := wf_35 w17 ha
  have hk22o : OB T12 x20 1 := ⟨by omega, by rw [hk22]; rfl, by omega⟩
  refine tn_getR (ci := 5) (i := 2) (n := 35) (x := x20) dX5_join_32 rfl lay_5 (by decide) fl5_47 ha rfl rfl (hx21) ?_
  refine tn_iconst dX5_join_35 ?_
  refine tn_iload_n dX5_join_36 rfl 3 rfl ?_
  refine tn_iload_n dX5_join_37 rfl 4 rfl ?_
  refine tn_callV (M := m_X5_join) (pc := 38) (ix := 143) (ci := 1) (M' := m_X1_lastOperand) (As := [.int (iI 0), .int (iI e), .int (iI l)]) (rest := []) dX5_join_38 ok_X1_lastOperand im_X1_lastOperand se_X1_lastOperand ml5_143 np_X1_lastOperand rfl rfl hk22o rfl (Nat.le_of_ble_eq_true rfl) (Nat.le_of_ble_eq_true rfl) rfl (k_X1_lastOperand (d + 2) (T := T12) (σ := σ11) (a := x20) (i := 0) (k := e) (y := l) hk22o (by decide) (by omega) (by omega) w17 ) (fun r24 T26 σ25 gt27 hp => ?_)
  obtain ⟨rfl, rfl, w29, F30⟩ := hp
  clear gt27
  have rp31 : RP σ25 a (kp + 1) := RP.frc rp19 F30 (by decide) (by decide) (by decide) (by decide) (by decide)
  show Tn _ _ 41 T12 σ25 [(4, .int (iI z2)), (0, .ref a), (1, .int (iI k)), (2, .int (iI e)), (3, .int (iI l))] [] _
  refine tn_aload_n dX5_join_41 rfl 1 rfl ?_
  refine tn_getR (ci := 5) (i := 2) (n := 35) (x := x20) dX5_join_42 rfl lay_5 (by decide) fl5_47 ha rfl rfl (rc_F F30 (Or.inl (by decide)) (by decide) (hx21)) ?_
  refine tn_iconst dX5_join_45 ?_
  refine tn_aload_n dX5_join_46 rfl 1 rfl ?_
  refine tn_getI (ci := 5) (i := 17) (n := 50) (t := σ11.2.1 50 a) dX5_join_47 rfl lay_5 (by decide) fl5_216 ha rfl rfl (rc_F F30 (Or.inl (by decide)) (by decide) (rfl)) ?_
  have g32 : ((-2147483648 : Int) ≤ σ11.2.1 50 a ∧ σ11.2.1 50 a ≤ 2147483647) := wf_50 w17 ha
  refine tn_aload_n dX5_join_50 rfl 1 rfl ?_
  refine tn_getI (ci := 5) (i := 18) (n := 51) (t := σ11.2.1 51 a) dX5_join_51 rfl lay_5 (by decide) fl5_219 ha rfl rfl (rc_F F30 (Or.inl (by decide)) (by decide) (rfl)) ?_
  have g33 : ((-2147483648 : Int) ≤ σ11.2.1 51 a ∧ σ11.2.1 51 a ≤ 2147483647) := wf_51 w17 ha
  refine tn_callV (M := m_X5_join) (pc := 54) (ix := 143) (ci := 1) (M' := m_X1_lastOperand) (As := [.int (iI 1), .int (iI (σ11.2.1 50 a)), .int (iI (σ11.2.1 51 a))]) (rest := []) dX5_join_54 ok_X1_lastOperand im_X1_lastOperand se_X1_lastOperand ml5_143 np_X1_lastOperand rfl rfl hk22o rfl (Nat.le_of_ble_eq_true rfl) (Nat.le_of_ble_eq_true rfl) rfl (k_X1_lastOperand (d + 2) (T := T12) (σ := σ25) (a := x20) (i := 1) (k := σ11.2.1 50 a) (y := σ11.2.1 51 a) hk22o (by decide) (by omega) (by omega) w29 ) (fun r34 T36 σ35 gt37 hp => ?_)
  obtain ⟨rfl, rfl, w39, F40⟩ := hp
  clear gt37
  have rp41 : RP σ35 a (kp + 1) := RP.frc rp31 F40 (by decide) (by decide) (by decide) (by decide) (by decide)
  show Tn _ _ 57 T12 σ35 [(4, .int (iI z2)), (0, .ref a), (1, .int (iI k)), (2, .int (iI e)), (3, .int (iI l))] [] _
  refine tn_aload_n dX5_join_57 rfl 1 rfl ?_
  refine tn_iconst dX5_join_58 ?_
  refine tn_putV (ci := 5) (i := 17) (n := 50) (r := false) (v := 2) tyX5 tyX5_ok nmX5 dX5_join_59 rfl lay_5 (by decide) fl5_216 rfl (tyX5_ok 17 (by decide)) rfl rfl rfl ha rfl rfl ?_
  refine tn_aload_n dX5_join_62 rfl 1 rfl ?_
  refine tn_iload dX5_join_63 0 rfl ?_
  refine tn_putV (ci := 5) (i := 18) (n := 51) (r := false) (v := z2) tyX5 tyX5_ok nmX5 dX5_join_65 rfl lay_5 (by decide) fl5_219 rfl (tyX5_ok 18 (by decide)) rfl rfl rfl ha rfl rfl ?_
  exact tn_vret rfl dX5_join_68 ⟨rfl, ((w39.put (by decide) (by decide) (fo_50 (by omega))).put (by decide) (by decide) (fo_51 (by omega))), ((((((FrC.rfl.put (by decide) (by decide)).trans (FrC.sub F18 (by decide))).trans (FrC.sub (FrC.old F30 gt13) (by decide))).trans (FrC.sub (FrC.old F40 gt13) (by decide))).put (by decide) (by decide)).put (by decide) (by decide)), (RP.up ((rp41.put (by decide)).put (by decide)) (by omega))⟩
