set_option maxHeartbeats 4000000 in
set_option maxRecDepth 20000 in
theorem k_X5_join_f (d : Nat) {T : CT} {σ : MS} {a : Nat} {k : Int} {e : Int} {l : Int} {kp : Int} {Sx : Int → Int} {nx jx : Nat} {cx : CS} {Nx : Int} (ha : OB T a 5) (h_k : -2147483648 ≤ k ∧ k ≤ 2147483647) (h_e : -2147483648 ≤ e ∧ e ≤ 2147483647) (h_l : -2147483648 ≤ l ∧ l ≤ 2147483647) (hw : WT T σ) (hk : k ≠ 14 ∧ k ≠ 15) (hfx : RDX σ a Sx nx jx cx Nx) (hkp : kp ≤ 150) (hrp : RP σ a kp) : Tn (d + 4) m_X5_join 0 T σ [(0, .ref a), (1, .int (iI k)), (2, .int (iI e)), (3, .int (iI l))] [] (fun ro T2 σ2 => ro = none ∧ WT T2 σ2 ∧ FrC T [5, 6, 47, 50, 51] σ σ2 ∧ (RDX σ2 a Sx nx jx cx (Nx + 1)) ∧ (RP σ2 a (kp + 1))) := by
  have hSb := hfx.1.sb
  refine tn_sipush dX5_join_0 (by decide) ?_
  refine tn_aload_n dX5_join_3 rfl 0 rfl ?_
  refine tn_getI (ci := 5) (i := 14) (n := 47) (t := σ.2.1 47 a) dX5_join_4 rfl lay_5 (by decide) fl5_136 ha rfl rfl (rfl) ?_
  have g1 : ((-2147483648 : Int) ≤ σ.2.1 47 a ∧ σ.2.1 47 a ≤ 2147483647) := wf_47 hw ha
  refine tn_iadd dX5_join_7 ?_
  refine tn_any (fun z2 g3 => ?_)
  have g3r : -2147483648 ≤ z2 ∧ z2 ≤ 2147483647 := g3
  refine tn_istore (L' := [(4, .int (iI z2)), (0, .ref a), (1, .int (iI k)), (2, .int (iI e)), (3, .int (iI l))]) dX5_join_8 (by decide) rfl ?_
  refine tn_aload_n dX5_join_10 rfl 1 rfl ?_
  refine tn_dup dX5_join_11 rfl ?_
  refine tn_getI (ci := 5) (i := 14) (n := 47) (t := σ.2.1 47 a) dX5_join_12 rfl lay_5 (by decide) fl5_136 ha rfl rfl (rfl) ?_
  refine tn_iconst dX5_join_15 ?_
  refine tn_iadd dX5_join_16 ?_
  refine tn_any (fun z4 g5 => ?_)
  have g5r : -2147483648 ≤ z4 ∧ z4 ≤ 2147483647 := g5
  refine tn_putV (ci := 5) (i := 14) (n := 47) (r := false) (v := z4) tyX5 tyX5_ok nmX5 dX5_join_17 rfl lay_5 (by decide) fl5_136 rfl (tyX5_ok 14 (by decide)) rfl rfl rfl ha rfl rfl ?_
  refine tn_aload_n dX5_join_20 rfl 1 rfl ?_
  obtain ⟨x6, hx7, hk8⟩ : ∃ x : Nat, σ.2.1 35 a = (x : Int) ∧ (T x).1 = 31 := wf_35 hw ha
  have hk8o : OB T x6 1 := ⟨by omega, by rw [hk8]; rfl, by omega⟩
  refine tn_getR (ci := 5) (i := 2) (n := 35) (x := x6) dX5_join_21 rfl lay_5 (by decide) fl5_47 ha rfl rfl (rc_o (by decide) (hx7)) ?_
  refine tn_iload_n dX5_join_24 rfl 2 rfl ?_
  refine tn_iload dX5_join_25 0 rfl ?_
  refine tn_iconst dX5_join_27 ?_
  have q14 : (sA 47 a (z4) σ).2.1 6 x6 = σ.2.1 6 x6 := rc_o (by decide) (rfl)
  refine tn_callV (M := m_X5_join) (pc := 28) (ix := 139) (ci := 1) (M' := m_X1_append) (As := [.int (iI k), .int (iI z2), .int (iI 0)]) (rest := []) dX5_join_28 ok_X1_append im_X1_append se_X1_append ml5_139 np_X1_append rfl rfl hk8o rfl (Nat.le_of_ble_eq_true rfl) (Nat.le_of_ble_eq_true rfl) rfl (k_X1_append (d) (T := T) (σ := (sA 47 a (z4) σ)) (a := x6) (k := k) (x := z2) (y := 0) hk8o hk8 (by omega) (by omega) (by decide) (hw.put (by decide) (by decide) (fo_47 (by omega))) (RP.cnt (hrp.put (by decide)) (hw.put (by decide) (by decide) (fo_47 (by omega))) ha (rc_o (by decide) (hx7)) (by omega)) (by omega)) (fun r10 T12 σ11 gt13 hp => ?_)
  obtain ⟨rfl, w17, F18, f15⟩ := hp
  have fx19 : RDX σ11 a Sx nx jx (cx) (Nx + 1) := RDX.ap (hfx.pt (by decide) (by decide)) (hw.put (by decide) (by decide) (fo_47 (by omega))) ha (rc_o (by decide) (hx7)) F18 f15
  replace ha : OB T12 a 5 := gt13.ob ha
  have rp20 : RP σ11 a (kp + 1) := RP.app (hrp.put (by decide)) (rc_o (by decide) (hx7)) F18 (by decide) (by decide) (by decide) (by decide) f15
  show Tn _ _ 31 T12 σ11 [(4, .int (iI z2)), (0, .ref a), (1, .int (iI k)), (2, .int (iI e)), (3, .int (iI l))] [] _
  refine tn_aload_n dX5_join_31 rfl 1 rfl ?_
  obtain ⟨x21, hx22, hk23⟩ : ∃ x : Nat, σ11.2.1 35 a = (x : Int) ∧ (T12 x).1 = 31 := wf_35 w17 ha
  have hk23o : OB T12 x21 1 := ⟨by omega, by rw [hk23]; rfl, by omega⟩
  refine tn_getR (ci := 5) (i := 2) (n := 35) (x := x21) dX5_join_32 rfl lay_5 (by decide) fl5_47 ha rfl rfl (hx22) ?_
  refine tn_iconst dX5_join_35 ?_
  refine tn_iload_n dX5_join_36 rfl 3 rfl ?_
  refine tn_iload_n dX5_join_37 rfl 4 rfl ?_
  refine tn_callV (M := m_X5_join) (pc := 38) (ix := 143) (ci := 1) (M' := m_X1_lastOperand) (As := [.int (iI 0), .int (iI e), .int (iI l)]) (rest := []) dX5_join_38 ok_X1_lastOperand im_X1_lastOperand se_X1_lastOperand ml5_143 np_X1_lastOperand rfl rfl hk23o rfl (Nat.le_of_ble_eq_true rfl) (Nat.le_of_ble_eq_true rfl) rfl (k_X1_lastOperand (d + 2) (T := T12) (σ := σ11) (a := x21) (i := 0) (k := e) (y := l) hk23o (by decide) (by omega) (by omega) w17 ) (fun r25 T27 σ26 gt28 hp => ?_)
  obtain ⟨rfl, rfl, w30, F31⟩ := hp
  clear gt28
  have fx32 : RDX σ26 a Sx nx jx (cx) (Nx + 1) := RDX.fc fx19 w17 ha F31 (by decide) (by decide)
  have rp33 : RP σ26 a (kp + 1) := RP.frc rp20 F31 (by decide) (by decide) (by decide) (by decide) (by decide)
  show Tn _ _ 41 T12 σ26 [(4, .int (iI z2)), (0, .ref a), (1, .int (iI k)), (2, .int (iI e)), (3, .int (iI l))] [] _
  refine tn_aload_n dX5_join_41 rfl 1 rfl ?_
  refine tn_getR (ci := 5) (i := 2) (n := 35) (x := x21) dX5_join_42 rfl lay_5 (by decide) fl5_47 ha rfl rfl (rc_F F31 (Or.inl (by decide)) (by decide) (hx22)) ?_
  refine tn_iconst dX5_join_45 ?_
  refine tn_aload_n dX5_join_46 rfl 1 rfl ?_
  refine tn_getI (ci := 5) (i := 17) (n := 50) (t := σ11.2.1 50 a) dX5_join_47 rfl lay_5 (by decide) fl5_216 ha rfl rfl (rc_F F31 (Or.inl (by decide)) (by decide) (rfl)) ?_
  have g34 : ((-2147483648 : Int) ≤ σ11.2.1 50 a ∧ σ11.2.1 50 a ≤ 2147483647) := wf_50 w17 ha
  refine tn_aload_n dX5_join_50 rfl 1 rfl ?_
  refine tn_getI (ci := 5) (i := 18) (n := 51) (t := σ11.2.1 51 a) dX5_join_51 rfl lay_5 (by decide) fl5_219 ha rfl rfl (rc_F F31 (Or.inl (by decide)) (by decide) (rfl)) ?_
  have g35 : ((-2147483648 : Int) ≤ σ11.2.1 51 a ∧ σ11.2.1 51 a ≤ 2147483647) := wf_51 w17 ha
  refine tn_callV (M := m_X5_join) (pc := 54) (ix := 143) (ci := 1) (M' := m_X1_lastOperand) (As := [.int (iI 1), .int (iI (σ11.2.1 50 a)), .int (iI (σ11.2.1 51 a))]) (rest := []) dX5_join_54 ok_X1_lastOperand im_X1_lastOperand se_X1_lastOperand ml5_143 np_X1_lastOperand rfl rfl hk23o rfl (Nat.le_of_ble_eq_true rfl) (Nat.le_of_ble_eq_true rfl) rfl (k_X1_lastOperand (d + 2) (T := T12) (σ := σ26) (a := x21) (i := 1) (k := σ11.2.1 50 a) (y := σ11.2.1 51 a) hk23o (by decide) (by omega) (by omega) w30 ) (fun r36 T38 σ37 gt39 hp => ?_)
  obtain ⟨rfl, rfl, w41, F42⟩ := hp
  clear gt39
  have fx43 : RDX σ37 a Sx nx jx (cx) (Nx + 1) := RDX.fc fx32 w30 ha F42 (by decide) (by decide)
  have rp44 : RP σ37 a (kp + 1) := RP.frc rp33 F42 (by decide) (by decide) (by decide) (by decide) (by decide)
  show Tn _ _ 57 T12 σ37 [(4, .int (iI z2)), (0, .ref a), (1, .int (iI k)), (2, .int (iI e)), (3, .int (iI l))] [] _
  refine tn_aload_n dX5_join_57 rfl 1 rfl ?_
  refine tn_iconst dX5_join_58 ?_
  refine tn_putV (ci := 5) (i := 17) (n := 50) (r := false) (v := 2) tyX5 tyX5_ok nmX5 dX5_join_59 rfl lay_5 (by decide) fl5_216 rfl (tyX5_ok 17 (by decide)) rfl rfl rfl ha rfl rfl ?_
  refine tn_aload_n dX5_join_62 rfl 1 rfl ?_
  refine tn_iload dX5_join_63 0 rfl ?_
  refine tn_putV (ci := 5) (i := 18) (n := 51) (r := false) (v := z2) tyX5 tyX5_ok nmX5 dX5_join_65 rfl lay_5 (by decide) fl5_219 rfl (tyX5_ok 18 (by decide)) rfl rfl rfl ha rfl rfl ?_
  exact tn_vret rfl dX5_join_68 ⟨rfl, ((w41.put (by decide) (by decide) (fo_50 (by omega))).put (by decide) (by decide) (fo_51 (by omega))), ((((((FrC.rfl.put (by decide) (by decide)).trans (FrC.sub F18 (by decide))).trans (FrC.sub (FrC.old F31 gt13) (by decide))).trans (FrC.sub (FrC.old F42 gt13) (by decide))).put (by decide) (by decide)).put (by decide) (by decide)), RDX.nq ((fx43.pt (by decide) (by decide)).pt (by decide) (by decide)) (by omega), (RP.up ((rp44.put (by decide)).put (by decide)) (by omega))⟩
